def f_X6_bitLength_L4 (p1 : Int32) : Nat → (Int32 → Int32 → Option (Int32)) → Int32 → Int32 → Option (Int32)
  | 0, _, _, _ => none
  | n4 + 1, K26_5, x1, x2 =>
    if (31 : Int32) ≤ x1 then (
    K26_5 x2 x1) else (
    if (p1 >>> (x1 &&& (31 : Int32))) ≤ (0 : Int32) then (
    bnd (x1 + (1 : Int32)) fun x8 =>
    f_X6_bitLength_L4 p1 n4 K26_5 x8 x2) else (
    bnd (x1 + (1 : Int32)) fun x9 =>
    bnd (x1 + (1 : Int32)) fun x10 =>
    f_X6_bitLength_L4 p1 n4 K26_5 x10 x9))

def f_X6_bitLength (p1 : Int32) : Option (Int32) :=
  bnd (fun (x3 : Int32) (x4 : Int32) =>
  some x3) fun K26_5 =>
  f_X6_bitLength_L4 p1 FU K26_5 (0 : Int32) (0 : Int32)

set_option maxHeartbeats 4000000 in
set_option maxRecDepth 100000 in
theorem c_X6_bitLength (l : Launch) (dC : Nat → ClassId) (dI : Nat → Nat → Nat) (cI cJ : ClassId) (sz : Nat) (p1 : Int32) (o : Int32) (hm : f_X6_bitLength p1 = some o) : Met l yX6_bitLength (wq yX6_bitLength cX6_bitLength 3 (some .int)) ({ frames := 0, cells := 0, slots := 0, locals := 0 } : Room) (va_Pc [.int p1] (pcW dC dI cI cJ sz ([] : List va_W).flatten)) (va_Qi (S := Unit) (fun r u => some r = some o) (fun (u : Unit) t => va_P (dC, dI) vwCl ([] : List va_W).flatten t.heap ∧ va_D (va_A ([] : List va_W).flatten sz) ([] : List va_W).flatten) (va_A ([] : List va_W).flatten sz)) 0 0 (va_A ([] : List va_W).flatten sz) := by
  refine Met.ofW (cc := cX6_bitLength) (maxL := 3) (ret := (some .int)) (by decide) rfl ?_
  intro p e s m args below meth c s₁ B hml hv
  obtain ⟨rfl, hsz, hP, hK, hD0, hN⟩ := hv
  have hx := B.exec
  have hb := B.bytes
  have hr := B.returns
  have ht : ∀ w ∈ lw_good, w.before _ s = true := fun w h => atoms_spec (ws := wq yX6_bitLength cX6_bitLength 3 (some .int)) B.pre w (wq_mem h)
  have hown : s.vm.findClass RX6 = some m.cls := findClass_of_methodNamed B.named
  have hlocks := B.notSynchronized
  subst hsz
  have hD := hD0.self (sz := s.heap.size)
  generalize hAe : va_A ([] : List va_W).flatten s.heap.size = A at hD ⊢
  have hA : ∀ q : Nat, s.heap.size ≤ q → A q := fun q h => by rw [← hAe]; exact Or.inr h
  have hS : va_S A s.heap s.heap [] := va_S.rf
  have hl := lv_entry ([.int p1]) (n := 3) (Nat.le_of_ble_eq_true rfl)
  rw [lg_entry_eq]
  generalize (lg_sl ([.int p1]) ++ List.replicate (3 - (lg_sl ([.int p1])).length) Slot.unset).toArray = ls at hl ⊢
  have hl : lv_has ls 3 [(0, .int p1)] := hl
  generalize hQ : MQ below _ _ s _ _ _ = Q
  generalize hH : s.heap = H at hP ⊢
  have hS : va_S A s.heap H [] := by rw [← hH]; exact va_S.rf
  show W p l e ({ frames := 0, cells := 0, slots := 0, locals := 0 } : Room) s m ([.int p1] : List Value).toArray below meth c H [] 0 0 Q (F0 m 0 ls [])
  unfold f_X6_bitLength at hm
  refine lv_iconst (v := (0 : Int32)) hx hb dX6_bitLength_0 (by decide) ?_
  refine lv_istore_n (lv' := [(1, .int (0 : Int32)), (0, .int p1)]) hx hb dX6_bitLength_1 rfl hl (by decide) rfl (fun ls hl => ?_)
  refine lv_iconst (v := (0 : Int32)) hx hb dX6_bitLength_2 (by decide) ?_
  refine lv_istore_n (lv' := [(2, .int (0 : Int32)), (1, .int (0 : Int32)), (0, .int p1)]) hx hb dX6_bitLength_3 rfl hl (by decide) rfl (fun ls hl => ?_)
  obtain ⟨K26_5, eK26_5, hm⟩ := bnd_ex hm
  have X26_5 : ∀ (x3 : Int32) (x4 : Int32) (H : Heap) (locs : List Loc) (ls : Array Slot), K26_5 x3 x4 = some o → va_P (dC, dI) vwCl ([] : List va_W).flatten H → va_D A ([] : List va_W).flatten → va_S A s.heap H locs → lv_has ls 3 [(0, .int p1), (1, .int x3), (2, .int x4)] → W p l e ({ frames := 0, cells := 0, slots := 0, locals := 0 } : Room) s m ([.int p1] : List Value).toArray below meth c H locs 0 0 Q (F0 m 26 ls []) := by
    intro x3 x4 H locs ls hm hP hD hS hl
    have hm := ap2 eK26_5 hm
    refine lv_iload_n hx hb dX6_bitLength_26 rfl (lv_at hl 1 rfl) ?_
    rw [← hQ]
    exact W.iret (v := x3) hx hb hr (fun t ht1 hW => ⟨⟨_, (), rfl, hm, by rw [ht1]; exact hP, hD⟩, hS.F ht1⟩) hS.2.2 dX6_bitLength_27
  have LP4 : ∀ (n4 : Nat) (x1 : Int32) (x2 : Int32) (H : Heap) (locs : List Loc) (ls : Array Slot), f_X6_bitLength_L4 p1 n4 K26_5 x1 x2 = some o → va_P (dC, dI) vwCl ([] : List va_W).flatten H → va_D A ([] : List va_W).flatten → va_S A s.heap H locs → lv_has ls 3 [(0, .int p1), (1, .int x2), (2, .int x1)] → W p l e ({ frames := 0, cells := 0, slots := 0, locals := 0 } : Room) s m ([.int p1] : List Value).toArray below meth c H locs 0 0 Q (F0 m 4 ls []) := by
    intro n4
    induction n4 with
    | zero => intro x1 x2 H locs ls hm; exact nomatch (show (none : Option _) = some _ from hm)
    | succ n4 ih4 =>
      intro x1 x2 H locs ls hm hP hD hS hl
      unfold f_X6_bitLength_L4 at hm
      refine lv_iload_n hx hb dX6_bitLength_4 rfl (lv_at hl 2 rfl) ?_
      refine lv_bipush (v := (31 : Int32)) hx hb dX6_bitLength_5 (by decide) ?_
      refine lv_icmp_ge (tgt := 26) hx hb dX6_bitLength_7 (by decide) (fun c6 => ?_) (fun c6 => ?_)
      · have hm := ite_t c6 hm
        exact X26_5 x2 x1 _ _ _ hm hP hD hS (lv_sub hl [0, 1, 2] rfl)
      · have hm := ite_f c6 hm
        refine lv_iload_n hx hb dX6_bitLength_10 rfl (lv_at hl 0 rfl) ?_
        refine lv_iload_n hx hb dX6_bitLength_11 rfl (lv_at hl 2 rfl) ?_
        refine lv_ishr hx hb dX6_bitLength_12 ?_
        refine lv_if_le (tgt := 20) hx hb dX6_bitLength_13 (by decide) (fun c7 => ?_) (fun c7 => ?_)
        · have hm := ite_t c7 hm
          obtain ⟨x8, ex8, hm⟩ := bnd_ex hm
          refine lv_iinc (v := x8) (lv' := [(2, .int x8), (0, .int p1), (1, .int x2)]) hx hb dX6_bitLength_20 hl (k := 2) rfl (by rw [ex8]; exact congrArg _ (by decide)) (by decide) rfl (fun ls hl => ?_)
          refine lv_goto (tgt := 4) hx hb dX6_bitLength_23 (by decide) ?_
          exact ih4 x8 x2 _ _ _ hm hP hD hS (lv_sub hl [1, 2, 0] rfl)
        · have hm := ite_f c7 hm
          refine lv_iload_n hx hb dX6_bitLength_16 rfl (lv_at hl 2 rfl) ?_
          refine lv_iconst (v := (1 : Int32)) hx hb dX6_bitLength_17 (by decide) ?_
          refine lv_iadd hx hb dX6_bitLength_18 ?_
          refine lv_topi (fun x9 ex9 => ?_)
          have hm := bnd_nm ex9 hm
          refine lv_istore_n (lv' := [(1, .int x9), (0, .int p1), (2, .int x1)]) hx hb dX6_bitLength_19 rfl hl (by decide) rfl (fun ls hl => ?_)
          obtain ⟨x10, ex10, hm⟩ := bnd_ex hm
          refine lv_iinc (v := x10) (lv' := [(2, .int x10), (1, .int x9), (0, .int p1)]) hx hb dX6_bitLength_20 hl (k := 2) rfl (by rw [ex10]; exact congrArg _ (by decide)) (by decide) rfl (fun ls hl => ?_)
          refine lv_goto (tgt := 4) hx hb dX6_bitLength_23 (by decide) ?_
          exact ih4 x10 x9 _ _ _ hm hP hD hS (lv_sub hl [2, 1, 0] rfl)
  exact LP4 FU (0 : Int32) (0 : Int32) _ _ _ hm hP hD hS (lv_sub hl [2, 1, 0] rfl)

def f_X0_reckon_L22 : Nat → (Int64 → Int64 → Int32 → Option (Int64)) → Int32 → Int64 → Int64 → Option (Int64)
  | 0, _, _, _, _ => none
  | n22 + 1, K66_12, x6, y7, y8 =>
    if (30 : Int32) ≤ x6 then (
    K66_12 y8 y7 x6) else (
    bnd ((y8 * y8) >>> (((30 : Int32)).toInt64 &&& (63 : Int64))) fun y14 =>
    bnd ((y14 >>> (((31 : Int32)).toInt64 &&& (63 : Int64)))).toInt32 fun x15 =>
    bnd (((2 : Int64) * y7) + (x15).toInt64) fun y16 =>
    bnd (y14 >>> ((x15).toInt64 &&& (63 : Int64))) fun y17 =>
    bnd (x6 + (1 : Int32)) fun x18 =>
    f_X0_reckon_L22 n22 K66_12 x18 y16 y17)

def f_X0_reckon (p1 : Int32) : Option (Int64) :=
  oC1 (f_X6_bitLength p1) fun r1 =>
  bnd (r1 - (1 : Int32)) fun x3 =>
  bnd ((p1).toInt64 <<< ((((30 : Int32) - x3)).toInt64 &&& (63 : Int64))) fun y4 =>
  bnd (x3).toInt64 fun y5 =>
  bnd (fun (y9 : Int64) (y10 : Int64) (x11 : Int32) =>
  some y10) fun K66_12 =>
  f_X0_reckon_L22 FU K66_12 (0 : Int32) y5 y4

set_option maxHeartbeats 4000000 in
set_option maxRecDepth 100000 in
theorem c_X0_reckon (l : Launch) (dC : Nat → ClassId) (dI : Nat → Nat → Nat) (cI cJ : ClassId) (sz : Nat) (p1 : Int32) (o : Int64) (hm : f_X0_reckon p1 = some o) : Met l yX0_reckon (wq yX0_reckon cX0_reckon 8 (some .long)) ({ frames := 1, cells := 0, slots := 0, locals := 22 } : Room) (va_Pc [.int p1] (pcW dC dI cI cJ sz ([] : List va_W).flatten)) (va_Ql (S := Unit) (fun r u => some r = some o) (fun (u : Unit) t => va_P (dC, dI) vwCl ([] : List va_W).flatten t.heap ∧ va_D (va_A ([] : List va_W).flatten sz) ([] : List va_W).flatten) (va_A ([] : List va_W).flatten sz)) 0 0 (va_A ([] : List va_W).flatten sz) := by
  refine Met.ofW (cc := cX0_reckon) (maxL := 8) (ret := (some .long)) (by decide) rfl ?_
  intro p e s m args below meth c s₁ B hml hv
  obtain ⟨rfl, hsz, hP, hK, hD0, hN⟩ := hv
  have hx := B.exec
  have hb := B.bytes
  have hr := B.returns
  have ht : ∀ w ∈ lw_good, w.before _ s = true := fun w h => atoms_spec (ws := wq yX0_reckon cX0_reckon 8 (some .long)) B.pre w (wq_mem h)
  have hown : s.vm.findClass RX0 = some m.cls := findClass_of_methodNamed B.named
  have hlocks := B.notSynchronized
  subst hsz
  have hD := hD0.self (sz := s.heap.size)
  generalize hAe : va_A ([] : List va_W).flatten s.heap.size = A at hD ⊢
  have hA : ∀ q : Nat, s.heap.size ≤ q → A q := fun q h => by rw [← hAe]; exact Or.inr h
  have hS : va_S A s.heap s.heap [] := va_S.rf
  have hl := lv_entry ([.int p1]) (n := 8) (Nat.le_of_ble_eq_true rfl)
  rw [lg_entry_eq]
  generalize (lg_sl ([.int p1]) ++ List.replicate (8 - (lg_sl ([.int p1])).length) Slot.unset).toArray = ls at hl ⊢
  have hl : lv_has ls 8 [(0, .int p1)] := hl
  generalize hQ : MQ below _ _ s _ _ _ = Q
  generalize hH : s.heap = H at hP ⊢
  have hS : va_S A s.heap H [] := by rw [← hH]; exact va_S.rf
  show W p l e ({ frames := 1, cells := 0, slots := 0, locals := 22 } : Room) s m ([.int p1] : List Value).toArray below meth c H [] 0 0 Q (F0 m 0 ls [])
  unfold f_X0_reckon at hm
  refine lv_iload_n hx hb dX0_reckon_0 rfl (lv_at hl 0 rfl) ?_
  have hPc : va_P (dC, dI) vwCl ([] : List va_W).flatten _ := hP
  have hDc : va_D A ([] : List va_W).flatten := hD
  have hFc := va_freeF (fc := ([] : List va_W)) hD hS hA [] rfl
  obtain ⟨r1o, e2, hm⟩ := oC1_of hm
  refine va_calli (va_runSN (As := [.int p1]) (rest := []) ⟨hx, hb, hml, hown, ht⟩ (c_X6_bitLength l dC dI cI cJ H.size p1 r1o e2) ⟨va_cnB 1 ht (gdC kw_160) rfl rfl rfl (hN _ kn_0) (ht _ kw_161) nd_X6_bitLength ⟨Nat.le_of_ble_eq_true rfl, Nat.le_of_ble_eq_true rfl⟩, ht _ kw_162, trivial⟩ ⟨pcW_blind, pcW_pre hPc hK hDc hN⟩ rfl rfl hl.1 rfl (lv_room (Nat.le_of_ble_eq_true rfl)) dX0_reckon_1 ⟨Nat.zero_le _, Nat.zero_le _⟩) hS (fun q _ z => hFc q z) hFc (fun r1 uu t H1 locs ht1 hvm hw hB hz1 hk1 hS => ?_)
  obtain ⟨⟩ := uu
  obtain ⟨hP1, hD1⟩ := hB
  rw [ht1] at hP1
  obtain rfl : r1 = r1o := Option.some.inj hw
  have hP : va_P (dC, dI) vwCl ([] : List va_W).flatten H1 := hP1
  have hD : va_D A ([] : List va_W).flatten := hD1.weaken (fun _ q _ z => hFc q.1 z)
  generalize H1 = H at hP hS ⊢
  refine lv_iconst (v := (1 : Int32)) hx hb dX0_reckon_4 (by decide) ?_
  refine lv_isub hx hb dX0_reckon_5 ?_
  refine lv_topi (fun x3 ex3 => ?_)
  have hm := bnd_nm ex3 hm
  refine lv_istore_n (lv' := [(1, .int x3), (0, .int p1)]) hx hb dX0_reckon_6 rfl hl (by decide) rfl (fun ls hl => ?_)
  refine lv_iload_n hx hb dX0_reckon_7 rfl (lv_at hl 1 rfl) ?_
  refine lv_i2l hx hb dX0_reckon_8 rfl ?_
  refine lv_bipush (v := (30 : Int32)) hx hb dX0_reckon_9 (by decide) ?_
  refine lv_iload_n hx hb dX0_reckon_11 rfl (lv_at hl 0 rfl) ?_
  refine lv_isub hx hb dX0_reckon_12 ?_
  refine lv_lshl hx hb dX0_reckon_13 rfl ?_
  refine lv_topl (fun y4 ey4 => ?_)
  have hm := bnd_nm ey4 hm
  refine lv_lstore_n (lv' := [(2, .long y4), (1, .int x3), (0, .int p1)]) hx hb dX0_reckon_14 rfl hl (by decide) rfl (fun ls hl => ?_)
  refine lv_iload_n hx hb dX0_reckon_15 rfl (lv_at hl 1 rfl) ?_
  refine lv_i2l hx hb dX0_reckon_16 rfl ?_
  refine lv_topl (fun y5 ey5 => ?_)
  have hm := bnd_nm ey5 hm
  refine lv_lstore (lv' := [(4, .long y5), (2, .long y4), (1, .int x3), (0, .int p1)]) hx hb dX0_reckon_17 hl (by decide) rfl (fun ls hl => ?_)
  refine lv_iconst (v := (0 : Int32)) hx hb dX0_reckon_19 (by decide) ?_
  refine lv_istore (lv' := [(6, .int (0 : Int32)), (4, .long y5), (2, .long y4), (1, .int x3), (0, .int p1)]) hx hb dX0_reckon_20 hl (by decide) rfl (fun ls hl => ?_)
  obtain ⟨K66_12, eK66_12, hm⟩ := bnd_ex hm
  have X66_12 : ∀ (y9 : Int64) (y10 : Int64) (x11 : Int32) (H : Heap) (locs : List Loc) (ls : Array Slot), K66_12 y9 y10 x11 = some o → va_P (dC, dI) vwCl ([] : List va_W).flatten H → va_D A ([] : List va_W).flatten → va_S A s.heap H locs → lv_has ls 8 [(0, .int p1), (1, .int x3), (2, .long y9), (4, .long y10), (6, .int x11)] → W p l e ({ frames := 1, cells := 0, slots := 0, locals := 22 } : Room) s m ([.int p1] : List Value).toArray below meth c H locs 0 0 Q (F0 m 66 ls []) := by
    intro y9 y10 x11 H locs ls hm hP hD hS hl
    have hm := ap3 eK66_12 hm
    refine lv_lload hx hb dX0_reckon_66 (lv_at hl 3 rfl) ?_
    rw [← hQ]
    exact W.lret (v := y10) hx hb hr (fun t ht1 hW => ⟨⟨_, (), rfl, hm, by rw [ht1]; exact hP, hD⟩, hS.F ht1⟩) hS.2.2 dX0_reckon_68
  have LP22 : ∀ (n22 : Nat) (x6 : Int32) (y7 : Int64) (y8 : Int64) (H : Heap) (locs : List Loc) (ls : Array Slot), f_X0_reckon_L22 n22 K66_12 x6 y7 y8 = some o → va_P (dC, dI) vwCl ([] : List va_W).flatten H → va_D A ([] : List va_W).flatten → va_S A s.heap H locs → lv_has ls 8 [(0, .int p1), (1, .int x3), (2, .long y8), (4, .long y7), (6, .int x6)] → W p l e ({ frames := 1, cells := 0, slots := 0, locals := 22 } : Room) s m ([.int p1] : List Value).toArray below meth c H locs 0 0 Q (F0 m 22 ls []) := by
    intro n22
    induction n22 with
    | zero => intro x6 y7 y8 H locs ls hm; exact nomatch (show (none : Option _) = some _ from hm)
    | succ n22 ih22 =>
      intro x6 y7 y8 H locs ls hm hP hD hS hl
      unfold f_X0_reckon_L22 at hm
      refine lv_iload hx hb dX0_reckon_22 (lv_at hl 4 rfl) ?_
      refine lv_bipush (v := (30 : Int32)) hx hb dX0_reckon_24 (by decide) ?_
      refine lv_icmp_ge (tgt := 66) hx hb dX0_reckon_26 (by decide) (fun c13 => ?_) (fun c13 => ?_)
      · have hm := ite_t c13 hm
        exact X66_12 y8 y7 x6 _ _ _ hm hP hD hS (lv_sub hl [0, 1, 2, 3, 4] rfl)
      · have hm := ite_f c13 hm
        refine lv_lload_n hx hb dX0_reckon_29 rfl (lv_at hl 2 rfl) ?_
        refine lv_lload_n hx hb dX0_reckon_30 rfl (lv_at hl 2 rfl) ?_
        refine lv_lmul hx hb dX0_reckon_31 ?_
        refine lv_bipush (v := (30 : Int32)) hx hb dX0_reckon_32 (by decide) ?_
        refine lv_lshr hx hb dX0_reckon_34 rfl ?_
        refine lv_topl (fun y14 ey14 => ?_)
        have hm := bnd_nm ey14 hm
        refine lv_lstore_n (lv' := [(2, .long y14), (0, .int p1), (1, .int x3), (4, .long y7), (6, .int x6)]) hx hb dX0_reckon_35 rfl hl (by decide) rfl (fun ls hl => ?_)
        refine lv_lload_n hx hb dX0_reckon_36 rfl (lv_at hl 0 rfl) ?_
        refine lv_bipush (v := (31 : Int32)) hx hb dX0_reckon_37 (by decide) ?_
        refine lv_lshr hx hb dX0_reckon_39 rfl ?_
        refine lv_l2i hx hb dX0_reckon_40 rfl ?_
        refine lv_topi (fun x15 ex15 => ?_)
        have hm := bnd_nm ex15 hm
        refine lv_istore (lv' := [(7, .int x15), (2, .long y14), (0, .int p1), (1, .int x3), (4, .long y7), (6, .int x6)]) hx hb dX0_reckon_41 hl (by decide) rfl (fun ls hl => ?_)
        refine lv_ldc2 (v := (2 : Int64)) hx hb hown (ht _ kw_159) dX0_reckon_43 ?_
        refine lv_lload hx hb dX0_reckon_46 (lv_at hl 4 rfl) ?_
        refine lv_lmul hx hb dX0_reckon_48 ?_
        refine lv_iload hx hb dX0_reckon_49 (lv_at hl 0 rfl) ?_
        refine lv_i2l hx hb dX0_reckon_51 rfl ?_
        refine lv_ladd hx hb dX0_reckon_52 ?_
        refine lv_topl (fun y16 ey16 => ?_)
        have hm := bnd_nm ey16 hm
        refine lv_lstore (lv' := [(4, .long y16), (7, .int x15), (2, .long y14), (0, .int p1), (1, .int x3), (6, .int x6)]) hx hb dX0_reckon_53 hl (by decide) rfl (fun ls hl => ?_)
        refine lv_lload_n hx hb dX0_reckon_55 rfl (lv_at hl 2 rfl) ?_
        refine lv_iload hx hb dX0_reckon_56 (lv_at hl 1 rfl) ?_
        refine lv_lshr hx hb dX0_reckon_58 rfl ?_
        refine lv_topl (fun y17 ey17 => ?_)
        have hm := bnd_nm ey17 hm
        refine lv_lstore_n (lv' := [(2, .long y17), (4, .long y16), (7, .int x15), (0, .int p1), (1, .int x3), (6, .int x6)]) hx hb dX0_reckon_59 rfl hl (by decide) rfl (fun ls hl => ?_)
        obtain ⟨x18, ex18, hm⟩ := bnd_ex hm
        refine lv_iinc (v := x18) (lv' := [(6, .int x18), (2, .long y17), (4, .long y16), (7, .int x15), (0, .int p1), (1, .int x3)]) hx hb dX0_reckon_60 hl (k := 5) rfl (by rw [ex18]; exact congrArg _ (by decide)) (by decide) rfl (fun ls hl => ?_)
        refine lv_goto (tgt := 22) hx hb dX0_reckon_63 (by decide) ?_
        exact ih22 x18 y16 y17 _ _ _ hm hP hD hS (lv_sub hl [4, 5, 1, 2, 0] rfl)
  exact LP22 FU (0 : Int32) y5 y4 _ _ _ hm hP hD hS (lv_sub hl [4, 3, 2, 1, 0] rfl)

def f_X0_of (uL : OS) (p1 : Int32) : Option (OS × Int64) :=
  if p1 < (1 : Int32) then (
  some (uL, (-1 : Int64))) else (
  if p1 < (nI (uL.2.2.2 0)) then (
  gdi p1 (uL.2.2.2 0) <|
  if (uL.2.2.1 0 (p1).toNatClampNeg) = (-1 : Int64) then (
  oC1 (f_X0_reckon p1) fun r6 =>
  gdi p1 (uL.2.2.2 0) <|
  bnd (sL uL 0 p1 r6) fun u9 =>
  gdi p1 (u9.2.2.2 0) <|
  some (u9, (u9.2.2.1 0 (p1).toNatClampNeg))) else (
  gdi p1 (uL.2.2.2 0) <|
  some (uL, (uL.2.2.1 0 (p1).toNatClampNeg)))) else (
  some (uL, (-1 : Int64))))

set_option maxHeartbeats 4000000 in
set_option maxRecDepth 100000 in
theorem c_X0_of (l : Launch) (dC : Nat → ClassId) (dI : Nat → Nat → Nat) (cI cJ : ClassId) (aL : Nat) (jL : Nat → Nat) (sz : Nat) (uL : OS) (p1 : Int32) (o : OS × Int64) (hm : f_X0_of uL p1 = some o) : Met l yX0_of (wq yX0_of cX0_of 2 (some .long)) ({ frames := 2, cells := 0, slots := 0, locals := 49 } : Room) (va_Pc [.ref aL, .int p1] (pcW dC dI cI cJ sz ([wL cI cJ aL jL uL] : List va_W).flatten)) (va_Ql (S := OS) (fun r u => some (u, r) = some o) (fun (u : OS) t => va_P (dC, dI) vwCl ([wL cI cJ aL jL u] : List va_W).flatten t.heap ∧ va_D (va_A ([wL cI cJ aL jL uL] : List va_W).flatten sz) ([wL cI cJ aL jL u] : List va_W).flatten) (va_A ([wL cI cJ aL jL uL] : List va_W).flatten sz)) 0 0 (va_A ([wL cI cJ aL jL uL] : List va_W).flatten sz) := by
  refine Met.ofW (cc := cX0_of) (maxL := 2) (ret := (some .long)) (by decide) rfl ?_
  intro p e s m args below meth c s₁ B hml hv
  obtain ⟨rfl, hsz, hP, hK, hD0, hN⟩ := hv
  have hx := B.exec
  have hb := B.bytes
  have hr := B.returns
  have ht : ∀ w ∈ lw_good, w.before _ s = true := fun w h => atoms_spec (ws := wq yX0_of cX0_of 2 (some .long)) B.pre w (wq_mem h)
  have hown : s.vm.findClass RX0 = some m.cls := findClass_of_methodNamed B.named
  have hlocks := B.notSynchronized
  subst hsz
  have hD := hD0.self (sz := s.heap.size)
  generalize hAe : va_A ([wL cI cJ aL jL uL] : List va_W).flatten s.heap.size = A at hD ⊢
  have hA : ∀ q : Nat, s.heap.size ≤ q → A q := fun q h => by rw [← hAe]; exact Or.inr h
  have hS : va_S A s.heap s.heap [] := va_S.rf
  have hl := lv_entry ([.ref aL, .int p1]) (n := 2) (Nat.le_of_ble_eq_true rfl)
  rw [lg_entry_eq]
  generalize (lg_sl ([.ref aL, .int p1]) ++ List.replicate (2 - (lg_sl ([.ref aL, .int p1])).length) Slot.unset).toArray = ls at hl ⊢
  have hl : lv_has ls 2 [(0, .ref aL), (1, .int p1)] := hl
  generalize hQ : MQ below _ _ s _ _ _ = Q
  generalize hH : s.heap = H at hP ⊢
  have hS : va_S A s.heap H [] := by rw [← hH]; exact va_S.rf
  show W p l e ({ frames := 2, cells := 0, slots := 0, locals := 49 } : Room) s m ([.ref aL, .int p1] : List Value).toArray below meth c H [] 0 0 Q (F0 m 0 ls [])
  unfold f_X0_of at hm
  refine lv_iload_n hx hb dX0_of_0 rfl (lv_at hl 1 rfl) ?_
  refine lv_iconst (v := (1 : Int32)) hx hb dX0_of_1 (by decide) ?_
  refine lv_icmp_lt (tgt := 14) hx hb dX0_of_2 (by decide) (fun c1 => ?_) (fun c1 => ?_)
  · have hm := ite_t c1 hm
    refine lv_ldc2 (v := (-1 : Int64)) hx hb hown (ht _ kw_157) dX0_of_14 ?_
    rw [← hQ]
    exact W.lret (v := (-1 : Int64)) hx hb hr (fun t ht1 hW => ⟨⟨_, uL, rfl, hm, by rw [ht1]; exact hP, hD⟩, hS.F ht1⟩) hS.2.2 dX0_of_17
  · have hm := ite_f c1 hm
    refine lv_iload_n hx hb dX0_of_5 rfl (lv_at hl 1 rfl) ?_
    refine lv_aload_n hx hb dX0_of_6 rfl (lv_at hl 0 rfl) ?_
    refine va_get (D := (dC, dI)) (ci := 1) (v := .ref (jL 0)) (C := RX0) (T := TX0) (N := 1) hx hb ht inX0 hown hK hP 0 rfl rfl 0 (by decide) (ht _ kw_158) (fun _ h9 => h9) rfl dX0_of_7 ?_
    refine va_alen (v := (nI (uL.2.2.2 0))) hx hb hK hP 1 1 rfl rfl rfl dX0_of_10 ?_
    refine lv_icmp_lt (tgt := 18) hx hb dX0_of_11 (by decide) (fun c2 => ?_) (fun c2 => ?_)
    · have hm := ite_t c2 hm
      refine lv_aload_n hx hb dX0_of_18 rfl (lv_at hl 0 rfl) ?_
      refine va_get (D := (dC, dI)) (ci := 1) (v := .ref (jL 0)) (C := RX0) (T := TX0) (N := 1) hx hb ht inX0 hown hK hP 0 rfl rfl 0 (by decide) (ht _ kw_158) (fun _ h9 => h9) rfl dX0_of_19 ?_
      refine lv_iload_n hx hb dX0_of_22 rfl (lv_at hl 1 rfl) ?_
      obtain ⟨g3, hm⟩ := gdi_of hm
      refine va_lald hx hb hK hP 1 1 rfl rfl g3 dX0_of_23 ?_
      refine lv_ldc2 (v := (-1 : Int64)) hx hb hown (ht _ kw_157) dX0_of_24 ?_
      refine W.lcmp hx hb dX0_of_27 ?_
      refine lv_if_ne (tgt := 41) hx hb dX0_of_28 (by decide) (fun c4 => ?_) (fun c4 => ?_)
      · have c4 := mt lgc_eq.mpr c4
        have hm := ite_f c4 hm
        refine lv_aload_n hx hb dX0_of_41 rfl (lv_at hl 0 rfl) ?_
        refine va_get (D := (dC, dI)) (ci := 1) (v := .ref (jL 0)) (C := RX0) (T := TX0) (N := 1) hx hb ht inX0 hown hK hP 0 rfl rfl 0 (by decide) (ht _ kw_158) (fun _ h9 => h9) rfl dX0_of_42 ?_
        refine lv_iload_n hx hb dX0_of_45 rfl (lv_at hl 1 rfl) ?_
        obtain ⟨g5, hm⟩ := gdi_of hm
        refine va_lald hx hb hK hP 1 1 rfl rfl g5 dX0_of_46 ?_
        rw [← hQ]
        exact W.lret (v := (uL.2.2.1 0 (p1).toNatClampNeg)) hx hb hr (fun t ht1 hW => ⟨⟨_, uL, rfl, hm, by rw [ht1]; exact hP, hD⟩, hS.F ht1⟩) hS.2.2 dX0_of_47
      · have c4 := lgc_eq.mp c4
        have hm := ite_t c4 hm
        refine lv_aload_n hx hb dX0_of_31 rfl (lv_at hl 0 rfl) ?_
        refine va_get (D := (dC, dI)) (ci := 1) (v := .ref (jL 0)) (C := RX0) (T := TX0) (N := 1) hx hb ht inX0 hown hK hP 0 rfl rfl 0 (by decide) (ht _ kw_158) (fun _ h9 => h9) rfl dX0_of_32 ?_
        refine lv_iload_n hx hb dX0_of_35 rfl (lv_at hl 1 rfl) ?_
        refine lv_iload_n hx hb dX0_of_36 rfl (lv_at hl 1 rfl) ?_
        have hPc : va_P (dC, dI) vwCl ([] : List va_W).flatten _ := hP.subF [] rfl
        have hDc : va_D A ([] : List va_W).flatten := hD.subF [] (by decide) rfl
        have hFc := va_freeF (fc := ([] : List va_W)) hD hS hA [] rfl
        obtain ⟨r6o, e7, hm⟩ := oC1_of hm
        refine va_calll (va_runS (As := [.int p1]) (rest := [.int p1, .ref (jL 0)]) ⟨hx, hb, hml, hown, ht⟩ (c_X0_reckon l dC dI cI cJ H.size p1 r6o e7) (va_cwS 1 ht (gdS kw_166 kw_165 kw_164 kw_163) rfl rfl rfl nd_X0_reckon ⟨Nat.le_of_ble_eq_true rfl, Nat.le_of_ble_eq_true rfl⟩) ⟨pcW_blind, pcW_pre hPc hK hDc hN⟩ rfl rfl hl.1 rfl (lv_room (Nat.le_of_ble_eq_true rfl)) dX0_of_37 ⟨Nat.zero_le _, Nat.zero_le _⟩) hS (fun q _ z => hFc q z) hFc (fun r6 uu t H1 locs ht1 hvm hw hB hz1 hk1 hS => ?_)
        obtain ⟨⟩ := uu
        obtain ⟨hP1, hD1⟩ := hB
        rw [ht1] at hP1
        obtain rfl : r6 = r6o := Option.some.inj hw
        obtain ⟨hP, hD⟩ := va_joinF (fr := ([wL cI cJ aL jL uL] : List va_W)) (f1 := ([] : List va_W)) hP hD [] [0] rfl rfl (by decide) (by decide) hk1 hFc hP1 hD1
        have hP : va_P (dC, dI) vwCl ([wL cI cJ aL jL uL] : List va_W).flatten H1 := hP
        have hD : va_D A ([wL cI cJ aL jL uL] : List va_W).flatten := hD
        generalize H1 = H at hP hS ⊢
        obtain ⟨g8, hm⟩ := gdi_of hm
        refine va_last hx hb hK hP hD hS 1 1 rfl rfl g8 dX0_of_40 (fun H locs hP hD hS => ?_)
        obtain ⟨u9, eu9, hm⟩ := bnd_ex hm
        have hP : va_P (dC, dI) vwCl ([wL cI cJ aL jL u9] : List va_W).flatten H := by rw [eu9]; exact hP
        have hD : va_D A ([wL cI cJ aL jL u9] : List va_W).flatten := by rw [eu9]; exact hD
        refine lv_aload_n hx hb dX0_of_41 rfl (lv_at hl 0 rfl) ?_
        refine va_get (D := (dC, dI)) (ci := 1) (v := .ref (jL 0)) (C := RX0) (T := TX0) (N := 1) hx hb ht inX0 hown hK hP 0 rfl rfl 0 (by decide) (ht _ kw_158) (fun _ h9 => h9) rfl dX0_of_42 ?_
        refine lv_iload_n hx hb dX0_of_45 rfl (lv_at hl 1 rfl) ?_
        obtain ⟨g10, hm⟩ := gdi_of hm
        refine va_lald hx hb hK hP 1 1 rfl rfl g10 dX0_of_46 ?_
        rw [← hQ]
        exact W.lret (v := (u9.2.2.1 0 (p1).toNatClampNeg)) hx hb hr (fun t ht1 hW => ⟨⟨_, u9, rfl, hm, by rw [ht1]; exact hP, hD⟩, hS.F ht1⟩) hS.2.2 dX0_of_47
    · have hm := ite_f c2 hm
      refine lv_ldc2 (v := (-1 : Int64)) hx hb hown (ht _ kw_157) dX0_of_14 ?_
      rw [← hQ]
      exact W.lret (v := (-1 : Int64)) hx hb hr (fun t ht1 hW => ⟨⟨_, uL, rfl, hm, by rw [ht1]; exact hP, hD⟩, hS.F ht1⟩) hS.2.2 dX0_of_17

def f_X1_restart (uO : OS) : Option (OS) :=
  bnd (sF uO 1 (0 : Int32)) fun u1 =>
  bnd (sF u1 2 (0 : Int32)) fun u2 =>
  some u2

set_option maxHeartbeats 4000000 in
set_option maxRecDepth 100000 in
theorem c_X1_restart (l : Launch) (dC : Nat → ClassId) (dI : Nat → Nat → Nat) (cI cJ : ClassId) (aO : Nat) (jO : Nat → Nat) (sz : Nat) (uO : OS) (o : OS) (hm : f_X1_restart uO = some o) : Met l yX1_restart (wq yX1_restart cX1_restart 1 none) ({ frames := 0, cells := 0, slots := 0, locals := 0 } : Room) (va_Pc [.ref aO] (pcW dC dI cI cJ sz ([wO cI cJ aO jO uO] : List va_W).flatten)) (va_Qv (S := OS) (fun u => some u = some o) (fun (u : OS) t => va_P (dC, dI) vwCl ([wO cI cJ aO jO u] : List va_W).flatten t.heap ∧ va_D (va_A ([wO cI cJ aO jO uO] : List va_W).flatten sz) ([wO cI cJ aO jO u] : List va_W).flatten) (va_A ([wO cI cJ aO jO uO] : List va_W).flatten sz)) 0 0 (va_A ([wO cI cJ aO jO uO] : List va_W).flatten sz) := by
  refine Met.ofW (cc := cX1_restart) (maxL := 1) (ret := none) (by decide) rfl ?_
  intro p e s m args below meth c s₁ B hml hv
  obtain ⟨rfl, hsz, hP, hK, hD0, hN⟩ := hv
  have hx := B.exec
  have hb := B.bytes
  have hr := B.returns
  have ht : ∀ w ∈ lw_good, w.before _ s = true := fun w h => atoms_spec (ws := wq yX1_restart cX1_restart 1 none) B.pre w (wq_mem h)
  have hown : s.vm.findClass RX1 = some m.cls := findClass_of_methodNamed B.named
  have hlocks := B.notSynchronized
  subst hsz
  have hD := hD0.self (sz := s.heap.size)
  generalize hAe : va_A ([wO cI cJ aO jO uO] : List va_W).flatten s.heap.size = A at hD ⊢
  have hA : ∀ q : Nat, s.heap.size ≤ q → A q := fun q h => by rw [← hAe]; exact Or.inr h
  have hS : va_S A s.heap s.heap [] := va_S.rf
  have hl := lv_entry ([.ref aO]) (n := 1) (Nat.le_of_ble_eq_true rfl)
  rw [lg_entry_eq]
  generalize (lg_sl ([.ref aO]) ++ List.replicate (1 - (lg_sl ([.ref aO])).length) Slot.unset).toArray = ls at hl ⊢
  have hl : lv_has ls 1 [(0, .ref aO)] := hl
  generalize hQ : MQ below _ _ s _ _ _ = Q
  generalize hH : s.heap = H at hP ⊢
  have hS : va_S A s.heap H [] := by rw [← hH]; exact va_S.rf
  show W p l e ({ frames := 0, cells := 0, slots := 0, locals := 0 } : Room) s m ([.ref aO] : List Value).toArray below meth c H [] 0 0 Q (F0 m 0 ls [])
  unfold f_X1_restart at hm
  refine lv_aload_n hx hb dX1_restart_0 rfl (lv_at hl 0 rfl) ?_
  refine lv_iconst (v := (0 : Int32)) hx hb dX1_restart_1 (by decide) ?_
  refine va_put (D := (dC, dI)) (ci := 2) (v := .int (0 : Int32)) (ty := .int) (C := RX1) (T := TX1) (N := 3) hx hb ht inX1 tyX1 tyX1_ok nmX1 hown hK hP hD hS 0 rfl rfl 1 (by decide) (ht _ kw_167) (fun _ h9 => h9) rfl (by decide +kernel) rfl rfl (Nat.le_of_ble_eq_true rfl) dX1_restart_2 (fun H locs hP hD hS => ?_)
  obtain ⟨u1, eu1, hm⟩ := bnd_ex hm
  have hP : va_P (dC, dI) vwCl ([wO cI cJ aO jO u1] : List va_W).flatten H := by rw [eu1]; exact hP
  have hD : va_D A ([wO cI cJ aO jO u1] : List va_W).flatten := by rw [eu1]; exact hD
  refine lv_aload_n hx hb dX1_restart_5 rfl (lv_at hl 0 rfl) ?_
  refine lv_iconst (v := (0 : Int32)) hx hb dX1_restart_6 (by decide) ?_
  refine va_put (D := (dC, dI)) (ci := 2) (v := .int (0 : Int32)) (ty := .int) (C := RX1) (T := TX1) (N := 3) hx hb ht inX1 tyX1 tyX1_ok nmX1 hown hK hP hD hS 0 rfl rfl 2 (by decide) (ht _ kw_168) (fun _ h9 => h9) rfl (by decide +kernel) rfl rfl (Nat.le_of_ble_eq_true rfl) dX1_restart_7 (fun H locs hP hD hS => ?_)
  obtain ⟨u2, eu2, hm⟩ := bnd_ex hm
  have hP : va_P (dC, dI) vwCl ([wO cI cJ aO jO u2] : List va_W).flatten H := by rw [eu2]; exact hP
  have hD : va_D A ([wO cI cJ aO jO u2] : List va_W).flatten := by rw [eu2]; exact hD
  rw [← hQ]
  exact W.vret hx hb hr (fun t ht1 hW => ⟨⟨u2, rfl, hm, by rw [ht1]; exact hP, hD⟩, hS.F ht1⟩) hS.2.2 dX1_restart_10

def f_X1_append (uO : OS) (p1 : Int32) : Option ((OS × Int32) × Nat × Nat) :=
  oA2 (f_withRoom (uO.2.2.2 0) (uO.2.1 0) (uO.1 1) (8000 : Int32)) fun n7 f7 kc7 ks7 =>
  addc kc7 ks7 <|
  bnd (sR uO 0 n7 f7) fun u1 =>
  if (u1.1 1) < (nI (u1.2.2.2 0)) then (
  gdi (u1.1 1) (u1.2.2.2 0) <|
  bnd (sA u1 0 (u1.1 1) (p1 &&& (255 : Int32))) fun u5 =>
  bnd (sF u5 1 ((u5.1 1) + (1 : Int32))) fun u6 =>
  some ((u6, (1 : Int32)), 0, 0)) else (
  some ((u1, (0 : Int32)), 0, 0))

set_option maxHeartbeats 4000000 in
set_option maxRecDepth 100000 in
theorem c_X1_append (l : Launch) (dC : Nat → ClassId) (dI : Nat → Nat → Nat) (cI cJ : ClassId) (aO : Nat) (jO : Nat → Nat) (sz : Nat) (uO : OS) (p1 : Int32) (o : OS × Int32) (mc ms : Nat) (hm : f_X1_append uO p1 = some (o, mc, ms)) : Met l yX1_append (wq yX1_append cX1_append 2 (some .boolean)) ({ frames := 3, cells := mc, slots := ms, locals := 102 } : Room) (va_Pc [.ref aO, .int p1] (pcW dC dI cI cJ sz ([wO cI cJ aO jO uO] : List va_W).flatten)) (va_Qi (S := OS) (fun r u => some (u, r) = some o) (fun (u : OS) t => ∃ hhO : Nat → Nat, va_P (dC, dI) vwCl ([wO cI cJ aO hhO u] : List va_W).flatten t.heap ∧ va_D (va_A ([wO cI cJ aO jO uO] : List va_W).flatten sz) ([wO cI cJ aO hhO u] : List va_W).flatten) (va_A ([wO cI cJ aO jO uO] : List va_W).flatten sz)) mc ms (va_A ([wO cI cJ aO jO uO] : List va_W).flatten sz) := by
  refine Met.ofW (cc := cX1_append) (maxL := 2) (ret := (some .boolean)) (by decide) rfl ?_
  intro p e s m args below meth c s₁ B hml hv
  obtain ⟨rfl, hsz, hP, hK, hD0, hN⟩ := hv
  have hx := B.exec
  have hb := B.bytes
  have hr := B.returns
  have ht : ∀ w ∈ lw_good, w.before _ s = true := fun w h => atoms_spec (ws := wq yX1_append cX1_append 2 (some .boolean)) B.pre w (wq_mem h)
  have hown : s.vm.findClass RX1 = some m.cls := findClass_of_methodNamed B.named
  have hlocks := B.notSynchronized
  subst hsz
  have hD := hD0.self (sz := s.heap.size)
  generalize hAe : va_A ([wO cI cJ aO jO uO] : List va_W).flatten s.heap.size = A at hD ⊢
  have hA : ∀ q : Nat, s.heap.size ≤ q → A q := fun q h => by rw [← hAe]; exact Or.inr h
  have hS : va_S A s.heap s.heap [] := va_S.rf
  have hl := lv_entry ([.ref aO, .int p1]) (n := 2) (Nat.le_of_ble_eq_true rfl)
  rw [lg_entry_eq]
  generalize (lg_sl ([.ref aO, .int p1]) ++ List.replicate (2 - (lg_sl ([.ref aO, .int p1])).length) Slot.unset).toArray = ls at hl ⊢
  have hl : lv_has ls 2 [(0, .ref aO), (1, .int p1)] := hl
  generalize hQ : MQ below _ _ s _ _ _ = Q
  generalize hH : s.heap = H at hP ⊢
  have hS : va_S A s.heap H [] := by rw [← hH]; exact va_S.rf
  obtain ⟨ce, hce⟩ := ex_eq (0 : Nat)
  obtain ⟨sl, hsl⟩ := ex_eq (0 : Nat)
  obtain ⟨kc, hkc⟩ := ex_eq mc
  obtain ⟨ks, hks⟩ := ex_eq ms
  rw [← hkc, ← hks] at hm
  have hc1 : ce + kc = mc := by omega
  have hc2 : sl + ks = ms := by omega
  suffices hw : W p l e ({ frames := 3, cells := mc, slots := ms, locals := 102 } : Room) s m ([.ref aO, .int p1] : List Value).toArray below meth c H [] ce sl Q (F0 m 0 ls []) by rw [hce, hsl] at hw; exact hw
  clear hce hsl hkc hks
  unfold f_X1_append at hm
  refine lv_aload_n hx hb dX1_append_0 rfl (lv_at hl 0 rfl) ?_
  refine lv_aload_n hx hb dX1_append_1 rfl (lv_at hl 0 rfl) ?_
  refine va_get (D := (dC, dI)) (ci := 2) (v := .ref (jO 0)) (C := RX1) (T := TX1) (N := 3) hx hb ht inX1 hown hK hP 0 rfl rfl 0 (by decide) (ht _ kw_169) (fun _ h9 => h9) rfl dX1_append_2 ?_
  refine lv_aload_n hx hb dX1_append_5 rfl (lv_at hl 0 rfl) ?_
  refine va_get (D := (dC, dI)) (ci := 2) (v := .int (uO.1 1)) (C := RX1) (T := TX1) (N := 3) hx hb ht inX1 hown hK hP 0 rfl rfl 1 (by decide) (ht _ kw_167) (fun _ h9 => h9) rfl dX1_append_6 ?_
  refine lv_sipush (v := (8000 : Int32)) hx hb dX1_append_9 (by decide) ?_
  have hPc : va_P (dC, dI) vwCl [((jO 0), .inl (cI, (uO.2.2.2 0), .inl (uO.2.1 0)))] _ := hP.sub [1] rfl
  have hDc : va_D A [((jO 0), .inl (cI, (uO.2.2.2 0), .inl (uO.2.1 0)))] := hD.sub [1] (by decide) rfl
  have hFc := va_free (wc := [((jO 0), .inl (cI, (uO.2.2.2 0), .inl (uO.2.1 0)))]) hD hS hA [1] rfl
  obtain ⟨n7, f7, kc7, ks7, e7, hm⟩ := oA2_of hm
  obtain ⟨kr7, sr7, hm, hkc7, hks7⟩ := addc_of hm
  refine va_callr (va_runSN (As := [.ref (jO 0), .int (uO.1 1), .int (8000 : Int32)]) (rest := [.ref aO]) ⟨hx, hb, hml, hown, ht⟩ (c_withRoom l dC dI cI cJ (jO 0) H.size (uO.2.2.2 0) (uO.2.1 0) (uO.1 1) (8000 : Int32) n7 f7 kc7 ks7 e7) ⟨va_cnB 3 ht (gdC kw_170) rfl rfl rfl (hN _ kn_1) (ht _ kw_161) nd_X6_withRoom ⟨Nat.le_of_ble_eq_true rfl, Nat.le_of_ble_eq_true rfl⟩, ht _ kw_171, trivial⟩ ⟨pcW_blind, pcW_pre hPc hK hDc hN⟩ rfl rfl hl.1 rfl (lv_room (Nat.le_of_ble_eq_true rfl)) dX1_append_12 ⟨cle hc1 hkc7, cle hc2 hks7⟩) hS (fun q _ z => hFc q z) hFc (fun uu ra7 t H1 locs ht1 hvm hw hB hz1 hk1 hS => ?_)
  obtain ⟨hP1, hD1⟩ := hB
  rw [ht1] at hP1
  have hc1 := cadd hc1 hkc7
  have hc2 := cadd hc2 hks7
  obtain ⟨hP, hD⟩ := va_join (wr := [(wO cI cJ aO jO uO)[0]]) (w1 := [(ra7, .inl (cI, n7, .inl f7))]) hP hD [1] [0] rfl rfl (by decide) (by decide) hk1 hFc hP1 hD1
  generalize H1 = H at hP hS ⊢
  refine va_put (D := (dC, dI)) (ci := 2) (v := .ref ra7) (ty := .array .int) (C := RX1) (T := TX1) (N := 3) hx hb ht inX1 tyX1 tyX1_ok nmX1 hown hK hP hD hS 0 rfl rfl 0 (by decide) (ht _ kw_169) (fun _ h9 => h9) rfl (by decide +kernel) rfl rfl (Nat.le_of_ble_eq_true rfl) dX1_append_15 (fun H locs hP hD hS => ?_)
  obtain ⟨u1, eu1, hm⟩ := bnd_ex hm
  obtain ⟨h2, eh2⟩ := ex_eq (va_up jO 0 ra7)
  have hP : va_P (dC, dI) vwCl ([wO cI cJ aO h2 u1] : List va_W).flatten H := by rw [eu1, eh2]; exact hP.sub [0, 1] rfl
  have hD : va_D A ([wO cI cJ aO h2 u1] : List va_W).flatten := by rw [eu1, eh2]; exact hD.sub [0, 1] (by decide) rfl
  refine lv_aload_n hx hb dX1_append_18 rfl (lv_at hl 0 rfl) ?_
  refine va_get (D := (dC, dI)) (ci := 2) (v := .int (u1.1 1)) (C := RX1) (T := TX1) (N := 3) hx hb ht inX1 hown hK hP 0 rfl rfl 1 (by decide) (ht _ kw_167) (fun _ h9 => h9) rfl dX1_append_19 ?_
  refine lv_aload_n hx hb dX1_append_22 rfl (lv_at hl 0 rfl) ?_
  refine va_get (D := (dC, dI)) (ci := 2) (v := .ref (h2 0)) (C := RX1) (T := TX1) (N := 3) hx hb ht inX1 hown hK hP 0 rfl rfl 0 (by decide) (ht _ kw_169) (fun _ h9 => h9) rfl dX1_append_23 ?_
  refine va_alen (v := (nI (u1.2.2.2 0))) hx hb hK hP 1 0 rfl rfl rfl dX1_append_26 ?_
  refine lv_icmp_lt (tgt := 32) hx hb dX1_append_27 (by decide) (fun c3 => ?_) (fun c3 => ?_)
  · have hm := ite_t c3 hm
    refine lv_aload_n hx hb dX1_append_32 rfl (lv_at hl 0 rfl) ?_
    refine va_get (D := (dC, dI)) (ci := 2) (v := .ref (h2 0)) (C := RX1) (T := TX1) (N := 3) hx hb ht inX1 hown hK hP 0 rfl rfl 0 (by decide) (ht _ kw_169) (fun _ h9 => h9) rfl dX1_append_33 ?_
    refine lv_aload_n hx hb dX1_append_36 rfl (lv_at hl 0 rfl) ?_
    refine va_get (D := (dC, dI)) (ci := 2) (v := .int (u1.1 1)) (C := RX1) (T := TX1) (N := 3) hx hb ht inX1 hown hK hP 0 rfl rfl 1 (by decide) (ht _ kw_167) (fun _ h9 => h9) rfl dX1_append_37 ?_
    refine lv_iload_n hx hb dX1_append_40 rfl (lv_at hl 1 rfl) ?_
    refine lv_sipush (v := (255 : Int32)) hx hb dX1_append_41 (by decide) ?_
    refine lv_iand hx hb dX1_append_44 ?_
    obtain ⟨g4, hm⟩ := gdi_of hm
    refine va_iast hx hb hK hP hD hS 1 0 rfl rfl g4 dX1_append_45 (fun H locs hP hD hS => ?_)
    obtain ⟨u5, eu5, hm⟩ := bnd_ex hm
    have hP : va_P (dC, dI) vwCl ([wO cI cJ aO h2 u5] : List va_W).flatten H := by rw [eu5]; exact hP
    have hD : va_D A ([wO cI cJ aO h2 u5] : List va_W).flatten := by rw [eu5]; exact hD
    refine lv_aload_n hx hb dX1_append_46 rfl (lv_at hl 0 rfl) ?_
    refine lv_dup hx hb dX1_append_47 rfl ?_
    refine va_get (D := (dC, dI)) (ci := 2) (v := .int (u5.1 1)) (C := RX1) (T := TX1) (N := 3) hx hb ht inX1 hown hK hP 0 rfl rfl 1 (by decide) (ht _ kw_167) (fun _ h9 => h9) rfl dX1_append_48 ?_
    refine lv_iconst (v := (1 : Int32)) hx hb dX1_append_51 (by decide) ?_
    refine lv_iadd hx hb dX1_append_52 ?_
    refine va_put (D := (dC, dI)) (ci := 2) (v := .int ((u5.1 1) + (1 : Int32))) (ty := .int) (C := RX1) (T := TX1) (N := 3) hx hb ht inX1 tyX1 tyX1_ok nmX1 hown hK hP hD hS 0 rfl rfl 1 (by decide) (ht _ kw_167) (fun _ h9 => h9) rfl (by decide +kernel) rfl rfl (Nat.le_of_ble_eq_true rfl) dX1_append_53 (fun H locs hP hD hS => ?_)
    obtain ⟨u6, eu6, hm⟩ := bnd_ex hm
    have hP : va_P (dC, dI) vwCl ([wO cI cJ aO h2 u6] : List va_W).flatten H := by rw [eu6]; exact hP
    have hD : va_D A ([wO cI cJ aO h2 u6] : List va_W).flatten := by rw [eu6]; exact hD
    refine lv_iconst (v := (1 : Int32)) hx hb dX1_append_56 (by decide) ?_
    obtain ⟨hmz, hz1, hz2⟩ := ret0 hm
    subst hz1
    subst hz2
    refine W.cs (cells' := mc) (slots' := ms) hc1 hc2 ?_
    rw [← hQ]
    exact W.zret (v := (1 : Int32)) hx hb hr rfl (fun t ht1 hW => ⟨⟨_, u6, rfl, hmz, h2, by rw [ht1]; exact hP, hD⟩, hS.F ht1⟩) hS.2.2 dX1_append_57
  · have hm := ite_f c3 hm
    refine lv_iconst (v := (0 : Int32)) hx hb dX1_append_30 (by decide) ?_
    obtain ⟨hmz, hz1, hz2⟩ := ret0 hm
    subst hz1
    subst hz2
    refine W.cs (cells' := mc) (slots' := ms) hc1 hc2 ?_
    rw [← hQ]
    exact W.zret (v := (0 : Int32)) hx hb hr rfl (fun t ht1 hW => ⟨⟨_, u1, rfl, hmz, h2, by rw [ht1]; exact hP, hD⟩, hS.F ht1⟩) hS.2.2 dX1_append_31

def f_X1_valueAt (uO : OS) (p1 : Int32) : Option (Int32) :=
  if p1 < (0 : Int32) then (
  some (-1 : Int32)) else (
  if (uO.1 1) ≤ p1 then (
  some (-1 : Int32)) else (
  if (nI (uO.2.2.2 0)) ≤ p1 then (
  some (-1 : Int32)) else (
  gdi p1 (uO.2.2.2 0) <|
  some ((uO.2.1 0 (p1).toNatClampNeg)))))

set_option maxHeartbeats 4000000 in
set_option maxRecDepth 100000 in
theorem c_X1_valueAt (l : Launch) (dC : Nat → ClassId) (dI : Nat → Nat → Nat) (cI cJ : ClassId) (aO : Nat) (jO : Nat → Nat) (sz : Nat) (uO : OS) (p1 : Int32) (o : Int32) (hm : f_X1_valueAt uO p1 = some o) : Met l yX1_valueAt (wq yX1_valueAt cX1_valueAt 2 (some .int)) ({ frames := 0, cells := 0, slots := 0, locals := 0 } : Room) (va_Pc [.ref aO, .int p1] (pcW dC dI cI cJ sz ([wO cI cJ aO jO uO] : List va_W).flatten)) (va_Qi (S := Unit) (fun r u => some r = some o) (fun (u : Unit) t => va_P (dC, dI) vwCl ([wO cI cJ aO jO uO] : List va_W).flatten t.heap ∧ va_D (va_A ([wO cI cJ aO jO uO] : List va_W).flatten sz) ([wO cI cJ aO jO uO] : List va_W).flatten) (va_A ([wO cI cJ aO jO uO] : List va_W).flatten sz)) 0 0 (va_A ([wO cI cJ aO jO uO] : List va_W).flatten sz) := by
  refine Met.ofW (cc := cX1_valueAt) (maxL := 2) (ret := (some .int)) (by decide) rfl ?_
  intro p e s m args below meth c s₁ B hml hv
  obtain ⟨rfl, hsz, hP, hK, hD0, hN⟩ := hv
  have hx := B.exec
  have hb := B.bytes
  have hr := B.returns
  have ht : ∀ w ∈ lw_good, w.before _ s = true := fun w h => atoms_spec (ws := wq yX1_valueAt cX1_valueAt 2 (some .int)) B.pre w (wq_mem h)
  have hown : s.vm.findClass RX1 = some m.cls := findClass_of_methodNamed B.named
  have hlocks := B.notSynchronized
  subst hsz
  have hD := hD0.self (sz := s.heap.size)
  generalize hAe : va_A ([wO cI cJ aO jO uO] : List va_W).flatten s.heap.size = A at hD ⊢
  have hA : ∀ q : Nat, s.heap.size ≤ q → A q := fun q h => by rw [← hAe]; exact Or.inr h
  have hS : va_S A s.heap s.heap [] := va_S.rf
  have hl := lv_entry ([.ref aO, .int p1]) (n := 2) (Nat.le_of_ble_eq_true rfl)
  rw [lg_entry_eq]
  generalize (lg_sl ([.ref aO, .int p1]) ++ List.replicate (2 - (lg_sl ([.ref aO, .int p1])).length) Slot.unset).toArray = ls at hl ⊢
  have hl : lv_has ls 2 [(0, .ref aO), (1, .int p1)] := hl
  generalize hQ : MQ below _ _ s _ _ _ = Q
  generalize hH : s.heap = H at hP ⊢
  have hS : va_S A s.heap H [] := by rw [← hH]; exact va_S.rf
  show W p l e ({ frames := 0, cells := 0, slots := 0, locals := 0 } : Room) s m ([.ref aO, .int p1] : List Value).toArray below meth c H [] 0 0 Q (F0 m 0 ls [])
  unfold f_X1_valueAt at hm
  refine lv_iload_n hx hb dX1_valueAt_0 rfl (lv_at hl 1 rfl) ?_
  refine lv_if_lt (tgt := 30) hx hb dX1_valueAt_1 (by decide) (fun c1 => ?_) (fun c1 => ?_)
  · have hm := ite_t c1 hm
    refine lv_iconst (v := (-1 : Int32)) hx hb dX1_valueAt_30 (by decide) ?_
    rw [← hQ]
    exact W.iret (v := (-1 : Int32)) hx hb hr (fun t ht1 hW => ⟨⟨_, (), rfl, hm, by rw [ht1]; exact hP, hD⟩, hS.F ht1⟩) hS.2.2 dX1_valueAt_31
  · have hm := ite_f c1 hm
    refine lv_iload_n hx hb dX1_valueAt_4 rfl (lv_at hl 1 rfl) ?_
    refine lv_aload_n hx hb dX1_valueAt_5 rfl (lv_at hl 0 rfl) ?_
    refine va_get (D := (dC, dI)) (ci := 2) (v := .int (uO.1 1)) (C := RX1) (T := TX1) (N := 3) hx hb ht inX1 hown hK hP 0 rfl rfl 1 (by decide) (ht _ kw_167) (fun _ h9 => h9) rfl dX1_valueAt_6 ?_
    refine lv_icmp_ge (tgt := 30) hx hb dX1_valueAt_9 (by decide) (fun c2 => ?_) (fun c2 => ?_)
    · have hm := ite_t c2 hm
      refine lv_iconst (v := (-1 : Int32)) hx hb dX1_valueAt_30 (by decide) ?_
      rw [← hQ]
      exact W.iret (v := (-1 : Int32)) hx hb hr (fun t ht1 hW => ⟨⟨_, (), rfl, hm, by rw [ht1]; exact hP, hD⟩, hS.F ht1⟩) hS.2.2 dX1_valueAt_31
    · have hm := ite_f c2 hm
      refine lv_iload_n hx hb dX1_valueAt_12 rfl (lv_at hl 1 rfl) ?_
      refine lv_aload_n hx hb dX1_valueAt_13 rfl (lv_at hl 0 rfl) ?_
      refine va_get (D := (dC, dI)) (ci := 2) (v := .ref (jO 0)) (C := RX1) (T := TX1) (N := 3) hx hb ht inX1 hown hK hP 0 rfl rfl 0 (by decide) (ht _ kw_169) (fun _ h9 => h9) rfl dX1_valueAt_14 ?_
      refine va_alen (v := (nI (uO.2.2.2 0))) hx hb hK hP 1 0 rfl rfl rfl dX1_valueAt_17 ?_
      refine lv_icmp_ge (tgt := 30) hx hb dX1_valueAt_18 (by decide) (fun c3 => ?_) (fun c3 => ?_)
      · have hm := ite_t c3 hm
        refine lv_iconst (v := (-1 : Int32)) hx hb dX1_valueAt_30 (by decide) ?_
        rw [← hQ]
        exact W.iret (v := (-1 : Int32)) hx hb hr (fun t ht1 hW => ⟨⟨_, (), rfl, hm, by rw [ht1]; exact hP, hD⟩, hS.F ht1⟩) hS.2.2 dX1_valueAt_31
      · have hm := ite_f c3 hm
        refine lv_aload_n hx hb dX1_valueAt_21 rfl (lv_at hl 0 rfl) ?_
        refine va_get (D := (dC, dI)) (ci := 2) (v := .ref (jO 0)) (C := RX1) (T := TX1) (N := 3) hx hb ht inX1 hown hK hP 0 rfl rfl 0 (by decide) (ht _ kw_169) (fun _ h9 => h9) rfl dX1_valueAt_22 ?_
        refine lv_iload_n hx hb dX1_valueAt_25 rfl (lv_at hl 1 rfl) ?_
        obtain ⟨g4, hm⟩ := gdi_of hm
        refine va_iald hx hb hK hP 1 0 rfl rfl g4 dX1_valueAt_26 ?_
        refine lv_goto (tgt := 31) hx hb dX1_valueAt_27 (by decide) ?_
        rw [← hQ]
        exact W.iret (v := (uO.2.1 0 (p1).toNatClampNeg)) hx hb hr (fun t ht1 hW => ⟨⟨_, (), rfl, hm, by rw [ht1]; exact hP, hD⟩, hS.F ht1⟩) hS.2.2 dX1_valueAt_31

def f_X1_change (uO : OS) (p1 : Int32) (p2 : Int32) : Option (OS × Int32) :=
  if p1 < (0 : Int32) then (
  some (uO, (-1 : Int32))) else (
  if (uO.1 1) ≤ p1 then (
  some (uO, (-1 : Int32))) else (
  if p1 < (nI (uO.2.2.2 0)) then (
  gdi p1 (uO.2.2.2 0) <|
  gdi p1 (uO.2.2.2 0) <|
  bnd (sA uO 0 p1 ((uO.2.1 0 (p1).toNatClampNeg) ^^^ p2)) fun u6 =>
  gdi p1 (u6.2.2.2 0) <|
  some (u6, (u6.2.1 0 (p1).toNatClampNeg))) else (
  some (uO, (-1 : Int32)))))

set_option maxHeartbeats 4000000 in
set_option maxRecDepth 100000 in
theorem c_X1_change (l : Launch) (dC : Nat → ClassId) (dI : Nat → Nat → Nat) (cI cJ : ClassId) (aO : Nat) (jO : Nat → Nat) (sz : Nat) (uO : OS) (p1 : Int32) (p2 : Int32) (o : OS × Int32) (hm : f_X1_change uO p1 p2 = some o) : Met l yX1_change (wq yX1_change cX1_change 3 (some .int)) ({ frames := 0, cells := 0, slots := 0, locals := 0 } : Room) (va_Pc [.ref aO, .int p1, .int p2] (pcW dC dI cI cJ sz ([wO cI cJ aO jO uO] : List va_W).flatten)) (va_Qi (S := OS) (fun r u => some (u, r) = some o) (fun (u : OS) t => va_P (dC, dI) vwCl ([wO cI cJ aO jO u] : List va_W).flatten t.heap ∧ va_D (va_A ([wO cI cJ aO jO uO] : List va_W).flatten sz) ([wO cI cJ aO jO u] : List va_W).flatten) (va_A ([wO cI cJ aO jO uO] : List va_W).flatten sz)) 0 0 (va_A ([wO cI cJ aO jO uO] : List va_W).flatten sz) := by
  refine Met.ofW (cc := cX1_change) (maxL := 3) (ret := (some .int)) (by decide) rfl ?_
  intro p e s m args below meth c s₁ B hml hv
  obtain ⟨rfl, hsz, hP, hK, hD0, hN⟩ := hv
  have hx := B.exec
  have hb := B.bytes
  have hr := B.returns
  have ht : ∀ w ∈ lw_good, w.before _ s = true := fun w h => atoms_spec (ws := wq yX1_change cX1_change 3 (some .int)) B.pre w (wq_mem h)
  have hown : s.vm.findClass RX1 = some m.cls := findClass_of_methodNamed B.named
  have hlocks := B.notSynchronized
  subst hsz
  have hD := hD0.self (sz := s.heap.size)
  generalize hAe : va_A ([wO cI cJ aO jO uO] : List va_W).flatten s.heap.size = A at hD ⊢
  have hA : ∀ q : Nat, s.heap.size ≤ q → A q := fun q h => by rw [← hAe]; exact Or.inr h
  have hS : va_S A s.heap s.heap [] := va_S.rf
  have hl := lv_entry ([.ref aO, .int p1, .int p2]) (n := 3) (Nat.le_of_ble_eq_true rfl)
  rw [lg_entry_eq]
  generalize (lg_sl ([.ref aO, .int p1, .int p2]) ++ List.replicate (3 - (lg_sl ([.ref aO, .int p1, .int p2])).length) Slot.unset).toArray = ls at hl ⊢
  have hl : lv_has ls 3 [(0, .ref aO), (1, .int p1), (2, .int p2)] := hl
  generalize hQ : MQ below _ _ s _ _ _ = Q
  generalize hH : s.heap = H at hP ⊢
  have hS : va_S A s.heap H [] := by rw [← hH]; exact va_S.rf
  show W p l e ({ frames := 0, cells := 0, slots := 0, locals := 0 } : Room) s m ([.ref aO, .int p1, .int p2] : List Value).toArray below meth c H [] 0 0 Q (F0 m 0 ls [])
  unfold f_X1_change at hm
  refine lv_iload_n hx hb dX1_change_0 rfl (lv_at hl 1 rfl) ?_
  refine lv_if_lt (tgt := 21) hx hb dX1_change_1 (by decide) (fun c1 => ?_) (fun c1 => ?_)
  · have hm := ite_t c1 hm
    refine lv_iconst (v := (-1 : Int32)) hx hb dX1_change_21 (by decide) ?_
    rw [← hQ]
    exact W.iret (v := (-1 : Int32)) hx hb hr (fun t ht1 hW => ⟨⟨_, uO, rfl, hm, by rw [ht1]; exact hP, hD⟩, hS.F ht1⟩) hS.2.2 dX1_change_22
  · have hm := ite_f c1 hm
    refine lv_iload_n hx hb dX1_change_4 rfl (lv_at hl 1 rfl) ?_
    refine lv_aload_n hx hb dX1_change_5 rfl (lv_at hl 0 rfl) ?_
    refine va_get (D := (dC, dI)) (ci := 2) (v := .int (uO.1 1)) (C := RX1) (T := TX1) (N := 3) hx hb ht inX1 hown hK hP 0 rfl rfl 1 (by decide) (ht _ kw_167) (fun _ h9 => h9) rfl dX1_change_6 ?_
    refine lv_icmp_ge (tgt := 21) hx hb dX1_change_9 (by decide) (fun c2 => ?_) (fun c2 => ?_)
    · have hm := ite_t c2 hm
      refine lv_iconst (v := (-1 : Int32)) hx hb dX1_change_21 (by decide) ?_
      rw [← hQ]
      exact W.iret (v := (-1 : Int32)) hx hb hr (fun t ht1 hW => ⟨⟨_, uO, rfl, hm, by rw [ht1]; exact hP, hD⟩, hS.F ht1⟩) hS.2.2 dX1_change_22
    · have hm := ite_f c2 hm
      refine lv_iload_n hx hb dX1_change_12 rfl (lv_at hl 1 rfl) ?_
      refine lv_aload_n hx hb dX1_change_13 rfl (lv_at hl 0 rfl) ?_
      refine va_get (D := (dC, dI)) (ci := 2) (v := .ref (jO 0)) (C := RX1) (T := TX1) (N := 3) hx hb ht inX1 hown hK hP 0 rfl rfl 0 (by decide) (ht _ kw_169) (fun _ h9 => h9) rfl dX1_change_14 ?_
      refine va_alen (v := (nI (uO.2.2.2 0))) hx hb hK hP 1 0 rfl rfl rfl dX1_change_17 ?_
      refine lv_icmp_lt (tgt := 23) hx hb dX1_change_18 (by decide) (fun c3 => ?_) (fun c3 => ?_)
      · have hm := ite_t c3 hm
        refine lv_aload_n hx hb dX1_change_23 rfl (lv_at hl 0 rfl) ?_
        refine va_get (D := (dC, dI)) (ci := 2) (v := .ref (jO 0)) (C := RX1) (T := TX1) (N := 3) hx hb ht inX1 hown hK hP 0 rfl rfl 0 (by decide) (ht _ kw_169) (fun _ h9 => h9) rfl dX1_change_24 ?_
        refine lv_iload_n hx hb dX1_change_27 rfl (lv_at hl 1 rfl) ?_
        refine lv_dup2_11 hx hb dX1_change_28 rfl rfl ?_
        obtain ⟨g4, hm⟩ := gdi_of hm
        refine va_iald hx hb hK hP 1 0 rfl rfl g4 dX1_change_29 ?_
        refine lv_iload_n hx hb dX1_change_30 rfl (lv_at hl 2 rfl) ?_
        refine lv_ixor hx hb dX1_change_31 ?_
        obtain ⟨g5, hm⟩ := gdi_of hm
        refine va_iast hx hb hK hP hD hS 1 0 rfl rfl g5 dX1_change_32 (fun H locs hP hD hS => ?_)
        obtain ⟨u6, eu6, hm⟩ := bnd_ex hm
        have hP : va_P (dC, dI) vwCl ([wO cI cJ aO jO u6] : List va_W).flatten H := by rw [eu6]; exact hP
        have hD : va_D A ([wO cI cJ aO jO u6] : List va_W).flatten := by rw [eu6]; exact hD
        refine lv_aload_n hx hb dX1_change_33 rfl (lv_at hl 0 rfl) ?_
        refine va_get (D := (dC, dI)) (ci := 2) (v := .ref (jO 0)) (C := RX1) (T := TX1) (N := 3) hx hb ht inX1 hown hK hP 0 rfl rfl 0 (by decide) (ht _ kw_169) (fun _ h9 => h9) rfl dX1_change_34 ?_
        refine lv_iload_n hx hb dX1_change_37 rfl (lv_at hl 1 rfl) ?_
        obtain ⟨g7, hm⟩ := gdi_of hm
        refine va_iald hx hb hK hP 1 0 rfl rfl g7 dX1_change_38 ?_
        rw [← hQ]
        exact W.iret (v := (u6.2.1 0 (p1).toNatClampNeg)) hx hb hr (fun t ht1 hW => ⟨⟨_, u6, rfl, hm, by rw [ht1]; exact hP, hD⟩, hS.F ht1⟩) hS.2.2 dX1_change_39
      · have hm := ite_f c3 hm
        refine lv_iconst (v := (-1 : Int32)) hx hb dX1_change_21 (by decide) ?_
        rw [← hQ]
        exact W.iret (v := (-1 : Int32)) hx hb hr (fun t ht1 hW => ⟨⟨_, uO, rfl, hm, by rw [ht1]; exact hP, hD⟩, hS.F ht1⟩) hS.2.2 dX1_change_22

def f_X1_appendNumber_L5 (p1 : Int64) : Nat → (Int32 → OS → Option ((OS) × Nat × Nat)) → Int32 → OS → Option ((OS) × Nat × Nat)
  | 0, _, _, _ => none
  | n5 + 1, K29_8, x3, u4 =>
    if x3 < (0 : Int32) then (
    K29_8 x3 u4) else (
    oA2 (f_X1_append u4 ((((p1).toUInt64 >>> ((((8 : Int32) * x3)).toInt64.toUInt64 &&& Int64.toUInt64 63)).toInt64)).toInt32) fun u10 r12 kc14 ks14 =>
    addc kc14 ks14 <|
    bnd (x3 + (-1 : Int32)) fun x16 =>
    f_X1_appendNumber_L5 p1 n5 K29_8 x16 u10)

def f_X1_appendNumber (uO : OS) (p1 : Int64) (p2 : Int32) : Option ((OS) × Nat × Nat) :=
  bnd (p2 - (1 : Int32)) fun x1 =>
  bnd (fun (x6 : Int32) (u7 : OS) =>
  some (u7, 0, 0)) fun K29_8 =>
  f_X1_appendNumber_L5 p1 FU K29_8 x1 uO

set_option maxHeartbeats 4000000 in
set_option maxRecDepth 100000 in
theorem c_X1_appendNumber (l : Launch) (dC : Nat → ClassId) (dI : Nat → Nat → Nat) (cI cJ : ClassId) (aO : Nat) (jO : Nat → Nat) (sz : Nat) (uO : OS) (p1 : Int64) (p2 : Int32) (o : OS) (mc ms : Nat) (hm : f_X1_appendNumber uO p1 p2 = some (o, mc, ms)) : Met l yX1_appendNumber (wq yX1_appendNumber cX1_appendNumber 5 none) ({ frames := 4, cells := mc, slots := ms, locals := 123 } : Room) (va_Pc [.ref aO, .long p1, .int p2] (pcW dC dI cI cJ sz ([wO cI cJ aO jO uO] : List va_W).flatten)) (va_Qv (S := OS) (fun u => some u = some o) (fun (u : OS) t => ∃ hhO : Nat → Nat, va_P (dC, dI) vwCl ([wO cI cJ aO hhO u] : List va_W).flatten t.heap ∧ va_D (va_A ([wO cI cJ aO jO uO] : List va_W).flatten sz) ([wO cI cJ aO hhO u] : List va_W).flatten) (va_A ([wO cI cJ aO jO uO] : List va_W).flatten sz)) mc ms (va_A ([wO cI cJ aO jO uO] : List va_W).flatten sz) := by
  refine Met.ofW (cc := cX1_appendNumber) (maxL := 5) (ret := none) (by decide) rfl ?_
  intro p e s m args below meth c s₁ B hml hv
  obtain ⟨rfl, hsz, hP, hK, hD0, hN⟩ := hv
  have hx := B.exec
  have hb := B.bytes
  have hr := B.returns
  have ht : ∀ w ∈ lw_good, w.before _ s = true := fun w h => atoms_spec (ws := wq yX1_appendNumber cX1_appendNumber 5 none) B.pre w (wq_mem h)
  have hown : s.vm.findClass RX1 = some m.cls := findClass_of_methodNamed B.named
  have hlocks := B.notSynchronized
  subst hsz
  have hD := hD0.self (sz := s.heap.size)
  generalize hAe : va_A ([wO cI cJ aO jO uO] : List va_W).flatten s.heap.size = A at hD ⊢
  have hA : ∀ q : Nat, s.heap.size ≤ q → A q := fun q h => by rw [← hAe]; exact Or.inr h
  have hS : va_S A s.heap s.heap [] := va_S.rf
  have hl := lv_entry ([.ref aO, .long p1, .int p2]) (n := 5) (Nat.le_of_ble_eq_true rfl)
  rw [lg_entry_eq]
  generalize (lg_sl ([.ref aO, .long p1, .int p2]) ++ List.replicate (5 - (lg_sl ([.ref aO, .long p1, .int p2])).length) Slot.unset).toArray = ls at hl ⊢
  have hl : lv_has ls 5 [(0, .ref aO), (1, .long p1), (3, .int p2)] := hl
  generalize hQ : MQ below _ _ s _ _ _ = Q
  generalize hH : s.heap = H at hP ⊢
  have hS : va_S A s.heap H [] := by rw [← hH]; exact va_S.rf
  obtain ⟨ce, hce⟩ := ex_eq (0 : Nat)
  obtain ⟨sl, hsl⟩ := ex_eq (0 : Nat)
  obtain ⟨kc, hkc⟩ := ex_eq mc
  obtain ⟨ks, hks⟩ := ex_eq ms
  rw [← hkc, ← hks] at hm
  have hc1 : ce + kc = mc := by omega
  have hc2 : sl + ks = ms := by omega
  suffices hw : W p l e ({ frames := 4, cells := mc, slots := ms, locals := 123 } : Room) s m ([.ref aO, .long p1, .int p2] : List Value).toArray below meth c H [] ce sl Q (F0 m 0 ls []) by rw [hce, hsl] at hw; exact hw
  clear hce hsl hkc hks
  unfold f_X1_appendNumber at hm
  refine lv_iload_n hx hb dX1_appendNumber_0 rfl (lv_at hl 2 rfl) ?_
  refine lv_iconst (v := (1 : Int32)) hx hb dX1_appendNumber_1 (by decide) ?_
  refine lv_isub hx hb dX1_appendNumber_2 ?_
  refine lv_topi (fun x1 ex1 => ?_)
  have hm := bnd_nm ex1 hm
  refine lv_istore (lv' := [(4, .int x1), (0, .ref aO), (1, .long p1), (3, .int p2)]) hx hb dX1_appendNumber_3 hl (by decide) rfl (fun ls hl => ?_)
  obtain ⟨K29_8, eK29_8, hm⟩ := bnd_ex hm
  have X29_8 : ∀ (x6 : Int32) (u7 : OS) (hg5 : Nat → Nat) (ce sl kc ks : Nat) (H : Heap) (locs : List Loc) (ls : Array Slot), K29_8 x6 u7 = some (o, kc, ks) → ce + kc = mc → sl + ks = ms → va_P (dC, dI) vwCl ([wO cI cJ aO hg5 u7] : List va_W).flatten H → va_D A ([wO cI cJ aO hg5 u7] : List va_W).flatten → va_S A s.heap H locs → lv_has ls 5 [(0, .ref aO), (1, .long p1), (3, .int p2), (4, .int x6)] → W p l e ({ frames := 4, cells := mc, slots := ms, locals := 123 } : Room) s m ([.ref aO, .long p1, .int p2] : List Value).toArray below meth c H locs ce sl Q (F0 m 29 ls []) := by
    intro x6 u7 hg5 ce sl kc ks H locs ls hm hc1 hc2 hP hD hS hl
    have hm := ap2 eK29_8 hm
    obtain ⟨hmz, hz1, hz2⟩ := ret0 hm
    subst hz1
    subst hz2
    refine W.cs (cells' := mc) (slots' := ms) hc1 hc2 ?_
    rw [← hQ]
    exact W.vret hx hb hr (fun t ht1 hW => ⟨⟨u7, rfl, hmz, hg5, by rw [ht1]; exact hP, hD⟩, hS.F ht1⟩) hS.2.2 dX1_appendNumber_29
  have LP5 : ∀ (n5 : Nat) (x3 : Int32) (u4 : OS) (hg2 : Nat → Nat) (ce sl kc ks : Nat) (H : Heap) (locs : List Loc) (ls : Array Slot), f_X1_appendNumber_L5 p1 n5 K29_8 x3 u4 = some (o, kc, ks) → ce + kc = mc → sl + ks = ms → va_P (dC, dI) vwCl ([wO cI cJ aO hg2 u4] : List va_W).flatten H → va_D A ([wO cI cJ aO hg2 u4] : List va_W).flatten → va_S A s.heap H locs → lv_has ls 5 [(0, .ref aO), (1, .long p1), (3, .int p2), (4, .int x3)] → W p l e ({ frames := 4, cells := mc, slots := ms, locals := 123 } : Room) s m ([.ref aO, .long p1, .int p2] : List Value).toArray below meth c H locs ce sl Q (F0 m 5 ls []) := by
    intro n5
    induction n5 with
    | zero => intro x3 u4 hg2 ce sl kc ks H locs ls hm; exact nomatch (show (none : Option _) = some _ from hm)
    | succ n5 ih5 =>
      intro x3 u4 hg2 ce sl kc ks H locs ls hm hc1 hc2 hP hD hS hl
      unfold f_X1_appendNumber_L5 at hm
      refine lv_iload hx hb dX1_appendNumber_5 (lv_at hl 3 rfl) ?_
      refine lv_if_lt (tgt := 29) hx hb dX1_appendNumber_7 (by decide) (fun c9 => ?_) (fun c9 => ?_)
      · have hm := ite_t c9 hm
        exact X29_8 x3 u4 hg2 _ _ _ _ _ _ _ hm hc1 hc2 hP hD hS (lv_sub hl [0, 1, 2, 3] rfl)
      · have hm := ite_f c9 hm
        refine lv_aload_n hx hb dX1_appendNumber_10 rfl (lv_at hl 0 rfl) ?_
        refine lv_lload_n hx hb dX1_appendNumber_11 rfl (lv_at hl 1 rfl) ?_
        refine lv_bipush (v := (8 : Int32)) hx hb dX1_appendNumber_12 (by decide) ?_
        refine lv_iload hx hb dX1_appendNumber_14 (lv_at hl 3 rfl) ?_
        refine lv_imul hx hb dX1_appendNumber_16 ?_
        refine lv_lushr hx hb dX1_appendNumber_17 rfl ?_
        refine lv_l2i hx hb dX1_appendNumber_18 rfl ?_
        have hPc : va_P (dC, dI) vwCl ([wO cI cJ aO hg2 u4] : List va_W).flatten _ := hP
        have hDc : va_D A ([wO cI cJ aO hg2 u4] : List va_W).flatten := hD
        have hFc := va_freeF (fc := ([wO cI cJ aO hg2 u4] : List va_W)) hD hS hA [0] rfl
        obtain ⟨u10o, r12o, kc14, ks14, e13, hm⟩ := oA2_of hm
        obtain ⟨kcq15, ksq15, hm, hkcq15, hksq15⟩ := addc_of hm
        refine va_calli (va_runV (As := [.int ((((p1).toUInt64 >>> ((((8 : Int32) * x3)).toInt64.toUInt64 &&& Int64.toUInt64 63)).toInt64)).toInt32]) (rest := []) ⟨hx, hb, hml, hown, ht⟩ (c_X1_append l dC dI cI cJ aO hg2 H.size u4 ((((p1).toUInt64 >>> ((((8 : Int32) * x3)).toInt64.toUInt64 &&& Int64.toUInt64 63)).toInt64)).toInt32 (u10o, r12o) kc14 ks14 e13) (cwV 1 ht (gdV kw_176 kw_174 kw_175 kw_173 kw_172) rfl rfl rfl ⟨rfl, nd_X1_append⟩ ⟨Nat.le_of_ble_eq_true rfl, Nat.le_of_ble_eq_true rfl⟩) ⟨pcW_blind, va_recv hK hPc (ci := 2) (q0 := 0) rfl rfl, pcW_pre hPc hK hDc hN⟩ rfl rfl hl.1 rfl (lv_room (Nat.le_of_ble_eq_true rfl)) dX1_appendNumber_19 ⟨cle hc1 hkcq15, cle hc2 hksq15⟩) hS (fun q _ z => hFc q z) hFc (fun r12 uu t H1 locs ht1 hvm hw hB hz1 hk1 hS => ?_)
        obtain ⟨u10, rfl⟩ : ∃ z, z = uu := ⟨_, rfl⟩
        obtain ⟨h11, hP1, hD1⟩ := hB
        rw [ht1] at hP1
        obtain ⟨q0, q1⟩ := inj2 hw
        subst q0
        subst q1
        have hP : va_P (dC, dI) vwCl ([wO cI cJ aO h11 u10] : List va_W).flatten H1 := hP1
        have hD : va_D A ([wO cI cJ aO h11 u10] : List va_W).flatten := hD1.weaken (fun _ q _ z => hFc q.1 z)
        generalize H1 = H at hP hS ⊢
        have hc1 := cadd hc1 hkcq15
        have hc2 := cadd hc2 hksq15
        refine lv_pop hx hb dX1_appendNumber_22 rfl ?_
        obtain ⟨x16, ex16, hm⟩ := bnd_ex hm
        refine lv_iinc (v := x16) (lv' := [(4, .int x16), (0, .ref aO), (1, .long p1), (3, .int p2)]) hx hb dX1_appendNumber_23 hl (k := 3) rfl (by rw [ex16]; exact congrArg _ (by decide)) (by decide) rfl (fun ls hl => ?_)
        refine lv_goto (tgt := 5) hx hb dX1_appendNumber_26 (by decide) ?_
        exact ih5 x16 u10 h11 _ _ _ _ _ _ _ hm hc1 hc2 hP hD hS (lv_sub hl [1, 2, 3, 0] rfl)
  exact LP5 FU x1 uO jO _ _ _ _ _ _ _ hm hc1 hc2 hP hD hS (lv_sub hl [1, 2, 3, 0] rfl)

def f_X1_appendBits_L4 (p1 : Int32) : Nat → (Int32 → OS → Option ((OS) × Nat × Nat)) → Int32 → OS → Option ((OS) × Nat × Nat)
  | 0, _, _, _ => none
  | n4 + 1, K74_8, x3, u4 =>
    if x3 < (0 : Int32) then (
    K74_8 x3 u4) else (
    bnd (fun (u11 : OS) =>
    bnd (sF u11 2 ((u11.1 2) - (1 : Int32))) fun u13 =>
    if (u13.1 1) ≤ (0 : Int32) then (
    bnd (x3 + (-1 : Int32)) fun x15 =>
    f_X1_appendBits_L4 p1 n4 K74_8 x15 u13) else (
    gdi ((u13.1 1) - (1 : Int32)) (u13.2.2.2 0) <|
    gdi ((u13.1 1) - (1 : Int32)) (u13.2.2.2 0) <|
    bnd (sA u13 0 ((u13.1 1) - (1 : Int32)) ((u13.2.1 0 (((u13.1 1) - (1 : Int32))).toNatClampNeg) ||| (((p1 >>> (x3 &&& (31 : Int32))) &&& (1 : Int32)) <<< ((u13.1 2) &&& (31 : Int32))))) fun u18 =>
    bnd (x3 + (-1 : Int32)) fun x19 =>
    f_X1_appendBits_L4 p1 n4 K74_8 x19 u18)) fun K27_12 =>
    if (u4.1 2) = (0 : Int32) then (
    oA2 (f_X1_append u4 (0 : Int32)) fun u21 r23 kc25 ks25 =>
    addc kc25 ks25 <|
    bnd (sF u21 2 (8 : Int32)) fun u27 =>
    K27_12 u27) else (
    K27_12 u4))

def f_X1_appendBits (uO : OS) (p1 : Int32) (p2 : Int32) : Option ((OS) × Nat × Nat) :=
  bnd (p2 - (1 : Int32)) fun x1 =>
  bnd (fun (x6 : Int32) (u7 : OS) =>
  some (u7, 0, 0)) fun K74_8 =>
  f_X1_appendBits_L4 p1 FU K74_8 x1 uO

set_option maxHeartbeats 4000000 in
set_option maxRecDepth 100000 in
theorem c_X1_appendBits (l : Launch) (dC : Nat → ClassId) (dI : Nat → Nat → Nat) (cI cJ : ClassId) (aO : Nat) (jO : Nat → Nat) (sz : Nat) (uO : OS) (p1 : Int32) (p2 : Int32) (o : OS) (mc ms : Nat) (hm : f_X1_appendBits uO p1 p2 = some (o, mc, ms)) : Met l yX1_appendBits (wq yX1_appendBits cX1_appendBits 4 none) ({ frames := 4, cells := mc, slots := ms, locals := 123 } : Room) (va_Pc [.ref aO, .int p1, .int p2] (pcW dC dI cI cJ sz ([wO cI cJ aO jO uO] : List va_W).flatten)) (va_Qv (S := OS) (fun u => some u = some o) (fun (u : OS) t => ∃ hhO : Nat → Nat, va_P (dC, dI) vwCl ([wO cI cJ aO hhO u] : List va_W).flatten t.heap ∧ va_D (va_A ([wO cI cJ aO jO uO] : List va_W).flatten sz) ([wO cI cJ aO hhO u] : List va_W).flatten) (va_A ([wO cI cJ aO jO uO] : List va_W).flatten sz)) mc ms (va_A ([wO cI cJ aO jO uO] : List va_W).flatten sz) := by
  refine Met.ofW (cc := cX1_appendBits) (maxL := 4) (ret := none) (by decide) rfl ?_
  intro p e s m args below meth c s₁ B hml hv
  obtain ⟨rfl, hsz, hP, hK, hD0, hN⟩ := hv
  have hx := B.exec
  have hb := B.bytes
  have hr := B.returns
  have ht : ∀ w ∈ lw_good, w.before _ s = true := fun w h => atoms_spec (ws := wq yX1_appendBits cX1_appendBits 4 none) B.pre w (wq_mem h)
  have hown : s.vm.findClass RX1 = some m.cls := findClass_of_methodNamed B.named
  have hlocks := B.notSynchronized
  subst hsz
  have hD := hD0.self (sz := s.heap.size)
  generalize hAe : va_A ([wO cI cJ aO jO uO] : List va_W).flatten s.heap.size = A at hD ⊢
  have hA : ∀ q : Nat, s.heap.size ≤ q → A q := fun q h => by rw [← hAe]; exact Or.inr h
  have hS : va_S A s.heap s.heap [] := va_S.rf
  have hl := lv_entry ([.ref aO, .int p1, .int p2]) (n := 4) (Nat.le_of_ble_eq_true rfl)
  rw [lg_entry_eq]
  generalize (lg_sl ([.ref aO, .int p1, .int p2]) ++ List.replicate (4 - (lg_sl ([.ref aO, .int p1, .int p2])).length) Slot.unset).toArray = ls at hl ⊢
  have hl : lv_has ls 4 [(0, .ref aO), (1, .int p1), (2, .int p2)] := hl
  generalize hQ : MQ below _ _ s _ _ _ = Q
  generalize hH : s.heap = H at hP ⊢
  have hS : va_S A s.heap H [] := by rw [← hH]; exact va_S.rf
  obtain ⟨ce, hce⟩ := ex_eq (0 : Nat)
  obtain ⟨sl, hsl⟩ := ex_eq (0 : Nat)
  obtain ⟨kc, hkc⟩ := ex_eq mc
  obtain ⟨ks, hks⟩ := ex_eq ms
  rw [← hkc, ← hks] at hm
  have hc1 : ce + kc = mc := by omega
  have hc2 : sl + ks = ms := by omega
  suffices hw : W p l e ({ frames := 4, cells := mc, slots := ms, locals := 123 } : Room) s m ([.ref aO, .int p1, .int p2] : List Value).toArray below meth c H [] ce sl Q (F0 m 0 ls []) by rw [hce, hsl] at hw; exact hw
  clear hce hsl hkc hks
  unfold f_X1_appendBits at hm
  refine lv_iload_n hx hb dX1_appendBits_0 rfl (lv_at hl 2 rfl) ?_
  refine lv_iconst (v := (1 : Int32)) hx hb dX1_appendBits_1 (by decide) ?_
  refine lv_isub hx hb dX1_appendBits_2 ?_
  refine lv_topi (fun x1 ex1 => ?_)
  have hm := bnd_nm ex1 hm
  refine lv_istore_n (lv' := [(3, .int x1), (0, .ref aO), (1, .int p1), (2, .int p2)]) hx hb dX1_appendBits_3 rfl hl (by decide) rfl (fun ls hl => ?_)
  obtain ⟨K74_8, eK74_8, hm⟩ := bnd_ex hm
  have X74_8 : ∀ (x6 : Int32) (u7 : OS) (hg5 : Nat → Nat) (ce sl kc ks : Nat) (H : Heap) (locs : List Loc) (ls : Array Slot), K74_8 x6 u7 = some (o, kc, ks) → ce + kc = mc → sl + ks = ms → va_P (dC, dI) vwCl ([wO cI cJ aO hg5 u7] : List va_W).flatten H → va_D A ([wO cI cJ aO hg5 u7] : List va_W).flatten → va_S A s.heap H locs → lv_has ls 4 [(0, .ref aO), (1, .int p1), (2, .int p2), (3, .int x6)] → W p l e ({ frames := 4, cells := mc, slots := ms, locals := 123 } : Room) s m ([.ref aO, .int p1, .int p2] : List Value).toArray below meth c H locs ce sl Q (F0 m 74 ls []) := by
    intro x6 u7 hg5 ce sl kc ks H locs ls hm hc1 hc2 hP hD hS hl
    have hm := ap2 eK74_8 hm
    obtain ⟨hmz, hz1, hz2⟩ := ret0 hm
    subst hz1
    subst hz2
    refine W.cs (cells' := mc) (slots' := ms) hc1 hc2 ?_
    rw [← hQ]
    exact W.vret hx hb hr (fun t ht1 hW => ⟨⟨u7, rfl, hmz, hg5, by rw [ht1]; exact hP, hD⟩, hS.F ht1⟩) hS.2.2 dX1_appendBits_74
  have LP4 : ∀ (n4 : Nat) (x3 : Int32) (u4 : OS) (hg2 : Nat → Nat) (ce sl kc ks : Nat) (H : Heap) (locs : List Loc) (ls : Array Slot), f_X1_appendBits_L4 p1 n4 K74_8 x3 u4 = some (o, kc, ks) → ce + kc = mc → sl + ks = ms → va_P (dC, dI) vwCl ([wO cI cJ aO hg2 u4] : List va_W).flatten H → va_D A ([wO cI cJ aO hg2 u4] : List va_W).flatten → va_S A s.heap H locs → lv_has ls 4 [(0, .ref aO), (1, .int p1), (2, .int p2), (3, .int x3)] → W p l e ({ frames := 4, cells := mc, slots := ms, locals := 123 } : Room) s m ([.ref aO, .int p1, .int p2] : List Value).toArray below meth c H locs ce sl Q (F0 m 4 ls []) := by
    intro n4
    induction n4 with
    | zero => intro x3 u4 hg2 ce sl kc ks H locs ls hm; exact nomatch (show (none : Option _) = some _ from hm)
    | succ n4 ih4 =>
      intro x3 u4 hg2 ce sl kc ks H locs ls hm hc1 hc2 hP hD hS hl
      unfold f_X1_appendBits_L4 at hm
      refine lv_iload_n hx hb dX1_appendBits_4 rfl (lv_at hl 3 rfl) ?_
      refine lv_if_lt (tgt := 74) hx hb dX1_appendBits_5 (by decide) (fun c9 => ?_) (fun c9 => ?_)
      · have hm := ite_t c9 hm
        exact X74_8 x3 u4 hg2 _ _ _ _ _ _ _ hm hc1 hc2 hP hD hS (lv_sub hl [0, 1, 2, 3] rfl)
      · have hm := ite_f c9 hm
        refine lv_aload_n hx hb dX1_appendBits_8 rfl (lv_at hl 0 rfl) ?_
        refine va_get (D := (dC, dI)) (ci := 2) (v := .int (u4.1 2)) (C := RX1) (T := TX1) (N := 3) hx hb ht inX1 hown hK hP 0 rfl rfl 2 (by decide) (ht _ kw_168) (fun _ h9 => h9) rfl dX1_appendBits_9 ?_
        obtain ⟨K27_12, eK27_12, hm⟩ := bnd_ex hm
        have J27_12 : ∀ (u11 : OS) (hg10 : Nat → Nat) (ce sl kc ks : Nat) (H : Heap) (locs : List Loc) (ls : Array Slot), K27_12 u11 = some (o, kc, ks) → ce + kc = mc → sl + ks = ms → va_P (dC, dI) vwCl ([wO cI cJ aO hg10 u11] : List va_W).flatten H → va_D A ([wO cI cJ aO hg10 u11] : List va_W).flatten → va_S A s.heap H locs → lv_has ls 4 [(0, .ref aO), (1, .int p1), (2, .int p2), (3, .int x3)] → W p l e ({ frames := 4, cells := mc, slots := ms, locals := 123 } : Room) s m ([.ref aO, .int p1, .int p2] : List Value).toArray below meth c H locs ce sl Q (F0 m 27 ls []) := by
          intro u11 hg10 ce sl kc ks H locs ls hm hc1 hc2 hP hD hS hl
          have hm := ap1 eK27_12 hm
          refine lv_aload_n hx hb dX1_appendBits_27 rfl (lv_at hl 0 rfl) ?_
          refine lv_dup hx hb dX1_appendBits_28 rfl ?_
          refine va_get (D := (dC, dI)) (ci := 2) (v := .int (u11.1 2)) (C := RX1) (T := TX1) (N := 3) hx hb ht inX1 hown hK hP 0 rfl rfl 2 (by decide) (ht _ kw_168) (fun _ h9 => h9) rfl dX1_appendBits_29 ?_
          refine lv_iconst (v := (1 : Int32)) hx hb dX1_appendBits_32 (by decide) ?_
          refine lv_isub hx hb dX1_appendBits_33 ?_
          refine va_put (D := (dC, dI)) (ci := 2) (v := .int ((u11.1 2) - (1 : Int32))) (ty := .int) (C := RX1) (T := TX1) (N := 3) hx hb ht inX1 tyX1 tyX1_ok nmX1 hown hK hP hD hS 0 rfl rfl 2 (by decide) (ht _ kw_168) (fun _ h9 => h9) rfl (by decide +kernel) rfl rfl (Nat.le_of_ble_eq_true rfl) dX1_appendBits_34 (fun H locs hP hD hS => ?_)
          obtain ⟨u13, eu13, hm⟩ := bnd_ex hm
          have hP : va_P (dC, dI) vwCl ([wO cI cJ aO hg10 u13] : List va_W).flatten H := by rw [eu13]; exact hP
          have hD : va_D A ([wO cI cJ aO hg10 u13] : List va_W).flatten := by rw [eu13]; exact hD
          refine lv_aload_n hx hb dX1_appendBits_37 rfl (lv_at hl 0 rfl) ?_
          refine va_get (D := (dC, dI)) (ci := 2) (v := .int (u13.1 1)) (C := RX1) (T := TX1) (N := 3) hx hb ht inX1 hown hK hP 0 rfl rfl 1 (by decide) (ht _ kw_167) (fun _ h9 => h9) rfl dX1_appendBits_38 ?_
          refine lv_if_le (tgt := 68) hx hb dX1_appendBits_41 (by decide) (fun c14 => ?_) (fun c14 => ?_)
          · have hm := ite_t c14 hm
            obtain ⟨x15, ex15, hm⟩ := bnd_ex hm
            refine lv_iinc (v := x15) (lv' := [(3, .int x15), (0, .ref aO), (1, .int p1), (2, .int p2)]) hx hb dX1_appendBits_68 hl (k := 3) rfl (by rw [ex15]; exact congrArg _ (by decide)) (by decide) rfl (fun ls hl => ?_)
            refine lv_goto (tgt := 4) hx hb dX1_appendBits_71 (by decide) ?_
            exact ih4 x15 u13 hg10 _ _ _ _ _ _ _ hm hc1 hc2 hP hD hS (lv_sub hl [1, 2, 3, 0] rfl)
          · have hm := ite_f c14 hm
            refine lv_aload_n hx hb dX1_appendBits_44 rfl (lv_at hl 0 rfl) ?_
            refine va_get (D := (dC, dI)) (ci := 2) (v := .ref (hg10 0)) (C := RX1) (T := TX1) (N := 3) hx hb ht inX1 hown hK hP 0 rfl rfl 0 (by decide) (ht _ kw_169) (fun _ h9 => h9) rfl dX1_appendBits_45 ?_
            refine lv_aload_n hx hb dX1_appendBits_48 rfl (lv_at hl 0 rfl) ?_
            refine va_get (D := (dC, dI)) (ci := 2) (v := .int (u13.1 1)) (C := RX1) (T := TX1) (N := 3) hx hb ht inX1 hown hK hP 0 rfl rfl 1 (by decide) (ht _ kw_167) (fun _ h9 => h9) rfl dX1_appendBits_49 ?_
            refine lv_iconst (v := (1 : Int32)) hx hb dX1_appendBits_52 (by decide) ?_
            refine lv_isub hx hb dX1_appendBits_53 ?_
            refine lv_dup2_11 hx hb dX1_appendBits_54 rfl rfl ?_
            obtain ⟨g16, hm⟩ := gdi_of hm
            refine va_iald hx hb hK hP 1 0 rfl rfl g16 dX1_appendBits_55 ?_
            refine lv_iload_n hx hb dX1_appendBits_56 rfl (lv_at hl 1 rfl) ?_
            refine lv_iload_n hx hb dX1_appendBits_57 rfl (lv_at hl 3 rfl) ?_
            refine lv_ishr hx hb dX1_appendBits_58 ?_
            refine lv_iconst (v := (1 : Int32)) hx hb dX1_appendBits_59 (by decide) ?_
            refine lv_iand hx hb dX1_appendBits_60 ?_
            refine lv_aload_n hx hb dX1_appendBits_61 rfl (lv_at hl 0 rfl) ?_
            refine va_get (D := (dC, dI)) (ci := 2) (v := .int (u13.1 2)) (C := RX1) (T := TX1) (N := 3) hx hb ht inX1 hown hK hP 0 rfl rfl 2 (by decide) (ht _ kw_168) (fun _ h9 => h9) rfl dX1_appendBits_62 ?_
            refine lv_ishl hx hb dX1_appendBits_65 ?_
            refine lv_ior hx hb dX1_appendBits_66 ?_
            obtain ⟨g17, hm⟩ := gdi_of hm
            refine va_iast hx hb hK hP hD hS 1 0 rfl rfl g17 dX1_appendBits_67 (fun H locs hP hD hS => ?_)
            obtain ⟨u18, eu18, hm⟩ := bnd_ex hm
            have hP : va_P (dC, dI) vwCl ([wO cI cJ aO hg10 u18] : List va_W).flatten H := by rw [eu18]; exact hP
            have hD : va_D A ([wO cI cJ aO hg10 u18] : List va_W).flatten := by rw [eu18]; exact hD
            obtain ⟨x19, ex19, hm⟩ := bnd_ex hm
            refine lv_iinc (v := x19) (lv' := [(3, .int x19), (0, .ref aO), (1, .int p1), (2, .int p2)]) hx hb dX1_appendBits_68 hl (k := 3) rfl (by rw [ex19]; exact congrArg _ (by decide)) (by decide) rfl (fun ls hl => ?_)
            refine lv_goto (tgt := 4) hx hb dX1_appendBits_71 (by decide) ?_
            exact ih4 x19 u18 hg10 _ _ _ _ _ _ _ hm hc1 hc2 hP hD hS (lv_sub hl [1, 2, 3, 0] rfl)
        refine lv_if_ne (tgt := 27) hx hb dX1_appendBits_12 (by decide) (fun c20 => ?_) (fun c20 => ?_)
        · have hm := ite_f c20 hm
          exact J27_12 u4 hg2 _ _ _ _ _ _ _ hm hc1 hc2 hP hD hS (lv_sub hl [0, 1, 2, 3] rfl)
        · have hm := ite_t c20 hm
          refine lv_aload_n hx hb dX1_appendBits_15 rfl (lv_at hl 0 rfl) ?_
          refine lv_iconst (v := (0 : Int32)) hx hb dX1_appendBits_16 (by decide) ?_
          have hPc : va_P (dC, dI) vwCl ([wO cI cJ aO hg2 u4] : List va_W).flatten _ := hP
          have hDc : va_D A ([wO cI cJ aO hg2 u4] : List va_W).flatten := hD
          have hFc := va_freeF (fc := ([wO cI cJ aO hg2 u4] : List va_W)) hD hS hA [0] rfl
          obtain ⟨u21o, r23o, kc25, ks25, e24, hm⟩ := oA2_of hm
          obtain ⟨kcq26, ksq26, hm, hkcq26, hksq26⟩ := addc_of hm
          refine va_calli (va_runV (As := [.int (0 : Int32)]) (rest := []) ⟨hx, hb, hml, hown, ht⟩ (c_X1_append l dC dI cI cJ aO hg2 H.size u4 (0 : Int32) (u21o, r23o) kc25 ks25 e24) (cwV 1 ht (gdV kw_176 kw_174 kw_175 kw_173 kw_172) rfl rfl rfl ⟨rfl, nd_X1_append⟩ ⟨Nat.le_of_ble_eq_true rfl, Nat.le_of_ble_eq_true rfl⟩) ⟨pcW_blind, va_recv hK hPc (ci := 2) (q0 := 0) rfl rfl, pcW_pre hPc hK hDc hN⟩ rfl rfl hl.1 rfl (lv_room (Nat.le_of_ble_eq_true rfl)) dX1_appendBits_17 ⟨cle hc1 hkcq26, cle hc2 hksq26⟩) hS (fun q _ z => hFc q z) hFc (fun r23 uu t H1 locs ht1 hvm hw hB hz1 hk1 hS => ?_)
          obtain ⟨u21, rfl⟩ : ∃ z, z = uu := ⟨_, rfl⟩
          obtain ⟨h22, hP1, hD1⟩ := hB
          rw [ht1] at hP1
          obtain ⟨q0, q1⟩ := inj2 hw
          subst q0
          subst q1
          have hP : va_P (dC, dI) vwCl ([wO cI cJ aO h22 u21] : List va_W).flatten H1 := hP1
          have hD : va_D A ([wO cI cJ aO h22 u21] : List va_W).flatten := hD1.weaken (fun _ q _ z => hFc q.1 z)
          generalize H1 = H at hP hS ⊢
          have hc1 := cadd hc1 hkcq26
          have hc2 := cadd hc2 hksq26
          refine lv_pop hx hb dX1_appendBits_20 rfl ?_
          refine lv_aload_n hx hb dX1_appendBits_21 rfl (lv_at hl 0 rfl) ?_
          refine lv_bipush (v := (8 : Int32)) hx hb dX1_appendBits_22 (by decide) ?_
          refine va_put (D := (dC, dI)) (ci := 2) (v := .int (8 : Int32)) (ty := .int) (C := RX1) (T := TX1) (N := 3) hx hb ht inX1 tyX1 tyX1_ok nmX1 hown hK hP hD hS 0 rfl rfl 2 (by decide) (ht _ kw_168) (fun _ h9 => h9) rfl (by decide +kernel) rfl rfl (Nat.le_of_ble_eq_true rfl) dX1_appendBits_24 (fun H locs hP hD hS => ?_)
          obtain ⟨u27, eu27, hm⟩ := bnd_ex hm
          have hP : va_P (dC, dI) vwCl ([wO cI cJ aO h22 u27] : List va_W).flatten H := by rw [eu27]; exact hP
          have hD : va_D A ([wO cI cJ aO h22 u27] : List va_W).flatten := by rw [eu27]; exact hD
          exact J27_12 u27 h22 _ _ _ _ _ _ _ hm hc1 hc2 hP hD hS (lv_sub hl [0, 1, 2, 3] rfl)
  exact LP4 FU x1 uO jO _ _ _ _ _ _ _ hm hc1 hc2 hP hD hS (lv_sub hl [1, 2, 3, 0] rfl)

def f_X2_empty (uP : OS) : Option (OS) :=
  bnd (sF uP 1 (0 : Int32)) fun u1 =>
  some u1

set_option maxHeartbeats 4000000 in
set_option maxRecDepth 100000 in
theorem c_X2_empty (l : Launch) (dC : Nat → ClassId) (dI : Nat → Nat → Nat) (cI cJ : ClassId) (aP : Nat) (jP : Nat → Nat) (sz : Nat) (uP : OS) (o : OS) (hm : f_X2_empty uP = some o) : Met l yX2_empty (wq yX2_empty cX2_empty 1 none) ({ frames := 0, cells := 0, slots := 0, locals := 0 } : Room) (va_Pc [.ref aP] (pcW dC dI cI cJ sz ([wP cI cJ aP jP uP] : List va_W).flatten)) (va_Qv (S := OS) (fun u => some u = some o) (fun (u : OS) t => va_P (dC, dI) vwCl ([wP cI cJ aP jP u] : List va_W).flatten t.heap ∧ va_D (va_A ([wP cI cJ aP jP uP] : List va_W).flatten sz) ([wP cI cJ aP jP u] : List va_W).flatten) (va_A ([wP cI cJ aP jP uP] : List va_W).flatten sz)) 0 0 (va_A ([wP cI cJ aP jP uP] : List va_W).flatten sz) := by
  refine Met.ofW (cc := cX2_empty) (maxL := 1) (ret := none) (by decide) rfl ?_
  intro p e s m args below meth c s₁ B hml hv
  obtain ⟨rfl, hsz, hP, hK, hD0, hN⟩ := hv
  have hx := B.exec
  have hb := B.bytes
  have hr := B.returns
  have ht : ∀ w ∈ lw_good, w.before _ s = true := fun w h => atoms_spec (ws := wq yX2_empty cX2_empty 1 none) B.pre w (wq_mem h)
  have hown : s.vm.findClass RX2 = some m.cls := findClass_of_methodNamed B.named
  have hlocks := B.notSynchronized
  subst hsz
  have hD := hD0.self (sz := s.heap.size)
  generalize hAe : va_A ([wP cI cJ aP jP uP] : List va_W).flatten s.heap.size = A at hD ⊢
  have hA : ∀ q : Nat, s.heap.size ≤ q → A q := fun q h => by rw [← hAe]; exact Or.inr h
  have hS : va_S A s.heap s.heap [] := va_S.rf
  have hl := lv_entry ([.ref aP]) (n := 1) (Nat.le_of_ble_eq_true rfl)
  rw [lg_entry_eq]
  generalize (lg_sl ([.ref aP]) ++ List.replicate (1 - (lg_sl ([.ref aP])).length) Slot.unset).toArray = ls at hl ⊢
  have hl : lv_has ls 1 [(0, .ref aP)] := hl
  generalize hQ : MQ below _ _ s _ _ _ = Q
  generalize hH : s.heap = H at hP ⊢
  have hS : va_S A s.heap H [] := by rw [← hH]; exact va_S.rf
  show W p l e ({ frames := 0, cells := 0, slots := 0, locals := 0 } : Room) s m ([.ref aP] : List Value).toArray below meth c H [] 0 0 Q (F0 m 0 ls [])
  unfold f_X2_empty at hm
  refine lv_aload_n hx hb dX2_empty_0 rfl (lv_at hl 0 rfl) ?_
  refine lv_iconst (v := (0 : Int32)) hx hb dX2_empty_1 (by decide) ?_
  refine va_put (D := (dC, dI)) (ci := 3) (v := .int (0 : Int32)) (ty := .int) (C := RX2) (T := TX2) (N := 2) hx hb ht inX2 tyX2 tyX2_ok nmX2 hown hK hP hD hS 0 rfl rfl 1 (by decide) (ht _ kw_177) (fun _ h9 => h9) rfl (by decide +kernel) rfl rfl (Nat.le_of_ble_eq_true rfl) dX2_empty_2 (fun H locs hP hD hS => ?_)
  obtain ⟨u1, eu1, hm⟩ := bnd_ex hm
  have hP : va_P (dC, dI) vwCl ([wP cI cJ aP jP u1] : List va_W).flatten H := by rw [eu1]; exact hP
  have hD : va_D A ([wP cI cJ aP jP u1] : List va_W).flatten := by rw [eu1]; exact hD
  rw [← hQ]
  exact W.vret hx hb hr (fun t ht1 hW => ⟨⟨u1, rfl, hm, by rw [ht1]; exact hP, hD⟩, hS.F ht1⟩) hS.2.2 dX2_empty_5

def f_X2_makeRoomForSign (uP : OS) : Option ((OS) × Nat × Nat) :=
  oA2 (f_withRoom (uP.2.2.2 0) (uP.2.1 0) (((uP.1 1) / (8 : Int32)) + (10 : Int32)) (8000 : Int32)) fun n3 f3 kc3 ks3 =>
  addc kc3 ks3 <|
  bnd (sR uP 0 n3 f3) fun u1 =>
  some (u1, 0, 0)

set_option maxHeartbeats 4000000 in
set_option maxRecDepth 100000 in
theorem c_X2_makeRoomForSign (l : Launch) (dC : Nat → ClassId) (dI : Nat → Nat → Nat) (cI cJ : ClassId) (aP : Nat) (jP : Nat → Nat) (sz : Nat) (uP : OS) (o : OS) (mc ms : Nat) (hm : f_X2_makeRoomForSign uP = some (o, mc, ms)) : Met l yX2_makeRoomForSign (wq yX2_makeRoomForSign cX2_makeRoomForSign 1 none) ({ frames := 3, cells := mc, slots := ms, locals := 102 } : Room) (va_Pc [.ref aP] (pcW dC dI cI cJ sz ([wP cI cJ aP jP uP] : List va_W).flatten)) (va_Qv (S := OS) (fun u => some u = some o) (fun (u : OS) t => ∃ hhP : Nat → Nat, va_P (dC, dI) vwCl ([wP cI cJ aP hhP u] : List va_W).flatten t.heap ∧ va_D (va_A ([wP cI cJ aP jP uP] : List va_W).flatten sz) ([wP cI cJ aP hhP u] : List va_W).flatten) (va_A ([wP cI cJ aP jP uP] : List va_W).flatten sz)) mc ms (va_A ([wP cI cJ aP jP uP] : List va_W).flatten sz) := by
  refine Met.ofW (cc := cX2_makeRoomForSign) (maxL := 1) (ret := none) (by decide) rfl ?_
  intro p e s m args below meth c s₁ B hml hv
  obtain ⟨rfl, hsz, hP, hK, hD0, hN⟩ := hv
  have hx := B.exec
  have hb := B.bytes
  have hr := B.returns
  have ht : ∀ w ∈ lw_good, w.before _ s = true := fun w h => atoms_spec (ws := wq yX2_makeRoomForSign cX2_makeRoomForSign 1 none) B.pre w (wq_mem h)
  have hown : s.vm.findClass RX2 = some m.cls := findClass_of_methodNamed B.named
  have hlocks := B.notSynchronized
  subst hsz
  have hD := hD0.self (sz := s.heap.size)
  generalize hAe : va_A ([wP cI cJ aP jP uP] : List va_W).flatten s.heap.size = A at hD ⊢
  have hA : ∀ q : Nat, s.heap.size ≤ q → A q := fun q h => by rw [← hAe]; exact Or.inr h
  have hS : va_S A s.heap s.heap [] := va_S.rf
  have hl := lv_entry ([.ref aP]) (n := 1) (Nat.le_of_ble_eq_true rfl)
  rw [lg_entry_eq]
  generalize (lg_sl ([.ref aP]) ++ List.replicate (1 - (lg_sl ([.ref aP])).length) Slot.unset).toArray = ls at hl ⊢
  have hl : lv_has ls 1 [(0, .ref aP)] := hl
  generalize hQ : MQ below _ _ s _ _ _ = Q
  generalize hH : s.heap = H at hP ⊢
  have hS : va_S A s.heap H [] := by rw [← hH]; exact va_S.rf
  obtain ⟨ce, hce⟩ := ex_eq (0 : Nat)
  obtain ⟨sl, hsl⟩ := ex_eq (0 : Nat)
  obtain ⟨kc, hkc⟩ := ex_eq mc
  obtain ⟨ks, hks⟩ := ex_eq ms
  rw [← hkc, ← hks] at hm
  have hc1 : ce + kc = mc := by omega
  have hc2 : sl + ks = ms := by omega
  suffices hw : W p l e ({ frames := 3, cells := mc, slots := ms, locals := 102 } : Room) s m ([.ref aP] : List Value).toArray below meth c H [] ce sl Q (F0 m 0 ls []) by rw [hce, hsl] at hw; exact hw
  clear hce hsl hkc hks
  unfold f_X2_makeRoomForSign at hm
  refine lv_aload_n hx hb dX2_makeRoomForSign_0 rfl (lv_at hl 0 rfl) ?_
  refine lv_aload_n hx hb dX2_makeRoomForSign_1 rfl (lv_at hl 0 rfl) ?_
  refine va_get (D := (dC, dI)) (ci := 3) (v := .ref (jP 0)) (C := RX2) (T := TX2) (N := 2) hx hb ht inX2 hown hK hP 0 rfl rfl 0 (by decide) (ht _ kw_178) (fun _ h9 => h9) rfl dX2_makeRoomForSign_2 ?_
  refine lv_aload_n hx hb dX2_makeRoomForSign_5 rfl (lv_at hl 0 rfl) ?_
  refine va_get (D := (dC, dI)) (ci := 3) (v := .int (uP.1 1)) (C := RX2) (T := TX2) (N := 2) hx hb ht inX2 hown hK hP 0 rfl rfl 1 (by decide) (ht _ kw_177) (fun _ h9 => h9) rfl dX2_makeRoomForSign_6 ?_
  refine lv_bipush (v := (8 : Int32)) hx hb dX2_makeRoomForSign_9 (by decide) ?_
  refine lv_idiv hx hb dX2_makeRoomForSign_11 (by decide) ?_
  refine lv_bipush (v := (10 : Int32)) hx hb dX2_makeRoomForSign_12 (by decide) ?_
  refine lv_iadd hx hb dX2_makeRoomForSign_14 ?_
  refine lv_sipush (v := (8000 : Int32)) hx hb dX2_makeRoomForSign_15 (by decide) ?_
  have hPc : va_P (dC, dI) vwCl [((jP 0), .inl (cI, (uP.2.2.2 0), .inl (uP.2.1 0)))] _ := hP.sub [1] rfl
  have hDc : va_D A [((jP 0), .inl (cI, (uP.2.2.2 0), .inl (uP.2.1 0)))] := hD.sub [1] (by decide) rfl
  have hFc := va_free (wc := [((jP 0), .inl (cI, (uP.2.2.2 0), .inl (uP.2.1 0)))]) hD hS hA [1] rfl
  obtain ⟨n3, f3, kc3, ks3, e3, hm⟩ := oA2_of hm
  obtain ⟨kr3, sr3, hm, hkc3, hks3⟩ := addc_of hm
  refine va_callr (va_runSN (As := [.ref (jP 0), .int (((uP.1 1) / (8 : Int32)) + (10 : Int32)), .int (8000 : Int32)]) (rest := [.ref aP]) ⟨hx, hb, hml, hown, ht⟩ (c_withRoom l dC dI cI cJ (jP 0) H.size (uP.2.2.2 0) (uP.2.1 0) (((uP.1 1) / (8 : Int32)) + (10 : Int32)) (8000 : Int32) n3 f3 kc3 ks3 e3) ⟨va_cnB 3 ht (gdC kw_170) rfl rfl rfl (hN _ kn_2) (ht _ kw_161) nd_X6_withRoom ⟨Nat.le_of_ble_eq_true rfl, Nat.le_of_ble_eq_true rfl⟩, ht _ kw_171, trivial⟩ ⟨pcW_blind, pcW_pre hPc hK hDc hN⟩ rfl rfl hl.1 rfl (lv_room (Nat.le_of_ble_eq_true rfl)) dX2_makeRoomForSign_18 ⟨cle hc1 hkc3, cle hc2 hks3⟩) hS (fun q _ z => hFc q z) hFc (fun uu ra3 t H1 locs ht1 hvm hw hB hz1 hk1 hS => ?_)
  obtain ⟨hP1, hD1⟩ := hB
  rw [ht1] at hP1
  have hc1 := cadd hc1 hkc3
  have hc2 := cadd hc2 hks3
  obtain ⟨hP, hD⟩ := va_join (wr := [(wP cI cJ aP jP uP)[0]]) (w1 := [(ra3, .inl (cI, n3, .inl f3))]) hP hD [1] [0] rfl rfl (by decide) (by decide) hk1 hFc hP1 hD1
  generalize H1 = H at hP hS ⊢
  refine va_put (D := (dC, dI)) (ci := 3) (v := .ref ra3) (ty := .array .int) (C := RX2) (T := TX2) (N := 2) hx hb ht inX2 tyX2 tyX2_ok nmX2 hown hK hP hD hS 0 rfl rfl 0 (by decide) (ht _ kw_178) (fun _ h9 => h9) rfl (by decide +kernel) rfl rfl (Nat.le_of_ble_eq_true rfl) dX2_makeRoomForSign_21 (fun H locs hP hD hS => ?_)
  obtain ⟨u1, eu1, hm⟩ := bnd_ex hm
  obtain ⟨h2, eh2⟩ := ex_eq (va_up jP 0 ra3)
  have hP : va_P (dC, dI) vwCl ([wP cI cJ aP h2 u1] : List va_W).flatten H := by rw [eu1, eh2]; exact hP.sub [0, 1] rfl
  have hD : va_D A ([wP cI cJ aP h2 u1] : List va_W).flatten := by rw [eu1, eh2]; exact hD.sub [0, 1] (by decide) rfl
  obtain ⟨hmz, hz1, hz2⟩ := ret0 hm
  subst hz1
  subst hz2
  refine W.cs (cells' := mc) (slots' := ms) hc1 hc2 ?_
  rw [← hQ]
  exact W.vret hx hb hr (fun t ht1 hW => ⟨⟨u1, rfl, hmz, h2, by rw [ht1]; exact hP, hD⟩, hS.F ht1⟩) hS.2.2 dX2_makeRoomForSign_24

def f_X2_pushOctet (uP : OS) (p1 : Int32) : Option (OS) :=
  bnd ((uP.1 1) / (8 : Int32)) fun x1 =>
  if (nI (uP.2.2.2 0)) ≤ x1 then (
  some uP) else (
  gdi x1 (uP.2.2.2 0) <|
  bnd (sA uP 0 x1 (p1 &&& (255 : Int32))) fun u4 =>
  bnd (sF u4 1 ((u4.1 1) + (8 : Int32))) fun u5 =>
  some u5)

set_option maxHeartbeats 4000000 in
set_option maxRecDepth 100000 in
theorem c_X2_pushOctet (l : Launch) (dC : Nat → ClassId) (dI : Nat → Nat → Nat) (cI cJ : ClassId) (aP : Nat) (jP : Nat → Nat) (sz : Nat) (uP : OS) (p1 : Int32) (o : OS) (hm : f_X2_pushOctet uP p1 = some o) : Met l yX2_pushOctet (wq yX2_pushOctet cX2_pushOctet 3 none) ({ frames := 0, cells := 0, slots := 0, locals := 0 } : Room) (va_Pc [.ref aP, .int p1] (pcW dC dI cI cJ sz ([wP cI cJ aP jP uP] : List va_W).flatten)) (va_Qv (S := OS) (fun u => some u = some o) (fun (u : OS) t => va_P (dC, dI) vwCl ([wP cI cJ aP jP u] : List va_W).flatten t.heap ∧ va_D (va_A ([wP cI cJ aP jP uP] : List va_W).flatten sz) ([wP cI cJ aP jP u] : List va_W).flatten) (va_A ([wP cI cJ aP jP uP] : List va_W).flatten sz)) 0 0 (va_A ([wP cI cJ aP jP uP] : List va_W).flatten sz) := by
  refine Met.ofW (cc := cX2_pushOctet) (maxL := 3) (ret := none) (by decide) rfl ?_
  intro p e s m args below meth c s₁ B hml hv
  obtain ⟨rfl, hsz, hP, hK, hD0, hN⟩ := hv
  have hx := B.exec
  have hb := B.bytes
  have hr := B.returns
  have ht : ∀ w ∈ lw_good, w.before _ s = true := fun w h => atoms_spec (ws := wq yX2_pushOctet cX2_pushOctet 3 none) B.pre w (wq_mem h)
  have hown : s.vm.findClass RX2 = some m.cls := findClass_of_methodNamed B.named
  have hlocks := B.notSynchronized
  subst hsz
  have hD := hD0.self (sz := s.heap.size)
  generalize hAe : va_A ([wP cI cJ aP jP uP] : List va_W).flatten s.heap.size = A at hD ⊢
  have hA : ∀ q : Nat, s.heap.size ≤ q → A q := fun q h => by rw [← hAe]; exact Or.inr h
  have hS : va_S A s.heap s.heap [] := va_S.rf
  have hl := lv_entry ([.ref aP, .int p1]) (n := 3) (Nat.le_of_ble_eq_true rfl)
  rw [lg_entry_eq]
  generalize (lg_sl ([.ref aP, .int p1]) ++ List.replicate (3 - (lg_sl ([.ref aP, .int p1])).length) Slot.unset).toArray = ls at hl ⊢
  have hl : lv_has ls 3 [(0, .ref aP), (1, .int p1)] := hl
  generalize hQ : MQ below _ _ s _ _ _ = Q
  generalize hH : s.heap = H at hP ⊢
  have hS : va_S A s.heap H [] := by rw [← hH]; exact va_S.rf
  show W p l e ({ frames := 0, cells := 0, slots := 0, locals := 0 } : Room) s m ([.ref aP, .int p1] : List Value).toArray below meth c H [] 0 0 Q (F0 m 0 ls [])
  unfold f_X2_pushOctet at hm
  refine lv_aload_n hx hb dX2_pushOctet_0 rfl (lv_at hl 0 rfl) ?_
  refine va_get (D := (dC, dI)) (ci := 3) (v := .int (uP.1 1)) (C := RX2) (T := TX2) (N := 2) hx hb ht inX2 hown hK hP 0 rfl rfl 1 (by decide) (ht _ kw_177) (fun _ h9 => h9) rfl dX2_pushOctet_1 ?_
  refine lv_bipush (v := (8 : Int32)) hx hb dX2_pushOctet_4 (by decide) ?_
  refine lv_idiv hx hb dX2_pushOctet_6 (by decide) ?_
  refine lv_topi (fun x1 ex1 => ?_)
  have hm := bnd_nm ex1 hm
  refine lv_istore_n (lv' := [(2, .int x1), (0, .ref aP), (1, .int p1)]) hx hb dX2_pushOctet_7 rfl hl (by decide) rfl (fun ls hl => ?_)
  refine lv_iload_n hx hb dX2_pushOctet_8 rfl (lv_at hl 0 rfl) ?_
  refine lv_aload_n hx hb dX2_pushOctet_9 rfl (lv_at hl 1 rfl) ?_
  refine va_get (D := (dC, dI)) (ci := 3) (v := .ref (jP 0)) (C := RX2) (T := TX2) (N := 2) hx hb ht inX2 hown hK hP 0 rfl rfl 0 (by decide) (ht _ kw_178) (fun _ h9 => h9) rfl dX2_pushOctet_10 ?_
  refine va_alen (v := (nI (uP.2.2.2 0))) hx hb hK hP 1 0 rfl rfl rfl dX2_pushOctet_13 ?_
  refine lv_icmp_ge (tgt := 39) hx hb dX2_pushOctet_14 (by decide) (fun c2 => ?_) (fun c2 => ?_)
  · have hm := ite_t c2 hm
    rw [← hQ]
    exact W.vret hx hb hr (fun t ht1 hW => ⟨⟨uP, rfl, hm, by rw [ht1]; exact hP, hD⟩, hS.F ht1⟩) hS.2.2 dX2_pushOctet_39
  · have hm := ite_f c2 hm
    refine lv_aload_n hx hb dX2_pushOctet_17 rfl (lv_at hl 1 rfl) ?_
    refine va_get (D := (dC, dI)) (ci := 3) (v := .ref (jP 0)) (C := RX2) (T := TX2) (N := 2) hx hb ht inX2 hown hK hP 0 rfl rfl 0 (by decide) (ht _ kw_178) (fun _ h9 => h9) rfl dX2_pushOctet_18 ?_
    refine lv_iload_n hx hb dX2_pushOctet_21 rfl (lv_at hl 0 rfl) ?_
    refine lv_iload_n hx hb dX2_pushOctet_22 rfl (lv_at hl 2 rfl) ?_
    refine lv_sipush (v := (255 : Int32)) hx hb dX2_pushOctet_23 (by decide) ?_
    refine lv_iand hx hb dX2_pushOctet_26 ?_
    obtain ⟨g3, hm⟩ := gdi_of hm
    refine va_iast hx hb hK hP hD hS 1 0 rfl rfl g3 dX2_pushOctet_27 (fun H locs hP hD hS => ?_)
    obtain ⟨u4, eu4, hm⟩ := bnd_ex hm
    have hP : va_P (dC, dI) vwCl ([wP cI cJ aP jP u4] : List va_W).flatten H := by rw [eu4]; exact hP
    have hD : va_D A ([wP cI cJ aP jP u4] : List va_W).flatten := by rw [eu4]; exact hD
    refine lv_aload_n hx hb dX2_pushOctet_28 rfl (lv_at hl 1 rfl) ?_
    refine lv_dup hx hb dX2_pushOctet_29 rfl ?_
    refine va_get (D := (dC, dI)) (ci := 3) (v := .int (u4.1 1)) (C := RX2) (T := TX2) (N := 2) hx hb ht inX2 hown hK hP 0 rfl rfl 1 (by decide) (ht _ kw_177) (fun _ h9 => h9) rfl dX2_pushOctet_30 ?_
    refine lv_bipush (v := (8 : Int32)) hx hb dX2_pushOctet_33 (by decide) ?_
    refine lv_iadd hx hb dX2_pushOctet_35 ?_
    refine va_put (D := (dC, dI)) (ci := 3) (v := .int ((u4.1 1) + (8 : Int32))) (ty := .int) (C := RX2) (T := TX2) (N := 2) hx hb ht inX2 tyX2 tyX2_ok nmX2 hown hK hP hD hS 0 rfl rfl 1 (by decide) (ht _ kw_177) (fun _ h9 => h9) rfl (by decide +kernel) rfl rfl (Nat.le_of_ble_eq_true rfl) dX2_pushOctet_36 (fun H locs hP hD hS => ?_)
    obtain ⟨u5, eu5, hm⟩ := bnd_ex hm
    have hP : va_P (dC, dI) vwCl ([wP cI cJ aP jP u5] : List va_W).flatten H := by rw [eu5]; exact hP
    have hD : va_D A ([wP cI cJ aP jP u5] : List va_W).flatten := by rw [eu5]; exact hD
    rw [← hQ]
    exact W.vret hx hb hr (fun t ht1 hW => ⟨⟨u5, rfl, hm, by rw [ht1]; exact hP, hD⟩, hS.F ht1⟩) hS.2.2 dX2_pushOctet_39

def f_X2_pushBit (uP : OS) (p1 : Int32) : Option (OS) :=
  bnd ((uP.1 1) / (8 : Int32)) fun x1 =>
  if (nI (uP.2.2.2 0)) ≤ x1 then (
  some uP) else (
  bnd (fun (x3 : Int32) =>
  gdi x1 (uP.2.2.2 0) <|
  bnd (sA uP 0 x1 (x3 ||| ((p1 &&& (1 : Int32)) <<< (((uP.1 1) - (uP.1 1) / (8 : Int32) * (8 : Int32)) &&& (31 : Int32))))) fun u6 =>
  bnd (sF u6 1 ((u6.1 1) + (1 : Int32))) fun u7 =>
  some u7) fun K37_4 =>
  if ((uP.1 1) - (uP.1 1) / (8 : Int32) * (8 : Int32)) = (0 : Int32) then (
  K37_4 (0 : Int32)) else (
  gdi x1 (uP.2.2.2 0) <|
  K37_4 (uP.2.1 0 (x1).toNatClampNeg)))

set_option maxHeartbeats 4000000 in
set_option maxRecDepth 100000 in
theorem c_X2_pushBit (l : Launch) (dC : Nat → ClassId) (dI : Nat → Nat → Nat) (cI cJ : ClassId) (aP : Nat) (jP : Nat → Nat) (sz : Nat) (uP : OS) (p1 : Int32) (o : OS) (hm : f_X2_pushBit uP p1 = some o) : Met l yX2_pushBit (wq yX2_pushBit cX2_pushBit 4 none) ({ frames := 0, cells := 0, slots := 0, locals := 0 } : Room) (va_Pc [.ref aP, .int p1] (pcW dC dI cI cJ sz ([wP cI cJ aP jP uP] : List va_W).flatten)) (va_Qv (S := OS) (fun u => some u = some o) (fun (u : OS) t => va_P (dC, dI) vwCl ([wP cI cJ aP jP u] : List va_W).flatten t.heap ∧ va_D (va_A ([wP cI cJ aP jP uP] : List va_W).flatten sz) ([wP cI cJ aP jP u] : List va_W).flatten) (va_A ([wP cI cJ aP jP uP] : List va_W).flatten sz)) 0 0 (va_A ([wP cI cJ aP jP uP] : List va_W).flatten sz) := by
  refine Met.ofW (cc := cX2_pushBit) (maxL := 4) (ret := none) (by decide) rfl ?_
  intro p e s m args below meth c s₁ B hml hv
  obtain ⟨rfl, hsz, hP, hK, hD0, hN⟩ := hv
  have hx := B.exec
  have hb := B.bytes
  have hr := B.returns
  have ht : ∀ w ∈ lw_good, w.before _ s = true := fun w h => atoms_spec (ws := wq yX2_pushBit cX2_pushBit 4 none) B.pre w (wq_mem h)
  have hown : s.vm.findClass RX2 = some m.cls := findClass_of_methodNamed B.named
  have hlocks := B.notSynchronized
  subst hsz
  have hD := hD0.self (sz := s.heap.size)
  generalize hAe : va_A ([wP cI cJ aP jP uP] : List va_W).flatten s.heap.size = A at hD ⊢
  have hA : ∀ q : Nat, s.heap.size ≤ q → A q := fun q h => by rw [← hAe]; exact Or.inr h
  have hS : va_S A s.heap s.heap [] := va_S.rf
  have hl := lv_entry ([.ref aP, .int p1]) (n := 4) (Nat.le_of_ble_eq_true rfl)
  rw [lg_entry_eq]
  generalize (lg_sl ([.ref aP, .int p1]) ++ List.replicate (4 - (lg_sl ([.ref aP, .int p1])).length) Slot.unset).toArray = ls at hl ⊢
  have hl : lv_has ls 4 [(0, .ref aP), (1, .int p1)] := hl
  generalize hQ : MQ below _ _ s _ _ _ = Q
  generalize hH : s.heap = H at hP ⊢
  have hS : va_S A s.heap H [] := by rw [← hH]; exact va_S.rf
  show W p l e ({ frames := 0, cells := 0, slots := 0, locals := 0 } : Room) s m ([.ref aP, .int p1] : List Value).toArray below meth c H [] 0 0 Q (F0 m 0 ls [])
  unfold f_X2_pushBit at hm
  refine lv_aload_n hx hb dX2_pushBit_0 rfl (lv_at hl 0 rfl) ?_
  refine va_get (D := (dC, dI)) (ci := 3) (v := .int (uP.1 1)) (C := RX2) (T := TX2) (N := 2) hx hb ht inX2 hown hK hP 0 rfl rfl 1 (by decide) (ht _ kw_177) (fun _ h9 => h9) rfl dX2_pushBit_1 ?_
  refine lv_bipush (v := (8 : Int32)) hx hb dX2_pushBit_4 (by decide) ?_
  refine lv_idiv hx hb dX2_pushBit_6 (by decide) ?_
  refine lv_topi (fun x1 ex1 => ?_)
  have hm := bnd_nm ex1 hm
  refine lv_istore_n (lv' := [(2, .int x1), (0, .ref aP), (1, .int p1)]) hx hb dX2_pushBit_7 rfl hl (by decide) rfl (fun ls hl => ?_)
  refine lv_iload_n hx hb dX2_pushBit_8 rfl (lv_at hl 0 rfl) ?_
  refine lv_aload_n hx hb dX2_pushBit_9 rfl (lv_at hl 1 rfl) ?_
  refine va_get (D := (dC, dI)) (ci := 3) (v := .ref (jP 0)) (C := RX2) (T := TX2) (N := 2) hx hb ht inX2 hown hK hP 0 rfl rfl 0 (by decide) (ht _ kw_178) (fun _ h9 => h9) rfl dX2_pushBit_10 ?_
  refine va_alen (v := (nI (uP.2.2.2 0))) hx hb hK hP 1 0 rfl rfl rfl dX2_pushBit_13 ?_
  refine lv_icmp_ge (tgt := 67) hx hb dX2_pushBit_14 (by decide) (fun c2 => ?_) (fun c2 => ?_)
  · have hm := ite_t c2 hm
    rw [← hQ]
    exact W.vret hx hb hr (fun t ht1 hW => ⟨⟨uP, rfl, hm, by rw [ht1]; exact hP, hD⟩, hS.F ht1⟩) hS.2.2 dX2_pushBit_67
  · have hm := ite_f c2 hm
    refine lv_aload_n hx hb dX2_pushBit_17 rfl (lv_at hl 1 rfl) ?_
    refine va_get (D := (dC, dI)) (ci := 3) (v := .int (uP.1 1)) (C := RX2) (T := TX2) (N := 2) hx hb ht inX2 hown hK hP 0 rfl rfl 1 (by decide) (ht _ kw_177) (fun _ h9 => h9) rfl dX2_pushBit_18 ?_
    refine lv_bipush (v := (8 : Int32)) hx hb dX2_pushBit_21 (by decide) ?_
    refine lv_irem hx hb dX2_pushBit_23 (by decide) ?_
    obtain ⟨K37_4, eK37_4, hm⟩ := bnd_ex hm
    have J37_4 : ∀ (x3 : Int32) (H : Heap) (locs : List Loc) (ls : Array Slot), K37_4 x3 = some o → va_P (dC, dI) vwCl ([wP cI cJ aP jP uP] : List va_W).flatten H → va_D A ([wP cI cJ aP jP uP] : List va_W).flatten → va_S A s.heap H locs → lv_has ls 4 [(0, .ref aP), (1, .int p1), (2, .int x1)] → W p l e ({ frames := 0, cells := 0, slots := 0, locals := 0 } : Room) s m ([.ref aP, .int p1] : List Value).toArray below meth c H locs 0 0 Q (F0 m 37 ls [.int x3]) := by
      intro x3 H locs ls hm hP hD hS hl
      have hm := ap1 eK37_4 hm
      refine lv_istore_n (lv' := [(3, .int x3), (0, .ref aP), (1, .int p1), (2, .int x1)]) hx hb dX2_pushBit_37 rfl hl (by decide) rfl (fun ls hl => ?_)
      refine lv_aload_n hx hb dX2_pushBit_38 rfl (lv_at hl 1 rfl) ?_
      refine va_get (D := (dC, dI)) (ci := 3) (v := .ref (jP 0)) (C := RX2) (T := TX2) (N := 2) hx hb ht inX2 hown hK hP 0 rfl rfl 0 (by decide) (ht _ kw_178) (fun _ h9 => h9) rfl dX2_pushBit_39 ?_
      refine lv_iload_n hx hb dX2_pushBit_42 rfl (lv_at hl 3 rfl) ?_
      refine lv_iload_n hx hb dX2_pushBit_43 rfl (lv_at hl 0 rfl) ?_
      refine lv_iload_n hx hb dX2_pushBit_44 rfl (lv_at hl 2 rfl) ?_
      refine lv_iconst (v := (1 : Int32)) hx hb dX2_pushBit_45 (by decide) ?_
      refine lv_iand hx hb dX2_pushBit_46 ?_
      refine lv_aload_n hx hb dX2_pushBit_47 rfl (lv_at hl 1 rfl) ?_
      refine va_get (D := (dC, dI)) (ci := 3) (v := .int (uP.1 1)) (C := RX2) (T := TX2) (N := 2) hx hb ht inX2 hown hK hP 0 rfl rfl 1 (by decide) (ht _ kw_177) (fun _ h9 => h9) rfl dX2_pushBit_48 ?_
      refine lv_bipush (v := (8 : Int32)) hx hb dX2_pushBit_51 (by decide) ?_
      refine lv_irem hx hb dX2_pushBit_53 (by decide) ?_
      refine lv_ishl hx hb dX2_pushBit_54 ?_
      refine lv_ior hx hb dX2_pushBit_55 ?_
      obtain ⟨g5, hm⟩ := gdi_of hm
      refine va_iast hx hb hK hP hD hS 1 0 rfl rfl g5 dX2_pushBit_56 (fun H locs hP hD hS => ?_)
      obtain ⟨u6, eu6, hm⟩ := bnd_ex hm
      have hP : va_P (dC, dI) vwCl ([wP cI cJ aP jP u6] : List va_W).flatten H := by rw [eu6]; exact hP
      have hD : va_D A ([wP cI cJ aP jP u6] : List va_W).flatten := by rw [eu6]; exact hD
      refine lv_aload_n hx hb dX2_pushBit_57 rfl (lv_at hl 1 rfl) ?_
      refine lv_dup hx hb dX2_pushBit_58 rfl ?_
      refine va_get (D := (dC, dI)) (ci := 3) (v := .int (u6.1 1)) (C := RX2) (T := TX2) (N := 2) hx hb ht inX2 hown hK hP 0 rfl rfl 1 (by decide) (ht _ kw_177) (fun _ h9 => h9) rfl dX2_pushBit_59 ?_
      refine lv_iconst (v := (1 : Int32)) hx hb dX2_pushBit_62 (by decide) ?_
      refine lv_iadd hx hb dX2_pushBit_63 ?_
      refine va_put (D := (dC, dI)) (ci := 3) (v := .int ((u6.1 1) + (1 : Int32))) (ty := .int) (C := RX2) (T := TX2) (N := 2) hx hb ht inX2 tyX2 tyX2_ok nmX2 hown hK hP hD hS 0 rfl rfl 1 (by decide) (ht _ kw_177) (fun _ h9 => h9) rfl (by decide +kernel) rfl rfl (Nat.le_of_ble_eq_true rfl) dX2_pushBit_64 (fun H locs hP hD hS => ?_)
      obtain ⟨u7, eu7, hm⟩ := bnd_ex hm
      have hP : va_P (dC, dI) vwCl ([wP cI cJ aP jP u7] : List va_W).flatten H := by rw [eu7]; exact hP
      have hD : va_D A ([wP cI cJ aP jP u7] : List va_W).flatten := by rw [eu7]; exact hD
      rw [← hQ]
      exact W.vret hx hb hr (fun t ht1 hW => ⟨⟨u7, rfl, hm, by rw [ht1]; exact hP, hD⟩, hS.F ht1⟩) hS.2.2 dX2_pushBit_67
    refine lv_if_ne (tgt := 31) hx hb dX2_pushBit_24 (by decide) (fun c8 => ?_) (fun c8 => ?_)
    · have hm := ite_f c8 hm
      refine lv_aload_n hx hb dX2_pushBit_31 rfl (lv_at hl 1 rfl) ?_
      refine va_get (D := (dC, dI)) (ci := 3) (v := .ref (jP 0)) (C := RX2) (T := TX2) (N := 2) hx hb ht inX2 hown hK hP 0 rfl rfl 0 (by decide) (ht _ kw_178) (fun _ h9 => h9) rfl dX2_pushBit_32 ?_
      refine lv_iload_n hx hb dX2_pushBit_35 rfl (lv_at hl 0 rfl) ?_
      obtain ⟨g9, hm⟩ := gdi_of hm
      refine va_iald hx hb hK hP 1 0 rfl rfl g9 dX2_pushBit_36 ?_
      exact J37_4 (uP.2.1 0 (x1).toNatClampNeg) _ _ _ hm hP hD hS (lv_sub hl [1, 2, 0] rfl)
    · have hm := ite_t c8 hm
      refine lv_iconst (v := (0 : Int32)) hx hb dX2_pushBit_27 (by decide) ?_
      refine lv_goto (tgt := 37) hx hb dX2_pushBit_28 (by decide) ?_
      exact J37_4 (0 : Int32) _ _ _ hm hP hD hS (lv_sub hl [1, 2, 0] rfl)

def f_X2_pourInto_L28 (uP : OS) (x2 : Int32) : Nat → (Int32 → OS → Option ((OS) × Nat × Nat)) → Int32 → OS → Option ((OS) × Nat × Nat)
  | 0, _, _, _ => none
  | n28 + 1, K81_10, x5, u6 =>
    if x5 < (0 : Int32) then (
    K81_10 x5 u6) else (
    bnd (fun (x13 : Int32) =>
    gdi x5 (uP.2.2.2 0) <|
    oA2 (f_X1_append u6 (((uP.2.1 0 (x5).toNatClampNeg) <<< (((8 : Int32) - x2) &&& (31 : Int32))) ||| (x13 >>> (x2 &&& (31 : Int32))))) fun u16 r18 kc20 ks20 =>
    addc kc20 ks20 <|
    bnd (x5 + (-1 : Int32)) fun x22 =>
    f_X2_pourInto_L28 uP x2 n28 K81_10 x22 u16) fun K51_14 =>
    if x5 ≤ (0 : Int32) then (
    K51_14 (0 : Int32)) else (
    gdi (x5 - (1 : Int32)) (uP.2.2.2 0) <|
    K51_14 (uP.2.1 0 ((x5 - (1 : Int32))).toNatClampNeg)))

def f_X2_pourInto (uP : OS) (uO : OS) : Option ((OS) × Nat × Nat) :=
  bnd (((uP.1 1) + (7 : Int32)) / (8 : Int32)) fun x1 =>
  bnd ((uP.1 1) - ((8 : Int32) * (x1 - (1 : Int32)))) fun x2 =>
  bnd (x1 - (1 : Int32)) fun x3 =>
  bnd (fun (x8 : Int32) (u9 : OS) =>
  some (u9, 0, 0)) fun K81_10 =>
  f_X2_pourInto_L28 uP x2 FU K81_10 x3 uO

set_option maxHeartbeats 4000000 in
set_option maxRecDepth 100000 in
theorem c_X2_pourInto (l : Launch) (dC : Nat → ClassId) (dI : Nat → Nat → Nat) (cI cJ : ClassId) (aP : Nat) (jP : Nat → Nat) (aO : Nat) (jO : Nat → Nat) (sz : Nat) (uP : OS) (uO : OS) (o : OS) (mc ms : Nat) (hm : f_X2_pourInto uP uO = some (o, mc, ms)) : Met l yX2_pourInto (wq yX2_pourInto cX2_pourInto 6 none) ({ frames := 4, cells := mc, slots := ms, locals := 123 } : Room) (va_Pc [.ref aP, .ref aO] (pcW dC dI cI cJ sz ([wP cI cJ aP jP uP, wO cI cJ aO jO uO] : List va_W).flatten)) (va_Qv (S := OS) (fun u => some u = some o) (fun (u : OS) t => ∃ hhO : Nat → Nat, va_P (dC, dI) vwCl ([wP cI cJ aP jP uP, wO cI cJ aO hhO u] : List va_W).flatten t.heap ∧ va_D (va_A ([wP cI cJ aP jP uP, wO cI cJ aO jO uO] : List va_W).flatten sz) ([wP cI cJ aP jP uP, wO cI cJ aO hhO u] : List va_W).flatten) (va_A ([wP cI cJ aP jP uP, wO cI cJ aO jO uO] : List va_W).flatten sz)) mc ms (va_A ([wP cI cJ aP jP uP, wO cI cJ aO jO uO] : List va_W).flatten sz) := by
  refine Met.ofW (cc := cX2_pourInto) (maxL := 6) (ret := none) (by decide) rfl ?_
  intro p e s m args below meth c s₁ B hml hv
  obtain ⟨rfl, hsz, hP, hK, hD0, hN⟩ := hv
  have hx := B.exec
  have hb := B.bytes
  have hr := B.returns
  have ht : ∀ w ∈ lw_good, w.before _ s = true := fun w h => atoms_spec (ws := wq yX2_pourInto cX2_pourInto 6 none) B.pre w (wq_mem h)
  have hown : s.vm.findClass RX2 = some m.cls := findClass_of_methodNamed B.named
  have hlocks := B.notSynchronized
  subst hsz
  have hD := hD0.self (sz := s.heap.size)
  generalize hAe : va_A ([wP cI cJ aP jP uP, wO cI cJ aO jO uO] : List va_W).flatten s.heap.size = A at hD ⊢
  have hA : ∀ q : Nat, s.heap.size ≤ q → A q := fun q h => by rw [← hAe]; exact Or.inr h
  have hS : va_S A s.heap s.heap [] := va_S.rf
  have hl := lv_entry ([.ref aP, .ref aO]) (n := 6) (Nat.le_of_ble_eq_true rfl)
  rw [lg_entry_eq]
  generalize (lg_sl ([.ref aP, .ref aO]) ++ List.replicate (6 - (lg_sl ([.ref aP, .ref aO])).length) Slot.unset).toArray = ls at hl ⊢
  have hl : lv_has ls 6 [(0, .ref aP), (1, .ref aO)] := hl
  generalize hQ : MQ below _ _ s _ _ _ = Q
  generalize hH : s.heap = H at hP ⊢
  have hS : va_S A s.heap H [] := by rw [← hH]; exact va_S.rf
  obtain ⟨ce, hce⟩ := ex_eq (0 : Nat)
  obtain ⟨sl, hsl⟩ := ex_eq (0 : Nat)
  obtain ⟨kc, hkc⟩ := ex_eq mc
  obtain ⟨ks, hks⟩ := ex_eq ms
  rw [← hkc, ← hks] at hm
  have hc1 : ce + kc = mc := by omega
  have hc2 : sl + ks = ms := by omega
  suffices hw : W p l e ({ frames := 4, cells := mc, slots := ms, locals := 123 } : Room) s m ([.ref aP, .ref aO] : List Value).toArray below meth c H [] ce sl Q (F0 m 0 ls []) by rw [hce, hsl] at hw; exact hw
  clear hce hsl hkc hks
  unfold f_X2_pourInto at hm
  refine lv_aload_n hx hb dX2_pourInto_0 rfl (lv_at hl 0 rfl) ?_
  refine va_get (D := (dC, dI)) (ci := 3) (v := .int (uP.1 1)) (C := RX2) (T := TX2) (N := 2) hx hb ht inX2 hown hK hP 0 rfl rfl 1 (by decide) (ht _ kw_177) (fun _ h9 => h9) rfl dX2_pourInto_1 ?_
  refine lv_bipush (v := (7 : Int32)) hx hb dX2_pourInto_4 (by decide) ?_
  refine lv_iadd hx hb dX2_pourInto_6 ?_
  refine lv_bipush (v := (8 : Int32)) hx hb dX2_pourInto_7 (by decide) ?_
  refine lv_idiv hx hb dX2_pourInto_9 (by decide) ?_
  refine lv_topi (fun x1 ex1 => ?_)
  have hm := bnd_nm ex1 hm
  refine lv_istore_n (lv' := [(2, .int x1), (0, .ref aP), (1, .ref aO)]) hx hb dX2_pourInto_10 rfl hl (by decide) rfl (fun ls hl => ?_)
  refine lv_aload_n hx hb dX2_pourInto_11 rfl (lv_at hl 1 rfl) ?_
  refine va_get (D := (dC, dI)) (ci := 3) (v := .int (uP.1 1)) (C := RX2) (T := TX2) (N := 2) hx hb ht inX2 hown hK hP 0 rfl rfl 1 (by decide) (ht _ kw_177) (fun _ h9 => h9) rfl dX2_pourInto_12 ?_
  refine lv_bipush (v := (8 : Int32)) hx hb dX2_pourInto_15 (by decide) ?_
  refine lv_iload_n hx hb dX2_pourInto_17 rfl (lv_at hl 0 rfl) ?_
  refine lv_iconst (v := (1 : Int32)) hx hb dX2_pourInto_18 (by decide) ?_
  refine lv_isub hx hb dX2_pourInto_19 ?_
  refine lv_imul hx hb dX2_pourInto_20 ?_
  refine lv_isub hx hb dX2_pourInto_21 ?_
  refine lv_topi (fun x2 ex2 => ?_)
  have hm := bnd_nm ex2 hm
  refine lv_istore_n (lv' := [(3, .int x2), (2, .int x1), (0, .ref aP), (1, .ref aO)]) hx hb dX2_pourInto_22 rfl hl (by decide) rfl (fun ls hl => ?_)
  refine lv_iload_n hx hb dX2_pourInto_23 rfl (lv_at hl 1 rfl) ?_
  refine lv_iconst (v := (1 : Int32)) hx hb dX2_pourInto_24 (by decide) ?_
  refine lv_isub hx hb dX2_pourInto_25 ?_
  refine lv_topi (fun x3 ex3 => ?_)
  have hm := bnd_nm ex3 hm
  refine lv_istore (lv' := [(4, .int x3), (3, .int x2), (2, .int x1), (0, .ref aP), (1, .ref aO)]) hx hb dX2_pourInto_26 hl (by decide) rfl (fun ls hl => ?_)
  obtain ⟨K81_10, eK81_10, hm⟩ := bnd_ex hm
  have X81_10 : ∀ (x8 : Int32) (u9 : OS) (hg7 : Nat → Nat) (ce sl kc ks : Nat) (H : Heap) (locs : List Loc) (ls : Array Slot), K81_10 x8 u9 = some (o, kc, ks) → ce + kc = mc → sl + ks = ms → va_P (dC, dI) vwCl ([wP cI cJ aP jP uP, wO cI cJ aO hg7 u9] : List va_W).flatten H → va_D A ([wP cI cJ aP jP uP, wO cI cJ aO hg7 u9] : List va_W).flatten → va_S A s.heap H locs → lv_has ls 6 [(0, .ref aP), (1, .ref aO), (2, .int x1), (3, .int x2), (4, .int x8)] → W p l e ({ frames := 4, cells := mc, slots := ms, locals := 123 } : Room) s m ([.ref aP, .ref aO] : List Value).toArray below meth c H locs ce sl Q (F0 m 81 ls []) := by
    intro x8 u9 hg7 ce sl kc ks H locs ls hm hc1 hc2 hP hD hS hl
    have hm := ap2 eK81_10 hm
    obtain ⟨hmz, hz1, hz2⟩ := ret0 hm
    subst hz1
    subst hz2
    refine W.cs (cells' := mc) (slots' := ms) hc1 hc2 ?_
    rw [← hQ]
    exact W.vret hx hb hr (fun t ht1 hW => ⟨⟨u9, rfl, hmz, hg7, by rw [ht1]; exact hP, hD⟩, hS.F ht1⟩) hS.2.2 dX2_pourInto_81
  have LP28 : ∀ (n28 : Nat) (x5 : Int32) (u6 : OS) (hg4 : Nat → Nat) (ce sl kc ks : Nat) (H : Heap) (locs : List Loc) (ls : Array Slot), f_X2_pourInto_L28 uP x2 n28 K81_10 x5 u6 = some (o, kc, ks) → ce + kc = mc → sl + ks = ms → va_P (dC, dI) vwCl ([wP cI cJ aP jP uP, wO cI cJ aO hg4 u6] : List va_W).flatten H → va_D A ([wP cI cJ aP jP uP, wO cI cJ aO hg4 u6] : List va_W).flatten → va_S A s.heap H locs → lv_has ls 6 [(0, .ref aP), (1, .ref aO), (2, .int x1), (3, .int x2), (4, .int x5)] → W p l e ({ frames := 4, cells := mc, slots := ms, locals := 123 } : Room) s m ([.ref aP, .ref aO] : List Value).toArray below meth c H locs ce sl Q (F0 m 28 ls []) := by
    intro n28
    induction n28 with
    | zero => intro x5 u6 hg4 ce sl kc ks H locs ls hm; exact nomatch (show (none : Option _) = some _ from hm)
    | succ n28 ih28 =>
      intro x5 u6 hg4 ce sl kc ks H locs ls hm hc1 hc2 hP hD hS hl
      unfold f_X2_pourInto_L28 at hm
      refine lv_iload hx hb dX2_pourInto_28 (lv_at hl 4 rfl) ?_
      refine lv_if_lt (tgt := 81) hx hb dX2_pourInto_30 (by decide) (fun c11 => ?_) (fun c11 => ?_)
      · have hm := ite_t c11 hm
        exact X81_10 x5 u6 hg4 _ _ _ _ _ _ _ hm hc1 hc2 hP hD hS (lv_sub hl [0, 1, 2, 3, 4] rfl)
      · have hm := ite_f c11 hm
        refine lv_iload hx hb dX2_pourInto_33 (lv_at hl 4 rfl) ?_
        obtain ⟨K51_14, eK51_14, hm⟩ := bnd_ex hm
        have J51_14 : ∀ (x13 : Int32) (hg12 : Nat → Nat) (ce sl kc ks : Nat) (H : Heap) (locs : List Loc) (ls : Array Slot), K51_14 x13 = some (o, kc, ks) → ce + kc = mc → sl + ks = ms → va_P (dC, dI) vwCl ([wP cI cJ aP jP uP, wO cI cJ aO hg12 u6] : List va_W).flatten H → va_D A ([wP cI cJ aP jP uP, wO cI cJ aO hg12 u6] : List va_W).flatten → va_S A s.heap H locs → lv_has ls 6 [(0, .ref aP), (1, .ref aO), (2, .int x1), (3, .int x2), (4, .int x5)] → W p l e ({ frames := 4, cells := mc, slots := ms, locals := 123 } : Room) s m ([.ref aP, .ref aO] : List Value).toArray below meth c H locs ce sl Q (F0 m 51 ls [.int x13]) := by
          intro x13 hg12 ce sl kc ks H locs ls hm hc1 hc2 hP hD hS hl
          have hm := ap1 eK51_14 hm
          refine lv_istore (lv' := [(5, .int x13), (0, .ref aP), (1, .ref aO), (2, .int x1), (3, .int x2), (4, .int x5)]) hx hb dX2_pourInto_51 hl (by decide) rfl (fun ls hl => ?_)
          refine lv_aload_n hx hb dX2_pourInto_53 rfl (lv_at hl 2 rfl) ?_
          refine lv_aload_n hx hb dX2_pourInto_54 rfl (lv_at hl 1 rfl) ?_
          refine va_get (D := (dC, dI)) (ci := 3) (v := .ref (jP 0)) (C := RX2) (T := TX2) (N := 2) hx hb ht inX2 hown hK hP 0 rfl rfl 0 (by decide) (ht _ kw_178) (fun _ h9 => h9) rfl dX2_pourInto_55 ?_
          refine lv_iload hx hb dX2_pourInto_58 (lv_at hl 5 rfl) ?_
          obtain ⟨g15, hm⟩ := gdi_of hm
          refine va_iald hx hb hK hP 1 0 rfl rfl g15 dX2_pourInto_60 ?_
          refine lv_bipush (v := (8 : Int32)) hx hb dX2_pourInto_61 (by decide) ?_
          refine lv_iload_n hx hb dX2_pourInto_63 rfl (lv_at hl 4 rfl) ?_
          refine lv_isub hx hb dX2_pourInto_64 ?_
          refine lv_ishl hx hb dX2_pourInto_65 ?_
          refine lv_iload hx hb dX2_pourInto_66 (lv_at hl 0 rfl) ?_
          refine lv_iload_n hx hb dX2_pourInto_68 rfl (lv_at hl 4 rfl) ?_
          refine lv_ishr hx hb dX2_pourInto_69 ?_
          refine lv_ior hx hb dX2_pourInto_70 ?_
          have hPc : va_P (dC, dI) vwCl ([wO cI cJ aO hg12 u6] : List va_W).flatten _ := hP.subF [1] rfl
          have hDc : va_D A ([wO cI cJ aO hg12 u6] : List va_W).flatten := hD.subF [1] (by decide) rfl
          have hFc := va_freeF (fc := ([wO cI cJ aO hg12 u6] : List va_W)) hD hS hA [1] rfl
          obtain ⟨u16o, r18o, kc20, ks20, e19, hm⟩ := oA2_of hm
          obtain ⟨kcq21, ksq21, hm, hkcq21, hksq21⟩ := addc_of hm
          refine va_calli (va_runV (As := [.int (((uP.2.1 0 (x5).toNatClampNeg) <<< (((8 : Int32) - x2) &&& (31 : Int32))) ||| (x13 >>> (x2 &&& (31 : Int32))))]) (rest := []) ⟨hx, hb, hml, hown, ht⟩ (c_X1_append l dC dI cI cJ aO hg12 H.size u6 (((uP.2.1 0 (x5).toNatClampNeg) <<< (((8 : Int32) - x2) &&& (31 : Int32))) ||| (x13 >>> (x2 &&& (31 : Int32)))) (u16o, r18o) kc20 ks20 e19) (cwV 1 ht (gdV kw_179 kw_174 kw_175 kw_173 kw_172) rfl rfl rfl ⟨rfl, nd_X1_append⟩ ⟨Nat.le_of_ble_eq_true rfl, Nat.le_of_ble_eq_true rfl⟩) ⟨pcW_blind, va_recv hK hPc (ci := 2) (q0 := 0) rfl rfl, pcW_pre hPc hK hDc hN⟩ rfl rfl hl.1 rfl (lv_room (Nat.le_of_ble_eq_true rfl)) dX2_pourInto_71 ⟨cle hc1 hkcq21, cle hc2 hksq21⟩) hS (fun q _ z => hFc q z) hFc (fun r18 uu t H1 locs ht1 hvm hw hB hz1 hk1 hS => ?_)
          obtain ⟨u16, rfl⟩ : ∃ z, z = uu := ⟨_, rfl⟩
          obtain ⟨h17, hP1, hD1⟩ := hB
          rw [ht1] at hP1
          obtain ⟨q0, q1⟩ := inj2 hw
          subst q0
          subst q1
          obtain ⟨hP, hD⟩ := va_joinF (fr := ([wP cI cJ aP jP uP] : List va_W)) (f1 := ([wO cI cJ aO h17 u16] : List va_W)) hP hD [1] [0] rfl rfl (by decide) (by decide) hk1 hFc hP1 hD1
          have hP : va_P (dC, dI) vwCl ([wP cI cJ aP jP uP, wO cI cJ aO h17 u16] : List va_W).flatten H1 := hP
          have hD : va_D A ([wP cI cJ aP jP uP, wO cI cJ aO h17 u16] : List va_W).flatten := hD
          generalize H1 = H at hP hS ⊢
          have hc1 := cadd hc1 hkcq21
          have hc2 := cadd hc2 hksq21
          refine lv_pop hx hb dX2_pourInto_74 rfl ?_
          obtain ⟨x22, ex22, hm⟩ := bnd_ex hm
          refine lv_iinc (v := x22) (lv' := [(4, .int x22), (5, .int x13), (0, .ref aP), (1, .ref aO), (2, .int x1), (3, .int x2)]) hx hb dX2_pourInto_75 hl (k := 5) rfl (by rw [ex22]; exact congrArg _ (by decide)) (by decide) rfl (fun ls hl => ?_)
          refine lv_goto (tgt := 28) hx hb dX2_pourInto_78 (by decide) ?_
          exact ih28 x22 u16 h17 _ _ _ _ _ _ _ hm hc1 hc2 hP hD hS (lv_sub hl [2, 3, 4, 5, 0] rfl)
        refine lv_if_le (tgt := 50) hx hb dX2_pourInto_35 (by decide) (fun c23 => ?_) (fun c23 => ?_)
        · have hm := ite_t c23 hm
          refine lv_iconst (v := (0 : Int32)) hx hb dX2_pourInto_50 (by decide) ?_
          exact J51_14 (0 : Int32) hg4 _ _ _ _ _ _ _ hm hc1 hc2 hP hD hS (lv_sub hl [0, 1, 2, 3, 4] rfl)
        · have hm := ite_f c23 hm
          refine lv_aload_n hx hb dX2_pourInto_38 rfl (lv_at hl 0 rfl) ?_
          refine va_get (D := (dC, dI)) (ci := 3) (v := .ref (jP 0)) (C := RX2) (T := TX2) (N := 2) hx hb ht inX2 hown hK hP 0 rfl rfl 0 (by decide) (ht _ kw_178) (fun _ h9 => h9) rfl dX2_pourInto_39 ?_
          refine lv_iload hx hb dX2_pourInto_42 (lv_at hl 4 rfl) ?_
          refine lv_iconst (v := (1 : Int32)) hx hb dX2_pourInto_44 (by decide) ?_
          refine lv_isub hx hb dX2_pourInto_45 ?_
          obtain ⟨g24, hm⟩ := gdi_of hm
          refine va_iald hx hb hK hP 1 0 rfl rfl g24 dX2_pourInto_46 ?_
          refine lv_goto (tgt := 51) hx hb dX2_pourInto_47 (by decide) ?_
          exact J51_14 (uP.2.1 0 ((x5 - (1 : Int32))).toNatClampNeg) hg4 _ _ _ _ _ _ _ hm hc1 hc2 hP hD hS (lv_sub hl [0, 1, 2, 3, 4] rfl)
  exact LP28 FU x3 uO jO _ _ _ _ _ _ _ hm hc1 hc2 hP hD hS (lv_sub hl [3, 4, 2, 1, 0] rfl)

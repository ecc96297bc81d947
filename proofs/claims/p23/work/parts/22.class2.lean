def f_X3_nextNumber_L5 (uO : OS) (p2 : Int32) : Nat → (Int64 → Int32 → OS → Option (OS × Int64)) → (Int64 → Int32 → OS → Option (OS × Int64)) → Int32 → Int64 → OS → Option (OS × Int64)
  | 0, _, _, _, _, _ => none
  | n5 + 1, K34_7, K75_12, x1, y2, u3 =>
    if p2 ≤ x1 then (
    K75_12 y2 x1 u3) else (
    if (uO.1 1) ≤ (u3.1 5) then (
    K34_7 y2 x1 u3) else (
    if (u3.1 5) < (nI (uO.2.2.2 0)) then (
    gdi (u3.1 5) (uO.2.2.2 0) <|
    bnd ((y2 <<< (((8 : Int32)).toInt64 &&& (63 : Int64))) ||| ((uO.2.1 0 ((u3.1 5)).toNatClampNeg)).toInt64) fun y17 =>
    bnd (sF u3 5 ((u3.1 5) + (1 : Int32))) fun u18 =>
    bnd (x1 + (1 : Int32)) fun x19 =>
    f_X3_nextNumber_L5 uO p2 n5 K34_7 K75_12 x19 y17 u18) else (
    K34_7 y2 x1 u3)))

def f_X3_nextNumber (uR : OS) (uO : OS) (p2 : Int32) : Option (OS × Int64) :=
  bnd (fun (y4 : Int64) (x5 : Int32) (u6 : OS) =>
  bnd (sF u6 4 (1 : Int32)) fun u8 =>
  some (u8, (-1 : Int64))) fun K34_7 =>
  bnd (fun (y9 : Int64) (x10 : Int32) (u11 : OS) =>
  some (u11, y9)) fun K75_12 =>
  f_X3_nextNumber_L5 uO p2 FU K34_7 K75_12 (0 : Int32) (0 : Int64) uR

set_option maxHeartbeats 4000000 in
set_option maxRecDepth 100000 in
theorem c_X3_nextNumber (l : Launch) (dC : Nat → ClassId) (dI : Nat → Nat → Nat) (cI cJ : ClassId) (aR : Nat) (jR : Nat → Nat) (aO : Nat) (jO : Nat → Nat) (aZ : Nat) (sz : Nat) (uR : OS) (uO : OS) (p2 : Int32) (o : OS × Int64) (hm : f_X3_nextNumber uR uO p2 = some o) : Met l yX3_nextNumber (wq yX3_nextNumber cX3_nextNumber 6 (some .long)) ({ frames := 0, cells := 0, slots := 0, locals := 0 } : Room) (va_Pc [.ref aR, .ref aO, .int p2] (pcW dC dI cI cJ sz ([wR cI cJ aR jR aZ uR, wO cI cJ aO jO uO] : List va_W).flatten)) (va_Ql (S := OS) (fun r u => some (u, r) = some o) (fun (u : OS) t => va_P (dC, dI) vwCl ([wR cI cJ aR jR aZ u, wO cI cJ aO jO uO] : List va_W).flatten t.heap ∧ va_D (va_A ([wR cI cJ aR jR aZ uR, wO cI cJ aO jO uO] : List va_W).flatten sz) ([wR cI cJ aR jR aZ u, wO cI cJ aO jO uO] : List va_W).flatten) (va_A ([wR cI cJ aR jR aZ uR, wO cI cJ aO jO uO] : List va_W).flatten sz)) 0 0 (va_A ([wR cI cJ aR jR aZ uR, wO cI cJ aO jO uO] : List va_W).flatten sz) := by
  refine Met.ofW (cc := cX3_nextNumber) (maxL := 6) (ret := (some .long)) (by decide) rfl ?_
  intro p e s m args below meth c s₁ B hml hv
  obtain ⟨rfl, hsz, hP, hK, hD0, hN⟩ := hv
  have hx := B.exec
  have hb := B.bytes
  have hr := B.returns
  have ht : ∀ w ∈ lw_good, w.before _ s = true := fun w h => atoms_spec (ws := wq yX3_nextNumber cX3_nextNumber 6 (some .long)) B.pre w (wq_mem h)
  have hown : s.vm.findClass RX3 = some m.cls := findClass_of_methodNamed B.named
  have hlocks := B.notSynchronized
  subst hsz
  have hD := hD0.self (sz := s.heap.size)
  generalize hAe : va_A ([wR cI cJ aR jR aZ uR, wO cI cJ aO jO uO] : List va_W).flatten s.heap.size = A at hD ⊢
  have hA : ∀ q : Nat, s.heap.size ≤ q → A q := fun q h => by rw [← hAe]; exact Or.inr h
  have hS : va_S A s.heap s.heap [] := va_S.rf
  have hl := lv_entry ([.ref aR, .ref aO, .int p2]) (n := 6) (Nat.le_of_ble_eq_true rfl)
  rw [lg_entry_eq]
  generalize (lg_sl ([.ref aR, .ref aO, .int p2]) ++ List.replicate (6 - (lg_sl ([.ref aR, .ref aO, .int p2])).length) Slot.unset).toArray = ls at hl ⊢
  have hl : lv_has ls 6 [(0, .ref aR), (1, .ref aO), (2, .int p2)] := hl
  generalize hQ : MQ below _ _ s _ _ _ = Q
  generalize hH : s.heap = H at hP ⊢
  have hS : va_S A s.heap H [] := by rw [← hH]; exact va_S.rf
  show W p l e ({ frames := 0, cells := 0, slots := 0, locals := 0 } : Room) s m ([.ref aR, .ref aO, .int p2] : List Value).toArray below meth c H [] 0 0 Q (F0 m 0 ls [])
  unfold f_X3_nextNumber at hm
  refine lv_lconst (v := (0 : Int64)) hx hb dX3_nextNumber_0 (by decide) ?_
  refine lv_lstore_n (lv' := [(3, .long (0 : Int64)), (0, .ref aR), (1, .ref aO), (2, .int p2)]) hx hb dX3_nextNumber_1 rfl hl (by decide) rfl (fun ls hl => ?_)
  refine lv_iconst (v := (0 : Int32)) hx hb dX3_nextNumber_2 (by decide) ?_
  refine lv_istore (lv' := [(5, .int (0 : Int32)), (3, .long (0 : Int64)), (0, .ref aR), (1, .ref aO), (2, .int p2)]) hx hb dX3_nextNumber_3 hl (by decide) rfl (fun ls hl => ?_)
  obtain ⟨K34_7, eK34_7, hm⟩ := bnd_ex hm
  have X34_7 : ∀ (y4 : Int64) (x5 : Int32) (u6 : OS) (H : Heap) (locs : List Loc) (ls : Array Slot), K34_7 y4 x5 u6 = some o → va_P (dC, dI) vwCl ([wR cI cJ aR jR aZ u6, wO cI cJ aO jO uO] : List va_W).flatten H → va_D A ([wR cI cJ aR jR aZ u6, wO cI cJ aO jO uO] : List va_W).flatten → va_S A s.heap H locs → lv_has ls 6 [(0, .ref aR), (1, .ref aO), (2, .int p2), (3, .long y4), (5, .int x5)] → W p l e ({ frames := 0, cells := 0, slots := 0, locals := 0 } : Room) s m ([.ref aR, .ref aO, .int p2] : List Value).toArray below meth c H locs 0 0 Q (F0 m 34 ls []) := by
    intro y4 x5 u6 H locs ls hm hP hD hS hl
    have hm := ap3 eK34_7 hm
    refine lv_aload_n hx hb dX3_nextNumber_34 rfl (lv_at hl 0 rfl) ?_
    refine lv_iconst (v := (1 : Int32)) hx hb dX3_nextNumber_35 (by decide) ?_
    refine va_put (D := (dC, dI)) (ci := 4) (v := .int (1 : Int32)) (ty := .int) (C := RX3) (T := TX3) (N := 12) hx hb ht inX3 tyX3 tyX3_ok nmX3 hown hK hP hD hS 0 rfl rfl 4 (by decide) (ht _ kw_181) (fun _ h9 => h9) rfl (by decide +kernel) rfl rfl (Nat.le_of_ble_eq_true rfl) dX3_nextNumber_36 (fun H locs hP hD hS => ?_)
    obtain ⟨u8, eu8, hm⟩ := bnd_ex hm
    have hP : va_P (dC, dI) vwCl ([wR cI cJ aR jR aZ u8, wO cI cJ aO jO uO] : List va_W).flatten H := by rw [eu8]; exact hP
    have hD : va_D A ([wR cI cJ aR jR aZ u8, wO cI cJ aO jO uO] : List va_W).flatten := by rw [eu8]; exact hD
    refine lv_ldc2 (v := (-1 : Int64)) hx hb hown (ht _ kw_185) dX3_nextNumber_39 ?_
    rw [← hQ]
    exact W.lret (v := (-1 : Int64)) hx hb hr (fun t ht1 hW => ⟨⟨_, u8, rfl, hm, by rw [ht1]; exact hP, hD⟩, hS.F ht1⟩) hS.2.2 dX3_nextNumber_42
  obtain ⟨K75_12, eK75_12, hm⟩ := bnd_ex hm
  have X75_12 : ∀ (y9 : Int64) (x10 : Int32) (u11 : OS) (H : Heap) (locs : List Loc) (ls : Array Slot), K75_12 y9 x10 u11 = some o → va_P (dC, dI) vwCl ([wR cI cJ aR jR aZ u11, wO cI cJ aO jO uO] : List va_W).flatten H → va_D A ([wR cI cJ aR jR aZ u11, wO cI cJ aO jO uO] : List va_W).flatten → va_S A s.heap H locs → lv_has ls 6 [(0, .ref aR), (1, .ref aO), (2, .int p2), (3, .long y9), (5, .int x10)] → W p l e ({ frames := 0, cells := 0, slots := 0, locals := 0 } : Room) s m ([.ref aR, .ref aO, .int p2] : List Value).toArray below meth c H locs 0 0 Q (F0 m 75 ls []) := by
    intro y9 x10 u11 H locs ls hm hP hD hS hl
    have hm := ap3 eK75_12 hm
    refine lv_lload_n hx hb dX3_nextNumber_75 rfl (lv_at hl 3 rfl) ?_
    rw [← hQ]
    exact W.lret (v := y9) hx hb hr (fun t ht1 hW => ⟨⟨_, u11, rfl, hm, by rw [ht1]; exact hP, hD⟩, hS.F ht1⟩) hS.2.2 dX3_nextNumber_76
  have LP5 : ∀ (n5 : Nat) (x1 : Int32) (y2 : Int64) (u3 : OS) (H : Heap) (locs : List Loc) (ls : Array Slot), f_X3_nextNumber_L5 uO p2 n5 K34_7 K75_12 x1 y2 u3 = some o → va_P (dC, dI) vwCl ([wR cI cJ aR jR aZ u3, wO cI cJ aO jO uO] : List va_W).flatten H → va_D A ([wR cI cJ aR jR aZ u3, wO cI cJ aO jO uO] : List va_W).flatten → va_S A s.heap H locs → lv_has ls 6 [(0, .ref aR), (1, .ref aO), (2, .int p2), (3, .long y2), (5, .int x1)] → W p l e ({ frames := 0, cells := 0, slots := 0, locals := 0 } : Room) s m ([.ref aR, .ref aO, .int p2] : List Value).toArray below meth c H locs 0 0 Q (F0 m 5 ls []) := by
    intro n5
    induction n5 with
    | zero => intro x1 y2 u3 H locs ls hm; exact nomatch (show (none : Option _) = some _ from hm)
    | succ n5 ih5 =>
      intro x1 y2 u3 H locs ls hm hP hD hS hl
      unfold f_X3_nextNumber_L5 at hm
      refine lv_iload hx hb dX3_nextNumber_5 (lv_at hl 4 rfl) ?_
      refine lv_iload_n hx hb dX3_nextNumber_7 rfl (lv_at hl 2 rfl) ?_
      refine lv_icmp_ge (tgt := 75) hx hb dX3_nextNumber_8 (by decide) (fun c13 => ?_) (fun c13 => ?_)
      · have hm := ite_t c13 hm
        exact X75_12 y2 x1 u3 _ _ _ hm hP hD hS (lv_sub hl [0, 1, 2, 3, 4] rfl)
      · have hm := ite_f c13 hm
        refine lv_aload_n hx hb dX3_nextNumber_11 rfl (lv_at hl 0 rfl) ?_
        refine va_get (D := (dC, dI)) (ci := 4) (v := .int (u3.1 5)) (C := RX3) (T := TX3) (N := 12) hx hb ht inX3 hown hK hP 0 rfl rfl 5 (by decide) (ht _ kw_182) (fun _ h9 => h9) rfl dX3_nextNumber_12 ?_
        refine lv_aload_n hx hb dX3_nextNumber_15 rfl (lv_at hl 1 rfl) ?_
        refine va_getN (D := (dC, dI)) (ci := 2) (v := .int (uO.1 1)) (C := RX1) (T := TX1) (N := 3) hx hb ht inX1 hown hK hP 3 rfl rfl 1 (by decide) (va_Nw.use rfl (hN _ kn_3)) (fun _ h9 => h9) rfl dX3_nextNumber_16 ?_
        refine lv_icmp_ge (tgt := 34) hx hb dX3_nextNumber_19 (by decide) (fun c14 => ?_) (fun c14 => ?_)
        · have hm := ite_t c14 hm
          exact X34_7 y2 x1 u3 _ _ _ hm hP hD hS (lv_sub hl [0, 1, 2, 3, 4] rfl)
        · have hm := ite_f c14 hm
          refine lv_aload_n hx hb dX3_nextNumber_22 rfl (lv_at hl 0 rfl) ?_
          refine va_get (D := (dC, dI)) (ci := 4) (v := .int (u3.1 5)) (C := RX3) (T := TX3) (N := 12) hx hb ht inX3 hown hK hP 0 rfl rfl 5 (by decide) (ht _ kw_182) (fun _ h9 => h9) rfl dX3_nextNumber_23 ?_
          refine lv_aload_n hx hb dX3_nextNumber_26 rfl (lv_at hl 1 rfl) ?_
          refine va_getN (D := (dC, dI)) (ci := 2) (v := .ref (jO 0)) (C := RX1) (T := TX1) (N := 3) hx hb ht inX1 hown hK hP 3 rfl rfl 0 (by decide) (va_Nw.use rfl (hN _ kn_4)) (fun _ h9 => h9) rfl dX3_nextNumber_27 ?_
          refine va_alen (v := (nI (uO.2.2.2 0))) hx hb hK hP 4 0 rfl rfl rfl dX3_nextNumber_30 ?_
          refine lv_icmp_lt (tgt := 43) hx hb dX3_nextNumber_31 (by decide) (fun c15 => ?_) (fun c15 => ?_)
          · have hm := ite_t c15 hm
            refine lv_lload_n hx hb dX3_nextNumber_43 rfl (lv_at hl 3 rfl) ?_
            refine lv_bipush (v := (8 : Int32)) hx hb dX3_nextNumber_44 (by decide) ?_
            refine lv_lshl hx hb dX3_nextNumber_46 rfl ?_
            refine lv_aload_n hx hb dX3_nextNumber_47 rfl (lv_at hl 1 rfl) ?_
            refine va_getN (D := (dC, dI)) (ci := 2) (v := .ref (jO 0)) (C := RX1) (T := TX1) (N := 3) hx hb ht inX1 hown hK hP 3 rfl rfl 0 (by decide) (va_Nw.use rfl (hN _ kn_4)) (fun _ h9 => h9) rfl dX3_nextNumber_48 ?_
            refine lv_aload_n hx hb dX3_nextNumber_51 rfl (lv_at hl 0 rfl) ?_
            refine va_get (D := (dC, dI)) (ci := 4) (v := .int (u3.1 5)) (C := RX3) (T := TX3) (N := 12) hx hb ht inX3 hown hK hP 0 rfl rfl 5 (by decide) (ht _ kw_182) (fun _ h9 => h9) rfl dX3_nextNumber_52 ?_
            obtain ⟨g16, hm⟩ := gdi_of hm
            refine va_iald hx hb hK hP 4 0 rfl rfl g16 dX3_nextNumber_55 ?_
            refine lv_i2l hx hb dX3_nextNumber_56 rfl ?_
            refine lv_lor hx hb dX3_nextNumber_57 ?_
            refine lv_topl (fun y17 ey17 => ?_)
            have hm := bnd_nm ey17 hm
            refine lv_lstore_n (lv' := [(3, .long y17), (0, .ref aR), (1, .ref aO), (2, .int p2), (5, .int x1)]) hx hb dX3_nextNumber_58 rfl hl (by decide) rfl (fun ls hl => ?_)
            refine lv_aload_n hx hb dX3_nextNumber_59 rfl (lv_at hl 1 rfl) ?_
            refine lv_dup hx hb dX3_nextNumber_60 rfl ?_
            refine va_get (D := (dC, dI)) (ci := 4) (v := .int (u3.1 5)) (C := RX3) (T := TX3) (N := 12) hx hb ht inX3 hown hK hP 0 rfl rfl 5 (by decide) (ht _ kw_182) (fun _ h9 => h9) rfl dX3_nextNumber_61 ?_
            refine lv_iconst (v := (1 : Int32)) hx hb dX3_nextNumber_64 (by decide) ?_
            refine lv_iadd hx hb dX3_nextNumber_65 ?_
            refine va_put (D := (dC, dI)) (ci := 4) (v := .int ((u3.1 5) + (1 : Int32))) (ty := .int) (C := RX3) (T := TX3) (N := 12) hx hb ht inX3 tyX3 tyX3_ok nmX3 hown hK hP hD hS 0 rfl rfl 5 (by decide) (ht _ kw_182) (fun _ h9 => h9) rfl (by decide +kernel) rfl rfl (Nat.le_of_ble_eq_true rfl) dX3_nextNumber_66 (fun H locs hP hD hS => ?_)
            obtain ⟨u18, eu18, hm⟩ := bnd_ex hm
            have hP : va_P (dC, dI) vwCl ([wR cI cJ aR jR aZ u18, wO cI cJ aO jO uO] : List va_W).flatten H := by rw [eu18]; exact hP
            have hD : va_D A ([wR cI cJ aR jR aZ u18, wO cI cJ aO jO uO] : List va_W).flatten := by rw [eu18]; exact hD
            obtain ⟨x19, ex19, hm⟩ := bnd_ex hm
            refine lv_iinc (v := x19) (lv' := [(5, .int x19), (3, .long y17), (0, .ref aR), (1, .ref aO), (2, .int p2)]) hx hb dX3_nextNumber_69 hl (k := 4) rfl (by rw [ex19]; exact congrArg _ (by decide)) (by decide) rfl (fun ls hl => ?_)
            refine lv_goto (tgt := 5) hx hb dX3_nextNumber_72 (by decide) ?_
            exact ih5 x19 y17 u18 _ _ _ hm hP hD hS (lv_sub hl [2, 3, 4, 1, 0] rfl)
          · have hm := ite_f c15 hm
            exact X34_7 y2 x1 u3 _ _ _ hm hP hD hS (lv_sub hl [0, 1, 2, 3, 4] rfl)
  exact LP5 FU (0 : Int32) (0 : Int64) uR _ _ _ hm hP hD hS (lv_sub hl [2, 3, 4, 1, 0] rfl)

def f_X4_forget (uS : OS) : Option (OS) :=
  bnd (sG uS 3 (flI 32 (uS.2.1 3) (0 : Int32))) fun u1 =>
  bnd (sF u1 2 (0 : Int32)) fun u3 =>
  bnd (sF u3 7 (0 : Int32)) fun u4 =>
  some u4

set_option maxHeartbeats 4000000 in
set_option maxRecDepth 100000 in
theorem c_X4_forget (l : Launch) (dC : Nat → ClassId) (dI : Nat → Nat → Nat) (cI cJ : ClassId) (aS : Nat) (jS : Nat → Nat) (sz : Nat) (uS : OS) (o : OS) (hm : f_X4_forget uS = some o) : Met l yX4_forget (wq yX4_forget cX4_forget 1 none) ({ frames := 1, cells := 0, slots := 0, locals := 24 } : Room) (va_Pc [.ref aS] (pcW dC dI cI cJ sz ([wS cI cJ aS jS uS] : List va_W).flatten)) (va_Qv (S := OS) (fun u => some u = some o) (fun (u : OS) t => va_P (dC, dI) vwCl ([wS cI cJ aS jS u] : List va_W).flatten t.heap ∧ va_D (va_A ([wS cI cJ aS jS uS] : List va_W).flatten sz) ([wS cI cJ aS jS u] : List va_W).flatten) (va_A ([wS cI cJ aS jS uS] : List va_W).flatten sz)) 0 0 (va_A ([wS cI cJ aS jS uS] : List va_W).flatten sz) := by
  refine Met.ofW (cc := cX4_forget) (maxL := 1) (ret := none) (by decide) rfl ?_
  intro p e s m args below meth c s₁ B hml hv
  obtain ⟨rfl, hsz, hP, hK, hD0, hN⟩ := hv
  have hx := B.exec
  have hb := B.bytes
  have hr := B.returns
  have ht : ∀ w ∈ lw_good, w.before _ s = true := fun w h => atoms_spec (ws := wq yX4_forget cX4_forget 1 none) B.pre w (wq_mem h)
  have hown : s.vm.findClass RX4 = some m.cls := findClass_of_methodNamed B.named
  have hlocks := B.notSynchronized
  subst hsz
  have hD := hD0.self (sz := s.heap.size)
  generalize hAe : va_A ([wS cI cJ aS jS uS] : List va_W).flatten s.heap.size = A at hD ⊢
  have hA : ∀ q : Nat, s.heap.size ≤ q → A q := fun q h => by rw [← hAe]; exact Or.inr h
  have hS : va_S A s.heap s.heap [] := va_S.rf
  have hl := lv_entry ([.ref aS]) (n := 1) (Nat.le_of_ble_eq_true rfl)
  rw [lg_entry_eq]
  generalize (lg_sl ([.ref aS]) ++ List.replicate (1 - (lg_sl ([.ref aS])).length) Slot.unset).toArray = ls at hl ⊢
  have hl : lv_has ls 1 [(0, .ref aS)] := hl
  generalize hQ : MQ below _ _ s _ _ _ = Q
  generalize hH : s.heap = H at hP ⊢
  have hS : va_S A s.heap H [] := by rw [← hH]; exact va_S.rf
  show W p l e ({ frames := 1, cells := 0, slots := 0, locals := 24 } : Room) s m ([.ref aS] : List Value).toArray below meth c H [] 0 0 Q (F0 m 0 ls [])
  unfold f_X4_forget at hm
  refine lv_aload_n hx hb dX4_forget_0 rfl (lv_at hl 0 rfl) ?_
  refine va_get (D := (dC, dI)) (ci := 5) (v := .ref (jS 3)) (C := RX4) (T := TX4) (N := 11) hx hb ht inX4 hown hK hP 0 rfl rfl 3 (by decide) (ht _ kw_189) (fun _ h9 => h9) rfl dX4_forget_1 ?_
  refine lv_iconst (v := (0 : Int32)) hx hb dX4_forget_4 (by decide) ?_
  have g2 : 32 < 2 ^ 31 := by decide
  have hPc : va_P (dC, dI) vwCl [((jS 3), .inl (cI, 32, .inl (uS.2.1 3)))] _ := hP.sub [1] rfl
  have hDc : va_D A [((jS 3), .inl (cI, 32, .inl (uS.2.1 3)))] := hD.sub [1] (by decide) rfl
  have hFc := va_free (wc := [((jS 3), .inl (cI, 32, .inl (uS.2.1 3)))]) hD hS hA [1] rfl
  obtain ⟨u1, eu1, hm⟩ := bnd_ex hm
  refine va_callv (va_runS (As := [.ref (jS 3), .int (0 : Int32)]) (rest := []) ⟨hx, hb, hml, hown, ht⟩ (c_fillI l dC dI cI cJ (jS 3) H.size 32 g2 (uS.2.1 3) (0 : Int32)) (va_cwS 2 ht (gdS kw_195 kw_193 kw_194 kw_192) rfl rfl rfl nd_J7_fill_53178 ⟨Nat.le_of_ble_eq_true rfl, Nat.le_of_ble_eq_true rfl⟩) ⟨pcW_blind, pcW_pre hPc hK hDc hN⟩ rfl rfl hl.1 rfl (lv_room (Nat.le_of_ble_eq_true rfl)) dX4_forget_5 ⟨Nat.zero_le _, Nat.zero_le _⟩) hS (fun q _ z => hFc q z) hFc (fun uu t H1 locs ht1 hvm hw hB hz1 hk1 hS => ?_)
  obtain ⟨hP1, hD1⟩ := hB
  rw [ht1] at hP1
  subst hw
  obtain ⟨hP, hD⟩ := va_join (wr := [(wS cI cJ aS jS uS)[0], (wS cI cJ aS jS uS)[2], (wS cI cJ aS jS uS)[3], (wS cI cJ aS jS uS)[4], (wS cI cJ aS jS uS)[5], (wS cI cJ aS jS uS)[6], (wS cI cJ aS jS uS)[7]]) (w1 := [((jS 3), .inl (cI, 32, .inl (flI 32 (uS.2.1 3) (0 : Int32))))]) hP hD [1] [0, 2, 3, 4, 5, 6, 7] rfl rfl (by decide) (by decide) hk1 hFc hP1 hD1
  generalize H1 = H at hP hS ⊢
  have hP : va_P (dC, dI) vwCl ([wS cI cJ aS jS u1] : List va_W).flatten H := by rw [eu1]; exact hP.sub [0, 7, 1, 2, 3, 4, 5, 6] rfl
  have hD : va_D A ([wS cI cJ aS jS u1] : List va_W).flatten := by rw [eu1]; exact hD.sub [0, 7, 1, 2, 3, 4, 5, 6] (by decide) rfl
  refine lv_aload_n hx hb dX4_forget_8 rfl (lv_at hl 0 rfl) ?_
  refine lv_iconst (v := (0 : Int32)) hx hb dX4_forget_9 (by decide) ?_
  refine va_put (D := (dC, dI)) (ci := 5) (v := .int (0 : Int32)) (ty := .boolean) (C := RX4) (T := TX4) (N := 11) hx hb ht inX4 tyX4 tyX4_ok nmX4 hown hK hP hD hS 0 rfl rfl 2 (by decide) (ht _ kw_190) (fun _ h9 => h9) rfl (by decide +kernel) rfl rfl (Nat.le_of_ble_eq_true rfl) dX4_forget_10 (fun H locs hP hD hS => ?_)
  obtain ⟨u3, eu3, hm⟩ := bnd_ex hm
  have hP : va_P (dC, dI) vwCl ([wS cI cJ aS jS u3] : List va_W).flatten H := by rw [eu3]; exact hP
  have hD : va_D A ([wS cI cJ aS jS u3] : List va_W).flatten := by rw [eu3]; exact hD
  refine lv_aload_n hx hb dX4_forget_13 rfl (lv_at hl 0 rfl) ?_
  refine lv_iconst (v := (0 : Int32)) hx hb dX4_forget_14 (by decide) ?_
  refine va_put (D := (dC, dI)) (ci := 5) (v := .int (0 : Int32)) (ty := .boolean) (C := RX4) (T := TX4) (N := 11) hx hb ht inX4 tyX4 tyX4_ok nmX4 hown hK hP hD hS 0 rfl rfl 7 (by decide) (ht _ kw_191) (fun _ h9 => h9) rfl (by decide +kernel) rfl rfl (Nat.le_of_ble_eq_true rfl) dX4_forget_15 (fun H locs hP hD hS => ?_)
  obtain ⟨u4, eu4, hm⟩ := bnd_ex hm
  have hP : va_P (dC, dI) vwCl ([wS cI cJ aS jS u4] : List va_W).flatten H := by rw [eu4]; exact hP
  have hD : va_D A ([wS cI cJ aS jS u4] : List va_W).flatten := by rw [eu4]; exact hD
  rw [← hQ]
  exact W.vret hx hb hr (fun t ht1 hW => ⟨⟨u4, rfl, hm, by rw [ht1]; exact hP, hD⟩, hS.F ht1⟩) hS.2.2 dX4_forget_18

def f_X4_beginWith (uS : OS) (p1 : Int32) : Option (OS) :=
  oC1 (f_X4_forget uS) fun u1 =>
  bnd (sF u1 0 p1) fun u3 =>
  bnd (sF u3 1 ((1 : Int32) <<< (p1 &&& (31 : Int32)))) fun u4 =>
  some u4

set_option maxHeartbeats 4000000 in
set_option maxRecDepth 100000 in
theorem c_X4_beginWith (l : Launch) (dC : Nat → ClassId) (dI : Nat → Nat → Nat) (cI cJ : ClassId) (aS : Nat) (jS : Nat → Nat) (sz : Nat) (uS : OS) (p1 : Int32) (o : OS) (hm : f_X4_beginWith uS p1 = some o) : Met l yX4_beginWith (wq yX4_beginWith cX4_beginWith 2 none) ({ frames := 2, cells := 0, slots := 0, locals := 44 } : Room) (va_Pc [.ref aS, .int p1] (pcW dC dI cI cJ sz ([wS cI cJ aS jS uS] : List va_W).flatten)) (va_Qv (S := OS) (fun u => some u = some o) (fun (u : OS) t => va_P (dC, dI) vwCl ([wS cI cJ aS jS u] : List va_W).flatten t.heap ∧ va_D (va_A ([wS cI cJ aS jS uS] : List va_W).flatten sz) ([wS cI cJ aS jS u] : List va_W).flatten) (va_A ([wS cI cJ aS jS uS] : List va_W).flatten sz)) 0 0 (va_A ([wS cI cJ aS jS uS] : List va_W).flatten sz) := by
  refine Met.ofW (cc := cX4_beginWith) (maxL := 2) (ret := none) (by decide) rfl ?_
  intro p e s m args below meth c s₁ B hml hv
  obtain ⟨rfl, hsz, hP, hK, hD0, hN⟩ := hv
  have hx := B.exec
  have hb := B.bytes
  have hr := B.returns
  have ht : ∀ w ∈ lw_good, w.before _ s = true := fun w h => atoms_spec (ws := wq yX4_beginWith cX4_beginWith 2 none) B.pre w (wq_mem h)
  have hown : s.vm.findClass RX4 = some m.cls := findClass_of_methodNamed B.named
  have hlocks := B.notSynchronized
  subst hsz
  have hD := hD0.self (sz := s.heap.size)
  generalize hAe : va_A ([wS cI cJ aS jS uS] : List va_W).flatten s.heap.size = A at hD ⊢
  have hA : ∀ q : Nat, s.heap.size ≤ q → A q := fun q h => by rw [← hAe]; exact Or.inr h
  have hS : va_S A s.heap s.heap [] := va_S.rf
  have hl := lv_entry ([.ref aS, .int p1]) (n := 2) (Nat.le_of_ble_eq_true rfl)
  rw [lg_entry_eq]
  generalize (lg_sl ([.ref aS, .int p1]) ++ List.replicate (2 - (lg_sl ([.ref aS, .int p1])).length) Slot.unset).toArray = ls at hl ⊢
  have hl : lv_has ls 2 [(0, .ref aS), (1, .int p1)] := hl
  generalize hQ : MQ below _ _ s _ _ _ = Q
  generalize hH : s.heap = H at hP ⊢
  have hS : va_S A s.heap H [] := by rw [← hH]; exact va_S.rf
  show W p l e ({ frames := 2, cells := 0, slots := 0, locals := 44 } : Room) s m ([.ref aS, .int p1] : List Value).toArray below meth c H [] 0 0 Q (F0 m 0 ls [])
  unfold f_X4_beginWith at hm
  refine lv_aload_n hx hb dX4_beginWith_0 rfl (lv_at hl 0 rfl) ?_
  have hPc : va_P (dC, dI) vwCl ([wS cI cJ aS jS uS] : List va_W).flatten _ := hP
  have hDc : va_D A ([wS cI cJ aS jS uS] : List va_W).flatten := hD
  have hFc := va_freeF (fc := ([wS cI cJ aS jS uS] : List va_W)) hD hS hA [0] rfl
  obtain ⟨u1o, e2, hm⟩ := oC1_of hm
  refine va_callv (va_runV (As := []) (rest := []) ⟨hx, hb, hml, hown, ht⟩ (c_X4_forget l dC dI cI cJ aS jS H.size uS u1o e2) (cwV 0 ht (gdV kw_202 kw_200 kw_201 kw_199 kw_198) rfl rfl rfl ⟨rfl, nd_X4_forget⟩ ⟨Nat.le_of_ble_eq_true rfl, Nat.le_of_ble_eq_true rfl⟩) ⟨pcW_blind, va_recv hK hPc (ci := 5) (q0 := 0) rfl rfl, pcW_pre hPc hK hDc hN⟩ rfl rfl hl.1 rfl (lv_room (Nat.le_of_ble_eq_true rfl)) dX4_beginWith_1 ⟨Nat.zero_le _, Nat.zero_le _⟩) hS (fun q _ z => hFc q z) hFc (fun uu t H1 locs ht1 hvm hw hB hz1 hk1 hS => ?_)
  obtain ⟨u1, rfl⟩ : ∃ z, z = uu := ⟨_, rfl⟩
  obtain ⟨hP1, hD1⟩ := hB
  rw [ht1] at hP1
  obtain rfl : u1 = u1o := Option.some.inj hw
  have hP : va_P (dC, dI) vwCl ([wS cI cJ aS jS u1] : List va_W).flatten H1 := hP1
  have hD : va_D A ([wS cI cJ aS jS u1] : List va_W).flatten := hD1.weaken (fun _ q _ z => hFc q.1 z)
  generalize H1 = H at hP hS ⊢
  refine lv_aload_n hx hb dX4_beginWith_4 rfl (lv_at hl 0 rfl) ?_
  refine lv_iload_n hx hb dX4_beginWith_5 rfl (lv_at hl 1 rfl) ?_
  refine va_put (D := (dC, dI)) (ci := 5) (v := .int p1) (ty := .int) (C := RX4) (T := TX4) (N := 11) hx hb ht inX4 tyX4 tyX4_ok nmX4 hown hK hP hD hS 0 rfl rfl 0 (by decide) (ht _ kw_196) (fun _ h9 => h9) rfl (by decide +kernel) rfl rfl (Nat.le_of_ble_eq_true rfl) dX4_beginWith_6 (fun H locs hP hD hS => ?_)
  obtain ⟨u3, eu3, hm⟩ := bnd_ex hm
  have hP : va_P (dC, dI) vwCl ([wS cI cJ aS jS u3] : List va_W).flatten H := by rw [eu3]; exact hP
  have hD : va_D A ([wS cI cJ aS jS u3] : List va_W).flatten := by rw [eu3]; exact hD
  refine lv_aload_n hx hb dX4_beginWith_9 rfl (lv_at hl 0 rfl) ?_
  refine lv_iconst (v := (1 : Int32)) hx hb dX4_beginWith_10 (by decide) ?_
  refine lv_iload_n hx hb dX4_beginWith_11 rfl (lv_at hl 1 rfl) ?_
  refine lv_ishl hx hb dX4_beginWith_12 ?_
  refine va_put (D := (dC, dI)) (ci := 5) (v := .int ((1 : Int32) <<< (p1 &&& (31 : Int32)))) (ty := .int) (C := RX4) (T := TX4) (N := 11) hx hb ht inX4 tyX4 tyX4_ok nmX4 hown hK hP hD hS 0 rfl rfl 1 (by decide) (ht _ kw_197) (fun _ h9 => h9) rfl (by decide +kernel) rfl rfl (Nat.le_of_ble_eq_true rfl) dX4_beginWith_13 (fun H locs hP hD hS => ?_)
  obtain ⟨u4, eu4, hm⟩ := bnd_ex hm
  have hP : va_P (dC, dI) vwCl ([wS cI cJ aS jS u4] : List va_W).flatten H := by rw [eu4]; exact hP
  have hD : va_D A ([wS cI cJ aS jS u4] : List va_W).flatten := by rw [eu4]; exact hD
  rw [← hQ]
  exact W.vret hx hb hr (fun t ht1 hW => ⟨⟨u4, rfl, hm, by rw [ht1]; exact hP, hD⟩, hS.F ht1⟩) hS.2.2 dX4_beginWith_16

def f_X3_takeHead (uR : OS) (uZ : OS) (uO : OS) : Option (OS × OS) :=
  oC2 (f_X3_nextNumber uR uO (1 : Int32)) fun u1 r2 =>
  bnd (r2).toInt32 fun x4 =>
  bnd (fun (u5 : OS) =>
  if (u5.1 4) = (0 : Int32) then (
  oC2 (f_X3_nextNumber u5 uO (1 : Int32)) fun u8 r9 =>
  bnd (r9).toInt32 fun x11 =>
  bnd (fun (u12 : OS) =>
  if (u12.1 4) = (0 : Int32) then (
  bnd (sF u12 8 (x4 >>> ((2 : Int32) &&& (31 : Int32)))) fun u15 =>
  bnd (sF u15 9 ((1 : Int32) <<< ((x4 &&& (3 : Int32)) &&& (31 : Int32)))) fun u16 =>
  oC1 (f_X4_beginWith uZ x11) fun u17 =>
  oC2 (f_X3_nextNumber u16 uO (2 : Int32)) fun u19 r20 =>
  bnd (sF u19 10 (r20).toInt32) fun u22 =>
  some (u22, u17)) else (
  some (u12, uZ))) fun K73_13 =>
  if (u8.1 4) = (0 : Int32) then (
  bnd (bnd (sF u8 4 (2 : Int32)) fun u25 =>
  K73_13 u25) fun K68_24 =>
  if x11 < (5 : Int32) then (
  K68_24) else (
  if x11 ≤ (12 : Int32) then (
  K73_13 u8) else (
  K68_24))) else (
  K73_13 u8)) else (
  some (u5, uZ))) fun K34_6 =>
  if (u1.1 4) = (0 : Int32) then (
  bnd (bnd (sF u1 4 (2 : Int32)) fun u30 =>
  K34_6 u30) fun K29_29 =>
  if (3 : Int32) < (x4 >>> ((2 : Int32) &&& (31 : Int32))) then (
  K29_29) else (
  if (x4 &&& (3 : Int32)) = (3 : Int32) then (
  K29_29) else (
  K34_6 u1))) else (
  K34_6 u1)

set_option maxHeartbeats 4000000 in
set_option maxRecDepth 100000 in
theorem c_X3_takeHead (l : Launch) (dC : Nat → ClassId) (dI : Nat → Nat → Nat) (cI cJ : ClassId) (aR : Nat) (jR : Nat → Nat) (aZ : Nat) (jZ : Nat → Nat) (aO : Nat) (jO : Nat → Nat) (sz : Nat) (uR : OS) (uZ : OS) (uO : OS) (o : OS × OS) (hm : f_X3_takeHead uR uZ uO = some o) : Met l yX3_takeHead (wq yX3_takeHead cX3_takeHead 4 none) ({ frames := 3, cells := 0, slots := 0, locals := 65 } : Room) (va_Pc [.ref aR, .ref aO] (pcW dC dI cI cJ sz ([wR cI cJ aR jR aZ uR, wS cI cJ aZ jZ uZ, wO cI cJ aO jO uO] : List va_W).flatten)) (va_Qv (S := OS × OS) (fun u => some (u.1, u.2) = some o) (fun (u : OS × OS) t => va_P (dC, dI) vwCl ([wR cI cJ aR jR aZ u.1, wS cI cJ aZ jZ u.2, wO cI cJ aO jO uO] : List va_W).flatten t.heap ∧ va_D (va_A ([wR cI cJ aR jR aZ uR, wS cI cJ aZ jZ uZ, wO cI cJ aO jO uO] : List va_W).flatten sz) ([wR cI cJ aR jR aZ u.1, wS cI cJ aZ jZ u.2, wO cI cJ aO jO uO] : List va_W).flatten) (va_A ([wR cI cJ aR jR aZ uR, wS cI cJ aZ jZ uZ, wO cI cJ aO jO uO] : List va_W).flatten sz)) 0 0 (va_A ([wR cI cJ aR jR aZ uR, wS cI cJ aZ jZ uZ, wO cI cJ aO jO uO] : List va_W).flatten sz) := by
  refine Met.ofW (cc := cX3_takeHead) (maxL := 4) (ret := none) (by decide) rfl ?_
  intro p e s m args below meth c s₁ B hml hv
  obtain ⟨rfl, hsz, hP, hK, hD0, hN⟩ := hv
  have hx := B.exec
  have hb := B.bytes
  have hr := B.returns
  have ht : ∀ w ∈ lw_good, w.before _ s = true := fun w h => atoms_spec (ws := wq yX3_takeHead cX3_takeHead 4 none) B.pre w (wq_mem h)
  have hown : s.vm.findClass RX3 = some m.cls := findClass_of_methodNamed B.named
  have hlocks := B.notSynchronized
  subst hsz
  have hD := hD0.self (sz := s.heap.size)
  generalize hAe : va_A ([wR cI cJ aR jR aZ uR, wS cI cJ aZ jZ uZ, wO cI cJ aO jO uO] : List va_W).flatten s.heap.size = A at hD ⊢
  have hA : ∀ q : Nat, s.heap.size ≤ q → A q := fun q h => by rw [← hAe]; exact Or.inr h
  have hS : va_S A s.heap s.heap [] := va_S.rf
  have hl := lv_entry ([.ref aR, .ref aO]) (n := 4) (Nat.le_of_ble_eq_true rfl)
  rw [lg_entry_eq]
  generalize (lg_sl ([.ref aR, .ref aO]) ++ List.replicate (4 - (lg_sl ([.ref aR, .ref aO])).length) Slot.unset).toArray = ls at hl ⊢
  have hl : lv_has ls 4 [(0, .ref aR), (1, .ref aO)] := hl
  generalize hQ : MQ below _ _ s _ _ _ = Q
  generalize hH : s.heap = H at hP ⊢
  have hS : va_S A s.heap H [] := by rw [← hH]; exact va_S.rf
  show W p l e ({ frames := 3, cells := 0, slots := 0, locals := 65 } : Room) s m ([.ref aR, .ref aO] : List Value).toArray below meth c H [] 0 0 Q (F0 m 0 ls [])
  unfold f_X3_takeHead at hm
  refine lv_aload_n hx hb dX3_takeHead_0 rfl (lv_at hl 0 rfl) ?_
  refine lv_aload_n hx hb dX3_takeHead_1 rfl (lv_at hl 1 rfl) ?_
  refine lv_iconst (v := (1 : Int32)) hx hb dX3_takeHead_2 (by decide) ?_
  have hPc : va_P (dC, dI) vwCl ([wR cI cJ aR jR aZ uR, wO cI cJ aO jO uO] : List va_W).flatten _ := hP.subF [0, 2] rfl
  have hDc : va_D A ([wR cI cJ aR jR aZ uR, wO cI cJ aO jO uO] : List va_W).flatten := hD.subF [0, 2] (by decide) rfl
  have hFc := va_freeF (fc := ([wR cI cJ aR jR aZ uR, wO cI cJ aO jO uO] : List va_W)) hD hS hA [0, 2] rfl
  obtain ⟨u1o, r2o, e3, hm⟩ := oC2_of hm
  refine va_calll (va_runV (As := [.ref aO, .int (1 : Int32)]) (rest := []) ⟨hx, hb, hml, hown, ht⟩ (c_X3_nextNumber l dC dI cI cJ aR jR aO jO aZ H.size uR uO (1 : Int32) (u1o, r2o) e3) (cwV 2 ht (gdV kw_208 kw_206 kw_207 kw_205 kw_204) rfl rfl rfl ⟨rfl, nd_X3_nextNumber⟩ ⟨Nat.le_of_ble_eq_true rfl, Nat.le_of_ble_eq_true rfl⟩) ⟨pcW_blind, va_recv hK hPc (ci := 4) (q0 := 0) rfl rfl, pcW_pre hPc hK hDc hN⟩ rfl rfl hl.1 rfl (lv_room (Nat.le_of_ble_eq_true rfl)) dX3_takeHead_3 ⟨Nat.zero_le _, Nat.zero_le _⟩) hS (fun q _ z => hFc q z) hFc (fun r2 uu t H1 locs ht1 hvm hw hB hz1 hk1 hS => ?_)
  obtain ⟨u1, rfl⟩ : ∃ z, z = uu := ⟨_, rfl⟩
  obtain ⟨hP1, hD1⟩ := hB
  rw [ht1] at hP1
  obtain ⟨q0, q1⟩ := inj2 hw
  subst q0
  subst q1
  obtain ⟨hP, hD⟩ := va_joinF (fr := ([wS cI cJ aZ jZ uZ] : List va_W)) (f1 := ([wR cI cJ aR jR aZ u1, wO cI cJ aO jO uO] : List va_W)) hP hD [0, 2] [1] rfl rfl (by decide) (by decide) hk1 hFc hP1 hD1
  have hP : va_P (dC, dI) vwCl ([wR cI cJ aR jR aZ u1, wS cI cJ aZ jZ uZ, wO cI cJ aO jO uO] : List va_W).flatten H1 := hP.subF [1, 0, 2] rfl
  have hD : va_D A ([wR cI cJ aR jR aZ u1, wS cI cJ aZ jZ uZ, wO cI cJ aO jO uO] : List va_W).flatten := hD.subF [1, 0, 2] (by decide) rfl
  generalize H1 = H at hP hS ⊢
  refine lv_l2i hx hb dX3_takeHead_6 rfl ?_
  refine lv_topi (fun x4 ex4 => ?_)
  have hm := bnd_nm ex4 hm
  refine lv_istore_n (lv' := [(2, .int x4), (0, .ref aR), (1, .ref aO)]) hx hb dX3_takeHead_7 rfl hl (by decide) rfl (fun ls hl => ?_)
  refine lv_aload_n hx hb dX3_takeHead_8 rfl (lv_at hl 1 rfl) ?_
  refine va_get (D := (dC, dI)) (ci := 4) (v := .int (u1.1 4)) (C := RX3) (T := TX3) (N := 12) hx hb ht inX3 hown hK hP 0 rfl rfl 4 (by decide) (ht _ kw_181) (fun _ h9 => h9) rfl dX3_takeHead_9 ?_
  obtain ⟨K34_6, eK34_6, hm⟩ := bnd_ex hm
  have J34_6 : ∀ (u5 : OS) (H : Heap) (locs : List Loc) (ls : Array Slot), K34_6 u5 = some o → va_P (dC, dI) vwCl ([wR cI cJ aR jR aZ u5, wS cI cJ aZ jZ uZ, wO cI cJ aO jO uO] : List va_W).flatten H → va_D A ([wR cI cJ aR jR aZ u5, wS cI cJ aZ jZ uZ, wO cI cJ aO jO uO] : List va_W).flatten → va_S A s.heap H locs → lv_has ls 4 [(0, .ref aR), (1, .ref aO), (2, .int x4)] → W p l e ({ frames := 3, cells := 0, slots := 0, locals := 65 } : Room) s m ([.ref aR, .ref aO] : List Value).toArray below meth c H locs 0 0 Q (F0 m 34 ls []) := by
    intro u5 H locs ls hm hP hD hS hl
    have hm := ap1 eK34_6 hm
    refine lv_aload_n hx hb dX3_takeHead_34 rfl (lv_at hl 0 rfl) ?_
    refine va_get (D := (dC, dI)) (ci := 4) (v := .int (u5.1 4)) (C := RX3) (T := TX3) (N := 12) hx hb ht inX3 hown hK hP 0 rfl rfl 4 (by decide) (ht _ kw_181) (fun _ h9 => h9) rfl dX3_takeHead_35 ?_
    refine lv_if_eq (tgt := 42) hx hb dX3_takeHead_38 (by decide) (fun c7 => ?_) (fun c7 => ?_)
    · have hm := ite_t c7 hm
      refine lv_aload_n hx hb dX3_takeHead_42 rfl (lv_at hl 0 rfl) ?_
      refine lv_aload_n hx hb dX3_takeHead_43 rfl (lv_at hl 1 rfl) ?_
      refine lv_iconst (v := (1 : Int32)) hx hb dX3_takeHead_44 (by decide) ?_
      have hPc : va_P (dC, dI) vwCl ([wR cI cJ aR jR aZ u5, wO cI cJ aO jO uO] : List va_W).flatten _ := hP.subF [0, 2] rfl
      have hDc : va_D A ([wR cI cJ aR jR aZ u5, wO cI cJ aO jO uO] : List va_W).flatten := hD.subF [0, 2] (by decide) rfl
      have hFc := va_freeF (fc := ([wR cI cJ aR jR aZ u5, wO cI cJ aO jO uO] : List va_W)) hD hS hA [0, 2] rfl
      obtain ⟨u8o, r9o, e10, hm⟩ := oC2_of hm
      refine va_calll (va_runV (As := [.ref aO, .int (1 : Int32)]) (rest := []) ⟨hx, hb, hml, hown, ht⟩ (c_X3_nextNumber l dC dI cI cJ aR jR aO jO aZ H.size u5 uO (1 : Int32) (u8o, r9o) e10) (cwV 2 ht (gdV kw_208 kw_206 kw_207 kw_205 kw_204) rfl rfl rfl ⟨rfl, nd_X3_nextNumber⟩ ⟨Nat.le_of_ble_eq_true rfl, Nat.le_of_ble_eq_true rfl⟩) ⟨pcW_blind, va_recv hK hPc (ci := 4) (q0 := 0) rfl rfl, pcW_pre hPc hK hDc hN⟩ rfl rfl hl.1 rfl (lv_room (Nat.le_of_ble_eq_true rfl)) dX3_takeHead_45 ⟨Nat.zero_le _, Nat.zero_le _⟩) hS (fun q _ z => hFc q z) hFc (fun r9 uu t H1 locs ht1 hvm hw hB hz1 hk1 hS => ?_)
      obtain ⟨u8, rfl⟩ : ∃ z, z = uu := ⟨_, rfl⟩
      obtain ⟨hP1, hD1⟩ := hB
      rw [ht1] at hP1
      obtain ⟨q0, q1⟩ := inj2 hw
      subst q0
      subst q1
      obtain ⟨hP, hD⟩ := va_joinF (fr := ([wS cI cJ aZ jZ uZ] : List va_W)) (f1 := ([wR cI cJ aR jR aZ u8, wO cI cJ aO jO uO] : List va_W)) hP hD [0, 2] [1] rfl rfl (by decide) (by decide) hk1 hFc hP1 hD1
      have hP : va_P (dC, dI) vwCl ([wR cI cJ aR jR aZ u8, wS cI cJ aZ jZ uZ, wO cI cJ aO jO uO] : List va_W).flatten H1 := hP.subF [1, 0, 2] rfl
      have hD : va_D A ([wR cI cJ aR jR aZ u8, wS cI cJ aZ jZ uZ, wO cI cJ aO jO uO] : List va_W).flatten := hD.subF [1, 0, 2] (by decide) rfl
      generalize H1 = H at hP hS ⊢
      refine lv_l2i hx hb dX3_takeHead_48 rfl ?_
      refine lv_topi (fun x11 ex11 => ?_)
      have hm := bnd_nm ex11 hm
      refine lv_istore_n (lv' := [(3, .int x11), (0, .ref aR), (1, .ref aO), (2, .int x4)]) hx hb dX3_takeHead_49 rfl hl (by decide) rfl (fun ls hl => ?_)
      refine lv_aload_n hx hb dX3_takeHead_50 rfl (lv_at hl 1 rfl) ?_
      refine va_get (D := (dC, dI)) (ci := 4) (v := .int (u8.1 4)) (C := RX3) (T := TX3) (N := 12) hx hb ht inX3 hown hK hP 0 rfl rfl 4 (by decide) (ht _ kw_181) (fun _ h9 => h9) rfl dX3_takeHead_51 ?_
      obtain ⟨K73_13, eK73_13, hm⟩ := bnd_ex hm
      have J73_13 : ∀ (u12 : OS) (H : Heap) (locs : List Loc) (ls : Array Slot), K73_13 u12 = some o → va_P (dC, dI) vwCl ([wR cI cJ aR jR aZ u12, wS cI cJ aZ jZ uZ, wO cI cJ aO jO uO] : List va_W).flatten H → va_D A ([wR cI cJ aR jR aZ u12, wS cI cJ aZ jZ uZ, wO cI cJ aO jO uO] : List va_W).flatten → va_S A s.heap H locs → lv_has ls 4 [(0, .ref aR), (1, .ref aO), (2, .int x4), (3, .int x11)] → W p l e ({ frames := 3, cells := 0, slots := 0, locals := 65 } : Room) s m ([.ref aR, .ref aO] : List Value).toArray below meth c H locs 0 0 Q (F0 m 73 ls []) := by
        intro u12 H locs ls hm hP hD hS hl
        have hm := ap1 eK73_13 hm
        refine lv_aload_n hx hb dX3_takeHead_73 rfl (lv_at hl 0 rfl) ?_
        refine va_get (D := (dC, dI)) (ci := 4) (v := .int (u12.1 4)) (C := RX3) (T := TX3) (N := 12) hx hb ht inX3 hown hK hP 0 rfl rfl 4 (by decide) (ht _ kw_181) (fun _ h9 => h9) rfl dX3_takeHead_74 ?_
        refine lv_if_eq (tgt := 81) hx hb dX3_takeHead_77 (by decide) (fun c14 => ?_) (fun c14 => ?_)
        · have hm := ite_t c14 hm
          refine lv_aload_n hx hb dX3_takeHead_81 rfl (lv_at hl 0 rfl) ?_
          refine lv_iload_n hx hb dX3_takeHead_82 rfl (lv_at hl 2 rfl) ?_
          refine lv_iconst (v := (2 : Int32)) hx hb dX3_takeHead_83 (by decide) ?_
          refine lv_ishr hx hb dX3_takeHead_84 ?_
          refine va_put (D := (dC, dI)) (ci := 4) (v := .int (x4 >>> ((2 : Int32) &&& (31 : Int32)))) (ty := .int) (C := RX3) (T := TX3) (N := 12) hx hb ht inX3 tyX3 tyX3_ok nmX3 hown hK hP hD hS 0 rfl rfl 8 (by decide) (ht _ kw_186) (fun _ h9 => h9) rfl (by decide +kernel) rfl rfl (Nat.le_of_ble_eq_true rfl) dX3_takeHead_85 (fun H locs hP hD hS => ?_)
          obtain ⟨u15, eu15, hm⟩ := bnd_ex hm
          have hP : va_P (dC, dI) vwCl ([wR cI cJ aR jR aZ u15, wS cI cJ aZ jZ uZ, wO cI cJ aO jO uO] : List va_W).flatten H := by rw [eu15]; exact hP
          have hD : va_D A ([wR cI cJ aR jR aZ u15, wS cI cJ aZ jZ uZ, wO cI cJ aO jO uO] : List va_W).flatten := by rw [eu15]; exact hD
          refine lv_aload_n hx hb dX3_takeHead_88 rfl (lv_at hl 0 rfl) ?_
          refine lv_iconst (v := (1 : Int32)) hx hb dX3_takeHead_89 (by decide) ?_
          refine lv_iload_n hx hb dX3_takeHead_90 rfl (lv_at hl 2 rfl) ?_
          refine lv_iconst (v := (3 : Int32)) hx hb dX3_takeHead_91 (by decide) ?_
          refine lv_iand hx hb dX3_takeHead_92 ?_
          refine lv_ishl hx hb dX3_takeHead_93 ?_
          refine va_put (D := (dC, dI)) (ci := 4) (v := .int ((1 : Int32) <<< ((x4 &&& (3 : Int32)) &&& (31 : Int32)))) (ty := .int) (C := RX3) (T := TX3) (N := 12) hx hb ht inX3 tyX3 tyX3_ok nmX3 hown hK hP hD hS 0 rfl rfl 9 (by decide) (ht _ kw_187) (fun _ h9 => h9) rfl (by decide +kernel) rfl rfl (Nat.le_of_ble_eq_true rfl) dX3_takeHead_94 (fun H locs hP hD hS => ?_)
          obtain ⟨u16, eu16, hm⟩ := bnd_ex hm
          have hP : va_P (dC, dI) vwCl ([wR cI cJ aR jR aZ u16, wS cI cJ aZ jZ uZ, wO cI cJ aO jO uO] : List va_W).flatten H := by rw [eu16]; exact hP
          have hD : va_D A ([wR cI cJ aR jR aZ u16, wS cI cJ aZ jZ uZ, wO cI cJ aO jO uO] : List va_W).flatten := by rw [eu16]; exact hD
          refine lv_aload_n hx hb dX3_takeHead_97 rfl (lv_at hl 0 rfl) ?_
          refine va_get (D := (dC, dI)) (ci := 4) (v := .ref aZ) (C := RX3) (T := TX3) (N := 12) hx hb ht inX3 hown hK hP 0 rfl rfl 0 (by decide) (ht _ kw_188) (fun _ h9 => h9) rfl dX3_takeHead_98 ?_
          refine lv_iload_n hx hb dX3_takeHead_101 rfl (lv_at hl 3 rfl) ?_
          have hPc : va_P (dC, dI) vwCl ([wS cI cJ aZ jZ uZ] : List va_W).flatten _ := hP.subF [1] rfl
          have hDc : va_D A ([wS cI cJ aZ jZ uZ] : List va_W).flatten := hD.subF [1] (by decide) rfl
          have hFc := va_freeF (fc := ([wS cI cJ aZ jZ uZ] : List va_W)) hD hS hA [1] rfl
          obtain ⟨u17o, e18, hm⟩ := oC1_of hm
          refine va_callv (va_runV (As := [.int x11]) (rest := []) ⟨hx, hb, hml, hown, ht⟩ (c_X4_beginWith l dC dI cI cJ aZ jZ H.size uZ x11 u17o e18) (cwV 1 ht (gdV kw_212 kw_210 kw_211 kw_199 kw_209) rfl rfl rfl ⟨rfl, nd_X4_beginWith⟩ ⟨Nat.le_of_ble_eq_true rfl, Nat.le_of_ble_eq_true rfl⟩) ⟨pcW_blind, va_recv hK hPc (ci := 5) (q0 := 0) rfl rfl, pcW_pre hPc hK hDc hN⟩ rfl rfl hl.1 rfl (lv_room (Nat.le_of_ble_eq_true rfl)) dX3_takeHead_102 ⟨Nat.zero_le _, Nat.zero_le _⟩) hS (fun q _ z => hFc q z) hFc (fun uu t H1 locs ht1 hvm hw hB hz1 hk1 hS => ?_)
          obtain ⟨u17, rfl⟩ : ∃ z, z = uu := ⟨_, rfl⟩
          obtain ⟨hP1, hD1⟩ := hB
          rw [ht1] at hP1
          obtain rfl : u17 = u17o := Option.some.inj hw
          obtain ⟨hP, hD⟩ := va_joinF (fr := ([wR cI cJ aR jR aZ u16, wO cI cJ aO jO uO] : List va_W)) (f1 := ([wS cI cJ aZ jZ u17] : List va_W)) hP hD [1] [0, 2] rfl rfl (by decide) (by decide) hk1 hFc hP1 hD1
          have hP : va_P (dC, dI) vwCl ([wR cI cJ aR jR aZ u16, wS cI cJ aZ jZ u17, wO cI cJ aO jO uO] : List va_W).flatten H1 := hP.subF [0, 2, 1] rfl
          have hD : va_D A ([wR cI cJ aR jR aZ u16, wS cI cJ aZ jZ u17, wO cI cJ aO jO uO] : List va_W).flatten := hD.subF [0, 2, 1] (by decide) rfl
          generalize H1 = H at hP hS ⊢
          refine lv_aload_n hx hb dX3_takeHead_105 rfl (lv_at hl 0 rfl) ?_
          refine lv_aload_n hx hb dX3_takeHead_106 rfl (lv_at hl 0 rfl) ?_
          refine lv_aload_n hx hb dX3_takeHead_107 rfl (lv_at hl 1 rfl) ?_
          refine lv_iconst (v := (2 : Int32)) hx hb dX3_takeHead_108 (by decide) ?_
          have hPc : va_P (dC, dI) vwCl ([wR cI cJ aR jR aZ u16, wO cI cJ aO jO uO] : List va_W).flatten _ := hP.subF [0, 2] rfl
          have hDc : va_D A ([wR cI cJ aR jR aZ u16, wO cI cJ aO jO uO] : List va_W).flatten := hD.subF [0, 2] (by decide) rfl
          have hFc := va_freeF (fc := ([wR cI cJ aR jR aZ u16, wO cI cJ aO jO uO] : List va_W)) hD hS hA [0, 2] rfl
          obtain ⟨u19o, r20o, e21, hm⟩ := oC2_of hm
          refine va_calll (va_runV (As := [.ref aO, .int (2 : Int32)]) (rest := [.ref aR]) ⟨hx, hb, hml, hown, ht⟩ (c_X3_nextNumber l dC dI cI cJ aR jR aO jO aZ H.size u16 uO (2 : Int32) (u19o, r20o) e21) (cwV 2 ht (gdV kw_208 kw_206 kw_207 kw_205 kw_204) rfl rfl rfl ⟨rfl, nd_X3_nextNumber⟩ ⟨Nat.le_of_ble_eq_true rfl, Nat.le_of_ble_eq_true rfl⟩) ⟨pcW_blind, va_recv hK hPc (ci := 4) (q0 := 0) rfl rfl, pcW_pre hPc hK hDc hN⟩ rfl rfl hl.1 rfl (lv_room (Nat.le_of_ble_eq_true rfl)) dX3_takeHead_109 ⟨Nat.zero_le _, Nat.zero_le _⟩) hS (fun q _ z => hFc q z) hFc (fun r20 uu t H1 locs ht1 hvm hw hB hz1 hk1 hS => ?_)
          obtain ⟨u19, rfl⟩ : ∃ z, z = uu := ⟨_, rfl⟩
          obtain ⟨hP1, hD1⟩ := hB
          rw [ht1] at hP1
          obtain ⟨q0, q1⟩ := inj2 hw
          subst q0
          subst q1
          obtain ⟨hP, hD⟩ := va_joinF (fr := ([wS cI cJ aZ jZ u17] : List va_W)) (f1 := ([wR cI cJ aR jR aZ u19, wO cI cJ aO jO uO] : List va_W)) hP hD [0, 2] [1] rfl rfl (by decide) (by decide) hk1 hFc hP1 hD1
          have hP : va_P (dC, dI) vwCl ([wR cI cJ aR jR aZ u19, wS cI cJ aZ jZ u17, wO cI cJ aO jO uO] : List va_W).flatten H1 := hP.subF [1, 0, 2] rfl
          have hD : va_D A ([wR cI cJ aR jR aZ u19, wS cI cJ aZ jZ u17, wO cI cJ aO jO uO] : List va_W).flatten := hD.subF [1, 0, 2] (by decide) rfl
          generalize H1 = H at hP hS ⊢
          refine lv_l2i hx hb dX3_takeHead_112 rfl ?_
          refine va_put (D := (dC, dI)) (ci := 4) (v := .int (r20).toInt32) (ty := .int) (C := RX3) (T := TX3) (N := 12) hx hb ht inX3 tyX3 tyX3_ok nmX3 hown hK hP hD hS 0 rfl rfl 10 (by decide) (ht _ kw_203) (fun _ h9 => h9) rfl (by decide +kernel) rfl rfl (Nat.le_of_ble_eq_true rfl) dX3_takeHead_113 (fun H locs hP hD hS => ?_)
          obtain ⟨u22, eu22, hm⟩ := bnd_ex hm
          have hP : va_P (dC, dI) vwCl ([wR cI cJ aR jR aZ u22, wS cI cJ aZ jZ u17, wO cI cJ aO jO uO] : List va_W).flatten H := by rw [eu22]; exact hP
          have hD : va_D A ([wR cI cJ aR jR aZ u22, wS cI cJ aZ jZ u17, wO cI cJ aO jO uO] : List va_W).flatten := by rw [eu22]; exact hD
          rw [← hQ]
          exact W.vret hx hb hr (fun t ht1 hW => ⟨⟨(u22, u17), rfl, hm, by rw [ht1]; exact hP, hD⟩, hS.F ht1⟩) hS.2.2 dX3_takeHead_116
        · have hm := ite_f c14 hm
          rw [← hQ]
          exact W.vret hx hb hr (fun t ht1 hW => ⟨⟨(u12, uZ), rfl, hm, by rw [ht1]; exact hP, hD⟩, hS.F ht1⟩) hS.2.2 dX3_takeHead_80
      refine lv_if_ne (tgt := 73) hx hb dX3_takeHead_54 (by decide) (fun c23 => ?_) (fun c23 => ?_)
      · have hm := ite_f c23 hm
        exact J73_13 u8 _ _ _ hm hP hD hS (lv_sub hl [1, 2, 3, 0] rfl)
      · have hm := ite_t c23 hm
        refine lv_iload_n hx hb dX3_takeHead_57 rfl (lv_at hl 0 rfl) ?_
        refine lv_iconst (v := (5 : Int32)) hx hb dX3_takeHead_58 (by decide) ?_
        obtain ⟨K68_24, eK68_24, hm⟩ := bnd_ex hm
        have J68_24 : ∀ (H : Heap) (locs : List Loc) (ls : Array Slot), K68_24 = some o → va_P (dC, dI) vwCl ([wR cI cJ aR jR aZ u8, wS cI cJ aZ jZ uZ, wO cI cJ aO jO uO] : List va_W).flatten H → va_D A ([wR cI cJ aR jR aZ u8, wS cI cJ aZ jZ uZ, wO cI cJ aO jO uO] : List va_W).flatten → va_S A s.heap H locs → lv_has ls 4 [(0, .ref aR), (1, .ref aO), (2, .int x4), (3, .int x11)] → W p l e ({ frames := 3, cells := 0, slots := 0, locals := 65 } : Room) s m ([.ref aR, .ref aO] : List Value).toArray below meth c H locs 0 0 Q (F0 m 68 ls []) := by
          intro H locs ls hm hP hD hS hl
          have hm := ap0 eK68_24 hm
          refine lv_aload_n hx hb dX3_takeHead_68 rfl (lv_at hl 0 rfl) ?_
          refine lv_iconst (v := (2 : Int32)) hx hb dX3_takeHead_69 (by decide) ?_
          refine va_put (D := (dC, dI)) (ci := 4) (v := .int (2 : Int32)) (ty := .int) (C := RX3) (T := TX3) (N := 12) hx hb ht inX3 tyX3 tyX3_ok nmX3 hown hK hP hD hS 0 rfl rfl 4 (by decide) (ht _ kw_181) (fun _ h9 => h9) rfl (by decide +kernel) rfl rfl (Nat.le_of_ble_eq_true rfl) dX3_takeHead_70 (fun H locs hP hD hS => ?_)
          obtain ⟨u25, eu25, hm⟩ := bnd_ex hm
          have hP : va_P (dC, dI) vwCl ([wR cI cJ aR jR aZ u25, wS cI cJ aZ jZ uZ, wO cI cJ aO jO uO] : List va_W).flatten H := by rw [eu25]; exact hP
          have hD : va_D A ([wR cI cJ aR jR aZ u25, wS cI cJ aZ jZ uZ, wO cI cJ aO jO uO] : List va_W).flatten := by rw [eu25]; exact hD
          exact J73_13 u25 _ _ _ hm hP hD hS (lv_sub hl [0, 1, 2, 3] rfl)
        refine lv_icmp_lt (tgt := 68) hx hb dX3_takeHead_59 (by decide) (fun c26 => ?_) (fun c26 => ?_)
        · have hm := ite_t c26 hm
          exact J68_24 _ _ _ hm hP hD hS (lv_sub hl [1, 2, 3, 0] rfl)
        · have hm := ite_f c26 hm
          refine lv_iload_n hx hb dX3_takeHead_62 rfl (lv_at hl 0 rfl) ?_
          refine lv_bipush (v := (12 : Int32)) hx hb dX3_takeHead_63 (by decide) ?_
          refine lv_icmp_le (tgt := 73) hx hb dX3_takeHead_65 (by decide) (fun c27 => ?_) (fun c27 => ?_)
          · have hm := ite_t c27 hm
            exact J73_13 u8 _ _ _ hm hP hD hS (lv_sub hl [1, 2, 3, 0] rfl)
          · have hm := ite_f c27 hm
            exact J68_24 _ _ _ hm hP hD hS (lv_sub hl [1, 2, 3, 0] rfl)
    · have hm := ite_f c7 hm
      rw [← hQ]
      exact W.vret hx hb hr (fun t ht1 hW => ⟨⟨(u5, uZ), rfl, hm, by rw [ht1]; exact hP, hD⟩, hS.F ht1⟩) hS.2.2 dX3_takeHead_41
  refine lv_if_ne (tgt := 34) hx hb dX3_takeHead_12 (by decide) (fun c28 => ?_) (fun c28 => ?_)
  · have hm := ite_f c28 hm
    exact J34_6 u1 _ _ _ hm hP hD hS (lv_sub hl [1, 2, 0] rfl)
  · have hm := ite_t c28 hm
    refine lv_iload_n hx hb dX3_takeHead_15 rfl (lv_at hl 0 rfl) ?_
    refine lv_iconst (v := (2 : Int32)) hx hb dX3_takeHead_16 (by decide) ?_
    refine lv_ishr hx hb dX3_takeHead_17 ?_
    refine lv_iconst (v := (3 : Int32)) hx hb dX3_takeHead_18 (by decide) ?_
    obtain ⟨K29_29, eK29_29, hm⟩ := bnd_ex hm
    have J29_29 : ∀ (H : Heap) (locs : List Loc) (ls : Array Slot), K29_29 = some o → va_P (dC, dI) vwCl ([wR cI cJ aR jR aZ u1, wS cI cJ aZ jZ uZ, wO cI cJ aO jO uO] : List va_W).flatten H → va_D A ([wR cI cJ aR jR aZ u1, wS cI cJ aZ jZ uZ, wO cI cJ aO jO uO] : List va_W).flatten → va_S A s.heap H locs → lv_has ls 4 [(0, .ref aR), (1, .ref aO), (2, .int x4)] → W p l e ({ frames := 3, cells := 0, slots := 0, locals := 65 } : Room) s m ([.ref aR, .ref aO] : List Value).toArray below meth c H locs 0 0 Q (F0 m 29 ls []) := by
      intro H locs ls hm hP hD hS hl
      have hm := ap0 eK29_29 hm
      refine lv_aload_n hx hb dX3_takeHead_29 rfl (lv_at hl 0 rfl) ?_
      refine lv_iconst (v := (2 : Int32)) hx hb dX3_takeHead_30 (by decide) ?_
      refine va_put (D := (dC, dI)) (ci := 4) (v := .int (2 : Int32)) (ty := .int) (C := RX3) (T := TX3) (N := 12) hx hb ht inX3 tyX3 tyX3_ok nmX3 hown hK hP hD hS 0 rfl rfl 4 (by decide) (ht _ kw_181) (fun _ h9 => h9) rfl (by decide +kernel) rfl rfl (Nat.le_of_ble_eq_true rfl) dX3_takeHead_31 (fun H locs hP hD hS => ?_)
      obtain ⟨u30, eu30, hm⟩ := bnd_ex hm
      have hP : va_P (dC, dI) vwCl ([wR cI cJ aR jR aZ u30, wS cI cJ aZ jZ uZ, wO cI cJ aO jO uO] : List va_W).flatten H := by rw [eu30]; exact hP
      have hD : va_D A ([wR cI cJ aR jR aZ u30, wS cI cJ aZ jZ uZ, wO cI cJ aO jO uO] : List va_W).flatten := by rw [eu30]; exact hD
      exact J34_6 u30 _ _ _ hm hP hD hS (lv_sub hl [0, 1, 2] rfl)
    refine lv_icmp_gt (tgt := 29) hx hb dX3_takeHead_19 (by decide) (fun c31 => ?_) (fun c31 => ?_)
    · have hm := ite_t c31 hm
      exact J29_29 _ _ _ hm hP hD hS (lv_sub hl [1, 2, 0] rfl)
    · have hm := ite_f c31 hm
      refine lv_iload_n hx hb dX3_takeHead_22 rfl (lv_at hl 0 rfl) ?_
      refine lv_iconst (v := (3 : Int32)) hx hb dX3_takeHead_23 (by decide) ?_
      refine lv_iand hx hb dX3_takeHead_24 ?_
      refine lv_iconst (v := (3 : Int32)) hx hb dX3_takeHead_25 (by decide) ?_
      refine lv_icmp_ne (tgt := 34) hx hb dX3_takeHead_26 (by decide) (fun c32 => ?_) (fun c32 => ?_)
      · have hm := ite_f c32 hm
        exact J34_6 u1 _ _ _ hm hP hD hS (lv_sub hl [1, 2, 0] rfl)
      · have hm := ite_t c32 hm
        exact J29_29 _ _ _ hm hP hD hS (lv_sub hl [1, 2, 0] rfl)

def f_X3_nextBits_L5 (uO : OS) (p2 : Int32) : Nat → Int32 → Int32 → OS → Option (OS × Int32)
  | 0, _, _, _ => none
  | n5 + 1, x1, x2, u3 =>
    if p2 ≤ x1 then (
    some (u3, x2)) else (
    bnd (fun (u5 : OS) =>
    bnd (sF u5 7 ((u5.1 7) - (1 : Int32))) fun u7 =>
    bnd (((2 : Int32) * x2) + (((u7.1 6) >>> ((u7.1 7) &&& (31 : Int32))) &&& (1 : Int32))) fun x8 =>
    bnd (x1 + (1 : Int32)) fun x9 =>
    f_X3_nextBits_L5 uO p2 n5 x9 x8 u7) fun K44_6 =>
    if (u3.1 7) = (0 : Int32) then (
    oC2 (f_X3_nextNumber u3 uO (1 : Int32)) fun u11 r12 =>
    bnd (sF u11 6 (r12).toInt32) fun u14 =>
    if (u14.1 4) = (0 : Int32) then (
    bnd (sF u14 7 (8 : Int32)) fun u16 =>
    K44_6 u16) else (
    some (u14, (-1 : Int32)))) else (
    K44_6 u3))

def f_X3_nextBits (uR : OS) (uO : OS) (p2 : Int32) : Option (OS × Int32) :=
  f_X3_nextBits_L5 uO p2 FU (0 : Int32) (0 : Int32) uR

set_option maxHeartbeats 4000000 in
set_option maxRecDepth 100000 in
theorem c_X3_nextBits (l : Launch) (dC : Nat → ClassId) (dI : Nat → Nat → Nat) (cI cJ : ClassId) (aR : Nat) (jR : Nat → Nat) (aO : Nat) (jO : Nat → Nat) (aZ : Nat) (sz : Nat) (uR : OS) (uO : OS) (p2 : Int32) (o : OS × Int32) (hm : f_X3_nextBits uR uO p2 = some o) : Met l yX3_nextBits (wq yX3_nextBits cX3_nextBits 5 (some .int)) ({ frames := 1, cells := 0, slots := 0, locals := 25 } : Room) (va_Pc [.ref aR, .ref aO, .int p2] (pcW dC dI cI cJ sz ([wR cI cJ aR jR aZ uR, wO cI cJ aO jO uO] : List va_W).flatten)) (va_Qi (S := OS) (fun r u => some (u, r) = some o) (fun (u : OS) t => va_P (dC, dI) vwCl ([wR cI cJ aR jR aZ u, wO cI cJ aO jO uO] : List va_W).flatten t.heap ∧ va_D (va_A ([wR cI cJ aR jR aZ uR, wO cI cJ aO jO uO] : List va_W).flatten sz) ([wR cI cJ aR jR aZ u, wO cI cJ aO jO uO] : List va_W).flatten) (va_A ([wR cI cJ aR jR aZ uR, wO cI cJ aO jO uO] : List va_W).flatten sz)) 0 0 (va_A ([wR cI cJ aR jR aZ uR, wO cI cJ aO jO uO] : List va_W).flatten sz) := by
  refine Met.ofW (cc := cX3_nextBits) (maxL := 5) (ret := (some .int)) (by decide) rfl ?_
  intro p e s m args below meth c s₁ B hml hv
  obtain ⟨rfl, hsz, hP, hK, hD0, hN⟩ := hv
  have hx := B.exec
  have hb := B.bytes
  have hr := B.returns
  have ht : ∀ w ∈ lw_good, w.before _ s = true := fun w h => atoms_spec (ws := wq yX3_nextBits cX3_nextBits 5 (some .int)) B.pre w (wq_mem h)
  have hown : s.vm.findClass RX3 = some m.cls := findClass_of_methodNamed B.named
  have hlocks := B.notSynchronized
  subst hsz
  have hD := hD0.self (sz := s.heap.size)
  generalize hAe : va_A ([wR cI cJ aR jR aZ uR, wO cI cJ aO jO uO] : List va_W).flatten s.heap.size = A at hD ⊢
  have hA : ∀ q : Nat, s.heap.size ≤ q → A q := fun q h => by rw [← hAe]; exact Or.inr h
  have hS : va_S A s.heap s.heap [] := va_S.rf
  have hl := lv_entry ([.ref aR, .ref aO, .int p2]) (n := 5) (Nat.le_of_ble_eq_true rfl)
  rw [lg_entry_eq]
  generalize (lg_sl ([.ref aR, .ref aO, .int p2]) ++ List.replicate (5 - (lg_sl ([.ref aR, .ref aO, .int p2])).length) Slot.unset).toArray = ls at hl ⊢
  have hl : lv_has ls 5 [(0, .ref aR), (1, .ref aO), (2, .int p2)] := hl
  generalize hQ : MQ below _ _ s _ _ _ = Q
  generalize hH : s.heap = H at hP ⊢
  have hS : va_S A s.heap H [] := by rw [← hH]; exact va_S.rf
  show W p l e ({ frames := 1, cells := 0, slots := 0, locals := 25 } : Room) s m ([.ref aR, .ref aO, .int p2] : List Value).toArray below meth c H [] 0 0 Q (F0 m 0 ls [])
  unfold f_X3_nextBits at hm
  refine lv_iconst (v := (0 : Int32)) hx hb dX3_nextBits_0 (by decide) ?_
  refine lv_istore_n (lv' := [(3, .int (0 : Int32)), (0, .ref aR), (1, .ref aO), (2, .int p2)]) hx hb dX3_nextBits_1 rfl hl (by decide) rfl (fun ls hl => ?_)
  refine lv_iconst (v := (0 : Int32)) hx hb dX3_nextBits_2 (by decide) ?_
  refine lv_istore (lv' := [(4, .int (0 : Int32)), (3, .int (0 : Int32)), (0, .ref aR), (1, .ref aO), (2, .int p2)]) hx hb dX3_nextBits_3 hl (by decide) rfl (fun ls hl => ?_)
  have LP5 : ∀ (n5 : Nat) (x1 : Int32) (x2 : Int32) (u3 : OS) (H : Heap) (locs : List Loc) (ls : Array Slot), f_X3_nextBits_L5 uO p2 n5 x1 x2 u3 = some o → va_P (dC, dI) vwCl ([wR cI cJ aR jR aZ u3, wO cI cJ aO jO uO] : List va_W).flatten H → va_D A ([wR cI cJ aR jR aZ u3, wO cI cJ aO jO uO] : List va_W).flatten → va_S A s.heap H locs → lv_has ls 5 [(0, .ref aR), (1, .ref aO), (2, .int p2), (3, .int x2), (4, .int x1)] → W p l e ({ frames := 1, cells := 0, slots := 0, locals := 25 } : Room) s m ([.ref aR, .ref aO, .int p2] : List Value).toArray below meth c H locs 0 0 Q (F0 m 5 ls []) := by
    intro n5
    induction n5 with
    | zero => intro x1 x2 u3 H locs ls hm; exact nomatch (show (none : Option _) = some _ from hm)
    | succ n5 ih5 =>
      intro x1 x2 u3 H locs ls hm hP hD hS hl
      unfold f_X3_nextBits_L5 at hm
      refine lv_iload hx hb dX3_nextBits_5 (lv_at hl 4 rfl) ?_
      refine lv_iload_n hx hb dX3_nextBits_7 rfl (lv_at hl 2 rfl) ?_
      refine lv_icmp_ge (tgt := 76) hx hb dX3_nextBits_8 (by decide) (fun c4 => ?_) (fun c4 => ?_)
      · have hm := ite_t c4 hm
        refine lv_iload_n hx hb dX3_nextBits_76 rfl (lv_at hl 3 rfl) ?_
        rw [← hQ]
        exact W.iret (v := x2) hx hb hr (fun t ht1 hW => ⟨⟨_, u3, rfl, hm, by rw [ht1]; exact hP, hD⟩, hS.F ht1⟩) hS.2.2 dX3_nextBits_77
      · have hm := ite_f c4 hm
        refine lv_aload_n hx hb dX3_nextBits_11 rfl (lv_at hl 0 rfl) ?_
        refine va_get (D := (dC, dI)) (ci := 4) (v := .int (u3.1 7)) (C := RX3) (T := TX3) (N := 12) hx hb ht inX3 hown hK hP 0 rfl rfl 7 (by decide) (ht _ kw_183) (fun _ h9 => h9) rfl dX3_nextBits_12 ?_
        obtain ⟨K44_6, eK44_6, hm⟩ := bnd_ex hm
        have J44_6 : ∀ (u5 : OS) (H : Heap) (locs : List Loc) (ls : Array Slot), K44_6 u5 = some o → va_P (dC, dI) vwCl ([wR cI cJ aR jR aZ u5, wO cI cJ aO jO uO] : List va_W).flatten H → va_D A ([wR cI cJ aR jR aZ u5, wO cI cJ aO jO uO] : List va_W).flatten → va_S A s.heap H locs → lv_has ls 5 [(0, .ref aR), (1, .ref aO), (2, .int p2), (3, .int x2), (4, .int x1)] → W p l e ({ frames := 1, cells := 0, slots := 0, locals := 25 } : Room) s m ([.ref aR, .ref aO, .int p2] : List Value).toArray below meth c H locs 0 0 Q (F0 m 44 ls []) := by
          intro u5 H locs ls hm hP hD hS hl
          have hm := ap1 eK44_6 hm
          refine lv_aload_n hx hb dX3_nextBits_44 rfl (lv_at hl 0 rfl) ?_
          refine lv_dup hx hb dX3_nextBits_45 rfl ?_
          refine va_get (D := (dC, dI)) (ci := 4) (v := .int (u5.1 7)) (C := RX3) (T := TX3) (N := 12) hx hb ht inX3 hown hK hP 0 rfl rfl 7 (by decide) (ht _ kw_183) (fun _ h9 => h9) rfl dX3_nextBits_46 ?_
          refine lv_iconst (v := (1 : Int32)) hx hb dX3_nextBits_49 (by decide) ?_
          refine lv_isub hx hb dX3_nextBits_50 ?_
          refine va_put (D := (dC, dI)) (ci := 4) (v := .int ((u5.1 7) - (1 : Int32))) (ty := .int) (C := RX3) (T := TX3) (N := 12) hx hb ht inX3 tyX3 tyX3_ok nmX3 hown hK hP hD hS 0 rfl rfl 7 (by decide) (ht _ kw_183) (fun _ h9 => h9) rfl (by decide +kernel) rfl rfl (Nat.le_of_ble_eq_true rfl) dX3_nextBits_51 (fun H locs hP hD hS => ?_)
          obtain ⟨u7, eu7, hm⟩ := bnd_ex hm
          have hP : va_P (dC, dI) vwCl ([wR cI cJ aR jR aZ u7, wO cI cJ aO jO uO] : List va_W).flatten H := by rw [eu7]; exact hP
          have hD : va_D A ([wR cI cJ aR jR aZ u7, wO cI cJ aO jO uO] : List va_W).flatten := by rw [eu7]; exact hD
          refine lv_iconst (v := (2 : Int32)) hx hb dX3_nextBits_54 (by decide) ?_
          refine lv_iload_n hx hb dX3_nextBits_55 rfl (lv_at hl 3 rfl) ?_
          refine lv_imul hx hb dX3_nextBits_56 ?_
          refine lv_aload_n hx hb dX3_nextBits_57 rfl (lv_at hl 0 rfl) ?_
          refine va_get (D := (dC, dI)) (ci := 4) (v := .int (u7.1 6)) (C := RX3) (T := TX3) (N := 12) hx hb ht inX3 hown hK hP 0 rfl rfl 6 (by decide) (ht _ kw_213) (fun _ h9 => h9) rfl dX3_nextBits_58 ?_
          refine lv_aload_n hx hb dX3_nextBits_61 rfl (lv_at hl 0 rfl) ?_
          refine va_get (D := (dC, dI)) (ci := 4) (v := .int (u7.1 7)) (C := RX3) (T := TX3) (N := 12) hx hb ht inX3 hown hK hP 0 rfl rfl 7 (by decide) (ht _ kw_183) (fun _ h9 => h9) rfl dX3_nextBits_62 ?_
          refine lv_ishr hx hb dX3_nextBits_65 ?_
          refine lv_iconst (v := (1 : Int32)) hx hb dX3_nextBits_66 (by decide) ?_
          refine lv_iand hx hb dX3_nextBits_67 ?_
          refine lv_iadd hx hb dX3_nextBits_68 ?_
          refine lv_topi (fun x8 ex8 => ?_)
          have hm := bnd_nm ex8 hm
          refine lv_istore_n (lv' := [(3, .int x8), (0, .ref aR), (1, .ref aO), (2, .int p2), (4, .int x1)]) hx hb dX3_nextBits_69 rfl hl (by decide) rfl (fun ls hl => ?_)
          obtain ⟨x9, ex9, hm⟩ := bnd_ex hm
          refine lv_iinc (v := x9) (lv' := [(4, .int x9), (3, .int x8), (0, .ref aR), (1, .ref aO), (2, .int p2)]) hx hb dX3_nextBits_70 hl (k := 4) rfl (by rw [ex9]; exact congrArg _ (by decide)) (by decide) rfl (fun ls hl => ?_)
          refine lv_goto (tgt := 5) hx hb dX3_nextBits_73 (by decide) ?_
          exact ih5 x9 x8 u7 _ _ _ hm hP hD hS (lv_sub hl [2, 3, 4, 1, 0] rfl)
        refine lv_if_ne (tgt := 44) hx hb dX3_nextBits_15 (by decide) (fun c10 => ?_) (fun c10 => ?_)
        · have hm := ite_f c10 hm
          exact J44_6 u3 _ _ _ hm hP hD hS (lv_sub hl [0, 1, 2, 3, 4] rfl)
        · have hm := ite_t c10 hm
          refine lv_aload_n hx hb dX3_nextBits_18 rfl (lv_at hl 0 rfl) ?_
          refine lv_aload_n hx hb dX3_nextBits_19 rfl (lv_at hl 0 rfl) ?_
          refine lv_aload_n hx hb dX3_nextBits_20 rfl (lv_at hl 1 rfl) ?_
          refine lv_iconst (v := (1 : Int32)) hx hb dX3_nextBits_21 (by decide) ?_
          have hPc : va_P (dC, dI) vwCl ([wR cI cJ aR jR aZ u3, wO cI cJ aO jO uO] : List va_W).flatten _ := hP
          have hDc : va_D A ([wR cI cJ aR jR aZ u3, wO cI cJ aO jO uO] : List va_W).flatten := hD
          have hFc := va_freeF (fc := ([wR cI cJ aR jR aZ u3, wO cI cJ aO jO uO] : List va_W)) hD hS hA [0, 1] rfl
          obtain ⟨u11o, r12o, e13, hm⟩ := oC2_of hm
          refine va_calll (va_runV (As := [.ref aO, .int (1 : Int32)]) (rest := [.ref aR]) ⟨hx, hb, hml, hown, ht⟩ (c_X3_nextNumber l dC dI cI cJ aR jR aO jO aZ H.size u3 uO (1 : Int32) (u11o, r12o) e13) (cwV 2 ht (gdV kw_208 kw_206 kw_207 kw_205 kw_204) rfl rfl rfl ⟨rfl, nd_X3_nextNumber⟩ ⟨Nat.le_of_ble_eq_true rfl, Nat.le_of_ble_eq_true rfl⟩) ⟨pcW_blind, va_recv hK hPc (ci := 4) (q0 := 0) rfl rfl, pcW_pre hPc hK hDc hN⟩ rfl rfl hl.1 rfl (lv_room (Nat.le_of_ble_eq_true rfl)) dX3_nextBits_22 ⟨Nat.zero_le _, Nat.zero_le _⟩) hS (fun q _ z => hFc q z) hFc (fun r12 uu t H1 locs ht1 hvm hw hB hz1 hk1 hS => ?_)
          obtain ⟨u11, rfl⟩ : ∃ z, z = uu := ⟨_, rfl⟩
          obtain ⟨hP1, hD1⟩ := hB
          rw [ht1] at hP1
          obtain ⟨q0, q1⟩ := inj2 hw
          subst q0
          subst q1
          have hP : va_P (dC, dI) vwCl ([wR cI cJ aR jR aZ u11, wO cI cJ aO jO uO] : List va_W).flatten H1 := hP1
          have hD : va_D A ([wR cI cJ aR jR aZ u11, wO cI cJ aO jO uO] : List va_W).flatten := hD1.weaken (fun _ q _ z => hFc q.1 z)
          generalize H1 = H at hP hS ⊢
          refine lv_l2i hx hb dX3_nextBits_25 rfl ?_
          refine va_put (D := (dC, dI)) (ci := 4) (v := .int (r12).toInt32) (ty := .int) (C := RX3) (T := TX3) (N := 12) hx hb ht inX3 tyX3 tyX3_ok nmX3 hown hK hP hD hS 0 rfl rfl 6 (by decide) (ht _ kw_213) (fun _ h9 => h9) rfl (by decide +kernel) rfl rfl (Nat.le_of_ble_eq_true rfl) dX3_nextBits_26 (fun H locs hP hD hS => ?_)
          obtain ⟨u14, eu14, hm⟩ := bnd_ex hm
          have hP : va_P (dC, dI) vwCl ([wR cI cJ aR jR aZ u14, wO cI cJ aO jO uO] : List va_W).flatten H := by rw [eu14]; exact hP
          have hD : va_D A ([wR cI cJ aR jR aZ u14, wO cI cJ aO jO uO] : List va_W).flatten := by rw [eu14]; exact hD
          refine lv_aload_n hx hb dX3_nextBits_29 rfl (lv_at hl 0 rfl) ?_
          refine va_get (D := (dC, dI)) (ci := 4) (v := .int (u14.1 4)) (C := RX3) (T := TX3) (N := 12) hx hb ht inX3 hown hK hP 0 rfl rfl 4 (by decide) (ht _ kw_181) (fun _ h9 => h9) rfl dX3_nextBits_30 ?_
          refine lv_if_eq (tgt := 38) hx hb dX3_nextBits_33 (by decide) (fun c15 => ?_) (fun c15 => ?_)
          · have hm := ite_t c15 hm
            refine lv_aload_n hx hb dX3_nextBits_38 rfl (lv_at hl 0 rfl) ?_
            refine lv_bipush (v := (8 : Int32)) hx hb dX3_nextBits_39 (by decide) ?_
            refine va_put (D := (dC, dI)) (ci := 4) (v := .int (8 : Int32)) (ty := .int) (C := RX3) (T := TX3) (N := 12) hx hb ht inX3 tyX3 tyX3_ok nmX3 hown hK hP hD hS 0 rfl rfl 7 (by decide) (ht _ kw_183) (fun _ h9 => h9) rfl (by decide +kernel) rfl rfl (Nat.le_of_ble_eq_true rfl) dX3_nextBits_41 (fun H locs hP hD hS => ?_)
            obtain ⟨u16, eu16, hm⟩ := bnd_ex hm
            have hP : va_P (dC, dI) vwCl ([wR cI cJ aR jR aZ u16, wO cI cJ aO jO uO] : List va_W).flatten H := by rw [eu16]; exact hP
            have hD : va_D A ([wR cI cJ aR jR aZ u16, wO cI cJ aO jO uO] : List va_W).flatten := by rw [eu16]; exact hD
            exact J44_6 u16 _ _ _ hm hP hD hS (lv_sub hl [0, 1, 2, 3, 4] rfl)
          · have hm := ite_f c15 hm
            refine lv_iconst (v := (-1 : Int32)) hx hb dX3_nextBits_36 (by decide) ?_
            rw [← hQ]
            exact W.iret (v := (-1 : Int32)) hx hb hr (fun t ht1 hW => ⟨⟨_, u14, rfl, hm, by rw [ht1]; exact hP, hD⟩, hS.F ht1⟩) hS.2.2 dX3_nextBits_37
  exact LP5 FU (0 : Int32) (0 : Int32) uR _ _ _ hm hP hD hS (lv_sub hl [2, 3, 4, 1, 0] rfl)

def f_X6_isSign (p1 : Int32) : Option (Int32) :=
  if p1 < (0 : Int32) then (
  some (0 : Int32)) else (
  if (32 : Int32) ≤ p1 then (
  some (0 : Int32)) else (
  some (1 : Int32)))

set_option maxHeartbeats 4000000 in
set_option maxRecDepth 100000 in
theorem c_X6_isSign (l : Launch) (dC : Nat → ClassId) (dI : Nat → Nat → Nat) (cI cJ : ClassId) (sz : Nat) (p1 : Int32) (o : Int32) (hm : f_X6_isSign p1 = some o) : Met l yX6_isSign (wq yX6_isSign cX6_isSign 1 (some .boolean)) ({ frames := 0, cells := 0, slots := 0, locals := 0 } : Room) (va_Pc [.int p1] (pcW dC dI cI cJ sz ([] : List va_W).flatten)) (va_Qi (S := Unit) (fun r u => some r = some o) (fun (u : Unit) t => va_P (dC, dI) vwCl ([] : List va_W).flatten t.heap ∧ va_D (va_A ([] : List va_W).flatten sz) ([] : List va_W).flatten) (va_A ([] : List va_W).flatten sz)) 0 0 (va_A ([] : List va_W).flatten sz) := by
  refine Met.ofW (cc := cX6_isSign) (maxL := 1) (ret := (some .boolean)) (by decide) rfl ?_
  intro p e s m args below meth c s₁ B hml hv
  obtain ⟨rfl, hsz, hP, hK, hD0, hN⟩ := hv
  have hx := B.exec
  have hb := B.bytes
  have hr := B.returns
  have ht : ∀ w ∈ lw_good, w.before _ s = true := fun w h => atoms_spec (ws := wq yX6_isSign cX6_isSign 1 (some .boolean)) B.pre w (wq_mem h)
  have hown : s.vm.findClass RX6 = some m.cls := findClass_of_methodNamed B.named
  have hlocks := B.notSynchronized
  subst hsz
  have hD := hD0.self (sz := s.heap.size)
  generalize hAe : va_A ([] : List va_W).flatten s.heap.size = A at hD ⊢
  have hA : ∀ q : Nat, s.heap.size ≤ q → A q := fun q h => by rw [← hAe]; exact Or.inr h
  have hS : va_S A s.heap s.heap [] := va_S.rf
  have hl := lv_entry ([.int p1]) (n := 1) (Nat.le_of_ble_eq_true rfl)
  rw [lg_entry_eq]
  generalize (lg_sl ([.int p1]) ++ List.replicate (1 - (lg_sl ([.int p1])).length) Slot.unset).toArray = ls at hl ⊢
  have hl : lv_has ls 1 [(0, .int p1)] := hl
  generalize hQ : MQ below _ _ s _ _ _ = Q
  generalize hH : s.heap = H at hP ⊢
  have hS : va_S A s.heap H [] := by rw [← hH]; exact va_S.rf
  show W p l e ({ frames := 0, cells := 0, slots := 0, locals := 0 } : Room) s m ([.int p1] : List Value).toArray below meth c H [] 0 0 Q (F0 m 0 ls [])
  unfold f_X6_isSign at hm
  refine lv_iload_n hx hb dX6_isSign_0 rfl (lv_at hl 0 rfl) ?_
  refine lv_if_lt (tgt := 14) hx hb dX6_isSign_1 (by decide) (fun c1 => ?_) (fun c1 => ?_)
  · have hm := ite_t c1 hm
    refine lv_iconst (v := (0 : Int32)) hx hb dX6_isSign_14 (by decide) ?_
    rw [← hQ]
    exact W.zret (v := (0 : Int32)) hx hb hr rfl (fun t ht1 hW => ⟨⟨_, (), rfl, hm, by rw [ht1]; exact hP, hD⟩, hS.F ht1⟩) hS.2.2 dX6_isSign_15
  · have hm := ite_f c1 hm
    refine lv_iload_n hx hb dX6_isSign_4 rfl (lv_at hl 0 rfl) ?_
    refine lv_bipush (v := (32 : Int32)) hx hb dX6_isSign_5 (by decide) ?_
    refine lv_icmp_ge (tgt := 14) hx hb dX6_isSign_7 (by decide) (fun c2 => ?_) (fun c2 => ?_)
    · have hm := ite_t c2 hm
      refine lv_iconst (v := (0 : Int32)) hx hb dX6_isSign_14 (by decide) ?_
      rw [← hQ]
      exact W.zret (v := (0 : Int32)) hx hb hr rfl (fun t ht1 hW => ⟨⟨_, (), rfl, hm, by rw [ht1]; exact hP, hD⟩, hS.F ht1⟩) hS.2.2 dX6_isSign_15
    · have hm := ite_f c2 hm
      refine lv_iconst (v := (1 : Int32)) hx hb dX6_isSign_10 (by decide) ?_
      refine lv_goto (tgt := 15) hx hb dX6_isSign_11 (by decide) ?_
      rw [← hQ]
      exact W.zret (v := (1 : Int32)) hx hb hr rfl (fun t ht1 hW => ⟨⟨_, (), rfl, hm, by rw [ht1]; exact hP, hD⟩, hS.F ht1⟩) hS.2.2 dX6_isSign_15

def f_X4_give (uS : OS) (p1 : Int32) (p2 : Int32) : Option (OS) :=
  oC1 (f_X6_isSign p1) fun r1 =>
  if r1 = (0 : Int32) then (
  some uS) else (
  gdi p1 32 <|
  bnd (sA uS 3 p1 p2) fun u5 =>
  some u5)

set_option maxHeartbeats 4000000 in
set_option maxRecDepth 100000 in
theorem c_X4_give (l : Launch) (dC : Nat → ClassId) (dI : Nat → Nat → Nat) (cI cJ : ClassId) (aS : Nat) (jS : Nat → Nat) (sz : Nat) (uS : OS) (p1 : Int32) (p2 : Int32) (o : OS) (hm : f_X4_give uS p1 p2 = some o) : Met l yX4_give (wq yX4_give cX4_give 3 none) ({ frames := 1, cells := 0, slots := 0, locals := 20 } : Room) (va_Pc [.ref aS, .int p1, .int p2] (pcW dC dI cI cJ sz ([wS cI cJ aS jS uS] : List va_W).flatten)) (va_Qv (S := OS) (fun u => some u = some o) (fun (u : OS) t => va_P (dC, dI) vwCl ([wS cI cJ aS jS u] : List va_W).flatten t.heap ∧ va_D (va_A ([wS cI cJ aS jS uS] : List va_W).flatten sz) ([wS cI cJ aS jS u] : List va_W).flatten) (va_A ([wS cI cJ aS jS uS] : List va_W).flatten sz)) 0 0 (va_A ([wS cI cJ aS jS uS] : List va_W).flatten sz) := by
  refine Met.ofW (cc := cX4_give) (maxL := 3) (ret := none) (by decide) rfl ?_
  intro p e s m args below meth c s₁ B hml hv
  obtain ⟨rfl, hsz, hP, hK, hD0, hN⟩ := hv
  have hx := B.exec
  have hb := B.bytes
  have hr := B.returns
  have ht : ∀ w ∈ lw_good, w.before _ s = true := fun w h => atoms_spec (ws := wq yX4_give cX4_give 3 none) B.pre w (wq_mem h)
  have hown : s.vm.findClass RX4 = some m.cls := findClass_of_methodNamed B.named
  have hlocks := B.notSynchronized
  subst hsz
  have hD := hD0.self (sz := s.heap.size)
  generalize hAe : va_A ([wS cI cJ aS jS uS] : List va_W).flatten s.heap.size = A at hD ⊢
  have hA : ∀ q : Nat, s.heap.size ≤ q → A q := fun q h => by rw [← hAe]; exact Or.inr h
  have hS : va_S A s.heap s.heap [] := va_S.rf
  have hl := lv_entry ([.ref aS, .int p1, .int p2]) (n := 3) (Nat.le_of_ble_eq_true rfl)
  rw [lg_entry_eq]
  generalize (lg_sl ([.ref aS, .int p1, .int p2]) ++ List.replicate (3 - (lg_sl ([.ref aS, .int p1, .int p2])).length) Slot.unset).toArray = ls at hl ⊢
  have hl : lv_has ls 3 [(0, .ref aS), (1, .int p1), (2, .int p2)] := hl
  generalize hQ : MQ below _ _ s _ _ _ = Q
  generalize hH : s.heap = H at hP ⊢
  have hS : va_S A s.heap H [] := by rw [← hH]; exact va_S.rf
  show W p l e ({ frames := 1, cells := 0, slots := 0, locals := 20 } : Room) s m ([.ref aS, .int p1, .int p2] : List Value).toArray below meth c H [] 0 0 Q (F0 m 0 ls [])
  unfold f_X4_give at hm
  refine lv_iload_n hx hb dX4_give_0 rfl (lv_at hl 1 rfl) ?_
  have hPc : va_P (dC, dI) vwCl ([] : List va_W).flatten _ := hP.subF [] rfl
  have hDc : va_D A ([] : List va_W).flatten := hD.subF [] (by decide) rfl
  have hFc := va_freeF (fc := ([] : List va_W)) hD hS hA [] rfl
  obtain ⟨r1o, e2, hm⟩ := oC1_of hm
  refine va_calli (va_runSN (As := [.int p1]) (rest := []) ⟨hx, hb, hml, hown, ht⟩ (c_X6_isSign l dC dI cI cJ H.size p1 r1o e2) ⟨va_cnB 1 ht (gdC kw_214) rfl rfl rfl (hN _ kn_6) (ht _ kw_161) nd_X6_isSign ⟨Nat.le_of_ble_eq_true rfl, Nat.le_of_ble_eq_true rfl⟩, ht _ kw_215, trivial⟩ ⟨pcW_blind, pcW_pre hPc hK hDc hN⟩ rfl rfl hl.1 rfl (lv_room (Nat.le_of_ble_eq_true rfl)) dX4_give_1 ⟨Nat.zero_le _, Nat.zero_le _⟩) hS (fun q _ z => hFc q z) hFc (fun r1 uu t H1 locs ht1 hvm hw hB hz1 hk1 hS => ?_)
  obtain ⟨⟩ := uu
  obtain ⟨hP1, hD1⟩ := hB
  rw [ht1] at hP1
  obtain rfl : r1 = r1o := Option.some.inj hw
  obtain ⟨hP, hD⟩ := va_joinF (fr := ([wS cI cJ aS jS uS] : List va_W)) (f1 := ([] : List va_W)) hP hD [] [0] rfl rfl (by decide) (by decide) hk1 hFc hP1 hD1
  have hP : va_P (dC, dI) vwCl ([wS cI cJ aS jS uS] : List va_W).flatten H1 := hP
  have hD : va_D A ([wS cI cJ aS jS uS] : List va_W).flatten := hD
  generalize H1 = H at hP hS ⊢
  refine lv_if_eq (tgt := 14) hx hb dX4_give_4 (by decide) (fun c3 => ?_) (fun c3 => ?_)
  · have hm := ite_t c3 hm
    rw [← hQ]
    exact W.vret hx hb hr (fun t ht1 hW => ⟨⟨uS, rfl, hm, by rw [ht1]; exact hP, hD⟩, hS.F ht1⟩) hS.2.2 dX4_give_14
  · have hm := ite_f c3 hm
    refine lv_aload_n hx hb dX4_give_7 rfl (lv_at hl 0 rfl) ?_
    refine va_get (D := (dC, dI)) (ci := 5) (v := .ref (jS 3)) (C := RX4) (T := TX4) (N := 11) hx hb ht inX4 hown hK hP 0 rfl rfl 3 (by decide) (ht _ kw_189) (fun _ h9 => h9) rfl dX4_give_8 ?_
    refine lv_iload_n hx hb dX4_give_11 rfl (lv_at hl 1 rfl) ?_
    refine lv_iload_n hx hb dX4_give_12 rfl (lv_at hl 2 rfl) ?_
    obtain ⟨g4, hm⟩ := gdi_of hm
    refine va_iast hx hb hK hP hD hS 1 0 rfl rfl g4 dX4_give_13 (fun H locs hP hD hS => ?_)
    obtain ⟨u5, eu5, hm⟩ := bnd_ex hm
    have hP : va_P (dC, dI) vwCl ([wS cI cJ aS jS u5] : List va_W).flatten H := by rw [eu5]; exact hP
    have hD : va_D A ([wS cI cJ aS jS u5] : List va_W).flatten := by rw [eu5]; exact hD
    rw [← hQ]
    exact W.vret hx hb hr (fun t ht1 hW => ⟨⟨u5, rfl, hm, by rw [ht1]; exact hP, hD⟩, hS.F ht1⟩) hS.2.2 dX4_give_14

def f_X3_restIsSet (uR : OS) : Option (Int32) :=
  if ((uR.1 6) &&& (((1 : Int32) <<< ((uR.1 7) &&& (31 : Int32))) - (1 : Int32))) = (0 : Int32) then (
  some (0 : Int32)) else (
  some (1 : Int32))

set_option maxHeartbeats 4000000 in
set_option maxRecDepth 100000 in
theorem c_X3_restIsSet (l : Launch) (dC : Nat → ClassId) (dI : Nat → Nat → Nat) (cI cJ : ClassId) (aR : Nat) (jR : Nat → Nat) (aZ : Nat) (sz : Nat) (uR : OS) (o : Int32) (hm : f_X3_restIsSet uR = some o) : Met l yX3_restIsSet (wq yX3_restIsSet cX3_restIsSet 1 (some .boolean)) ({ frames := 0, cells := 0, slots := 0, locals := 0 } : Room) (va_Pc [.ref aR] (pcW dC dI cI cJ sz ([wR cI cJ aR jR aZ uR] : List va_W).flatten)) (va_Qi (S := Unit) (fun r u => some r = some o) (fun (u : Unit) t => va_P (dC, dI) vwCl ([wR cI cJ aR jR aZ uR] : List va_W).flatten t.heap ∧ va_D (va_A ([wR cI cJ aR jR aZ uR] : List va_W).flatten sz) ([wR cI cJ aR jR aZ uR] : List va_W).flatten) (va_A ([wR cI cJ aR jR aZ uR] : List va_W).flatten sz)) 0 0 (va_A ([wR cI cJ aR jR aZ uR] : List va_W).flatten sz) := by
  refine Met.ofW (cc := cX3_restIsSet) (maxL := 1) (ret := (some .boolean)) (by decide) rfl ?_
  intro p e s m args below meth c s₁ B hml hv
  obtain ⟨rfl, hsz, hP, hK, hD0, hN⟩ := hv
  have hx := B.exec
  have hb := B.bytes
  have hr := B.returns
  have ht : ∀ w ∈ lw_good, w.before _ s = true := fun w h => atoms_spec (ws := wq yX3_restIsSet cX3_restIsSet 1 (some .boolean)) B.pre w (wq_mem h)
  have hown : s.vm.findClass RX3 = some m.cls := findClass_of_methodNamed B.named
  have hlocks := B.notSynchronized
  subst hsz
  have hD := hD0.self (sz := s.heap.size)
  generalize hAe : va_A ([wR cI cJ aR jR aZ uR] : List va_W).flatten s.heap.size = A at hD ⊢
  have hA : ∀ q : Nat, s.heap.size ≤ q → A q := fun q h => by rw [← hAe]; exact Or.inr h
  have hS : va_S A s.heap s.heap [] := va_S.rf
  have hl := lv_entry ([.ref aR]) (n := 1) (Nat.le_of_ble_eq_true rfl)
  rw [lg_entry_eq]
  generalize (lg_sl ([.ref aR]) ++ List.replicate (1 - (lg_sl ([.ref aR])).length) Slot.unset).toArray = ls at hl ⊢
  have hl : lv_has ls 1 [(0, .ref aR)] := hl
  generalize hQ : MQ below _ _ s _ _ _ = Q
  generalize hH : s.heap = H at hP ⊢
  have hS : va_S A s.heap H [] := by rw [← hH]; exact va_S.rf
  show W p l e ({ frames := 0, cells := 0, slots := 0, locals := 0 } : Room) s m ([.ref aR] : List Value).toArray below meth c H [] 0 0 Q (F0 m 0 ls [])
  unfold f_X3_restIsSet at hm
  refine lv_aload_n hx hb dX3_restIsSet_0 rfl (lv_at hl 0 rfl) ?_
  refine va_get (D := (dC, dI)) (ci := 4) (v := .int (uR.1 6)) (C := RX3) (T := TX3) (N := 12) hx hb ht inX3 hown hK hP 0 rfl rfl 6 (by decide) (ht _ kw_213) (fun _ h9 => h9) rfl dX3_restIsSet_1 ?_
  refine lv_iconst (v := (1 : Int32)) hx hb dX3_restIsSet_4 (by decide) ?_
  refine lv_aload_n hx hb dX3_restIsSet_5 rfl (lv_at hl 0 rfl) ?_
  refine va_get (D := (dC, dI)) (ci := 4) (v := .int (uR.1 7)) (C := RX3) (T := TX3) (N := 12) hx hb ht inX3 hown hK hP 0 rfl rfl 7 (by decide) (ht _ kw_183) (fun _ h9 => h9) rfl dX3_restIsSet_6 ?_
  refine lv_ishl hx hb dX3_restIsSet_9 ?_
  refine lv_iconst (v := (1 : Int32)) hx hb dX3_restIsSet_10 (by decide) ?_
  refine lv_isub hx hb dX3_restIsSet_11 ?_
  refine lv_iand hx hb dX3_restIsSet_12 ?_
  refine lv_if_eq (tgt := 20) hx hb dX3_restIsSet_13 (by decide) (fun c1 => ?_) (fun c1 => ?_)
  · have hm := ite_t c1 hm
    refine lv_iconst (v := (0 : Int32)) hx hb dX3_restIsSet_20 (by decide) ?_
    rw [← hQ]
    exact W.zret (v := (0 : Int32)) hx hb hr rfl (fun t ht1 hW => ⟨⟨_, (), rfl, hm, by rw [ht1]; exact hP, hD⟩, hS.F ht1⟩) hS.2.2 dX3_restIsSet_21
  · have hm := ite_f c1 hm
    refine lv_iconst (v := (1 : Int32)) hx hb dX3_restIsSet_16 (by decide) ?_
    refine lv_goto (tgt := 21) hx hb dX3_restIsSet_17 (by decide) ?_
    rw [← hQ]
    exact W.zret (v := (1 : Int32)) hx hb hr rfl (fun t ht1 hW => ⟨⟨_, (), rfl, hm, by rw [ht1]; exact hP, hD⟩, hS.F ht1⟩) hS.2.2 dX3_restIsSet_21

def f_X4_finish_L4 : Nat → (Int32 → Int32 → OS → Option (OS)) → Int32 → Int32 → OS → Option (OS)
  | 0, _, _, _, _ => none
  | n4 + 1, K32_7, x1, x2, u3 =>
    if (32 : Int32) ≤ x1 then (
    K32_7 x2 x1 u3) else (
    gdi x1 33 <|
    bnd (sA u3 4 x1 x2) fun u15 =>
    gdi x1 32 <|
    bnd (x2 + (u15.2.1 3 (x1).toNatClampNeg)) fun x17 =>
    bnd (x1 + (1 : Int32)) fun x18 =>
    f_X4_finish_L4 n4 K32_7 x18 x17 u15)

def f_X4_finish (uS : OS) : Option (OS) :=
  bnd (fun (x4 : Int32) (x5 : Int32) (u6 : OS) =>
  gdi (32 : Int32) 33 <|
  bnd (sA u6 4 (32 : Int32) x4) fun u9 =>
  if x4 = (u9.1 1) then (
  bnd (sF u9 2 (1 : Int32)) fun u12 =>
  some u12) else (
  bnd (sF u9 2 (0 : Int32)) fun u11 =>
  some u11)) fun K32_7 =>
  f_X4_finish_L4 FU K32_7 (0 : Int32) (0 : Int32) uS

set_option maxHeartbeats 4000000 in
set_option maxRecDepth 100000 in
theorem c_X4_finish (l : Launch) (dC : Nat → ClassId) (dI : Nat → Nat → Nat) (cI cJ : ClassId) (aS : Nat) (jS : Nat → Nat) (sz : Nat) (uS : OS) (o : OS) (hm : f_X4_finish uS = some o) : Met l yX4_finish (wq yX4_finish cX4_finish 3 none) ({ frames := 0, cells := 0, slots := 0, locals := 0 } : Room) (va_Pc [.ref aS] (pcW dC dI cI cJ sz ([wS cI cJ aS jS uS] : List va_W).flatten)) (va_Qv (S := OS) (fun u => some u = some o) (fun (u : OS) t => va_P (dC, dI) vwCl ([wS cI cJ aS jS u] : List va_W).flatten t.heap ∧ va_D (va_A ([wS cI cJ aS jS uS] : List va_W).flatten sz) ([wS cI cJ aS jS u] : List va_W).flatten) (va_A ([wS cI cJ aS jS uS] : List va_W).flatten sz)) 0 0 (va_A ([wS cI cJ aS jS uS] : List va_W).flatten sz) := by
  refine Met.ofW (cc := cX4_finish) (maxL := 3) (ret := none) (by decide) rfl ?_
  intro p e s m args below meth c s₁ B hml hv
  obtain ⟨rfl, hsz, hP, hK, hD0, hN⟩ := hv
  have hx := B.exec
  have hb := B.bytes
  have hr := B.returns
  have ht : ∀ w ∈ lw_good, w.before _ s = true := fun w h => atoms_spec (ws := wq yX4_finish cX4_finish 3 none) B.pre w (wq_mem h)
  have hown : s.vm.findClass RX4 = some m.cls := findClass_of_methodNamed B.named
  have hlocks := B.notSynchronized
  subst hsz
  have hD := hD0.self (sz := s.heap.size)
  generalize hAe : va_A ([wS cI cJ aS jS uS] : List va_W).flatten s.heap.size = A at hD ⊢
  have hA : ∀ q : Nat, s.heap.size ≤ q → A q := fun q h => by rw [← hAe]; exact Or.inr h
  have hS : va_S A s.heap s.heap [] := va_S.rf
  have hl := lv_entry ([.ref aS]) (n := 3) (Nat.le_of_ble_eq_true rfl)
  rw [lg_entry_eq]
  generalize (lg_sl ([.ref aS]) ++ List.replicate (3 - (lg_sl ([.ref aS])).length) Slot.unset).toArray = ls at hl ⊢
  have hl : lv_has ls 3 [(0, .ref aS)] := hl
  generalize hQ : MQ below _ _ s _ _ _ = Q
  generalize hH : s.heap = H at hP ⊢
  have hS : va_S A s.heap H [] := by rw [← hH]; exact va_S.rf
  show W p l e ({ frames := 0, cells := 0, slots := 0, locals := 0 } : Room) s m ([.ref aS] : List Value).toArray below meth c H [] 0 0 Q (F0 m 0 ls [])
  unfold f_X4_finish at hm
  refine lv_iconst (v := (0 : Int32)) hx hb dX4_finish_0 (by decide) ?_
  refine lv_istore_n (lv' := [(1, .int (0 : Int32)), (0, .ref aS)]) hx hb dX4_finish_1 rfl hl (by decide) rfl (fun ls hl => ?_)
  refine lv_iconst (v := (0 : Int32)) hx hb dX4_finish_2 (by decide) ?_
  refine lv_istore_n (lv' := [(2, .int (0 : Int32)), (1, .int (0 : Int32)), (0, .ref aS)]) hx hb dX4_finish_3 rfl hl (by decide) rfl (fun ls hl => ?_)
  obtain ⟨K32_7, eK32_7, hm⟩ := bnd_ex hm
  have X32_7 : ∀ (x4 : Int32) (x5 : Int32) (u6 : OS) (H : Heap) (locs : List Loc) (ls : Array Slot), K32_7 x4 x5 u6 = some o → va_P (dC, dI) vwCl ([wS cI cJ aS jS u6] : List va_W).flatten H → va_D A ([wS cI cJ aS jS u6] : List va_W).flatten → va_S A s.heap H locs → lv_has ls 3 [(0, .ref aS), (1, .int x4), (2, .int x5)] → W p l e ({ frames := 0, cells := 0, slots := 0, locals := 0 } : Room) s m ([.ref aS] : List Value).toArray below meth c H locs 0 0 Q (F0 m 32 ls []) := by
    intro x4 x5 u6 H locs ls hm hP hD hS hl
    have hm := ap3 eK32_7 hm
    refine lv_aload_n hx hb dX4_finish_32 rfl (lv_at hl 0 rfl) ?_
    refine va_get (D := (dC, dI)) (ci := 5) (v := .ref (jS 4)) (C := RX4) (T := TX4) (N := 11) hx hb ht inX4 hown hK hP 0 rfl rfl 4 (by decide) (ht _ kw_216) (fun _ h9 => h9) rfl dX4_finish_33 ?_
    refine lv_bipush (v := (32 : Int32)) hx hb dX4_finish_36 (by decide) ?_
    refine lv_iload_n hx hb dX4_finish_38 rfl (lv_at hl 1 rfl) ?_
    obtain ⟨g8, hm⟩ := gdi_of hm
    refine va_iast hx hb hK hP hD hS 2 0 rfl rfl g8 dX4_finish_39 (fun H locs hP hD hS => ?_)
    obtain ⟨u9, eu9, hm⟩ := bnd_ex hm
    have hP : va_P (dC, dI) vwCl ([wS cI cJ aS jS u9] : List va_W).flatten H := by rw [eu9]; exact hP
    have hD : va_D A ([wS cI cJ aS jS u9] : List va_W).flatten := by rw [eu9]; exact hD
    refine lv_aload_n hx hb dX4_finish_40 rfl (lv_at hl 0 rfl) ?_
    refine lv_iload_n hx hb dX4_finish_41 rfl (lv_at hl 1 rfl) ?_
    refine lv_aload_n hx hb dX4_finish_42 rfl (lv_at hl 0 rfl) ?_
    refine va_get (D := (dC, dI)) (ci := 5) (v := .int (u9.1 1)) (C := RX4) (T := TX4) (N := 11) hx hb ht inX4 hown hK hP 0 rfl rfl 1 (by decide) (ht _ kw_197) (fun _ h9 => h9) rfl dX4_finish_43 ?_
    refine lv_icmp_ne (tgt := 53) hx hb dX4_finish_46 (by decide) (fun c10 => ?_) (fun c10 => ?_)
    · have hm := ite_f c10 hm
      refine lv_iconst (v := (0 : Int32)) hx hb dX4_finish_53 (by decide) ?_
      refine va_put (D := (dC, dI)) (ci := 5) (v := .int (0 : Int32)) (ty := .boolean) (C := RX4) (T := TX4) (N := 11) hx hb ht inX4 tyX4 tyX4_ok nmX4 hown hK hP hD hS 0 rfl rfl 2 (by decide) (ht _ kw_190) (fun _ h9 => h9) rfl (by decide +kernel) rfl rfl (Nat.le_of_ble_eq_true rfl) dX4_finish_54 (fun H locs hP hD hS => ?_)
      obtain ⟨u11, eu11, hm⟩ := bnd_ex hm
      have hP : va_P (dC, dI) vwCl ([wS cI cJ aS jS u11] : List va_W).flatten H := by rw [eu11]; exact hP
      have hD : va_D A ([wS cI cJ aS jS u11] : List va_W).flatten := by rw [eu11]; exact hD
      rw [← hQ]
      exact W.vret hx hb hr (fun t ht1 hW => ⟨⟨u11, rfl, hm, by rw [ht1]; exact hP, hD⟩, hS.F ht1⟩) hS.2.2 dX4_finish_57
    · have hm := ite_t c10 hm
      refine lv_iconst (v := (1 : Int32)) hx hb dX4_finish_49 (by decide) ?_
      refine lv_goto (tgt := 54) hx hb dX4_finish_50 (by decide) ?_
      refine va_put (D := (dC, dI)) (ci := 5) (v := .int (1 : Int32)) (ty := .boolean) (C := RX4) (T := TX4) (N := 11) hx hb ht inX4 tyX4 tyX4_ok nmX4 hown hK hP hD hS 0 rfl rfl 2 (by decide) (ht _ kw_190) (fun _ h9 => h9) rfl (by decide +kernel) rfl rfl (Nat.le_of_ble_eq_true rfl) dX4_finish_54 (fun H locs hP hD hS => ?_)
      obtain ⟨u12, eu12, hm⟩ := bnd_ex hm
      have hP : va_P (dC, dI) vwCl ([wS cI cJ aS jS u12] : List va_W).flatten H := by rw [eu12]; exact hP
      have hD : va_D A ([wS cI cJ aS jS u12] : List va_W).flatten := by rw [eu12]; exact hD
      rw [← hQ]
      exact W.vret hx hb hr (fun t ht1 hW => ⟨⟨u12, rfl, hm, by rw [ht1]; exact hP, hD⟩, hS.F ht1⟩) hS.2.2 dX4_finish_57
  have LP4 : ∀ (n4 : Nat) (x1 : Int32) (x2 : Int32) (u3 : OS) (H : Heap) (locs : List Loc) (ls : Array Slot), f_X4_finish_L4 n4 K32_7 x1 x2 u3 = some o → va_P (dC, dI) vwCl ([wS cI cJ aS jS u3] : List va_W).flatten H → va_D A ([wS cI cJ aS jS u3] : List va_W).flatten → va_S A s.heap H locs → lv_has ls 3 [(0, .ref aS), (1, .int x2), (2, .int x1)] → W p l e ({ frames := 0, cells := 0, slots := 0, locals := 0 } : Room) s m ([.ref aS] : List Value).toArray below meth c H locs 0 0 Q (F0 m 4 ls []) := by
    intro n4
    induction n4 with
    | zero => intro x1 x2 u3 H locs ls hm; exact nomatch (show (none : Option _) = some _ from hm)
    | succ n4 ih4 =>
      intro x1 x2 u3 H locs ls hm hP hD hS hl
      unfold f_X4_finish_L4 at hm
      refine lv_iload_n hx hb dX4_finish_4 rfl (lv_at hl 2 rfl) ?_
      refine lv_bipush (v := (32 : Int32)) hx hb dX4_finish_5 (by decide) ?_
      refine lv_icmp_ge (tgt := 32) hx hb dX4_finish_7 (by decide) (fun c13 => ?_) (fun c13 => ?_)
      · have hm := ite_t c13 hm
        exact X32_7 x2 x1 u3 _ _ _ hm hP hD hS (lv_sub hl [0, 1, 2] rfl)
      · have hm := ite_f c13 hm
        refine lv_aload_n hx hb dX4_finish_10 rfl (lv_at hl 0 rfl) ?_
        refine va_get (D := (dC, dI)) (ci := 5) (v := .ref (jS 4)) (C := RX4) (T := TX4) (N := 11) hx hb ht inX4 hown hK hP 0 rfl rfl 4 (by decide) (ht _ kw_216) (fun _ h9 => h9) rfl dX4_finish_11 ?_
        refine lv_iload_n hx hb dX4_finish_14 rfl (lv_at hl 2 rfl) ?_
        refine lv_iload_n hx hb dX4_finish_15 rfl (lv_at hl 1 rfl) ?_
        obtain ⟨g14, hm⟩ := gdi_of hm
        refine va_iast hx hb hK hP hD hS 2 0 rfl rfl g14 dX4_finish_16 (fun H locs hP hD hS => ?_)
        obtain ⟨u15, eu15, hm⟩ := bnd_ex hm
        have hP : va_P (dC, dI) vwCl ([wS cI cJ aS jS u15] : List va_W).flatten H := by rw [eu15]; exact hP
        have hD : va_D A ([wS cI cJ aS jS u15] : List va_W).flatten := by rw [eu15]; exact hD
        refine lv_iload_n hx hb dX4_finish_17 rfl (lv_at hl 1 rfl) ?_
        refine lv_aload_n hx hb dX4_finish_18 rfl (lv_at hl 0 rfl) ?_
        refine va_get (D := (dC, dI)) (ci := 5) (v := .ref (jS 3)) (C := RX4) (T := TX4) (N := 11) hx hb ht inX4 hown hK hP 0 rfl rfl 3 (by decide) (ht _ kw_189) (fun _ h9 => h9) rfl dX4_finish_19 ?_
        refine lv_iload_n hx hb dX4_finish_22 rfl (lv_at hl 2 rfl) ?_
        obtain ⟨g16, hm⟩ := gdi_of hm
        refine va_iald hx hb hK hP 1 0 rfl rfl g16 dX4_finish_23 ?_
        refine lv_iadd hx hb dX4_finish_24 ?_
        refine lv_topi (fun x17 ex17 => ?_)
        have hm := bnd_nm ex17 hm
        refine lv_istore_n (lv' := [(1, .int x17), (0, .ref aS), (2, .int x1)]) hx hb dX4_finish_25 rfl hl (by decide) rfl (fun ls hl => ?_)
        obtain ⟨x18, ex18, hm⟩ := bnd_ex hm
        refine lv_iinc (v := x18) (lv' := [(2, .int x18), (1, .int x17), (0, .ref aS)]) hx hb dX4_finish_26 hl (k := 2) rfl (by rw [ex18]; exact congrArg _ (by decide)) (by decide) rfl (fun ls hl => ?_)
        refine lv_goto (tgt := 4) hx hb dX4_finish_29 (by decide) ?_
        exact ih4 x18 x17 u15 _ _ _ hm hP hD hS (lv_sub hl [2, 1, 0] rfl)
  exact LP4 FU (0 : Int32) (0 : Int32) uS _ _ _ hm hP hD hS (lv_sub hl [2, 1, 0] rfl)

def f_X3_takeTable_L10 (uO : OS) : Nat → (Int32 → Int32 → OS → OS → Option (OS × OS)) → Int32 → Int32 → OS → OS → Option (OS × OS)
  | 0, _, _, _, _, _ => none
  | n10 + 1, K60_10, x2, x3, u4, u5 =>
    if (32 : Int32) ≤ x2 then (
    K60_10 x3 x2 u4 u5) else (
    if x3 ≤ (0 : Int32) then (
    K60_10 x3 x2 u4 u5) else (
    oC1 (f_X6_bitLength x3) fun r22 =>
    oC2 (f_X3_nextBits u4 uO r22) fun u24 r25 =>
    if (u24.1 4) = (0 : Int32) then (
    oC1 (f_X4_give u5 x2 r25) fun u28 =>
    bnd (x3 - r25) fun x30 =>
    bnd (x2 + (1 : Int32)) fun x31 =>
    f_X3_takeTable_L10 uO n10 K60_10 x31 x30 u24 u28) else (
    some (u24, u5))))

def f_X3_takeTable (uR : OS) (uZ : OS) (uO : OS) : Option (OS × OS) :=
  bnd (uZ.1 1) fun x1 =>
  bnd (fun (x6 : Int32) (x7 : Int32) (u8 : OS) (u9 : OS) =>
  if x6 = (0 : Int32) then (
  oC1 (f_X3_restIsSet u8) fun r13 =>
  if r13 = (0 : Int32) then (
  bnd (sF u8 7 (0 : Int32)) fun u16 =>
  oC1 (f_X4_finish u9) fun u17 =>
  some (u16, u17)) else (
  bnd (sF u8 4 (3 : Int32)) fun u19 =>
  some (u19, u9))) else (
  bnd (sF u8 4 (3 : Int32)) fun u12 =>
  some (u12, u9))) fun K60_10 =>
  f_X3_takeTable_L10 uO FU K60_10 (0 : Int32) x1 uR uZ

set_option maxHeartbeats 4000000 in
set_option maxRecDepth 100000 in
theorem c_X3_takeTable (l : Launch) (dC : Nat → ClassId) (dI : Nat → Nat → Nat) (cI cJ : ClassId) (aR : Nat) (jR : Nat → Nat) (aZ : Nat) (jZ : Nat → Nat) (aO : Nat) (jO : Nat → Nat) (sz : Nat) (uR : OS) (uZ : OS) (uO : OS) (o : OS × OS) (hm : f_X3_takeTable uR uZ uO = some o) : Met l yX3_takeTable (wq yX3_takeTable cX3_takeTable 5 none) ({ frames := 2, cells := 0, slots := 0, locals := 49 } : Room) (va_Pc [.ref aR, .ref aO] (pcW dC dI cI cJ sz ([wR cI cJ aR jR aZ uR, wS cI cJ aZ jZ uZ, wO cI cJ aO jO uO] : List va_W).flatten)) (va_Qv (S := OS × OS) (fun u => some (u.1, u.2) = some o) (fun (u : OS × OS) t => va_P (dC, dI) vwCl ([wR cI cJ aR jR aZ u.1, wS cI cJ aZ jZ u.2, wO cI cJ aO jO uO] : List va_W).flatten t.heap ∧ va_D (va_A ([wR cI cJ aR jR aZ uR, wS cI cJ aZ jZ uZ, wO cI cJ aO jO uO] : List va_W).flatten sz) ([wR cI cJ aR jR aZ u.1, wS cI cJ aZ jZ u.2, wO cI cJ aO jO uO] : List va_W).flatten) (va_A ([wR cI cJ aR jR aZ uR, wS cI cJ aZ jZ uZ, wO cI cJ aO jO uO] : List va_W).flatten sz)) 0 0 (va_A ([wR cI cJ aR jR aZ uR, wS cI cJ aZ jZ uZ, wO cI cJ aO jO uO] : List va_W).flatten sz) := by
  refine Met.ofW (cc := cX3_takeTable) (maxL := 5) (ret := none) (by decide) rfl ?_
  intro p e s m args below meth c s₁ B hml hv
  obtain ⟨rfl, hsz, hP, hK, hD0, hN⟩ := hv
  have hx := B.exec
  have hb := B.bytes
  have hr := B.returns
  have ht : ∀ w ∈ lw_good, w.before _ s = true := fun w h => atoms_spec (ws := wq yX3_takeTable cX3_takeTable 5 none) B.pre w (wq_mem h)
  have hown : s.vm.findClass RX3 = some m.cls := findClass_of_methodNamed B.named
  have hlocks := B.notSynchronized
  subst hsz
  have hD := hD0.self (sz := s.heap.size)
  generalize hAe : va_A ([wR cI cJ aR jR aZ uR, wS cI cJ aZ jZ uZ, wO cI cJ aO jO uO] : List va_W).flatten s.heap.size = A at hD ⊢
  have hA : ∀ q : Nat, s.heap.size ≤ q → A q := fun q h => by rw [← hAe]; exact Or.inr h
  have hS : va_S A s.heap s.heap [] := va_S.rf
  have hl := lv_entry ([.ref aR, .ref aO]) (n := 5) (Nat.le_of_ble_eq_true rfl)
  rw [lg_entry_eq]
  generalize (lg_sl ([.ref aR, .ref aO]) ++ List.replicate (5 - (lg_sl ([.ref aR, .ref aO])).length) Slot.unset).toArray = ls at hl ⊢
  have hl : lv_has ls 5 [(0, .ref aR), (1, .ref aO)] := hl
  generalize hQ : MQ below _ _ s _ _ _ = Q
  generalize hH : s.heap = H at hP ⊢
  have hS : va_S A s.heap H [] := by rw [← hH]; exact va_S.rf
  show W p l e ({ frames := 2, cells := 0, slots := 0, locals := 49 } : Room) s m ([.ref aR, .ref aO] : List Value).toArray below meth c H [] 0 0 Q (F0 m 0 ls [])
  unfold f_X3_takeTable at hm
  refine lv_aload_n hx hb dX3_takeTable_0 rfl (lv_at hl 0 rfl) ?_
  refine va_get (D := (dC, dI)) (ci := 4) (v := .ref aZ) (C := RX3) (T := TX3) (N := 12) hx hb ht inX3 hown hK hP 0 rfl rfl 0 (by decide) (ht _ kw_188) (fun _ h9 => h9) rfl dX3_takeTable_1 ?_
  refine va_getN (D := (dC, dI)) (ci := 5) (v := .int (uZ.1 1)) (C := RX4) (T := TX4) (N := 11) hx hb ht inX4 hown hK hP 3 rfl rfl 1 (by decide) (va_Nw.use rfl (hN _ kn_5)) (fun _ h9 => h9) rfl dX3_takeTable_4 ?_
  refine lv_topi (fun x1 ex1 => ?_)
  have hm := bnd_nm ex1 hm
  refine lv_istore_n (lv' := [(2, .int x1), (0, .ref aR), (1, .ref aO)]) hx hb dX3_takeTable_7 rfl hl (by decide) rfl (fun ls hl => ?_)
  refine lv_iconst (v := (0 : Int32)) hx hb dX3_takeTable_8 (by decide) ?_
  refine lv_istore_n (lv' := [(3, .int (0 : Int32)), (2, .int x1), (0, .ref aR), (1, .ref aO)]) hx hb dX3_takeTable_9 rfl hl (by decide) rfl (fun ls hl => ?_)
  obtain ⟨K60_10, eK60_10, hm⟩ := bnd_ex hm
  have X60_10 : ∀ (x6 : Int32) (x7 : Int32) (u8 : OS) (u9 : OS) (H : Heap) (locs : List Loc) (ls : Array Slot), K60_10 x6 x7 u8 u9 = some o → va_P (dC, dI) vwCl ([wR cI cJ aR jR aZ u8, wS cI cJ aZ jZ u9, wO cI cJ aO jO uO] : List va_W).flatten H → va_D A ([wR cI cJ aR jR aZ u8, wS cI cJ aZ jZ u9, wO cI cJ aO jO uO] : List va_W).flatten → va_S A s.heap H locs → lv_has ls 5 [(0, .ref aR), (1, .ref aO), (2, .int x6), (3, .int x7)] → W p l e ({ frames := 2, cells := 0, slots := 0, locals := 49 } : Room) s m ([.ref aR, .ref aO] : List Value).toArray below meth c H locs 0 0 Q (F0 m 60 ls []) := by
    intro x6 x7 u8 u9 H locs ls hm hP hD hS hl
    have hm := ap4 eK60_10 hm
    refine lv_iload_n hx hb dX3_takeTable_60 rfl (lv_at hl 2 rfl) ?_
    refine lv_if_ne (tgt := 71) hx hb dX3_takeTable_61 (by decide) (fun c11 => ?_) (fun c11 => ?_)
    · have hm := ite_f c11 hm
      refine lv_aload_n hx hb dX3_takeTable_71 rfl (lv_at hl 0 rfl) ?_
      refine lv_iconst (v := (3 : Int32)) hx hb dX3_takeTable_72 (by decide) ?_
      refine va_put (D := (dC, dI)) (ci := 4) (v := .int (3 : Int32)) (ty := .int) (C := RX3) (T := TX3) (N := 12) hx hb ht inX3 tyX3 tyX3_ok nmX3 hown hK hP hD hS 0 rfl rfl 4 (by decide) (ht _ kw_181) (fun _ h9 => h9) rfl (by decide +kernel) rfl rfl (Nat.le_of_ble_eq_true rfl) dX3_takeTable_73 (fun H locs hP hD hS => ?_)
      obtain ⟨u12, eu12, hm⟩ := bnd_ex hm
      have hP : va_P (dC, dI) vwCl ([wR cI cJ aR jR aZ u12, wS cI cJ aZ jZ u9, wO cI cJ aO jO uO] : List va_W).flatten H := by rw [eu12]; exact hP
      have hD : va_D A ([wR cI cJ aR jR aZ u12, wS cI cJ aZ jZ u9, wO cI cJ aO jO uO] : List va_W).flatten := by rw [eu12]; exact hD
      rw [← hQ]
      exact W.vret hx hb hr (fun t ht1 hW => ⟨⟨(u12, u9), rfl, hm, by rw [ht1]; exact hP, hD⟩, hS.F ht1⟩) hS.2.2 dX3_takeTable_76
    · have hm := ite_t c11 hm
      refine lv_aload_n hx hb dX3_takeTable_64 rfl (lv_at hl 0 rfl) ?_
      have hPc : va_P (dC, dI) vwCl ([wR cI cJ aR jR aZ u8] : List va_W).flatten _ := hP.subF [0] rfl
      have hDc : va_D A ([wR cI cJ aR jR aZ u8] : List va_W).flatten := hD.subF [0] (by decide) rfl
      have hFc := va_freeF (fc := ([wR cI cJ aR jR aZ u8] : List va_W)) hD hS hA [0] rfl
      obtain ⟨r13o, e14, hm⟩ := oC1_of hm
      refine va_calli (va_runV (As := []) (rest := []) ⟨hx, hb, hml, hown, ht⟩ (c_X3_restIsSet l dC dI cI cJ aR jR aZ H.size u8 r13o e14) (cwV 0 ht (gdV kw_220 kw_218 kw_219 kw_205 kw_217) rfl rfl rfl ⟨rfl, nd_X3_restIsSet⟩ ⟨Nat.le_of_ble_eq_true rfl, Nat.le_of_ble_eq_true rfl⟩) ⟨pcW_blind, va_recv hK hPc (ci := 4) (q0 := 0) rfl rfl, pcW_pre hPc hK hDc hN⟩ rfl rfl hl.1 rfl (lv_room (Nat.le_of_ble_eq_true rfl)) dX3_takeTable_65 ⟨Nat.zero_le _, Nat.zero_le _⟩) hS (fun q _ z => hFc q z) hFc (fun r13 uu t H1 locs ht1 hvm hw hB hz1 hk1 hS => ?_)
      obtain ⟨⟩ := uu
      obtain ⟨hP1, hD1⟩ := hB
      rw [ht1] at hP1
      obtain rfl : r13 = r13o := Option.some.inj hw
      obtain ⟨hP, hD⟩ := va_joinF (fr := ([wS cI cJ aZ jZ u9, wO cI cJ aO jO uO] : List va_W)) (f1 := ([wR cI cJ aR jR aZ u8] : List va_W)) hP hD [0] [1, 2] rfl rfl (by decide) (by decide) hk1 hFc hP1 hD1
      have hP : va_P (dC, dI) vwCl ([wR cI cJ aR jR aZ u8, wS cI cJ aZ jZ u9, wO cI cJ aO jO uO] : List va_W).flatten H1 := hP.subF [2, 0, 1] rfl
      have hD : va_D A ([wR cI cJ aR jR aZ u8, wS cI cJ aZ jZ u9, wO cI cJ aO jO uO] : List va_W).flatten := hD.subF [2, 0, 1] (by decide) rfl
      generalize H1 = H at hP hS ⊢
      refine lv_if_eq (tgt := 77) hx hb dX3_takeTable_68 (by decide) (fun c15 => ?_) (fun c15 => ?_)
      · have hm := ite_t c15 hm
        refine lv_aload_n hx hb dX3_takeTable_77 rfl (lv_at hl 0 rfl) ?_
        refine lv_iconst (v := (0 : Int32)) hx hb dX3_takeTable_78 (by decide) ?_
        refine va_put (D := (dC, dI)) (ci := 4) (v := .int (0 : Int32)) (ty := .int) (C := RX3) (T := TX3) (N := 12) hx hb ht inX3 tyX3 tyX3_ok nmX3 hown hK hP hD hS 0 rfl rfl 7 (by decide) (ht _ kw_183) (fun _ h9 => h9) rfl (by decide +kernel) rfl rfl (Nat.le_of_ble_eq_true rfl) dX3_takeTable_79 (fun H locs hP hD hS => ?_)
        obtain ⟨u16, eu16, hm⟩ := bnd_ex hm
        have hP : va_P (dC, dI) vwCl ([wR cI cJ aR jR aZ u16, wS cI cJ aZ jZ u9, wO cI cJ aO jO uO] : List va_W).flatten H := by rw [eu16]; exact hP
        have hD : va_D A ([wR cI cJ aR jR aZ u16, wS cI cJ aZ jZ u9, wO cI cJ aO jO uO] : List va_W).flatten := by rw [eu16]; exact hD
        refine lv_aload_n hx hb dX3_takeTable_82 rfl (lv_at hl 0 rfl) ?_
        refine va_get (D := (dC, dI)) (ci := 4) (v := .ref aZ) (C := RX3) (T := TX3) (N := 12) hx hb ht inX3 hown hK hP 0 rfl rfl 0 (by decide) (ht _ kw_188) (fun _ h9 => h9) rfl dX3_takeTable_83 ?_
        have hPc : va_P (dC, dI) vwCl ([wS cI cJ aZ jZ u9] : List va_W).flatten _ := hP.subF [1] rfl
        have hDc : va_D A ([wS cI cJ aZ jZ u9] : List va_W).flatten := hD.subF [1] (by decide) rfl
        have hFc := va_freeF (fc := ([wS cI cJ aZ jZ u9] : List va_W)) hD hS hA [1] rfl
        obtain ⟨u17o, e18, hm⟩ := oC1_of hm
        refine va_callv (va_runV (As := []) (rest := []) ⟨hx, hb, hml, hown, ht⟩ (c_X4_finish l dC dI cI cJ aZ jZ H.size u9 u17o e18) (cwV 0 ht (gdV kw_224 kw_222 kw_223 kw_199 kw_221) rfl rfl rfl ⟨rfl, nd_X4_finish⟩ ⟨Nat.le_of_ble_eq_true rfl, Nat.le_of_ble_eq_true rfl⟩) ⟨pcW_blind, va_recv hK hPc (ci := 5) (q0 := 0) rfl rfl, pcW_pre hPc hK hDc hN⟩ rfl rfl hl.1 rfl (lv_room (Nat.le_of_ble_eq_true rfl)) dX3_takeTable_86 ⟨Nat.zero_le _, Nat.zero_le _⟩) hS (fun q _ z => hFc q z) hFc (fun uu t H1 locs ht1 hvm hw hB hz1 hk1 hS => ?_)
        obtain ⟨u17, rfl⟩ : ∃ z, z = uu := ⟨_, rfl⟩
        obtain ⟨hP1, hD1⟩ := hB
        rw [ht1] at hP1
        obtain rfl : u17 = u17o := Option.some.inj hw
        obtain ⟨hP, hD⟩ := va_joinF (fr := ([wR cI cJ aR jR aZ u16, wO cI cJ aO jO uO] : List va_W)) (f1 := ([wS cI cJ aZ jZ u17] : List va_W)) hP hD [1] [0, 2] rfl rfl (by decide) (by decide) hk1 hFc hP1 hD1
        have hP : va_P (dC, dI) vwCl ([wR cI cJ aR jR aZ u16, wS cI cJ aZ jZ u17, wO cI cJ aO jO uO] : List va_W).flatten H1 := hP.subF [0, 2, 1] rfl
        have hD : va_D A ([wR cI cJ aR jR aZ u16, wS cI cJ aZ jZ u17, wO cI cJ aO jO uO] : List va_W).flatten := hD.subF [0, 2, 1] (by decide) rfl
        generalize H1 = H at hP hS ⊢
        rw [← hQ]
        exact W.vret hx hb hr (fun t ht1 hW => ⟨⟨(u16, u17), rfl, hm, by rw [ht1]; exact hP, hD⟩, hS.F ht1⟩) hS.2.2 dX3_takeTable_89
      · have hm := ite_f c15 hm
        refine lv_aload_n hx hb dX3_takeTable_71 rfl (lv_at hl 0 rfl) ?_
        refine lv_iconst (v := (3 : Int32)) hx hb dX3_takeTable_72 (by decide) ?_
        refine va_put (D := (dC, dI)) (ci := 4) (v := .int (3 : Int32)) (ty := .int) (C := RX3) (T := TX3) (N := 12) hx hb ht inX3 tyX3 tyX3_ok nmX3 hown hK hP hD hS 0 rfl rfl 4 (by decide) (ht _ kw_181) (fun _ h9 => h9) rfl (by decide +kernel) rfl rfl (Nat.le_of_ble_eq_true rfl) dX3_takeTable_73 (fun H locs hP hD hS => ?_)
        obtain ⟨u19, eu19, hm⟩ := bnd_ex hm
        have hP : va_P (dC, dI) vwCl ([wR cI cJ aR jR aZ u19, wS cI cJ aZ jZ u9, wO cI cJ aO jO uO] : List va_W).flatten H := by rw [eu19]; exact hP
        have hD : va_D A ([wR cI cJ aR jR aZ u19, wS cI cJ aZ jZ u9, wO cI cJ aO jO uO] : List va_W).flatten := by rw [eu19]; exact hD
        rw [← hQ]
        exact W.vret hx hb hr (fun t ht1 hW => ⟨⟨(u19, u9), rfl, hm, by rw [ht1]; exact hP, hD⟩, hS.F ht1⟩) hS.2.2 dX3_takeTable_76
  have LP10 : ∀ (n10 : Nat) (x2 : Int32) (x3 : Int32) (u4 : OS) (u5 : OS) (H : Heap) (locs : List Loc) (ls : Array Slot), f_X3_takeTable_L10 uO n10 K60_10 x2 x3 u4 u5 = some o → va_P (dC, dI) vwCl ([wR cI cJ aR jR aZ u4, wS cI cJ aZ jZ u5, wO cI cJ aO jO uO] : List va_W).flatten H → va_D A ([wR cI cJ aR jR aZ u4, wS cI cJ aZ jZ u5, wO cI cJ aO jO uO] : List va_W).flatten → va_S A s.heap H locs → lv_has ls 5 [(0, .ref aR), (1, .ref aO), (2, .int x3), (3, .int x2)] → W p l e ({ frames := 2, cells := 0, slots := 0, locals := 49 } : Room) s m ([.ref aR, .ref aO] : List Value).toArray below meth c H locs 0 0 Q (F0 m 10 ls []) := by
    intro n10
    induction n10 with
    | zero => intro x2 x3 u4 u5 H locs ls hm; exact nomatch (show (none : Option _) = some _ from hm)
    | succ n10 ih10 =>
      intro x2 x3 u4 u5 H locs ls hm hP hD hS hl
      unfold f_X3_takeTable_L10 at hm
      refine lv_iload_n hx hb dX3_takeTable_10 rfl (lv_at hl 3 rfl) ?_
      refine lv_bipush (v := (32 : Int32)) hx hb dX3_takeTable_11 (by decide) ?_
      refine lv_icmp_ge (tgt := 60) hx hb dX3_takeTable_13 (by decide) (fun c20 => ?_) (fun c20 => ?_)
      · have hm := ite_t c20 hm
        exact X60_10 x3 x2 u4 u5 _ _ _ hm hP hD hS (lv_sub hl [0, 1, 2, 3] rfl)
      · have hm := ite_f c20 hm
        refine lv_iload_n hx hb dX3_takeTable_16 rfl (lv_at hl 2 rfl) ?_
        refine lv_if_le (tgt := 60) hx hb dX3_takeTable_17 (by decide) (fun c21 => ?_) (fun c21 => ?_)
        · have hm := ite_t c21 hm
          exact X60_10 x3 x2 u4 u5 _ _ _ hm hP hD hS (lv_sub hl [0, 1, 2, 3] rfl)
        · have hm := ite_f c21 hm
          refine lv_aload_n hx hb dX3_takeTable_20 rfl (lv_at hl 0 rfl) ?_
          refine lv_aload_n hx hb dX3_takeTable_21 rfl (lv_at hl 1 rfl) ?_
          refine lv_iload_n hx hb dX3_takeTable_22 rfl (lv_at hl 2 rfl) ?_
          have hPc : va_P (dC, dI) vwCl ([] : List va_W).flatten _ := hP.subF [] rfl
          have hDc : va_D A ([] : List va_W).flatten := hD.subF [] (by decide) rfl
          have hFc := va_freeF (fc := ([] : List va_W)) hD hS hA [] rfl
          obtain ⟨r22o, e23, hm⟩ := oC1_of hm
          refine va_calli (va_runSN (As := [.int x3]) (rest := [.ref aO, .ref aR]) ⟨hx, hb, hml, hown, ht⟩ (c_X6_bitLength l dC dI cI cJ H.size x3 r22o e23) ⟨va_cnB 1 ht (gdC kw_160) rfl rfl rfl (hN _ kn_7) (ht _ kw_161) nd_X6_bitLength ⟨Nat.le_of_ble_eq_true rfl, Nat.le_of_ble_eq_true rfl⟩, ht _ kw_162, trivial⟩ ⟨pcW_blind, pcW_pre hPc hK hDc hN⟩ rfl rfl hl.1 rfl (lv_room (Nat.le_of_ble_eq_true rfl)) dX3_takeTable_23 ⟨Nat.zero_le _, Nat.zero_le _⟩) hS (fun q _ z => hFc q z) hFc (fun r22 uu t H1 locs ht1 hvm hw hB hz1 hk1 hS => ?_)
          obtain ⟨⟩ := uu
          obtain ⟨hP1, hD1⟩ := hB
          rw [ht1] at hP1
          obtain rfl : r22 = r22o := Option.some.inj hw
          obtain ⟨hP, hD⟩ := va_joinF (fr := ([wR cI cJ aR jR aZ u4, wS cI cJ aZ jZ u5, wO cI cJ aO jO uO] : List va_W)) (f1 := ([] : List va_W)) hP hD [] [0, 1, 2] rfl rfl (by decide) (by decide) hk1 hFc hP1 hD1
          have hP : va_P (dC, dI) vwCl ([wR cI cJ aR jR aZ u4, wS cI cJ aZ jZ u5, wO cI cJ aO jO uO] : List va_W).flatten H1 := hP
          have hD : va_D A ([wR cI cJ aR jR aZ u4, wS cI cJ aZ jZ u5, wO cI cJ aO jO uO] : List va_W).flatten := hD
          generalize H1 = H at hP hS ⊢
          have hPc : va_P (dC, dI) vwCl ([wR cI cJ aR jR aZ u4, wO cI cJ aO jO uO] : List va_W).flatten _ := hP.subF [0, 2] rfl
          have hDc : va_D A ([wR cI cJ aR jR aZ u4, wO cI cJ aO jO uO] : List va_W).flatten := hD.subF [0, 2] (by decide) rfl
          have hFc := va_freeF (fc := ([wR cI cJ aR jR aZ u4, wO cI cJ aO jO uO] : List va_W)) hD hS hA [0, 2] rfl
          obtain ⟨u24o, r25o, e26, hm⟩ := oC2_of hm
          refine va_calli (va_runV (As := [.ref aO, .int r22]) (rest := []) ⟨hx, hb, hml, hown, ht⟩ (c_X3_nextBits l dC dI cI cJ aR jR aO jO aZ H.size u4 uO r22 (u24o, r25o) e26) (cwV 2 ht (gdV kw_228 kw_226 kw_227 kw_205 kw_225) rfl rfl rfl ⟨rfl, nd_X3_nextBits⟩ ⟨Nat.le_of_ble_eq_true rfl, Nat.le_of_ble_eq_true rfl⟩) ⟨pcW_blind, va_recv hK hPc (ci := 4) (q0 := 0) rfl rfl, pcW_pre hPc hK hDc hN⟩ rfl rfl hl.1 rfl (lv_room (Nat.le_of_ble_eq_true rfl)) dX3_takeTable_26 ⟨Nat.zero_le _, Nat.zero_le _⟩) hS (fun q _ z => hFc q z) hFc (fun r25 uu t H1 locs ht1 hvm hw hB hz1 hk1 hS => ?_)
          obtain ⟨u24, rfl⟩ : ∃ z, z = uu := ⟨_, rfl⟩
          obtain ⟨hP1, hD1⟩ := hB
          rw [ht1] at hP1
          obtain ⟨q0, q1⟩ := inj2 hw
          subst q0
          subst q1
          obtain ⟨hP, hD⟩ := va_joinF (fr := ([wS cI cJ aZ jZ u5] : List va_W)) (f1 := ([wR cI cJ aR jR aZ u24, wO cI cJ aO jO uO] : List va_W)) hP hD [0, 2] [1] rfl rfl (by decide) (by decide) hk1 hFc hP1 hD1
          have hP : va_P (dC, dI) vwCl ([wR cI cJ aR jR aZ u24, wS cI cJ aZ jZ u5, wO cI cJ aO jO uO] : List va_W).flatten H1 := hP.subF [1, 0, 2] rfl
          have hD : va_D A ([wR cI cJ aR jR aZ u24, wS cI cJ aZ jZ u5, wO cI cJ aO jO uO] : List va_W).flatten := hD.subF [1, 0, 2] (by decide) rfl
          generalize H1 = H at hP hS ⊢
          refine lv_istore (lv' := [(4, .int r25), (0, .ref aR), (1, .ref aO), (2, .int x3), (3, .int x2)]) hx hb dX3_takeTable_29 hl (by decide) rfl (fun ls hl => ?_)
          refine lv_aload_n hx hb dX3_takeTable_31 rfl (lv_at hl 1 rfl) ?_
          refine va_get (D := (dC, dI)) (ci := 4) (v := .int (u24.1 4)) (C := RX3) (T := TX3) (N := 12) hx hb ht inX3 hown hK hP 0 rfl rfl 4 (by decide) (ht _ kw_181) (fun _ h9 => h9) rfl dX3_takeTable_32 ?_
          refine lv_if_eq (tgt := 39) hx hb dX3_takeTable_35 (by decide) (fun c27 => ?_) (fun c27 => ?_)
          · have hm := ite_t c27 hm
            refine lv_aload_n hx hb dX3_takeTable_39 rfl (lv_at hl 1 rfl) ?_
            refine va_get (D := (dC, dI)) (ci := 4) (v := .ref aZ) (C := RX3) (T := TX3) (N := 12) hx hb ht inX3 hown hK hP 0 rfl rfl 0 (by decide) (ht _ kw_188) (fun _ h9 => h9) rfl dX3_takeTable_40 ?_
            refine lv_iload_n hx hb dX3_takeTable_43 rfl (lv_at hl 4 rfl) ?_
            refine lv_iload hx hb dX3_takeTable_44 (lv_at hl 0 rfl) ?_
            have hPc : va_P (dC, dI) vwCl ([wS cI cJ aZ jZ u5] : List va_W).flatten _ := hP.subF [1] rfl
            have hDc : va_D A ([wS cI cJ aZ jZ u5] : List va_W).flatten := hD.subF [1] (by decide) rfl
            have hFc := va_freeF (fc := ([wS cI cJ aZ jZ u5] : List va_W)) hD hS hA [1] rfl
            obtain ⟨u28o, e29, hm⟩ := oC1_of hm
            refine va_callv (va_runV (As := [.int x2, .int r25]) (rest := []) ⟨hx, hb, hml, hown, ht⟩ (c_X4_give l dC dI cI cJ aZ jZ H.size u5 x2 r25 u28o e29) (cwV 2 ht (gdV kw_232 kw_230 kw_231 kw_199 kw_229) rfl rfl rfl ⟨rfl, nd_X4_give⟩ ⟨Nat.le_of_ble_eq_true rfl, Nat.le_of_ble_eq_true rfl⟩) ⟨pcW_blind, va_recv hK hPc (ci := 5) (q0 := 0) rfl rfl, pcW_pre hPc hK hDc hN⟩ rfl rfl hl.1 rfl (lv_room (Nat.le_of_ble_eq_true rfl)) dX3_takeTable_46 ⟨Nat.zero_le _, Nat.zero_le _⟩) hS (fun q _ z => hFc q z) hFc (fun uu t H1 locs ht1 hvm hw hB hz1 hk1 hS => ?_)
            obtain ⟨u28, rfl⟩ : ∃ z, z = uu := ⟨_, rfl⟩
            obtain ⟨hP1, hD1⟩ := hB
            rw [ht1] at hP1
            obtain rfl : u28 = u28o := Option.some.inj hw
            obtain ⟨hP, hD⟩ := va_joinF (fr := ([wR cI cJ aR jR aZ u24, wO cI cJ aO jO uO] : List va_W)) (f1 := ([wS cI cJ aZ jZ u28] : List va_W)) hP hD [1] [0, 2] rfl rfl (by decide) (by decide) hk1 hFc hP1 hD1
            have hP : va_P (dC, dI) vwCl ([wR cI cJ aR jR aZ u24, wS cI cJ aZ jZ u28, wO cI cJ aO jO uO] : List va_W).flatten H1 := hP.subF [0, 2, 1] rfl
            have hD : va_D A ([wR cI cJ aR jR aZ u24, wS cI cJ aZ jZ u28, wO cI cJ aO jO uO] : List va_W).flatten := hD.subF [0, 2, 1] (by decide) rfl
            generalize H1 = H at hP hS ⊢
            refine lv_iload_n hx hb dX3_takeTable_49 rfl (lv_at hl 3 rfl) ?_
            refine lv_iload hx hb dX3_takeTable_50 (lv_at hl 0 rfl) ?_
            refine lv_isub hx hb dX3_takeTable_52 ?_
            refine lv_topi (fun x30 ex30 => ?_)
            have hm := bnd_nm ex30 hm
            refine lv_istore_n (lv' := [(2, .int x30), (4, .int r25), (0, .ref aR), (1, .ref aO), (3, .int x2)]) hx hb dX3_takeTable_53 rfl hl (by decide) rfl (fun ls hl => ?_)
            obtain ⟨x31, ex31, hm⟩ := bnd_ex hm
            refine lv_iinc (v := x31) (lv' := [(3, .int x31), (2, .int x30), (4, .int r25), (0, .ref aR), (1, .ref aO)]) hx hb dX3_takeTable_54 hl (k := 4) rfl (by rw [ex31]; exact congrArg _ (by decide)) (by decide) rfl (fun ls hl => ?_)
            refine lv_goto (tgt := 10) hx hb dX3_takeTable_57 (by decide) ?_
            exact ih10 x31 x30 u24 u28 _ _ _ hm hP hD hS (lv_sub hl [3, 4, 1, 0] rfl)
          · have hm := ite_f c27 hm
            rw [← hQ]
            exact W.vret hx hb hr (fun t ht1 hW => ⟨⟨(u24, u5), rfl, hm, by rw [ht1]; exact hP, hD⟩, hS.F ht1⟩) hS.2.2 dX3_takeTable_38
  exact LP10 FU (0 : Int32) x1 uR uZ _ _ _ hm hP hD hS (lv_sub hl [2, 3, 1, 0] rfl)

def f_X6_firstState (p1 : Int32) (p2 : Int32) : Option (Int64) :=
  if p1 = (2 : Int32) then (
  some ((p2).toInt64)) else (
  if p1 = (1 : Int32) then (
  some (2147483648 : Int64)) else (
  some (8388608 : Int64)))

set_option maxHeartbeats 4000000 in
set_option maxRecDepth 100000 in
theorem c_X6_firstState (l : Launch) (dC : Nat → ClassId) (dI : Nat → Nat → Nat) (cI cJ : ClassId) (sz : Nat) (p1 : Int32) (p2 : Int32) (o : Int64) (hm : f_X6_firstState p1 p2 = some o) : Met l yX6_firstState (wq yX6_firstState cX6_firstState 2 (some .long)) ({ frames := 0, cells := 0, slots := 0, locals := 0 } : Room) (va_Pc [.int p1, .int p2] (pcW dC dI cI cJ sz ([] : List va_W).flatten)) (va_Ql (S := Unit) (fun r u => some r = some o) (fun (u : Unit) t => va_P (dC, dI) vwCl ([] : List va_W).flatten t.heap ∧ va_D (va_A ([] : List va_W).flatten sz) ([] : List va_W).flatten) (va_A ([] : List va_W).flatten sz)) 0 0 (va_A ([] : List va_W).flatten sz) := by
  refine Met.ofW (cc := cX6_firstState) (maxL := 2) (ret := (some .long)) (by decide) rfl ?_
  intro p e s m args below meth c s₁ B hml hv
  obtain ⟨rfl, hsz, hP, hK, hD0, hN⟩ := hv
  have hx := B.exec
  have hb := B.bytes
  have hr := B.returns
  have ht : ∀ w ∈ lw_good, w.before _ s = true := fun w h => atoms_spec (ws := wq yX6_firstState cX6_firstState 2 (some .long)) B.pre w (wq_mem h)
  have hown : s.vm.findClass RX6 = some m.cls := findClass_of_methodNamed B.named
  have hlocks := B.notSynchronized
  subst hsz
  have hD := hD0.self (sz := s.heap.size)
  generalize hAe : va_A ([] : List va_W).flatten s.heap.size = A at hD ⊢
  have hA : ∀ q : Nat, s.heap.size ≤ q → A q := fun q h => by rw [← hAe]; exact Or.inr h
  have hS : va_S A s.heap s.heap [] := va_S.rf
  have hl := lv_entry ([.int p1, .int p2]) (n := 2) (Nat.le_of_ble_eq_true rfl)
  rw [lg_entry_eq]
  generalize (lg_sl ([.int p1, .int p2]) ++ List.replicate (2 - (lg_sl ([.int p1, .int p2])).length) Slot.unset).toArray = ls at hl ⊢
  have hl : lv_has ls 2 [(0, .int p1), (1, .int p2)] := hl
  generalize hQ : MQ below _ _ s _ _ _ = Q
  generalize hH : s.heap = H at hP ⊢
  have hS : va_S A s.heap H [] := by rw [← hH]; exact va_S.rf
  show W p l e ({ frames := 0, cells := 0, slots := 0, locals := 0 } : Room) s m ([.int p1, .int p2] : List Value).toArray below meth c H [] 0 0 Q (F0 m 0 ls [])
  unfold f_X6_firstState at hm
  refine lv_iload_n hx hb dX6_firstState_0 rfl (lv_at hl 0 rfl) ?_
  refine lv_iconst (v := (2 : Int32)) hx hb dX6_firstState_1 (by decide) ?_
  refine lv_icmp_ne (tgt := 8) hx hb dX6_firstState_2 (by decide) (fun c1 => ?_) (fun c1 => ?_)
  · have hm := ite_f c1 hm
    refine lv_iload_n hx hb dX6_firstState_8 rfl (lv_at hl 0 rfl) ?_
    refine lv_iconst (v := (1 : Int32)) hx hb dX6_firstState_9 (by decide) ?_
    refine lv_icmp_ne (tgt := 19) hx hb dX6_firstState_10 (by decide) (fun c2 => ?_) (fun c2 => ?_)
    · have hm := ite_f c2 hm
      refine lv_ldc2 (v := (8388608 : Int64)) hx hb hown (ht _ kw_233) dX6_firstState_19 ?_
      rw [← hQ]
      exact W.lret (v := (8388608 : Int64)) hx hb hr (fun t ht1 hW => ⟨⟨_, (), rfl, hm, by rw [ht1]; exact hP, hD⟩, hS.F ht1⟩) hS.2.2 dX6_firstState_22
    · have hm := ite_t c2 hm
      refine lv_ldc2 (v := (2147483648 : Int64)) hx hb hown (ht _ kw_234) dX6_firstState_13 ?_
      refine lv_goto (tgt := 22) hx hb dX6_firstState_16 (by decide) ?_
      rw [← hQ]
      exact W.lret (v := (2147483648 : Int64)) hx hb hr (fun t ht1 hW => ⟨⟨_, (), rfl, hm, by rw [ht1]; exact hP, hD⟩, hS.F ht1⟩) hS.2.2 dX6_firstState_22
  · have hm := ite_t c1 hm
    refine lv_iload_n hx hb dX6_firstState_5 rfl (lv_at hl 1 rfl) ?_
    refine lv_i2l hx hb dX6_firstState_6 rfl ?_
    rw [← hQ]
    exact W.lret (v := (p2).toInt64) hx hb hr (fun t ht1 hW => ⟨⟨_, (), rfl, hm, by rw [ht1]; exact hP, hD⟩, hS.F ht1⟩) hS.2.2 dX6_firstState_7

def f_X6_lastState (p1 : Int32) (p2 : Int32) : Option (Int64) :=
  if p1 = (2 : Int32) then (
  some ((((2 : Int64) * (p2).toInt64) - (1 : Int64)))) else (
  if p1 = (1 : Int32) then (
  some (9223372036854775807 : Int64)) else (
  some (2147483647 : Int64)))

set_option maxHeartbeats 4000000 in
set_option maxRecDepth 100000 in
theorem c_X6_lastState (l : Launch) (dC : Nat → ClassId) (dI : Nat → Nat → Nat) (cI cJ : ClassId) (sz : Nat) (p1 : Int32) (p2 : Int32) (o : Int64) (hm : f_X6_lastState p1 p2 = some o) : Met l yX6_lastState (wq yX6_lastState cX6_lastState 2 (some .long)) ({ frames := 0, cells := 0, slots := 0, locals := 0 } : Room) (va_Pc [.int p1, .int p2] (pcW dC dI cI cJ sz ([] : List va_W).flatten)) (va_Ql (S := Unit) (fun r u => some r = some o) (fun (u : Unit) t => va_P (dC, dI) vwCl ([] : List va_W).flatten t.heap ∧ va_D (va_A ([] : List va_W).flatten sz) ([] : List va_W).flatten) (va_A ([] : List va_W).flatten sz)) 0 0 (va_A ([] : List va_W).flatten sz) := by
  refine Met.ofW (cc := cX6_lastState) (maxL := 2) (ret := (some .long)) (by decide) rfl ?_
  intro p e s m args below meth c s₁ B hml hv
  obtain ⟨rfl, hsz, hP, hK, hD0, hN⟩ := hv
  have hx := B.exec
  have hb := B.bytes
  have hr := B.returns
  have ht : ∀ w ∈ lw_good, w.before _ s = true := fun w h => atoms_spec (ws := wq yX6_lastState cX6_lastState 2 (some .long)) B.pre w (wq_mem h)
  have hown : s.vm.findClass RX6 = some m.cls := findClass_of_methodNamed B.named
  have hlocks := B.notSynchronized
  subst hsz
  have hD := hD0.self (sz := s.heap.size)
  generalize hAe : va_A ([] : List va_W).flatten s.heap.size = A at hD ⊢
  have hA : ∀ q : Nat, s.heap.size ≤ q → A q := fun q h => by rw [← hAe]; exact Or.inr h
  have hS : va_S A s.heap s.heap [] := va_S.rf
  have hl := lv_entry ([.int p1, .int p2]) (n := 2) (Nat.le_of_ble_eq_true rfl)
  rw [lg_entry_eq]
  generalize (lg_sl ([.int p1, .int p2]) ++ List.replicate (2 - (lg_sl ([.int p1, .int p2])).length) Slot.unset).toArray = ls at hl ⊢
  have hl : lv_has ls 2 [(0, .int p1), (1, .int p2)] := hl
  generalize hQ : MQ below _ _ s _ _ _ = Q
  generalize hH : s.heap = H at hP ⊢
  have hS : va_S A s.heap H [] := by rw [← hH]; exact va_S.rf
  show W p l e ({ frames := 0, cells := 0, slots := 0, locals := 0 } : Room) s m ([.int p1, .int p2] : List Value).toArray below meth c H [] 0 0 Q (F0 m 0 ls [])
  unfold f_X6_lastState at hm
  refine lv_iload_n hx hb dX6_lastState_0 rfl (lv_at hl 0 rfl) ?_
  refine lv_iconst (v := (2 : Int32)) hx hb dX6_lastState_1 (by decide) ?_
  refine lv_icmp_ne (tgt := 14) hx hb dX6_lastState_2 (by decide) (fun c1 => ?_) (fun c1 => ?_)
  · have hm := ite_f c1 hm
    refine lv_iload_n hx hb dX6_lastState_14 rfl (lv_at hl 0 rfl) ?_
    refine lv_iconst (v := (1 : Int32)) hx hb dX6_lastState_15 (by decide) ?_
    refine lv_icmp_ne (tgt := 25) hx hb dX6_lastState_16 (by decide) (fun c2 => ?_) (fun c2 => ?_)
    · have hm := ite_f c2 hm
      refine lv_ldc2 (v := (2147483647 : Int64)) hx hb hown (ht _ kw_235) dX6_lastState_25 ?_
      rw [← hQ]
      exact W.lret (v := (2147483647 : Int64)) hx hb hr (fun t ht1 hW => ⟨⟨_, (), rfl, hm, by rw [ht1]; exact hP, hD⟩, hS.F ht1⟩) hS.2.2 dX6_lastState_28
    · have hm := ite_t c2 hm
      refine lv_ldc2 (v := (9223372036854775807 : Int64)) hx hb hown (ht _ kw_236) dX6_lastState_19 ?_
      refine lv_goto (tgt := 28) hx hb dX6_lastState_22 (by decide) ?_
      rw [← hQ]
      exact W.lret (v := (9223372036854775807 : Int64)) hx hb hr (fun t ht1 hW => ⟨⟨_, (), rfl, hm, by rw [ht1]; exact hP, hD⟩, hS.F ht1⟩) hS.2.2 dX6_lastState_28
  · have hm := ite_t c1 hm
    refine lv_ldc2 (v := (2 : Int64)) hx hb hown (ht _ kw_237) dX6_lastState_5 ?_
    refine lv_iload_n hx hb dX6_lastState_8 rfl (lv_at hl 1 rfl) ?_
    refine lv_i2l hx hb dX6_lastState_9 rfl ?_
    refine lv_lmul hx hb dX6_lastState_10 ?_
    refine lv_lconst (v := (1 : Int64)) hx hb dX6_lastState_11 (by decide) ?_
    refine lv_lsub hx hb dX6_lastState_12 ?_
    rw [← hQ]
    exact W.lret (v := (((2 : Int64) * (p2).toInt64) - (1 : Int64))) hx hb hr (fun t ht1 hW => ⟨⟨_, (), rfl, hm, by rw [ht1]; exact hP, hD⟩, hS.F ht1⟩) hS.2.2 dX6_lastState_13

def f_X6_stateWidth (p1 : Int32) : Option (Int32) :=
  if p1 = (2 : Int32) then (
  some (2 : Int32)) else (
  if p1 = (1 : Int32) then (
  some (8 : Int32)) else (
  some (4 : Int32)))

set_option maxHeartbeats 4000000 in
set_option maxRecDepth 100000 in
theorem c_X6_stateWidth (l : Launch) (dC : Nat → ClassId) (dI : Nat → Nat → Nat) (cI cJ : ClassId) (sz : Nat) (p1 : Int32) (o : Int32) (hm : f_X6_stateWidth p1 = some o) : Met l yX6_stateWidth (wq yX6_stateWidth cX6_stateWidth 1 (some .int)) ({ frames := 0, cells := 0, slots := 0, locals := 0 } : Room) (va_Pc [.int p1] (pcW dC dI cI cJ sz ([] : List va_W).flatten)) (va_Qi (S := Unit) (fun r u => some r = some o) (fun (u : Unit) t => va_P (dC, dI) vwCl ([] : List va_W).flatten t.heap ∧ va_D (va_A ([] : List va_W).flatten sz) ([] : List va_W).flatten) (va_A ([] : List va_W).flatten sz)) 0 0 (va_A ([] : List va_W).flatten sz) := by
  refine Met.ofW (cc := cX6_stateWidth) (maxL := 1) (ret := (some .int)) (by decide) rfl ?_
  intro p e s m args below meth c s₁ B hml hv
  obtain ⟨rfl, hsz, hP, hK, hD0, hN⟩ := hv
  have hx := B.exec
  have hb := B.bytes
  have hr := B.returns
  have ht : ∀ w ∈ lw_good, w.before _ s = true := fun w h => atoms_spec (ws := wq yX6_stateWidth cX6_stateWidth 1 (some .int)) B.pre w (wq_mem h)
  have hown : s.vm.findClass RX6 = some m.cls := findClass_of_methodNamed B.named
  have hlocks := B.notSynchronized
  subst hsz
  have hD := hD0.self (sz := s.heap.size)
  generalize hAe : va_A ([] : List va_W).flatten s.heap.size = A at hD ⊢
  have hA : ∀ q : Nat, s.heap.size ≤ q → A q := fun q h => by rw [← hAe]; exact Or.inr h
  have hS : va_S A s.heap s.heap [] := va_S.rf
  have hl := lv_entry ([.int p1]) (n := 1) (Nat.le_of_ble_eq_true rfl)
  rw [lg_entry_eq]
  generalize (lg_sl ([.int p1]) ++ List.replicate (1 - (lg_sl ([.int p1])).length) Slot.unset).toArray = ls at hl ⊢
  have hl : lv_has ls 1 [(0, .int p1)] := hl
  generalize hQ : MQ below _ _ s _ _ _ = Q
  generalize hH : s.heap = H at hP ⊢
  have hS : va_S A s.heap H [] := by rw [← hH]; exact va_S.rf
  show W p l e ({ frames := 0, cells := 0, slots := 0, locals := 0 } : Room) s m ([.int p1] : List Value).toArray below meth c H [] 0 0 Q (F0 m 0 ls [])
  unfold f_X6_stateWidth at hm
  refine lv_iload_n hx hb dX6_stateWidth_0 rfl (lv_at hl 0 rfl) ?_
  refine lv_iconst (v := (2 : Int32)) hx hb dX6_stateWidth_1 (by decide) ?_
  refine lv_icmp_ne (tgt := 7) hx hb dX6_stateWidth_2 (by decide) (fun c1 => ?_) (fun c1 => ?_)
  · have hm := ite_f c1 hm
    refine lv_iload_n hx hb dX6_stateWidth_7 rfl (lv_at hl 0 rfl) ?_
    refine lv_iconst (v := (1 : Int32)) hx hb dX6_stateWidth_8 (by decide) ?_
    refine lv_icmp_ne (tgt := 17) hx hb dX6_stateWidth_9 (by decide) (fun c2 => ?_) (fun c2 => ?_)
    · have hm := ite_f c2 hm
      refine lv_iconst (v := (4 : Int32)) hx hb dX6_stateWidth_17 (by decide) ?_
      rw [← hQ]
      exact W.iret (v := (4 : Int32)) hx hb hr (fun t ht1 hW => ⟨⟨_, (), rfl, hm, by rw [ht1]; exact hP, hD⟩, hS.F ht1⟩) hS.2.2 dX6_stateWidth_18
    · have hm := ite_t c2 hm
      refine lv_bipush (v := (8 : Int32)) hx hb dX6_stateWidth_12 (by decide) ?_
      refine lv_goto (tgt := 18) hx hb dX6_stateWidth_14 (by decide) ?_
      rw [← hQ]
      exact W.iret (v := (8 : Int32)) hx hb hr (fun t ht1 hW => ⟨⟨_, (), rfl, hm, by rw [ht1]; exact hP, hD⟩, hS.F ht1⟩) hS.2.2 dX6_stateWidth_18
  · have hm := ite_t c1 hm
    refine lv_iconst (v := (2 : Int32)) hx hb dX6_stateWidth_5 (by decide) ?_
    rw [← hQ]
    exact W.iret (v := (2 : Int32)) hx hb hr (fun t ht1 hW => ⟨⟨_, (), rfl, hm, by rw [ht1]; exact hP, hD⟩, hS.F ht1⟩) hS.2.2 dX6_stateWidth_6

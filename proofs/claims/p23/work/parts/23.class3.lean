def f_X3_takeStates_L34 (uO : OS) (r1 : Int64) (r3 : Int64) : Nat → (Int32 → OS → Option (OS)) → Int32 → OS → Option (OS)
  | 0, _, _, _ => none
  | n34 + 1, K119_9, x5, u6 =>
    if (u6.1 9) ≤ x5 then (
    K119_9 x5 u6) else (
    if (4 : Int32) ≤ x5 then (
    K119_9 x5 u6) else (
    oC1 (f_X6_stateWidth (u6.1 8)) fun r13 =>
    oC2 (f_X3_nextNumber u6 uO r13) fun u15 r16 =>
    gdi x5 4 <|
    bnd (sL u15 1 x5 r16) fun u19 =>
    if (u19.1 4) = (0 : Int32) then (
    gdi x5 4 <|
    bnd (bnd (sF u19 4 (4 : Int32)) fun u25 =>
    if (u25.1 4) = (0 : Int32) then (
    bnd (x5 + (1 : Int32)) fun x27 =>
    f_X3_takeStates_L34 uO r1 r3 n34 K119_9 x27 u25) else (
    some u25)) fun K100_24 =>
    if (u19.2.2.1 1 (x5).toNatClampNeg) < r1 then (
    K100_24) else (
    gdi x5 4 <|
    if (u19.2.2.1 1 (x5).toNatClampNeg) ≤ r3 then (
    if (u19.1 4) = (0 : Int32) then (
    bnd (x5 + (1 : Int32)) fun x32 =>
    f_X3_takeStates_L34 uO r1 r3 n34 K119_9 x32 u19) else (
    some u19)) else (
    K100_24))) else (
    if (u19.1 4) = (0 : Int32) then (
    bnd (x5 + (1 : Int32)) fun x22 =>
    f_X3_takeStates_L34 uO r1 r3 n34 K119_9 x22 u19) else (
    some u19))))

def f_X3_takeStates (uR : OS) (uZ : OS) (uO : OS) : Option (OS) :=
  oC1 (f_X6_firstState (uR.1 8) (uZ.1 1)) fun r1 =>
  oC1 (f_X6_lastState (uR.1 8) (uZ.1 1)) fun r3 =>
  bnd (fun (x7 : Int32) (u8 : OS) =>
  bnd (sF u8 11 (1 : Int32)) fun u10 =>
  some u10) fun K119_9 =>
  f_X3_takeStates_L34 uO r1 r3 FU K119_9 (0 : Int32) uR

set_option maxHeartbeats 4000000 in
set_option maxRecDepth 100000 in
theorem c_X3_takeStates (l : Launch) (dC : Nat → ClassId) (dI : Nat → Nat → Nat) (cI cJ : ClassId) (aR : Nat) (jR : Nat → Nat) (aZ : Nat) (jZ : Nat → Nat) (aO : Nat) (jO : Nat → Nat) (sz : Nat) (uR : OS) (uZ : OS) (uO : OS) (o : OS) (hm : f_X3_takeStates uR uZ uO = some o) : Met l yX3_takeStates (wq yX3_takeStates cX3_takeStates 7 none) ({ frames := 1, cells := 0, slots := 0, locals := 25 } : Room) (va_Pc [.ref aR, .ref aO] (pcW dC dI cI cJ sz ([wR cI cJ aR jR aZ uR, wS cI cJ aZ jZ uZ, wO cI cJ aO jO uO] : List va_W).flatten)) (va_Qv (S := OS) (fun u => some u = some o) (fun (u : OS) t => va_P (dC, dI) vwCl ([wR cI cJ aR jR aZ u, wS cI cJ aZ jZ uZ, wO cI cJ aO jO uO] : List va_W).flatten t.heap ∧ va_D (va_A ([wR cI cJ aR jR aZ uR, wS cI cJ aZ jZ uZ, wO cI cJ aO jO uO] : List va_W).flatten sz) ([wR cI cJ aR jR aZ u, wS cI cJ aZ jZ uZ, wO cI cJ aO jO uO] : List va_W).flatten) (va_A ([wR cI cJ aR jR aZ uR, wS cI cJ aZ jZ uZ, wO cI cJ aO jO uO] : List va_W).flatten sz)) 0 0 (va_A ([wR cI cJ aR jR aZ uR, wS cI cJ aZ jZ uZ, wO cI cJ aO jO uO] : List va_W).flatten sz) := by
  refine Met.ofW (cc := cX3_takeStates) (maxL := 7) (ret := none) (by decide) rfl ?_
  intro p e s m args below meth c s₁ B hml hv
  obtain ⟨rfl, hsz, hP, hK, hD0, hN⟩ := hv
  have hx := B.exec
  have hb := B.bytes
  have hr := B.returns
  have ht : ∀ w ∈ lw_good, w.before _ s = true := fun w h => atoms_spec (ws := wq yX3_takeStates cX3_takeStates 7 none) B.pre w (wq_mem h)
  have hown : s.vm.findClass RX3 = some m.cls := findClass_of_methodNamed B.named
  have hlocks := B.notSynchronized
  subst hsz
  have hD := hD0.self (sz := s.heap.size)
  generalize hAe : va_A ([wR cI cJ aR jR aZ uR, wS cI cJ aZ jZ uZ, wO cI cJ aO jO uO] : List va_W).flatten s.heap.size = A at hD ⊢
  have hA : ∀ q : Nat, s.heap.size ≤ q → A q := fun q h => by rw [← hAe]; exact Or.inr h
  have hS : va_S A s.heap s.heap [] := va_S.rf
  have hl := lv_entry ([.ref aR, .ref aO]) (n := 7) (Nat.le_of_ble_eq_true rfl)
  rw [lg_entry_eq]
  generalize (lg_sl ([.ref aR, .ref aO]) ++ List.replicate (7 - (lg_sl ([.ref aR, .ref aO])).length) Slot.unset).toArray = ls at hl ⊢
  have hl : lv_has ls 7 [(0, .ref aR), (1, .ref aO)] := hl
  generalize hQ : MQ below _ _ s _ _ _ = Q
  generalize hH : s.heap = H at hP ⊢
  have hS : va_S A s.heap H [] := by rw [← hH]; exact va_S.rf
  show W p l e ({ frames := 1, cells := 0, slots := 0, locals := 25 } : Room) s m ([.ref aR, .ref aO] : List Value).toArray below meth c H [] 0 0 Q (F0 m 0 ls [])
  unfold f_X3_takeStates at hm
  refine lv_aload_n hx hb dX3_takeStates_0 rfl (lv_at hl 0 rfl) ?_
  refine va_get (D := (dC, dI)) (ci := 4) (v := .int (uR.1 8)) (C := RX3) (T := TX3) (N := 12) hx hb ht inX3 hown hK hP 0 rfl rfl 8 (by decide) (ht _ kw_186) (fun _ h9 => h9) rfl dX3_takeStates_1 ?_
  refine lv_aload_n hx hb dX3_takeStates_4 rfl (lv_at hl 0 rfl) ?_
  refine va_get (D := (dC, dI)) (ci := 4) (v := .ref aZ) (C := RX3) (T := TX3) (N := 12) hx hb ht inX3 hown hK hP 0 rfl rfl 0 (by decide) (ht _ kw_188) (fun _ h9 => h9) rfl dX3_takeStates_5 ?_
  refine va_getN (D := (dC, dI)) (ci := 5) (v := .int (uZ.1 1)) (C := RX4) (T := TX4) (N := 11) hx hb ht inX4 hown hK hP 3 rfl rfl 1 (by decide) (va_Nw.use rfl (hN _ kn_5)) (fun _ h9 => h9) rfl dX3_takeStates_8 ?_
  have hPc : va_P (dC, dI) vwCl ([] : List va_W).flatten _ := hP.subF [] rfl
  have hDc : va_D A ([] : List va_W).flatten := hD.subF [] (by decide) rfl
  have hFc := va_freeF (fc := ([] : List va_W)) hD hS hA [] rfl
  obtain ⟨r1o, e2, hm⟩ := oC1_of hm
  refine va_calll (va_runSN (As := [.int (uR.1 8), .int (uZ.1 1)]) (rest := []) ⟨hx, hb, hml, hown, ht⟩ (c_X6_firstState l dC dI cI cJ H.size (uR.1 8) (uZ.1 1) r1o e2) ⟨va_cnB 2 ht (gdC kw_239) rfl rfl rfl (hN _ kn_8) (ht _ kw_161) nd_X6_firstState ⟨Nat.le_of_ble_eq_true rfl, Nat.le_of_ble_eq_true rfl⟩, ht _ kw_240, trivial⟩ ⟨pcW_blind, pcW_pre hPc hK hDc hN⟩ rfl rfl hl.1 rfl (lv_room (Nat.le_of_ble_eq_true rfl)) dX3_takeStates_11 ⟨Nat.zero_le _, Nat.zero_le _⟩) hS (fun q _ z => hFc q z) hFc (fun r1 uu t H1 locs ht1 hvm hw hB hz1 hk1 hS => ?_)
  obtain ⟨⟩ := uu
  obtain ⟨hP1, hD1⟩ := hB
  rw [ht1] at hP1
  obtain rfl : r1 = r1o := Option.some.inj hw
  obtain ⟨hP, hD⟩ := va_joinF (fr := ([wR cI cJ aR jR aZ uR, wS cI cJ aZ jZ uZ, wO cI cJ aO jO uO] : List va_W)) (f1 := ([] : List va_W)) hP hD [] [0, 1, 2] rfl rfl (by decide) (by decide) hk1 hFc hP1 hD1
  have hP : va_P (dC, dI) vwCl ([wR cI cJ aR jR aZ uR, wS cI cJ aZ jZ uZ, wO cI cJ aO jO uO] : List va_W).flatten H1 := hP
  have hD : va_D A ([wR cI cJ aR jR aZ uR, wS cI cJ aZ jZ uZ, wO cI cJ aO jO uO] : List va_W).flatten := hD
  generalize H1 = H at hP hS ⊢
  refine lv_lstore_n (lv' := [(2, .long r1), (0, .ref aR), (1, .ref aO)]) hx hb dX3_takeStates_14 rfl hl (by decide) rfl (fun ls hl => ?_)
  refine lv_aload_n hx hb dX3_takeStates_15 rfl (lv_at hl 1 rfl) ?_
  refine va_get (D := (dC, dI)) (ci := 4) (v := .int (uR.1 8)) (C := RX3) (T := TX3) (N := 12) hx hb ht inX3 hown hK hP 0 rfl rfl 8 (by decide) (ht _ kw_186) (fun _ h9 => h9) rfl dX3_takeStates_16 ?_
  refine lv_aload_n hx hb dX3_takeStates_19 rfl (lv_at hl 1 rfl) ?_
  refine va_get (D := (dC, dI)) (ci := 4) (v := .ref aZ) (C := RX3) (T := TX3) (N := 12) hx hb ht inX3 hown hK hP 0 rfl rfl 0 (by decide) (ht _ kw_188) (fun _ h9 => h9) rfl dX3_takeStates_20 ?_
  refine va_getN (D := (dC, dI)) (ci := 5) (v := .int (uZ.1 1)) (C := RX4) (T := TX4) (N := 11) hx hb ht inX4 hown hK hP 3 rfl rfl 1 (by decide) (va_Nw.use rfl (hN _ kn_5)) (fun _ h9 => h9) rfl dX3_takeStates_23 ?_
  have hPc : va_P (dC, dI) vwCl ([] : List va_W).flatten _ := hP.subF [] rfl
  have hDc : va_D A ([] : List va_W).flatten := hD.subF [] (by decide) rfl
  have hFc := va_freeF (fc := ([] : List va_W)) hD hS hA [] rfl
  obtain ⟨r3o, e4, hm⟩ := oC1_of hm
  refine va_calll (va_runSN (As := [.int (uR.1 8), .int (uZ.1 1)]) (rest := []) ⟨hx, hb, hml, hown, ht⟩ (c_X6_lastState l dC dI cI cJ H.size (uR.1 8) (uZ.1 1) r3o e4) ⟨va_cnB 2 ht (gdC kw_241) rfl rfl rfl (hN _ kn_9) (ht _ kw_161) nd_X6_lastState ⟨Nat.le_of_ble_eq_true rfl, Nat.le_of_ble_eq_true rfl⟩, ht _ kw_242, trivial⟩ ⟨pcW_blind, pcW_pre hPc hK hDc hN⟩ rfl rfl hl.1 rfl (lv_room (Nat.le_of_ble_eq_true rfl)) dX3_takeStates_26 ⟨Nat.zero_le _, Nat.zero_le _⟩) hS (fun q _ z => hFc q z) hFc (fun r3 uu t H1 locs ht1 hvm hw hB hz1 hk1 hS => ?_)
  obtain ⟨⟩ := uu
  obtain ⟨hP1, hD1⟩ := hB
  rw [ht1] at hP1
  obtain rfl : r3 = r3o := Option.some.inj hw
  obtain ⟨hP, hD⟩ := va_joinF (fr := ([wR cI cJ aR jR aZ uR, wS cI cJ aZ jZ uZ, wO cI cJ aO jO uO] : List va_W)) (f1 := ([] : List va_W)) hP hD [] [0, 1, 2] rfl rfl (by decide) (by decide) hk1 hFc hP1 hD1
  have hP : va_P (dC, dI) vwCl ([wR cI cJ aR jR aZ uR, wS cI cJ aZ jZ uZ, wO cI cJ aO jO uO] : List va_W).flatten H1 := hP
  have hD : va_D A ([wR cI cJ aR jR aZ uR, wS cI cJ aZ jZ uZ, wO cI cJ aO jO uO] : List va_W).flatten := hD
  generalize H1 = H at hP hS ⊢
  refine lv_lstore (lv' := [(4, .long r3), (2, .long r1), (0, .ref aR), (1, .ref aO)]) hx hb dX3_takeStates_29 hl (by decide) rfl (fun ls hl => ?_)
  refine lv_iconst (v := (0 : Int32)) hx hb dX3_takeStates_31 (by decide) ?_
  refine lv_istore (lv' := [(6, .int (0 : Int32)), (4, .long r3), (2, .long r1), (0, .ref aR), (1, .ref aO)]) hx hb dX3_takeStates_32 hl (by decide) rfl (fun ls hl => ?_)
  obtain ⟨K119_9, eK119_9, hm⟩ := bnd_ex hm
  have X119_9 : ∀ (x7 : Int32) (u8 : OS) (H : Heap) (locs : List Loc) (ls : Array Slot), K119_9 x7 u8 = some o → va_P (dC, dI) vwCl ([wR cI cJ aR jR aZ u8, wS cI cJ aZ jZ uZ, wO cI cJ aO jO uO] : List va_W).flatten H → va_D A ([wR cI cJ aR jR aZ u8, wS cI cJ aZ jZ uZ, wO cI cJ aO jO uO] : List va_W).flatten → va_S A s.heap H locs → lv_has ls 7 [(0, .ref aR), (1, .ref aO), (2, .long r1), (4, .long r3), (6, .int x7)] → W p l e ({ frames := 1, cells := 0, slots := 0, locals := 25 } : Room) s m ([.ref aR, .ref aO] : List Value).toArray below meth c H locs 0 0 Q (F0 m 119 ls []) := by
    intro x7 u8 H locs ls hm hP hD hS hl
    have hm := ap2 eK119_9 hm
    refine lv_aload_n hx hb dX3_takeStates_119 rfl (lv_at hl 0 rfl) ?_
    refine lv_iconst (v := (1 : Int32)) hx hb dX3_takeStates_120 (by decide) ?_
    refine va_put (D := (dC, dI)) (ci := 4) (v := .int (1 : Int32)) (ty := .boolean) (C := RX3) (T := TX3) (N := 12) hx hb ht inX3 tyX3 tyX3_ok nmX3 hown hK hP hD hS 0 rfl rfl 11 (by decide) (ht _ kw_184) (fun _ h9 => h9) rfl (by decide +kernel) rfl rfl (Nat.le_of_ble_eq_true rfl) dX3_takeStates_121 (fun H locs hP hD hS => ?_)
    obtain ⟨u10, eu10, hm⟩ := bnd_ex hm
    have hP : va_P (dC, dI) vwCl ([wR cI cJ aR jR aZ u10, wS cI cJ aZ jZ uZ, wO cI cJ aO jO uO] : List va_W).flatten H := by rw [eu10]; exact hP
    have hD : va_D A ([wR cI cJ aR jR aZ u10, wS cI cJ aZ jZ uZ, wO cI cJ aO jO uO] : List va_W).flatten := by rw [eu10]; exact hD
    rw [← hQ]
    exact W.vret hx hb hr (fun t ht1 hW => ⟨⟨u10, rfl, hm, by rw [ht1]; exact hP, hD⟩, hS.F ht1⟩) hS.2.2 dX3_takeStates_124
  have LP34 : ∀ (n34 : Nat) (x5 : Int32) (u6 : OS) (H : Heap) (locs : List Loc) (ls : Array Slot), f_X3_takeStates_L34 uO r1 r3 n34 K119_9 x5 u6 = some o → va_P (dC, dI) vwCl ([wR cI cJ aR jR aZ u6, wS cI cJ aZ jZ uZ, wO cI cJ aO jO uO] : List va_W).flatten H → va_D A ([wR cI cJ aR jR aZ u6, wS cI cJ aZ jZ uZ, wO cI cJ aO jO uO] : List va_W).flatten → va_S A s.heap H locs → lv_has ls 7 [(0, .ref aR), (1, .ref aO), (2, .long r1), (4, .long r3), (6, .int x5)] → W p l e ({ frames := 1, cells := 0, slots := 0, locals := 25 } : Room) s m ([.ref aR, .ref aO] : List Value).toArray below meth c H locs 0 0 Q (F0 m 34 ls []) := by
    intro n34
    induction n34 with
    | zero => intro x5 u6 H locs ls hm; exact nomatch (show (none : Option _) = some _ from hm)
    | succ n34 ih34 =>
      intro x5 u6 H locs ls hm hP hD hS hl
      unfold f_X3_takeStates_L34 at hm
      refine lv_iload hx hb dX3_takeStates_34 (lv_at hl 4 rfl) ?_
      refine lv_aload_n hx hb dX3_takeStates_36 rfl (lv_at hl 0 rfl) ?_
      refine va_get (D := (dC, dI)) (ci := 4) (v := .int (u6.1 9)) (C := RX3) (T := TX3) (N := 12) hx hb ht inX3 hown hK hP 0 rfl rfl 9 (by decide) (ht _ kw_187) (fun _ h9 => h9) rfl dX3_takeStates_37 ?_
      refine lv_icmp_ge (tgt := 119) hx hb dX3_takeStates_40 (by decide) (fun c11 => ?_) (fun c11 => ?_)
      · have hm := ite_t c11 hm
        exact X119_9 x5 u6 _ _ _ hm hP hD hS (lv_sub hl [0, 1, 2, 3, 4] rfl)
      · have hm := ite_f c11 hm
        refine lv_iload hx hb dX3_takeStates_43 (lv_at hl 4 rfl) ?_
        refine lv_iconst (v := (4 : Int32)) hx hb dX3_takeStates_45 (by decide) ?_
        refine lv_icmp_ge (tgt := 119) hx hb dX3_takeStates_46 (by decide) (fun c12 => ?_) (fun c12 => ?_)
        · have hm := ite_t c12 hm
          exact X119_9 x5 u6 _ _ _ hm hP hD hS (lv_sub hl [0, 1, 2, 3, 4] rfl)
        · have hm := ite_f c12 hm
          refine lv_aload_n hx hb dX3_takeStates_49 rfl (lv_at hl 0 rfl) ?_
          refine va_get (D := (dC, dI)) (ci := 4) (v := .ref (jR 1)) (C := RX3) (T := TX3) (N := 12) hx hb ht inX3 hown hK hP 0 rfl rfl 1 (by decide) (ht _ kw_238) (fun _ h9 => h9) rfl dX3_takeStates_50 ?_
          refine lv_iload hx hb dX3_takeStates_53 (lv_at hl 4 rfl) ?_
          refine lv_aload_n hx hb dX3_takeStates_55 rfl (lv_at hl 0 rfl) ?_
          refine lv_aload_n hx hb dX3_takeStates_56 rfl (lv_at hl 1 rfl) ?_
          refine lv_aload_n hx hb dX3_takeStates_57 rfl (lv_at hl 0 rfl) ?_
          refine va_get (D := (dC, dI)) (ci := 4) (v := .int (u6.1 8)) (C := RX3) (T := TX3) (N := 12) hx hb ht inX3 hown hK hP 0 rfl rfl 8 (by decide) (ht _ kw_186) (fun _ h9 => h9) rfl dX3_takeStates_58 ?_
          have hPc : va_P (dC, dI) vwCl ([] : List va_W).flatten _ := hP.subF [] rfl
          have hDc : va_D A ([] : List va_W).flatten := hD.subF [] (by decide) rfl
          have hFc := va_freeF (fc := ([] : List va_W)) hD hS hA [] rfl
          obtain ⟨r13o, e14, hm⟩ := oC1_of hm
          refine va_calli (va_runSN (As := [.int (u6.1 8)]) (rest := [.ref aO, .ref aR, .int x5, .ref (jR 1)]) ⟨hx, hb, hml, hown, ht⟩ (c_X6_stateWidth l dC dI cI cJ H.size (u6.1 8) r13o e14) ⟨va_cnB 1 ht (gdC kw_243) rfl rfl rfl (hN _ kn_10) (ht _ kw_161) nd_X6_stateWidth ⟨Nat.le_of_ble_eq_true rfl, Nat.le_of_ble_eq_true rfl⟩, ht _ kw_244, trivial⟩ ⟨pcW_blind, pcW_pre hPc hK hDc hN⟩ rfl rfl hl.1 rfl (lv_room (Nat.le_of_ble_eq_true rfl)) dX3_takeStates_61 ⟨Nat.zero_le _, Nat.zero_le _⟩) hS (fun q _ z => hFc q z) hFc (fun r13 uu t H1 locs ht1 hvm hw hB hz1 hk1 hS => ?_)
          obtain ⟨⟩ := uu
          obtain ⟨hP1, hD1⟩ := hB
          rw [ht1] at hP1
          obtain rfl : r13 = r13o := Option.some.inj hw
          obtain ⟨hP, hD⟩ := va_joinF (fr := ([wR cI cJ aR jR aZ u6, wS cI cJ aZ jZ uZ, wO cI cJ aO jO uO] : List va_W)) (f1 := ([] : List va_W)) hP hD [] [0, 1, 2] rfl rfl (by decide) (by decide) hk1 hFc hP1 hD1
          have hP : va_P (dC, dI) vwCl ([wR cI cJ aR jR aZ u6, wS cI cJ aZ jZ uZ, wO cI cJ aO jO uO] : List va_W).flatten H1 := hP
          have hD : va_D A ([wR cI cJ aR jR aZ u6, wS cI cJ aZ jZ uZ, wO cI cJ aO jO uO] : List va_W).flatten := hD
          generalize H1 = H at hP hS ⊢
          have hPc : va_P (dC, dI) vwCl ([wR cI cJ aR jR aZ u6, wO cI cJ aO jO uO] : List va_W).flatten _ := hP.subF [0, 2] rfl
          have hDc : va_D A ([wR cI cJ aR jR aZ u6, wO cI cJ aO jO uO] : List va_W).flatten := hD.subF [0, 2] (by decide) rfl
          have hFc := va_freeF (fc := ([wR cI cJ aR jR aZ u6, wO cI cJ aO jO uO] : List va_W)) hD hS hA [0, 2] rfl
          obtain ⟨u15o, r16o, e17, hm⟩ := oC2_of hm
          refine va_calll (va_runV (As := [.ref aO, .int r13]) (rest := [.int x5, .ref (jR 1)]) ⟨hx, hb, hml, hown, ht⟩ (c_X3_nextNumber l dC dI cI cJ aR jR aO jO aZ H.size u6 uO r13 (u15o, r16o) e17) (cwV 2 ht (gdV kw_208 kw_206 kw_207 kw_205 kw_204) rfl rfl rfl ⟨rfl, nd_X3_nextNumber⟩ ⟨Nat.le_of_ble_eq_true rfl, Nat.le_of_ble_eq_true rfl⟩) ⟨pcW_blind, va_recv hK hPc (ci := 4) (q0 := 0) rfl rfl, pcW_pre hPc hK hDc hN⟩ rfl rfl hl.1 rfl (lv_room (Nat.le_of_ble_eq_true rfl)) dX3_takeStates_64 ⟨Nat.zero_le _, Nat.zero_le _⟩) hS (fun q _ z => hFc q z) hFc (fun r16 uu t H1 locs ht1 hvm hw hB hz1 hk1 hS => ?_)
          obtain ⟨u15, rfl⟩ : ∃ z, z = uu := ⟨_, rfl⟩
          obtain ⟨hP1, hD1⟩ := hB
          rw [ht1] at hP1
          obtain ⟨q0, q1⟩ := inj2 hw
          subst q0
          subst q1
          obtain ⟨hP, hD⟩ := va_joinF (fr := ([wS cI cJ aZ jZ uZ] : List va_W)) (f1 := ([wR cI cJ aR jR aZ u15, wO cI cJ aO jO uO] : List va_W)) hP hD [0, 2] [1] rfl rfl (by decide) (by decide) hk1 hFc hP1 hD1
          have hP : va_P (dC, dI) vwCl ([wR cI cJ aR jR aZ u15, wS cI cJ aZ jZ uZ, wO cI cJ aO jO uO] : List va_W).flatten H1 := hP.subF [1, 0, 2] rfl
          have hD : va_D A ([wR cI cJ aR jR aZ u15, wS cI cJ aZ jZ uZ, wO cI cJ aO jO uO] : List va_W).flatten := hD.subF [1, 0, 2] (by decide) rfl
          generalize H1 = H at hP hS ⊢
          obtain ⟨g18, hm⟩ := gdi_of hm
          refine va_last hx hb hK hP hD hS 1 1 rfl rfl g18 dX3_takeStates_67 (fun H locs hP hD hS => ?_)
          obtain ⟨u19, eu19, hm⟩ := bnd_ex hm
          have hP : va_P (dC, dI) vwCl ([wR cI cJ aR jR aZ u19, wS cI cJ aZ jZ uZ, wO cI cJ aO jO uO] : List va_W).flatten H := by rw [eu19]; exact hP
          have hD : va_D A ([wR cI cJ aR jR aZ u19, wS cI cJ aZ jZ uZ, wO cI cJ aO jO uO] : List va_W).flatten := by rw [eu19]; exact hD
          refine lv_aload_n hx hb dX3_takeStates_68 rfl (lv_at hl 0 rfl) ?_
          refine va_get (D := (dC, dI)) (ci := 4) (v := .int (u19.1 4)) (C := RX3) (T := TX3) (N := 12) hx hb ht inX3 hown hK hP 0 rfl rfl 4 (by decide) (ht _ kw_181) (fun _ h9 => h9) rfl dX3_takeStates_69 ?_
          refine lv_if_ne (tgt := 105) hx hb dX3_takeStates_72 (by decide) (fun c20 => ?_) (fun c20 => ?_)
          · have hm := ite_f c20 hm
            refine lv_aload_n hx hb dX3_takeStates_105 rfl (lv_at hl 0 rfl) ?_
            refine va_get (D := (dC, dI)) (ci := 4) (v := .int (u19.1 4)) (C := RX3) (T := TX3) (N := 12) hx hb ht inX3 hown hK hP 0 rfl rfl 4 (by decide) (ht _ kw_181) (fun _ h9 => h9) rfl dX3_takeStates_106 ?_
            refine lv_if_eq (tgt := 113) hx hb dX3_takeStates_109 (by decide) (fun c21 => ?_) (fun c21 => ?_)
            · have hm := ite_t c21 hm
              obtain ⟨x22, ex22, hm⟩ := bnd_ex hm
              refine lv_iinc (v := x22) (lv' := [(6, .int x22), (0, .ref aR), (1, .ref aO), (2, .long r1), (4, .long r3)]) hx hb dX3_takeStates_113 hl (k := 4) rfl (by rw [ex22]; exact congrArg _ (by decide)) (by decide) rfl (fun ls hl => ?_)
              refine lv_goto (tgt := 34) hx hb dX3_takeStates_116 (by decide) ?_
              exact ih34 x22 u19 _ _ _ hm hP hD hS (lv_sub hl [1, 2, 3, 4, 0] rfl)
            · have hm := ite_f c21 hm
              rw [← hQ]
              exact W.vret hx hb hr (fun t ht1 hW => ⟨⟨u19, rfl, hm, by rw [ht1]; exact hP, hD⟩, hS.F ht1⟩) hS.2.2 dX3_takeStates_112
          · have hm := ite_t c20 hm
            refine lv_aload_n hx hb dX3_takeStates_75 rfl (lv_at hl 0 rfl) ?_
            refine va_get (D := (dC, dI)) (ci := 4) (v := .ref (jR 1)) (C := RX3) (T := TX3) (N := 12) hx hb ht inX3 hown hK hP 0 rfl rfl 1 (by decide) (ht _ kw_238) (fun _ h9 => h9) rfl dX3_takeStates_76 ?_
            refine lv_iload hx hb dX3_takeStates_79 (lv_at hl 4 rfl) ?_
            obtain ⟨g23, hm⟩ := gdi_of hm
            refine va_lald hx hb hK hP 1 1 rfl rfl g23 dX3_takeStates_81 ?_
            refine lv_lload_n hx hb dX3_takeStates_82 rfl (lv_at hl 2 rfl) ?_
            refine W.lcmp hx hb dX3_takeStates_83 ?_
            obtain ⟨K100_24, eK100_24, hm⟩ := bnd_ex hm
            have J100_24 : ∀ (H : Heap) (locs : List Loc) (ls : Array Slot), K100_24 = some o → va_P (dC, dI) vwCl ([wR cI cJ aR jR aZ u19, wS cI cJ aZ jZ uZ, wO cI cJ aO jO uO] : List va_W).flatten H → va_D A ([wR cI cJ aR jR aZ u19, wS cI cJ aZ jZ uZ, wO cI cJ aO jO uO] : List va_W).flatten → va_S A s.heap H locs → lv_has ls 7 [(0, .ref aR), (1, .ref aO), (2, .long r1), (4, .long r3), (6, .int x5)] → W p l e ({ frames := 1, cells := 0, slots := 0, locals := 25 } : Room) s m ([.ref aR, .ref aO] : List Value).toArray below meth c H locs 0 0 Q (F0 m 100 ls []) := by
              intro H locs ls hm hP hD hS hl
              have hm := ap0 eK100_24 hm
              refine lv_aload_n hx hb dX3_takeStates_100 rfl (lv_at hl 0 rfl) ?_
              refine lv_iconst (v := (4 : Int32)) hx hb dX3_takeStates_101 (by decide) ?_
              refine va_put (D := (dC, dI)) (ci := 4) (v := .int (4 : Int32)) (ty := .int) (C := RX3) (T := TX3) (N := 12) hx hb ht inX3 tyX3 tyX3_ok nmX3 hown hK hP hD hS 0 rfl rfl 4 (by decide) (ht _ kw_181) (fun _ h9 => h9) rfl (by decide +kernel) rfl rfl (Nat.le_of_ble_eq_true rfl) dX3_takeStates_102 (fun H locs hP hD hS => ?_)
              obtain ⟨u25, eu25, hm⟩ := bnd_ex hm
              have hP : va_P (dC, dI) vwCl ([wR cI cJ aR jR aZ u25, wS cI cJ aZ jZ uZ, wO cI cJ aO jO uO] : List va_W).flatten H := by rw [eu25]; exact hP
              have hD : va_D A ([wR cI cJ aR jR aZ u25, wS cI cJ aZ jZ uZ, wO cI cJ aO jO uO] : List va_W).flatten := by rw [eu25]; exact hD
              refine lv_aload_n hx hb dX3_takeStates_105 rfl (lv_at hl 0 rfl) ?_
              refine va_get (D := (dC, dI)) (ci := 4) (v := .int (u25.1 4)) (C := RX3) (T := TX3) (N := 12) hx hb ht inX3 hown hK hP 0 rfl rfl 4 (by decide) (ht _ kw_181) (fun _ h9 => h9) rfl dX3_takeStates_106 ?_
              refine lv_if_eq (tgt := 113) hx hb dX3_takeStates_109 (by decide) (fun c26 => ?_) (fun c26 => ?_)
              · have hm := ite_t c26 hm
                obtain ⟨x27, ex27, hm⟩ := bnd_ex hm
                refine lv_iinc (v := x27) (lv' := [(6, .int x27), (0, .ref aR), (1, .ref aO), (2, .long r1), (4, .long r3)]) hx hb dX3_takeStates_113 hl (k := 4) rfl (by rw [ex27]; exact congrArg _ (by decide)) (by decide) rfl (fun ls hl => ?_)
                refine lv_goto (tgt := 34) hx hb dX3_takeStates_116 (by decide) ?_
                exact ih34 x27 u25 _ _ _ hm hP hD hS (lv_sub hl [1, 2, 3, 4, 0] rfl)
              · have hm := ite_f c26 hm
                rw [← hQ]
                exact W.vret hx hb hr (fun t ht1 hW => ⟨⟨u25, rfl, hm, by rw [ht1]; exact hP, hD⟩, hS.F ht1⟩) hS.2.2 dX3_takeStates_112
            refine lv_if_lt (tgt := 100) hx hb dX3_takeStates_84 (by decide) (fun c28 => ?_) (fun c28 => ?_)
            · have c28 := lgc_lt.mp c28
              have hm := ite_t c28 hm
              exact J100_24 _ _ _ hm hP hD hS (lv_sub hl [0, 1, 2, 3, 4] rfl)
            · have c28 := mt lgc_lt.mpr c28
              have hm := ite_f c28 hm
              refine lv_aload_n hx hb dX3_takeStates_87 rfl (lv_at hl 0 rfl) ?_
              refine va_get (D := (dC, dI)) (ci := 4) (v := .ref (jR 1)) (C := RX3) (T := TX3) (N := 12) hx hb ht inX3 hown hK hP 0 rfl rfl 1 (by decide) (ht _ kw_238) (fun _ h9 => h9) rfl dX3_takeStates_88 ?_
              refine lv_iload hx hb dX3_takeStates_91 (lv_at hl 4 rfl) ?_
              obtain ⟨g29, hm⟩ := gdi_of hm
              refine va_lald hx hb hK hP 1 1 rfl rfl g29 dX3_takeStates_93 ?_
              refine lv_lload hx hb dX3_takeStates_94 (lv_at hl 3 rfl) ?_
              refine W.lcmp hx hb dX3_takeStates_96 ?_
              refine lv_if_le (tgt := 105) hx hb dX3_takeStates_97 (by decide) (fun c30 => ?_) (fun c30 => ?_)
              · have c30 := lgc_le.mp c30
                have hm := ite_t c30 hm
                refine lv_aload_n hx hb dX3_takeStates_105 rfl (lv_at hl 0 rfl) ?_
                refine va_get (D := (dC, dI)) (ci := 4) (v := .int (u19.1 4)) (C := RX3) (T := TX3) (N := 12) hx hb ht inX3 hown hK hP 0 rfl rfl 4 (by decide) (ht _ kw_181) (fun _ h9 => h9) rfl dX3_takeStates_106 ?_
                refine lv_if_eq (tgt := 113) hx hb dX3_takeStates_109 (by decide) (fun c31 => ?_) (fun c31 => ?_)
                · have hm := ite_t c31 hm
                  obtain ⟨x32, ex32, hm⟩ := bnd_ex hm
                  refine lv_iinc (v := x32) (lv' := [(6, .int x32), (0, .ref aR), (1, .ref aO), (2, .long r1), (4, .long r3)]) hx hb dX3_takeStates_113 hl (k := 4) rfl (by rw [ex32]; exact congrArg _ (by decide)) (by decide) rfl (fun ls hl => ?_)
                  refine lv_goto (tgt := 34) hx hb dX3_takeStates_116 (by decide) ?_
                  exact ih34 x32 u19 _ _ _ hm hP hD hS (lv_sub hl [1, 2, 3, 4, 0] rfl)
                · have hm := ite_f c31 hm
                  rw [← hQ]
                  exact W.vret hx hb hr (fun t ht1 hW => ⟨⟨u19, rfl, hm, by rw [ht1]; exact hP, hD⟩, hS.F ht1⟩) hS.2.2 dX3_takeStates_112
              · have c30 := mt lgc_le.mpr c30
                have hm := ite_f c30 hm
                exact J100_24 _ _ _ hm hP hD hS (lv_sub hl [0, 1, 2, 3, 4] rfl)
  exact LP34 FU (0 : Int32) uR _ _ _ hm hP hD hS (lv_sub hl [3, 4, 2, 1, 0] rfl)

def f_X4_numberPlaces_L10 : Nat → (Int32 → OS → Option (OS)) → Int32 → OS → Option (OS)
  | 0, _, _, _ => none
  | n10 + 1, K99_7, x3, u4 =>
    if (u4.1 1) ≤ x3 then (
    K99_7 x3 u4) else (
    if (nI (u4.2.2.2 8)) ≤ x3 then (
    K99_7 x3 u4) else (
    gdi x3 (u4.2.2.2 8) <|
    bnd (u4.2.1 8 (x3).toNatClampNeg) fun x11 =>
    gdi x11 33 <|
    gdi x11 32 <|
    bnd ((u4.2.1 4 (x11).toNatClampNeg) + (u4.2.1 6 (x11).toNatClampNeg)) fun x14 =>
    gdi x11 32 <|
    gdi x11 32 <|
    gdi x3 (u4.2.2.2 9) <|
    bnd (sA u4 9 x3 ((u4.2.1 3 (x11).toNatClampNeg) + (u4.2.1 6 (x11).toNatClampNeg))) fun u18 =>
    bnd (fun (u19 : OS) =>
    gdi x11 32 <|
    gdi x11 32 <|
    bnd (sA u19 6 x11 ((u19.2.1 6 (x11).toNatClampNeg) + (1 : Int32))) fun u23 =>
    bnd (x3 + (1 : Int32)) fun x24 =>
    f_X4_numberPlaces_L10 n10 K99_7 x24 u23) fun K83_20 =>
    if (nI (u18.2.2.2 10)) ≤ x14 then (
    K83_20 u18) else (
    gdi x14 (u18.2.2.2 10) <|
    bnd (sA u18 10 x14 x3) fun u27 =>
    K83_20 u27)))

def f_X4_numberPlaces (uS : OS) : Option (OS) :=
  bnd (sG uS 6 (flI 32 (uS.2.1 6) (0 : Int32))) fun u1 =>
  bnd (fun (x5 : Int32) (u6 : OS) =>
  some u6) fun K99_7 =>
  f_X4_numberPlaces_L10 FU K99_7 (0 : Int32) u1

set_option maxHeartbeats 4000000 in
set_option maxRecDepth 100000 in
theorem c_X4_numberPlaces (l : Launch) (dC : Nat → ClassId) (dI : Nat → Nat → Nat) (cI cJ : ClassId) (aS : Nat) (jS : Nat → Nat) (sz : Nat) (uS : OS) (o : OS) (hm : f_X4_numberPlaces uS = some o) : Met l yX4_numberPlaces (wq yX4_numberPlaces cX4_numberPlaces 4 none) ({ frames := 1, cells := 0, slots := 0, locals := 24 } : Room) (va_Pc [.ref aS] (pcW dC dI cI cJ sz ([wS cI cJ aS jS uS] : List va_W).flatten)) (va_Qv (S := OS) (fun u => some u = some o) (fun (u : OS) t => va_P (dC, dI) vwCl ([wS cI cJ aS jS u] : List va_W).flatten t.heap ∧ va_D (va_A ([wS cI cJ aS jS uS] : List va_W).flatten sz) ([wS cI cJ aS jS u] : List va_W).flatten) (va_A ([wS cI cJ aS jS uS] : List va_W).flatten sz)) 0 0 (va_A ([wS cI cJ aS jS uS] : List va_W).flatten sz) := by
  refine Met.ofW (cc := cX4_numberPlaces) (maxL := 4) (ret := none) (by decide) rfl ?_
  intro p e s m args below meth c s₁ B hml hv
  obtain ⟨rfl, hsz, hP, hK, hD0, hN⟩ := hv
  have hx := B.exec
  have hb := B.bytes
  have hr := B.returns
  have ht : ∀ w ∈ lw_good, w.before _ s = true := fun w h => atoms_spec (ws := wq yX4_numberPlaces cX4_numberPlaces 4 none) B.pre w (wq_mem h)
  have hown : s.vm.findClass RX4 = some m.cls := findClass_of_methodNamed B.named
  have hlocks := B.notSynchronized
  subst hsz
  have hD := hD0.self (sz := s.heap.size)
  generalize hAe : va_A ([wS cI cJ aS jS uS] : List va_W).flatten s.heap.size = A at hD ⊢
  have hA : ∀ q : Nat, s.heap.size ≤ q → A q := fun q h => by rw [← hAe]; exact Or.inr h
  have hS : va_S A s.heap s.heap [] := va_S.rf
  have hl := lv_entry ([.ref aS]) (n := 4) (Nat.le_of_ble_eq_true rfl)
  rw [lg_entry_eq]
  generalize (lg_sl ([.ref aS]) ++ List.replicate (4 - (lg_sl ([.ref aS])).length) Slot.unset).toArray = ls at hl ⊢
  have hl : lv_has ls 4 [(0, .ref aS)] := hl
  generalize hQ : MQ below _ _ s _ _ _ = Q
  generalize hH : s.heap = H at hP ⊢
  have hS : va_S A s.heap H [] := by rw [← hH]; exact va_S.rf
  show W p l e ({ frames := 1, cells := 0, slots := 0, locals := 24 } : Room) s m ([.ref aS] : List Value).toArray below meth c H [] 0 0 Q (F0 m 0 ls [])
  unfold f_X4_numberPlaces at hm
  refine lv_aload_n hx hb dX4_numberPlaces_0 rfl (lv_at hl 0 rfl) ?_
  refine va_get (D := (dC, dI)) (ci := 5) (v := .ref (jS 6)) (C := RX4) (T := TX4) (N := 11) hx hb ht inX4 hown hK hP 0 rfl rfl 6 (by decide) (ht _ kw_248) (fun _ h9 => h9) rfl dX4_numberPlaces_1 ?_
  refine lv_iconst (v := (0 : Int32)) hx hb dX4_numberPlaces_4 (by decide) ?_
  have g2 : 32 < 2 ^ 31 := by decide
  have hPc : va_P (dC, dI) vwCl [((jS 6), .inl (cI, 32, .inl (uS.2.1 6)))] _ := hP.sub [4] rfl
  have hDc : va_D A [((jS 6), .inl (cI, 32, .inl (uS.2.1 6)))] := hD.sub [4] (by decide) rfl
  have hFc := va_free (wc := [((jS 6), .inl (cI, 32, .inl (uS.2.1 6)))]) hD hS hA [4] rfl
  obtain ⟨u1, eu1, hm⟩ := bnd_ex hm
  refine va_callv (va_runS (As := [.ref (jS 6), .int (0 : Int32)]) (rest := []) ⟨hx, hb, hml, hown, ht⟩ (c_fillI l dC dI cI cJ (jS 6) H.size 32 g2 (uS.2.1 6) (0 : Int32)) (va_cwS 2 ht (gdS kw_195 kw_193 kw_194 kw_192) rfl rfl rfl nd_J7_fill_53178 ⟨Nat.le_of_ble_eq_true rfl, Nat.le_of_ble_eq_true rfl⟩) ⟨pcW_blind, pcW_pre hPc hK hDc hN⟩ rfl rfl hl.1 rfl (lv_room (Nat.le_of_ble_eq_true rfl)) dX4_numberPlaces_5 ⟨Nat.zero_le _, Nat.zero_le _⟩) hS (fun q _ z => hFc q z) hFc (fun uu t H1 locs ht1 hvm hw hB hz1 hk1 hS => ?_)
  obtain ⟨hP1, hD1⟩ := hB
  rw [ht1] at hP1
  subst hw
  obtain ⟨hP, hD⟩ := va_join (wr := [(wS cI cJ aS jS uS)[0], (wS cI cJ aS jS uS)[1], (wS cI cJ aS jS uS)[2], (wS cI cJ aS jS uS)[3], (wS cI cJ aS jS uS)[5], (wS cI cJ aS jS uS)[6], (wS cI cJ aS jS uS)[7]]) (w1 := [((jS 6), .inl (cI, 32, .inl (flI 32 (uS.2.1 6) (0 : Int32))))]) hP hD [4] [0, 1, 2, 3, 5, 6, 7] rfl rfl (by decide) (by decide) hk1 hFc hP1 hD1
  generalize H1 = H at hP hS ⊢
  have hP : va_P (dC, dI) vwCl ([wS cI cJ aS jS u1] : List va_W).flatten H := by rw [eu1]; exact hP.sub [0, 1, 2, 3, 7, 4, 5, 6] rfl
  have hD : va_D A ([wS cI cJ aS jS u1] : List va_W).flatten := by rw [eu1]; exact hD.sub [0, 1, 2, 3, 7, 4, 5, 6] (by decide) rfl
  refine lv_iconst (v := (0 : Int32)) hx hb dX4_numberPlaces_8 (by decide) ?_
  refine lv_istore_n (lv' := [(1, .int (0 : Int32)), (0, .ref aS)]) hx hb dX4_numberPlaces_9 rfl hl (by decide) rfl (fun ls hl => ?_)
  obtain ⟨K99_7, eK99_7, hm⟩ := bnd_ex hm
  have X99_7 : ∀ (x5 : Int32) (u6 : OS) (H : Heap) (locs : List Loc) (ls : Array Slot), K99_7 x5 u6 = some o → va_P (dC, dI) vwCl ([wS cI cJ aS jS u6] : List va_W).flatten H → va_D A ([wS cI cJ aS jS u6] : List va_W).flatten → va_S A s.heap H locs → lv_has ls 4 [(0, .ref aS), (1, .int x5)] → W p l e ({ frames := 1, cells := 0, slots := 0, locals := 24 } : Room) s m ([.ref aS] : List Value).toArray below meth c H locs 0 0 Q (F0 m 99 ls []) := by
    intro x5 u6 H locs ls hm hP hD hS hl
    have hm := ap2 eK99_7 hm
    rw [← hQ]
    exact W.vret hx hb hr (fun t ht1 hW => ⟨⟨u6, rfl, hm, by rw [ht1]; exact hP, hD⟩, hS.F ht1⟩) hS.2.2 dX4_numberPlaces_99
  have LP10 : ∀ (n10 : Nat) (x3 : Int32) (u4 : OS) (H : Heap) (locs : List Loc) (ls : Array Slot), f_X4_numberPlaces_L10 n10 K99_7 x3 u4 = some o → va_P (dC, dI) vwCl ([wS cI cJ aS jS u4] : List va_W).flatten H → va_D A ([wS cI cJ aS jS u4] : List va_W).flatten → va_S A s.heap H locs → lv_has ls 4 [(0, .ref aS), (1, .int x3)] → W p l e ({ frames := 1, cells := 0, slots := 0, locals := 24 } : Room) s m ([.ref aS] : List Value).toArray below meth c H locs 0 0 Q (F0 m 10 ls []) := by
    intro n10
    induction n10 with
    | zero => intro x3 u4 H locs ls hm; exact nomatch (show (none : Option _) = some _ from hm)
    | succ n10 ih10 =>
      intro x3 u4 H locs ls hm hP hD hS hl
      unfold f_X4_numberPlaces_L10 at hm
      refine lv_iload_n hx hb dX4_numberPlaces_10 rfl (lv_at hl 1 rfl) ?_
      refine lv_aload_n hx hb dX4_numberPlaces_11 rfl (lv_at hl 0 rfl) ?_
      refine va_get (D := (dC, dI)) (ci := 5) (v := .int (u4.1 1)) (C := RX4) (T := TX4) (N := 11) hx hb ht inX4 hown hK hP 0 rfl rfl 1 (by decide) (ht _ kw_197) (fun _ h9 => h9) rfl dX4_numberPlaces_12 ?_
      refine lv_icmp_ge (tgt := 99) hx hb dX4_numberPlaces_15 (by decide) (fun c8 => ?_) (fun c8 => ?_)
      · have hm := ite_t c8 hm
        exact X99_7 x3 u4 _ _ _ hm hP hD hS (lv_sub hl [0, 1] rfl)
      · have hm := ite_f c8 hm
        refine lv_iload_n hx hb dX4_numberPlaces_18 rfl (lv_at hl 1 rfl) ?_
        refine lv_aload_n hx hb dX4_numberPlaces_19 rfl (lv_at hl 0 rfl) ?_
        refine va_get (D := (dC, dI)) (ci := 5) (v := .ref (jS 8)) (C := RX4) (T := TX4) (N := 11) hx hb ht inX4 hown hK hP 0 rfl rfl 8 (by decide) (ht _ kw_245) (fun _ h9 => h9) rfl dX4_numberPlaces_20 ?_
        refine va_alen (v := (nI (u4.2.2.2 8))) hx hb hK hP 5 0 rfl rfl rfl dX4_numberPlaces_23 ?_
        refine lv_icmp_ge (tgt := 99) hx hb dX4_numberPlaces_24 (by decide) (fun c9 => ?_) (fun c9 => ?_)
        · have hm := ite_t c9 hm
          exact X99_7 x3 u4 _ _ _ hm hP hD hS (lv_sub hl [0, 1] rfl)
        · have hm := ite_f c9 hm
          refine lv_aload_n hx hb dX4_numberPlaces_27 rfl (lv_at hl 0 rfl) ?_
          refine va_get (D := (dC, dI)) (ci := 5) (v := .ref (jS 8)) (C := RX4) (T := TX4) (N := 11) hx hb ht inX4 hown hK hP 0 rfl rfl 8 (by decide) (ht _ kw_245) (fun _ h9 => h9) rfl dX4_numberPlaces_28 ?_
          refine lv_iload_n hx hb dX4_numberPlaces_31 rfl (lv_at hl 1 rfl) ?_
          obtain ⟨g10, hm⟩ := gdi_of hm
          refine va_iald hx hb hK hP 5 0 rfl rfl g10 dX4_numberPlaces_32 ?_
          refine lv_topi (fun x11 ex11 => ?_)
          have hm := bnd_nm ex11 hm
          refine lv_istore_n (lv' := [(2, .int x11), (0, .ref aS), (1, .int x3)]) hx hb dX4_numberPlaces_33 rfl hl (by decide) rfl (fun ls hl => ?_)
          refine lv_aload_n hx hb dX4_numberPlaces_34 rfl (lv_at hl 1 rfl) ?_
          refine va_get (D := (dC, dI)) (ci := 5) (v := .ref (jS 4)) (C := RX4) (T := TX4) (N := 11) hx hb ht inX4 hown hK hP 0 rfl rfl 4 (by decide) (ht _ kw_216) (fun _ h9 => h9) rfl dX4_numberPlaces_35 ?_
          refine lv_iload_n hx hb dX4_numberPlaces_38 rfl (lv_at hl 0 rfl) ?_
          obtain ⟨g12, hm⟩ := gdi_of hm
          refine va_iald hx hb hK hP 2 0 rfl rfl g12 dX4_numberPlaces_39 ?_
          refine lv_aload_n hx hb dX4_numberPlaces_40 rfl (lv_at hl 1 rfl) ?_
          refine va_get (D := (dC, dI)) (ci := 5) (v := .ref (jS 6)) (C := RX4) (T := TX4) (N := 11) hx hb ht inX4 hown hK hP 0 rfl rfl 6 (by decide) (ht _ kw_248) (fun _ h9 => h9) rfl dX4_numberPlaces_41 ?_
          refine lv_iload_n hx hb dX4_numberPlaces_44 rfl (lv_at hl 0 rfl) ?_
          obtain ⟨g13, hm⟩ := gdi_of hm
          refine va_iald hx hb hK hP 4 0 rfl rfl g13 dX4_numberPlaces_45 ?_
          refine lv_iadd hx hb dX4_numberPlaces_46 ?_
          refine lv_topi (fun x14 ex14 => ?_)
          have hm := bnd_nm ex14 hm
          refine lv_istore_n (lv' := [(3, .int x14), (2, .int x11), (0, .ref aS), (1, .int x3)]) hx hb dX4_numberPlaces_47 rfl hl (by decide) rfl (fun ls hl => ?_)
          refine lv_aload_n hx hb dX4_numberPlaces_48 rfl (lv_at hl 2 rfl) ?_
          refine va_get (D := (dC, dI)) (ci := 5) (v := .ref (jS 9)) (C := RX4) (T := TX4) (N := 11) hx hb ht inX4 hown hK hP 0 rfl rfl 9 (by decide) (ht _ kw_246) (fun _ h9 => h9) rfl dX4_numberPlaces_49 ?_
          refine lv_iload_n hx hb dX4_numberPlaces_52 rfl (lv_at hl 3 rfl) ?_
          refine lv_aload_n hx hb dX4_numberPlaces_53 rfl (lv_at hl 2 rfl) ?_
          refine va_get (D := (dC, dI)) (ci := 5) (v := .ref (jS 3)) (C := RX4) (T := TX4) (N := 11) hx hb ht inX4 hown hK hP 0 rfl rfl 3 (by decide) (ht _ kw_189) (fun _ h9 => h9) rfl dX4_numberPlaces_54 ?_
          refine lv_iload_n hx hb dX4_numberPlaces_57 rfl (lv_at hl 1 rfl) ?_
          obtain ⟨g15, hm⟩ := gdi_of hm
          refine va_iald hx hb hK hP 1 0 rfl rfl g15 dX4_numberPlaces_58 ?_
          refine lv_aload_n hx hb dX4_numberPlaces_59 rfl (lv_at hl 2 rfl) ?_
          refine va_get (D := (dC, dI)) (ci := 5) (v := .ref (jS 6)) (C := RX4) (T := TX4) (N := 11) hx hb ht inX4 hown hK hP 0 rfl rfl 6 (by decide) (ht _ kw_248) (fun _ h9 => h9) rfl dX4_numberPlaces_60 ?_
          refine lv_iload_n hx hb dX4_numberPlaces_63 rfl (lv_at hl 1 rfl) ?_
          obtain ⟨g16, hm⟩ := gdi_of hm
          refine va_iald hx hb hK hP 4 0 rfl rfl g16 dX4_numberPlaces_64 ?_
          refine lv_iadd hx hb dX4_numberPlaces_65 ?_
          obtain ⟨g17, hm⟩ := gdi_of hm
          refine va_iast hx hb hK hP hD hS 6 0 rfl rfl g17 dX4_numberPlaces_66 (fun H locs hP hD hS => ?_)
          obtain ⟨u18, eu18, hm⟩ := bnd_ex hm
          have hP : va_P (dC, dI) vwCl ([wS cI cJ aS jS u18] : List va_W).flatten H := by rw [eu18]; exact hP
          have hD : va_D A ([wS cI cJ aS jS u18] : List va_W).flatten := by rw [eu18]; exact hD
          refine lv_iload_n hx hb dX4_numberPlaces_67 rfl (lv_at hl 0 rfl) ?_
          refine lv_aload_n hx hb dX4_numberPlaces_68 rfl (lv_at hl 2 rfl) ?_
          refine va_get (D := (dC, dI)) (ci := 5) (v := .ref (jS 10)) (C := RX4) (T := TX4) (N := 11) hx hb ht inX4 hown hK hP 0 rfl rfl 10 (by decide) (ht _ kw_247) (fun _ h9 => h9) rfl dX4_numberPlaces_69 ?_
          refine va_alen (v := (nI (u18.2.2.2 10))) hx hb hK hP 7 0 rfl rfl rfl dX4_numberPlaces_72 ?_
          obtain ⟨K83_20, eK83_20, hm⟩ := bnd_ex hm
          have J83_20 : ∀ (u19 : OS) (H : Heap) (locs : List Loc) (ls : Array Slot), K83_20 u19 = some o → va_P (dC, dI) vwCl ([wS cI cJ aS jS u19] : List va_W).flatten H → va_D A ([wS cI cJ aS jS u19] : List va_W).flatten → va_S A s.heap H locs → lv_has ls 4 [(0, .ref aS), (1, .int x3), (2, .int x11), (3, .int x14)] → W p l e ({ frames := 1, cells := 0, slots := 0, locals := 24 } : Room) s m ([.ref aS] : List Value).toArray below meth c H locs 0 0 Q (F0 m 83 ls []) := by
            intro u19 H locs ls hm hP hD hS hl
            have hm := ap1 eK83_20 hm
            refine lv_aload_n hx hb dX4_numberPlaces_83 rfl (lv_at hl 0 rfl) ?_
            refine va_get (D := (dC, dI)) (ci := 5) (v := .ref (jS 6)) (C := RX4) (T := TX4) (N := 11) hx hb ht inX4 hown hK hP 0 rfl rfl 6 (by decide) (ht _ kw_248) (fun _ h9 => h9) rfl dX4_numberPlaces_84 ?_
            refine lv_iload_n hx hb dX4_numberPlaces_87 rfl (lv_at hl 2 rfl) ?_
            refine lv_dup2_11 hx hb dX4_numberPlaces_88 rfl rfl ?_
            obtain ⟨g21, hm⟩ := gdi_of hm
            refine va_iald hx hb hK hP 4 0 rfl rfl g21 dX4_numberPlaces_89 ?_
            refine lv_iconst (v := (1 : Int32)) hx hb dX4_numberPlaces_90 (by decide) ?_
            refine lv_iadd hx hb dX4_numberPlaces_91 ?_
            obtain ⟨g22, hm⟩ := gdi_of hm
            refine va_iast hx hb hK hP hD hS 4 0 rfl rfl g22 dX4_numberPlaces_92 (fun H locs hP hD hS => ?_)
            obtain ⟨u23, eu23, hm⟩ := bnd_ex hm
            have hP : va_P (dC, dI) vwCl ([wS cI cJ aS jS u23] : List va_W).flatten H := by rw [eu23]; exact hP
            have hD : va_D A ([wS cI cJ aS jS u23] : List va_W).flatten := by rw [eu23]; exact hD
            obtain ⟨x24, ex24, hm⟩ := bnd_ex hm
            refine lv_iinc (v := x24) (lv' := [(1, .int x24), (0, .ref aS), (2, .int x11), (3, .int x14)]) hx hb dX4_numberPlaces_93 hl (k := 1) rfl (by rw [ex24]; exact congrArg _ (by decide)) (by decide) rfl (fun ls hl => ?_)
            refine lv_goto (tgt := 10) hx hb dX4_numberPlaces_96 (by decide) ?_
            exact ih10 x24 u23 _ _ _ hm hP hD hS (lv_sub hl [1, 0] rfl)
          refine lv_icmp_ge (tgt := 83) hx hb dX4_numberPlaces_73 (by decide) (fun c25 => ?_) (fun c25 => ?_)
          · have hm := ite_t c25 hm
            exact J83_20 u18 _ _ _ hm hP hD hS (lv_sub hl [2, 3, 1, 0] rfl)
          · have hm := ite_f c25 hm
            refine lv_aload_n hx hb dX4_numberPlaces_76 rfl (lv_at hl 2 rfl) ?_
            refine va_get (D := (dC, dI)) (ci := 5) (v := .ref (jS 10)) (C := RX4) (T := TX4) (N := 11) hx hb ht inX4 hown hK hP 0 rfl rfl 10 (by decide) (ht _ kw_247) (fun _ h9 => h9) rfl dX4_numberPlaces_77 ?_
            refine lv_iload_n hx hb dX4_numberPlaces_80 rfl (lv_at hl 0 rfl) ?_
            refine lv_iload_n hx hb dX4_numberPlaces_81 rfl (lv_at hl 3 rfl) ?_
            obtain ⟨g26, hm⟩ := gdi_of hm
            refine va_iast hx hb hK hP hD hS 7 0 rfl rfl g26 dX4_numberPlaces_82 (fun H locs hP hD hS => ?_)
            obtain ⟨u27, eu27, hm⟩ := bnd_ex hm
            have hP : va_P (dC, dI) vwCl ([wS cI cJ aS jS u27] : List va_W).flatten H := by rw [eu27]; exact hP
            have hD : va_D A ([wS cI cJ aS jS u27] : List va_W).flatten := by rw [eu27]; exact hD
            exact J83_20 u27 _ _ _ hm hP hD hS (lv_sub hl [2, 3, 1, 0] rfl)
  exact LP10 FU (0 : Int32) u1 _ _ _ hm hP hD hS (lv_sub hl [1, 0] rfl)

def f_X4_makeSpread_L80 (x5 : Int32) (x7 : Int32) : Nat → (Int32 → Int32 → OS → Option ((OS) × Nat × Nat)) → Int32 → Int32 → OS → Option ((OS) × Nat × Nat)
  | 0, _, _, _, _ => none
  | n80 + 1, K124_27, x20, x21, u22 =>
    gdi x7 32 <|
    if (u22.2.1 3 (x7).toNatClampNeg) ≤ x20 then (
    K124_27 x21 x20 u22) else (
    if (u22.1 1) ≤ x20 then (
    K124_27 x21 x20 u22) else (
    gdi x21 (u22.2.2.2 8) <|
    bnd (sA u22 8 x21 x7) fun u33 =>
    bnd ((x21 + x5) &&& ((u33.1 1) - (1 : Int32))) fun x34 =>
    bnd (x20 + (1 : Int32)) fun x35 =>
    f_X4_makeSpread_L80 x5 x7 n80 K124_27 x35 x34 u33))

def f_X4_makeSpread_L71 (x5 : Int32) : Nat → (Int32 → Int32 → OS → Option ((OS) × Nat × Nat)) → Int32 → Int32 → OS → Option ((OS) × Nat × Nat)
  | 0, _, _, _, _ => none
  | n71 + 1, K130_14, x7, x8, u9 =>
    if (32 : Int32) ≤ x7 then (
    K130_14 x8 x7 u9) else (
    bnd (fun (x24 : Int32) (x25 : Int32) (u26 : OS) =>
    bnd (x7 + (1 : Int32)) fun x28 =>
    f_X4_makeSpread_L71 x5 n71 K130_14 x28 x24 u26) fun K124_27 =>
    f_X4_makeSpread_L80 x5 x7 FU K124_27 (0 : Int32) x8 u9)

def f_X4_makeSpread (uS : OS) : Option ((OS) × Nat × Nat) :=
  if (uS.1 7) = (0 : Int32) then (
  bnd (fun (u3 : OS) =>
  bnd ((((u3.1 1) / (2 : Int32)) + ((u3.1 1) / (8 : Int32))) + (3 : Int32)) fun x5 =>
  bnd (fun (x11 : Int32) (x12 : Int32) (u13 : OS) =>
  oC1 (f_X4_numberPlaces u13) fun u15 =>
  bnd (sF u15 7 (1 : Int32)) fun u17 =>
  some (u17, 0, 0)) fun K130_14 =>
  f_X4_makeSpread_L71 x5 FU K130_14 (0 : Int32) (0 : Int32) u3) fun K50_4 =>
  if (uS.1 1) ≤ (nI (uS.2.2.2 8)) then (
  K50_4 uS) else (
  gdn (uS.1 1) <|
  addc 1 ((uS.1 1)).toNatClampNeg <|
  bnd (sR uS 8 ((uS.1 1)).toNatClampNeg (fun _ => 0)) fun u37 =>
  gdn (u37.1 1) <|
  addc 1 ((u37.1 1)).toNatClampNeg <|
  bnd (sR u37 9 ((u37.1 1)).toNatClampNeg (fun _ => 0)) fun u39 =>
  gdn (u39.1 1) <|
  addc 1 ((u39.1 1)).toNatClampNeg <|
  bnd (sR u39 10 ((u39.1 1)).toNatClampNeg (fun _ => 0)) fun u41 =>
  K50_4 u41)) else (
  some (uS, 0, 0))

set_option maxHeartbeats 4000000 in
set_option maxRecDepth 100000 in
theorem c_X4_makeSpread (l : Launch) (dC : Nat → ClassId) (dI : Nat → Nat → Nat) (cI cJ : ClassId) (aS : Nat) (jS : Nat → Nat) (sz : Nat) (uS : OS) (o : OS) (mc ms : Nat) (hm : f_X4_makeSpread uS = some (o, mc, ms)) : Met l yX4_makeSpread (wq yX4_makeSpread cX4_makeSpread 5 none) ({ frames := 2, cells := mc, slots := ms, locals := 47 } : Room) (va_Pc [.ref aS] (pcW dC dI cI cJ sz ([wS cI cJ aS jS uS] : List va_W).flatten)) (va_Qv (S := OS) (fun u => some u = some o) (fun (u : OS) t => ∃ hhS : Nat → Nat, va_P (dC, dI) vwCl ([wS cI cJ aS hhS u] : List va_W).flatten t.heap ∧ va_D (va_A ([wS cI cJ aS jS uS] : List va_W).flatten sz) ([wS cI cJ aS hhS u] : List va_W).flatten) (va_A ([wS cI cJ aS jS uS] : List va_W).flatten sz)) mc ms (va_A ([wS cI cJ aS jS uS] : List va_W).flatten sz) := by
  refine Met.ofW (cc := cX4_makeSpread) (maxL := 5) (ret := none) (by decide) rfl ?_
  intro p e s m args below meth c s₁ B hml hv
  obtain ⟨rfl, hsz, hP, hK, hD0, hN⟩ := hv
  have hx := B.exec
  have hb := B.bytes
  have hr := B.returns
  have ht : ∀ w ∈ lw_good, w.before _ s = true := fun w h => atoms_spec (ws := wq yX4_makeSpread cX4_makeSpread 5 none) B.pre w (wq_mem h)
  have hown : s.vm.findClass RX4 = some m.cls := findClass_of_methodNamed B.named
  have hlocks := B.notSynchronized
  subst hsz
  have hD := hD0.self (sz := s.heap.size)
  generalize hAe : va_A ([wS cI cJ aS jS uS] : List va_W).flatten s.heap.size = A at hD ⊢
  have hA : ∀ q : Nat, s.heap.size ≤ q → A q := fun q h => by rw [← hAe]; exact Or.inr h
  have hS : va_S A s.heap s.heap [] := va_S.rf
  have hl := lv_entry ([.ref aS]) (n := 5) (Nat.le_of_ble_eq_true rfl)
  rw [lg_entry_eq]
  generalize (lg_sl ([.ref aS]) ++ List.replicate (5 - (lg_sl ([.ref aS])).length) Slot.unset).toArray = ls at hl ⊢
  have hl : lv_has ls 5 [(0, .ref aS)] := hl
  generalize hQ : MQ below _ _ s _ _ _ = Q
  generalize hH : s.heap = H at hP ⊢
  have hS : va_S A s.heap H [] := by rw [← hH]; exact va_S.rf
  obtain ⟨ce, hce⟩ := ex_eq (0 : Nat)
  obtain ⟨sl, hsl⟩ := ex_eq (0 : Nat)
  obtain ⟨kc, hkc⟩ := ex_eq mc
  obtain ⟨ks, hks⟩ := ex_eq ms
  rw [← hkc, ← hks] at hm
  have hc1 : ce + kc = mc := by omega
  have hc2 : sl + ks = ms := by omega
  suffices hw : W p l e ({ frames := 2, cells := mc, slots := ms, locals := 47 } : Room) s m ([.ref aS] : List Value).toArray below meth c H [] ce sl Q (F0 m 0 ls []) by rw [hce, hsl] at hw; exact hw
  clear hce hsl hkc hks
  unfold f_X4_makeSpread at hm
  refine lv_aload_n hx hb dX4_makeSpread_0 rfl (lv_at hl 0 rfl) ?_
  refine va_get (D := (dC, dI)) (ci := 5) (v := .int (uS.1 7)) (C := RX4) (T := TX4) (N := 11) hx hb ht inX4 hown hK hP 0 rfl rfl 7 (by decide) (ht _ kw_191) (fun _ h9 => h9) rfl dX4_makeSpread_1 ?_
  refine lv_if_eq (tgt := 8) hx hb dX4_makeSpread_4 (by decide) (fun c1 => ?_) (fun c1 => ?_)
  · have hm := ite_t c1 hm
    refine lv_aload_n hx hb dX4_makeSpread_8 rfl (lv_at hl 0 rfl) ?_
    refine va_get (D := (dC, dI)) (ci := 5) (v := .ref (jS 8)) (C := RX4) (T := TX4) (N := 11) hx hb ht inX4 hown hK hP 0 rfl rfl 8 (by decide) (ht _ kw_245) (fun _ h9 => h9) rfl dX4_makeSpread_9 ?_
    refine va_alen (v := (nI (uS.2.2.2 8))) hx hb hK hP 5 0 rfl rfl rfl dX4_makeSpread_12 ?_
    refine lv_aload_n hx hb dX4_makeSpread_13 rfl (lv_at hl 0 rfl) ?_
    refine va_get (D := (dC, dI)) (ci := 5) (v := .int (uS.1 1)) (C := RX4) (T := TX4) (N := 11) hx hb ht inX4 hown hK hP 0 rfl rfl 1 (by decide) (ht _ kw_197) (fun _ h9 => h9) rfl dX4_makeSpread_14 ?_
    obtain ⟨K50_4, eK50_4, hm⟩ := bnd_ex hm
    have J50_4 : ∀ (u3 : OS) (hg2 : Nat → Nat) (ce sl kc ks : Nat) (H : Heap) (locs : List Loc) (ls : Array Slot), K50_4 u3 = some (o, kc, ks) → ce + kc = mc → sl + ks = ms → va_P (dC, dI) vwCl ([wS cI cJ aS hg2 u3] : List va_W).flatten H → va_D A ([wS cI cJ aS hg2 u3] : List va_W).flatten → va_S A s.heap H locs → lv_has ls 5 [(0, .ref aS)] → W p l e ({ frames := 2, cells := mc, slots := ms, locals := 47 } : Room) s m ([.ref aS] : List Value).toArray below meth c H locs ce sl Q (F0 m 50 ls []) := by
      intro u3 hg2 ce sl kc ks H locs ls hm hc1 hc2 hP hD hS hl
      have hm := ap1 eK50_4 hm
      refine lv_aload_n hx hb dX4_makeSpread_50 rfl (lv_at hl 0 rfl) ?_
      refine va_get (D := (dC, dI)) (ci := 5) (v := .int (u3.1 1)) (C := RX4) (T := TX4) (N := 11) hx hb ht inX4 hown hK hP 0 rfl rfl 1 (by decide) (ht _ kw_197) (fun _ h9 => h9) rfl dX4_makeSpread_51 ?_
      refine lv_iconst (v := (2 : Int32)) hx hb dX4_makeSpread_54 (by decide) ?_
      refine lv_idiv hx hb dX4_makeSpread_55 (by decide) ?_
      refine lv_aload_n hx hb dX4_makeSpread_56 rfl (lv_at hl 0 rfl) ?_
      refine va_get (D := (dC, dI)) (ci := 5) (v := .int (u3.1 1)) (C := RX4) (T := TX4) (N := 11) hx hb ht inX4 hown hK hP 0 rfl rfl 1 (by decide) (ht _ kw_197) (fun _ h9 => h9) rfl dX4_makeSpread_57 ?_
      refine lv_bipush (v := (8 : Int32)) hx hb dX4_makeSpread_60 (by decide) ?_
      refine lv_idiv hx hb dX4_makeSpread_62 (by decide) ?_
      refine lv_iadd hx hb dX4_makeSpread_63 ?_
      refine lv_iconst (v := (3 : Int32)) hx hb dX4_makeSpread_64 (by decide) ?_
      refine lv_iadd hx hb dX4_makeSpread_65 ?_
      refine lv_topi (fun x5 ex5 => ?_)
      have hm := bnd_nm ex5 hm
      refine lv_istore_n (lv' := [(1, .int x5), (0, .ref aS)]) hx hb dX4_makeSpread_66 rfl hl (by decide) rfl (fun ls hl => ?_)
      refine lv_iconst (v := (0 : Int32)) hx hb dX4_makeSpread_67 (by decide) ?_
      refine lv_istore_n (lv' := [(2, .int (0 : Int32)), (1, .int x5), (0, .ref aS)]) hx hb dX4_makeSpread_68 rfl hl (by decide) rfl (fun ls hl => ?_)
      refine lv_iconst (v := (0 : Int32)) hx hb dX4_makeSpread_69 (by decide) ?_
      refine lv_istore_n (lv' := [(3, .int (0 : Int32)), (2, .int (0 : Int32)), (1, .int x5), (0, .ref aS)]) hx hb dX4_makeSpread_70 rfl hl (by decide) rfl (fun ls hl => ?_)
      obtain ⟨K130_14, eK130_14, hm⟩ := bnd_ex hm
      have X130_14 : ∀ (x11 : Int32) (x12 : Int32) (u13 : OS) (hg10 : Nat → Nat) (ce sl kc ks : Nat) (H : Heap) (locs : List Loc) (ls : Array Slot), K130_14 x11 x12 u13 = some (o, kc, ks) → ce + kc = mc → sl + ks = ms → va_P (dC, dI) vwCl ([wS cI cJ aS hg10 u13] : List va_W).flatten H → va_D A ([wS cI cJ aS hg10 u13] : List va_W).flatten → va_S A s.heap H locs → lv_has ls 5 [(0, .ref aS), (1, .int x5), (2, .int x11), (3, .int x12)] → W p l e ({ frames := 2, cells := mc, slots := ms, locals := 47 } : Room) s m ([.ref aS] : List Value).toArray below meth c H locs ce sl Q (F0 m 130 ls []) := by
        intro x11 x12 u13 hg10 ce sl kc ks H locs ls hm hc1 hc2 hP hD hS hl
        have hm := ap3 eK130_14 hm
        refine lv_aload_n hx hb dX4_makeSpread_130 rfl (lv_at hl 0 rfl) ?_
        have hPc : va_P (dC, dI) vwCl ([wS cI cJ aS hg10 u13] : List va_W).flatten _ := hP
        have hDc : va_D A ([wS cI cJ aS hg10 u13] : List va_W).flatten := hD
        have hFc := va_freeF (fc := ([wS cI cJ aS hg10 u13] : List va_W)) hD hS hA [0] rfl
        obtain ⟨u15o, e16, hm⟩ := oC1_of hm
        refine va_callv (va_runV (As := []) (rest := []) ⟨hx, hb, hml, hown, ht⟩ (c_X4_numberPlaces l dC dI cI cJ aS hg10 H.size u13 u15o e16) (cwV 0 ht (gdV kw_252 kw_250 kw_251 kw_199 kw_249) rfl rfl rfl ⟨rfl, nd_X4_numberPlaces⟩ ⟨Nat.le_of_ble_eq_true rfl, Nat.le_of_ble_eq_true rfl⟩) ⟨pcW_blind, va_recv hK hPc (ci := 5) (q0 := 0) rfl rfl, pcW_pre hPc hK hDc hN⟩ rfl rfl hl.1 rfl (lv_room (Nat.le_of_ble_eq_true rfl)) dX4_makeSpread_131 ⟨cle0 hc1, cle0 hc2⟩) hS (fun q _ z => hFc q z) hFc (fun uu t H1 locs ht1 hvm hw hB hz1 hk1 hS => ?_)
        obtain ⟨u15, rfl⟩ : ∃ z, z = uu := ⟨_, rfl⟩
        obtain ⟨hP1, hD1⟩ := hB
        rw [ht1] at hP1
        obtain rfl : u15 = u15o := Option.some.inj hw
        have hP : va_P (dC, dI) vwCl ([wS cI cJ aS hg10 u15] : List va_W).flatten H1 := hP1
        have hD : va_D A ([wS cI cJ aS hg10 u15] : List va_W).flatten := hD1.weaken (fun _ q _ z => hFc q.1 z)
        generalize H1 = H at hP hS ⊢
        refine W.cs (Nat.add_zero _) (Nat.add_zero _) ?_
        refine lv_aload_n hx hb dX4_makeSpread_134 rfl (lv_at hl 0 rfl) ?_
        refine lv_iconst (v := (1 : Int32)) hx hb dX4_makeSpread_135 (by decide) ?_
        refine va_put (D := (dC, dI)) (ci := 5) (v := .int (1 : Int32)) (ty := .boolean) (C := RX4) (T := TX4) (N := 11) hx hb ht inX4 tyX4 tyX4_ok nmX4 hown hK hP hD hS 0 rfl rfl 7 (by decide) (ht _ kw_191) (fun _ h9 => h9) rfl (by decide +kernel) rfl rfl (Nat.le_of_ble_eq_true rfl) dX4_makeSpread_136 (fun H locs hP hD hS => ?_)
        obtain ⟨u17, eu17, hm⟩ := bnd_ex hm
        have hP : va_P (dC, dI) vwCl ([wS cI cJ aS hg10 u17] : List va_W).flatten H := by rw [eu17]; exact hP
        have hD : va_D A ([wS cI cJ aS hg10 u17] : List va_W).flatten := by rw [eu17]; exact hD
        obtain ⟨hmz, hz1, hz2⟩ := ret0 hm
        subst hz1
        subst hz2
        refine W.cs (cells' := mc) (slots' := ms) hc1 hc2 ?_
        rw [← hQ]
        exact W.vret hx hb hr (fun t ht1 hW => ⟨⟨u17, rfl, hmz, hg10, by rw [ht1]; exact hP, hD⟩, hS.F ht1⟩) hS.2.2 dX4_makeSpread_139
      have LP71 : ∀ (n71 : Nat) (x7 : Int32) (x8 : Int32) (u9 : OS) (hg6 : Nat → Nat) (ce sl kc ks : Nat) (H : Heap) (locs : List Loc) (ls : Array Slot), f_X4_makeSpread_L71 x5 n71 K130_14 x7 x8 u9 = some (o, kc, ks) → ce + kc = mc → sl + ks = ms → va_P (dC, dI) vwCl ([wS cI cJ aS hg6 u9] : List va_W).flatten H → va_D A ([wS cI cJ aS hg6 u9] : List va_W).flatten → va_S A s.heap H locs → lv_has ls 5 [(0, .ref aS), (1, .int x5), (2, .int x8), (3, .int x7)] → W p l e ({ frames := 2, cells := mc, slots := ms, locals := 47 } : Room) s m ([.ref aS] : List Value).toArray below meth c H locs ce sl Q (F0 m 71 ls []) := by
        intro n71
        induction n71 with
        | zero => intro x7 x8 u9 hg6 ce sl kc ks H locs ls hm; exact nomatch (show (none : Option _) = some _ from hm)
        | succ n71 ih71 =>
          intro x7 x8 u9 hg6 ce sl kc ks H locs ls hm hc1 hc2 hP hD hS hl
          unfold f_X4_makeSpread_L71 at hm
          refine lv_iload_n hx hb dX4_makeSpread_71 rfl (lv_at hl 3 rfl) ?_
          refine lv_bipush (v := (32 : Int32)) hx hb dX4_makeSpread_72 (by decide) ?_
          refine lv_icmp_ge (tgt := 130) hx hb dX4_makeSpread_74 (by decide) (fun c18 => ?_) (fun c18 => ?_)
          · have hm := ite_t c18 hm
            exact X130_14 x8 x7 u9 hg6 _ _ _ _ _ _ _ hm hc1 hc2 hP hD hS (lv_sub hl [0, 1, 2, 3] rfl)
          · have hm := ite_f c18 hm
            refine lv_iconst (v := (0 : Int32)) hx hb dX4_makeSpread_77 (by decide) ?_
            refine lv_istore (lv' := [(4, .int (0 : Int32)), (0, .ref aS), (1, .int x5), (2, .int x8), (3, .int x7)]) hx hb dX4_makeSpread_78 hl (by decide) rfl (fun ls hl => ?_)
            obtain ⟨K124_27, eK124_27, hm⟩ := bnd_ex hm
            have X124_27 : ∀ (x24 : Int32) (x25 : Int32) (u26 : OS) (hg23 : Nat → Nat) (ce sl kc ks : Nat) (H : Heap) (locs : List Loc) (ls : Array Slot), K124_27 x24 x25 u26 = some (o, kc, ks) → ce + kc = mc → sl + ks = ms → va_P (dC, dI) vwCl ([wS cI cJ aS hg23 u26] : List va_W).flatten H → va_D A ([wS cI cJ aS hg23 u26] : List va_W).flatten → va_S A s.heap H locs → lv_has ls 5 [(0, .ref aS), (1, .int x5), (2, .int x24), (3, .int x7), (4, .int x25)] → W p l e ({ frames := 2, cells := mc, slots := ms, locals := 47 } : Room) s m ([.ref aS] : List Value).toArray below meth c H locs ce sl Q (F0 m 124 ls []) := by
              intro x24 x25 u26 hg23 ce sl kc ks H locs ls hm hc1 hc2 hP hD hS hl
              have hm := ap3 eK124_27 hm
              obtain ⟨x28, ex28, hm⟩ := bnd_ex hm
              refine lv_iinc (v := x28) (lv' := [(3, .int x28), (0, .ref aS), (1, .int x5), (2, .int x24), (4, .int x25)]) hx hb dX4_makeSpread_124 hl (k := 3) rfl (by rw [ex28]; exact congrArg _ (by decide)) (by decide) rfl (fun ls hl => ?_)
              refine lv_goto (tgt := 71) hx hb dX4_makeSpread_127 (by decide) ?_
              exact ih71 x28 x24 u26 hg23 _ _ _ _ _ _ _ hm hc1 hc2 hP hD hS (lv_sub hl [1, 2, 3, 0] rfl)
            have LP80 : ∀ (n80 : Nat) (x20 : Int32) (x21 : Int32) (u22 : OS) (hg19 : Nat → Nat) (ce sl kc ks : Nat) (H : Heap) (locs : List Loc) (ls : Array Slot), f_X4_makeSpread_L80 x5 x7 n80 K124_27 x20 x21 u22 = some (o, kc, ks) → ce + kc = mc → sl + ks = ms → va_P (dC, dI) vwCl ([wS cI cJ aS hg19 u22] : List va_W).flatten H → va_D A ([wS cI cJ aS hg19 u22] : List va_W).flatten → va_S A s.heap H locs → lv_has ls 5 [(0, .ref aS), (1, .int x5), (2, .int x21), (3, .int x7), (4, .int x20)] → W p l e ({ frames := 2, cells := mc, slots := ms, locals := 47 } : Room) s m ([.ref aS] : List Value).toArray below meth c H locs ce sl Q (F0 m 80 ls []) := by
              intro n80
              induction n80 with
              | zero => intro x20 x21 u22 hg19 ce sl kc ks H locs ls hm; exact nomatch (show (none : Option _) = some _ from hm)
              | succ n80 ih80 =>
                intro x20 x21 u22 hg19 ce sl kc ks H locs ls hm hc1 hc2 hP hD hS hl
                unfold f_X4_makeSpread_L80 at hm
                refine lv_iload hx hb dX4_makeSpread_80 (lv_at hl 4 rfl) ?_
                refine lv_aload_n hx hb dX4_makeSpread_82 rfl (lv_at hl 0 rfl) ?_
                refine va_get (D := (dC, dI)) (ci := 5) (v := .ref (hg19 3)) (C := RX4) (T := TX4) (N := 11) hx hb ht inX4 hown hK hP 0 rfl rfl 3 (by decide) (ht _ kw_189) (fun _ h9 => h9) rfl dX4_makeSpread_83 ?_
                refine lv_iload_n hx hb dX4_makeSpread_86 rfl (lv_at hl 3 rfl) ?_
                obtain ⟨g29, hm⟩ := gdi_of hm
                refine va_iald hx hb hK hP 1 0 rfl rfl g29 dX4_makeSpread_87 ?_
                refine lv_icmp_ge (tgt := 124) hx hb dX4_makeSpread_88 (by decide) (fun c30 => ?_) (fun c30 => ?_)
                · have hm := ite_t c30 hm
                  exact X124_27 x21 x20 u22 hg19 _ _ _ _ _ _ _ hm hc1 hc2 hP hD hS (lv_sub hl [0, 1, 2, 3, 4] rfl)
                · have hm := ite_f c30 hm
                  refine lv_iload hx hb dX4_makeSpread_91 (lv_at hl 4 rfl) ?_
                  refine lv_aload_n hx hb dX4_makeSpread_93 rfl (lv_at hl 0 rfl) ?_
                  refine va_get (D := (dC, dI)) (ci := 5) (v := .int (u22.1 1)) (C := RX4) (T := TX4) (N := 11) hx hb ht inX4 hown hK hP 0 rfl rfl 1 (by decide) (ht _ kw_197) (fun _ h9 => h9) rfl dX4_makeSpread_94 ?_
                  refine lv_icmp_ge (tgt := 124) hx hb dX4_makeSpread_97 (by decide) (fun c31 => ?_) (fun c31 => ?_)
                  · have hm := ite_t c31 hm
                    exact X124_27 x21 x20 u22 hg19 _ _ _ _ _ _ _ hm hc1 hc2 hP hD hS (lv_sub hl [0, 1, 2, 3, 4] rfl)
                  · have hm := ite_f c31 hm
                    refine lv_aload_n hx hb dX4_makeSpread_100 rfl (lv_at hl 0 rfl) ?_
                    refine va_get (D := (dC, dI)) (ci := 5) (v := .ref (hg19 8)) (C := RX4) (T := TX4) (N := 11) hx hb ht inX4 hown hK hP 0 rfl rfl 8 (by decide) (ht _ kw_245) (fun _ h9 => h9) rfl dX4_makeSpread_101 ?_
                    refine lv_iload_n hx hb dX4_makeSpread_104 rfl (lv_at hl 2 rfl) ?_
                    refine lv_iload_n hx hb dX4_makeSpread_105 rfl (lv_at hl 3 rfl) ?_
                    obtain ⟨g32, hm⟩ := gdi_of hm
                    refine va_iast hx hb hK hP hD hS 5 0 rfl rfl g32 dX4_makeSpread_106 (fun H locs hP hD hS => ?_)
                    obtain ⟨u33, eu33, hm⟩ := bnd_ex hm
                    have hP : va_P (dC, dI) vwCl ([wS cI cJ aS hg19 u33] : List va_W).flatten H := by rw [eu33]; exact hP
                    have hD : va_D A ([wS cI cJ aS hg19 u33] : List va_W).flatten := by rw [eu33]; exact hD
                    refine lv_iload_n hx hb dX4_makeSpread_107 rfl (lv_at hl 2 rfl) ?_
                    refine lv_iload_n hx hb dX4_makeSpread_108 rfl (lv_at hl 1 rfl) ?_
                    refine lv_iadd hx hb dX4_makeSpread_109 ?_
                    refine lv_aload_n hx hb dX4_makeSpread_110 rfl (lv_at hl 0 rfl) ?_
                    refine va_get (D := (dC, dI)) (ci := 5) (v := .int (u33.1 1)) (C := RX4) (T := TX4) (N := 11) hx hb ht inX4 hown hK hP 0 rfl rfl 1 (by decide) (ht _ kw_197) (fun _ h9 => h9) rfl dX4_makeSpread_111 ?_
                    refine lv_iconst (v := (1 : Int32)) hx hb dX4_makeSpread_114 (by decide) ?_
                    refine lv_isub hx hb dX4_makeSpread_115 ?_
                    refine lv_iand hx hb dX4_makeSpread_116 ?_
                    refine lv_topi (fun x34 ex34 => ?_)
                    have hm := bnd_nm ex34 hm
                    refine lv_istore_n (lv' := [(2, .int x34), (0, .ref aS), (1, .int x5), (3, .int x7), (4, .int x20)]) hx hb dX4_makeSpread_117 rfl hl (by decide) rfl (fun ls hl => ?_)
                    obtain ⟨x35, ex35, hm⟩ := bnd_ex hm
                    refine lv_iinc (v := x35) (lv' := [(4, .int x35), (2, .int x34), (0, .ref aS), (1, .int x5), (3, .int x7)]) hx hb dX4_makeSpread_118 hl (k := 4) rfl (by rw [ex35]; exact congrArg _ (by decide)) (by decide) rfl (fun ls hl => ?_)
                    refine lv_goto (tgt := 80) hx hb dX4_makeSpread_121 (by decide) ?_
                    exact ih80 x35 x34 u33 hg19 _ _ _ _ _ _ _ hm hc1 hc2 hP hD hS (lv_sub hl [2, 3, 1, 4, 0] rfl)
            exact LP80 FU (0 : Int32) x8 u9 hg6 _ _ _ _ _ _ _ hm hc1 hc2 hP hD hS (lv_sub hl [1, 2, 3, 4, 0] rfl)
      exact LP71 FU (0 : Int32) (0 : Int32) u3 hg2 _ _ _ _ _ _ _ hm hc1 hc2 hP hD hS (lv_sub hl [3, 2, 1, 0] rfl)
    refine lv_icmp_ge (tgt := 50) hx hb dX4_makeSpread_17 (by decide) (fun c36 => ?_) (fun c36 => ?_)
    · have hm := ite_t c36 hm
      exact J50_4 uS jS _ _ _ _ _ _ _ hm hc1 hc2 hP hD hS (lv_sub hl [0] rfl)
    · have hm := ite_f c36 hm
      refine lv_aload_n hx hb dX4_makeSpread_20 rfl (lv_at hl 0 rfl) ?_
      refine lv_aload_n hx hb dX4_makeSpread_21 rfl (lv_at hl 0 rfl) ?_
      refine va_get (D := (dC, dI)) (ci := 5) (v := .int (uS.1 1)) (C := RX4) (T := TX4) (N := 11) hx hb ht inX4 hown hK hP 0 rfl rfl 1 (by decide) (ht _ kw_197) (fun _ h9 => h9) rfl dX4_makeSpread_22 ?_
      obtain ⟨g45, hm⟩ := gdn_of hm
      obtain ⟨kcq45, ksq45, hm, hkcq45, hksq45⟩ := addc_of hm
      refine va_newa (atype := .int) (a0 := (((uS.1 1)).toNatClampNeg, .inl (fun _ => 0))) hx hb (ht _ kw_253) rfl hK hP hD hS hA (vpc_i ((uS.1 1)).toNatClampNeg) g45.1 rfl g45.2 (cle hc1 hkcq45) (cle hc2 hksq45) dX4_makeSpread_25 (fun qg45 cA H hKn hP hD hS => ?_)
      have hc1 := cadd hc1 hkcq45
      have hc2 := cadd hc2 hksq45
      obtain rfl := cA_eq hK hKn
      refine va_put (D := (dC, dI)) (ci := 5) (v := .ref qg45) (ty := .array .int) (C := RX4) (T := TX4) (N := 11) hx hb ht inX4 tyX4 tyX4_ok nmX4 hown hK hP hD hS 0 rfl rfl 8 (by decide) (ht _ kw_245) (fun _ h9 => h9) rfl (by decide +kernel) rfl rfl (Nat.le_of_ble_eq_true rfl) dX4_makeSpread_27 (fun H locs hP hD hS => ?_)
      obtain ⟨u37, eu37, hm⟩ := bnd_ex hm
      obtain ⟨h38, eh38⟩ := ex_eq (va_up jS 8 qg45)
      have hP : va_P (dC, dI) vwCl ([wS cI cJ aS h38 u37] : List va_W).flatten H := by rw [eu37, eh38]; exact hP.sub [0, 1, 2, 3, 4, 8, 6, 7] rfl
      have hD : va_D A ([wS cI cJ aS h38 u37] : List va_W).flatten := by rw [eu37, eh38]; exact hD.sub [0, 1, 2, 3, 4, 8, 6, 7] (by decide) rfl
      refine lv_aload_n hx hb dX4_makeSpread_30 rfl (lv_at hl 0 rfl) ?_
      refine lv_aload_n hx hb dX4_makeSpread_31 rfl (lv_at hl 0 rfl) ?_
      refine va_get (D := (dC, dI)) (ci := 5) (v := .int (u37.1 1)) (C := RX4) (T := TX4) (N := 11) hx hb ht inX4 hown hK hP 0 rfl rfl 1 (by decide) (ht _ kw_197) (fun _ h9 => h9) rfl dX4_makeSpread_32 ?_
      obtain ⟨g44, hm⟩ := gdn_of hm
      obtain ⟨kcq44, ksq44, hm, hkcq44, hksq44⟩ := addc_of hm
      refine va_newa (atype := .int) (a0 := (((u37.1 1)).toNatClampNeg, .inl (fun _ => 0))) hx hb (ht _ kw_253) rfl hK hP hD hS hA (vpc_i ((u37.1 1)).toNatClampNeg) g44.1 rfl g44.2 (cle hc1 hkcq44) (cle hc2 hksq44) dX4_makeSpread_35 (fun qg44 cA H hKn hP hD hS => ?_)
      have hc1 := cadd hc1 hkcq44
      have hc2 := cadd hc2 hksq44
      obtain rfl := cA_eq hK hKn
      refine va_put (D := (dC, dI)) (ci := 5) (v := .ref qg44) (ty := .array .int) (C := RX4) (T := TX4) (N := 11) hx hb ht inX4 tyX4 tyX4_ok nmX4 hown hK hP hD hS 0 rfl rfl 9 (by decide) (ht _ kw_246) (fun _ h9 => h9) rfl (by decide +kernel) rfl rfl (Nat.le_of_ble_eq_true rfl) dX4_makeSpread_37 (fun H locs hP hD hS => ?_)
      obtain ⟨u39, eu39, hm⟩ := bnd_ex hm
      obtain ⟨h40, eh40⟩ := ex_eq (va_up h38 9 qg44)
      have hP : va_P (dC, dI) vwCl ([wS cI cJ aS h40 u39] : List va_W).flatten H := by rw [eu39, eh40]; exact hP.sub [0, 1, 2, 3, 4, 5, 8, 7] rfl
      have hD : va_D A ([wS cI cJ aS h40 u39] : List va_W).flatten := by rw [eu39, eh40]; exact hD.sub [0, 1, 2, 3, 4, 5, 8, 7] (by decide) rfl
      refine lv_aload_n hx hb dX4_makeSpread_40 rfl (lv_at hl 0 rfl) ?_
      refine lv_aload_n hx hb dX4_makeSpread_41 rfl (lv_at hl 0 rfl) ?_
      refine va_get (D := (dC, dI)) (ci := 5) (v := .int (u39.1 1)) (C := RX4) (T := TX4) (N := 11) hx hb ht inX4 hown hK hP 0 rfl rfl 1 (by decide) (ht _ kw_197) (fun _ h9 => h9) rfl dX4_makeSpread_42 ?_
      obtain ⟨g43, hm⟩ := gdn_of hm
      obtain ⟨kcq43, ksq43, hm, hkcq43, hksq43⟩ := addc_of hm
      refine va_newa (atype := .int) (a0 := (((u39.1 1)).toNatClampNeg, .inl (fun _ => 0))) hx hb (ht _ kw_253) rfl hK hP hD hS hA (vpc_i ((u39.1 1)).toNatClampNeg) g43.1 rfl g43.2 (cle hc1 hkcq43) (cle hc2 hksq43) dX4_makeSpread_45 (fun qg43 cA H hKn hP hD hS => ?_)
      have hc1 := cadd hc1 hkcq43
      have hc2 := cadd hc2 hksq43
      obtain rfl := cA_eq hK hKn
      refine va_put (D := (dC, dI)) (ci := 5) (v := .ref qg43) (ty := .array .int) (C := RX4) (T := TX4) (N := 11) hx hb ht inX4 tyX4 tyX4_ok nmX4 hown hK hP hD hS 0 rfl rfl 10 (by decide) (ht _ kw_247) (fun _ h9 => h9) rfl (by decide +kernel) rfl rfl (Nat.le_of_ble_eq_true rfl) dX4_makeSpread_47 (fun H locs hP hD hS => ?_)
      obtain ⟨u41, eu41, hm⟩ := bnd_ex hm
      obtain ⟨h42, eh42⟩ := ex_eq (va_up h40 10 qg43)
      have hP : va_P (dC, dI) vwCl ([wS cI cJ aS h42 u41] : List va_W).flatten H := by rw [eu41, eh42]; exact hP.sub [0, 1, 2, 3, 4, 5, 6, 8] rfl
      have hD : va_D A ([wS cI cJ aS h42 u41] : List va_W).flatten := by rw [eu41, eh42]; exact hD.sub [0, 1, 2, 3, 4, 5, 6, 8] (by decide) rfl
      exact J50_4 u41 h42 _ _ _ _ _ _ _ hm hc1 hc2 hP hD hS (lv_sub hl [0] rfl)
  · have hm := ite_f c1 hm
    obtain ⟨hmz, hz1, hz2⟩ := ret0 hm
    subst hz1
    subst hz2
    refine W.cs (cells' := mc) (slots' := ms) hc1 hc2 ?_
    rw [← hQ]
    exact W.vret hx hb hr (fun t ht1 hW => ⟨⟨uS, rfl, hmz, jS, by rw [ht1]; exact hP, hD⟩, hS.F ht1⟩) hS.2.2 dX4_makeSpread_7

def f_X3_restOf (uR : OS) (uZ : OS) (p1 : Int32) : Option (Int32) :=
  gdi p1 4 <|
  some ((((uR.2.2.1 1 (p1).toNatClampNeg)).toInt32 &&& ((uZ.1 1) - (1 : Int32))))

set_option maxHeartbeats 4000000 in
set_option maxRecDepth 100000 in
theorem c_X3_restOf (l : Launch) (dC : Nat → ClassId) (dI : Nat → Nat → Nat) (cI cJ : ClassId) (aR : Nat) (jR : Nat → Nat) (aZ : Nat) (jZ : Nat → Nat) (sz : Nat) (uR : OS) (uZ : OS) (p1 : Int32) (o : Int32) (hm : f_X3_restOf uR uZ p1 = some o) : Met l yX3_restOf (wq yX3_restOf cX3_restOf 2 (some .int)) ({ frames := 0, cells := 0, slots := 0, locals := 0 } : Room) (va_Pc [.ref aR, .int p1] (pcW dC dI cI cJ sz ([wR cI cJ aR jR aZ uR, wS cI cJ aZ jZ uZ] : List va_W).flatten)) (va_Qi (S := Unit) (fun r u => some r = some o) (fun (u : Unit) t => va_P (dC, dI) vwCl ([wR cI cJ aR jR aZ uR, wS cI cJ aZ jZ uZ] : List va_W).flatten t.heap ∧ va_D (va_A ([wR cI cJ aR jR aZ uR, wS cI cJ aZ jZ uZ] : List va_W).flatten sz) ([wR cI cJ aR jR aZ uR, wS cI cJ aZ jZ uZ] : List va_W).flatten) (va_A ([wR cI cJ aR jR aZ uR, wS cI cJ aZ jZ uZ] : List va_W).flatten sz)) 0 0 (va_A ([wR cI cJ aR jR aZ uR, wS cI cJ aZ jZ uZ] : List va_W).flatten sz) := by
  refine Met.ofW (cc := cX3_restOf) (maxL := 2) (ret := (some .int)) (by decide) rfl ?_
  intro p e s m args below meth c s₁ B hml hv
  obtain ⟨rfl, hsz, hP, hK, hD0, hN⟩ := hv
  have hx := B.exec
  have hb := B.bytes
  have hr := B.returns
  have ht : ∀ w ∈ lw_good, w.before _ s = true := fun w h => atoms_spec (ws := wq yX3_restOf cX3_restOf 2 (some .int)) B.pre w (wq_mem h)
  have hown : s.vm.findClass RX3 = some m.cls := findClass_of_methodNamed B.named
  have hlocks := B.notSynchronized
  subst hsz
  have hD := hD0.self (sz := s.heap.size)
  generalize hAe : va_A ([wR cI cJ aR jR aZ uR, wS cI cJ aZ jZ uZ] : List va_W).flatten s.heap.size = A at hD ⊢
  have hA : ∀ q : Nat, s.heap.size ≤ q → A q := fun q h => by rw [← hAe]; exact Or.inr h
  have hS : va_S A s.heap s.heap [] := va_S.rf
  have hl := lv_entry ([.ref aR, .int p1]) (n := 2) (Nat.le_of_ble_eq_true rfl)
  rw [lg_entry_eq]
  generalize (lg_sl ([.ref aR, .int p1]) ++ List.replicate (2 - (lg_sl ([.ref aR, .int p1])).length) Slot.unset).toArray = ls at hl ⊢
  have hl : lv_has ls 2 [(0, .ref aR), (1, .int p1)] := hl
  generalize hQ : MQ below _ _ s _ _ _ = Q
  generalize hH : s.heap = H at hP ⊢
  have hS : va_S A s.heap H [] := by rw [← hH]; exact va_S.rf
  show W p l e ({ frames := 0, cells := 0, slots := 0, locals := 0 } : Room) s m ([.ref aR, .int p1] : List Value).toArray below meth c H [] 0 0 Q (F0 m 0 ls [])
  unfold f_X3_restOf at hm
  refine lv_aload_n hx hb dX3_restOf_0 rfl (lv_at hl 0 rfl) ?_
  refine va_get (D := (dC, dI)) (ci := 4) (v := .ref (jR 1)) (C := RX3) (T := TX3) (N := 12) hx hb ht inX3 hown hK hP 0 rfl rfl 1 (by decide) (ht _ kw_238) (fun _ h9 => h9) rfl dX3_restOf_1 ?_
  refine lv_iload_n hx hb dX3_restOf_4 rfl (lv_at hl 1 rfl) ?_
  obtain ⟨g1, hm⟩ := gdi_of hm
  refine va_lald hx hb hK hP 1 1 rfl rfl g1 dX3_restOf_5 ?_
  refine lv_l2i hx hb dX3_restOf_6 rfl ?_
  refine lv_aload_n hx hb dX3_restOf_7 rfl (lv_at hl 0 rfl) ?_
  refine va_get (D := (dC, dI)) (ci := 4) (v := .ref aZ) (C := RX3) (T := TX3) (N := 12) hx hb ht inX3 hown hK hP 0 rfl rfl 0 (by decide) (ht _ kw_188) (fun _ h9 => h9) rfl dX3_restOf_8 ?_
  refine va_getN (D := (dC, dI)) (ci := 5) (v := .int (uZ.1 1)) (C := RX4) (T := TX4) (N := 11) hx hb ht inX4 hown hK hP 3 rfl rfl 1 (by decide) (va_Nw.use rfl (hN _ kn_5)) (fun _ h9 => h9) rfl dX3_restOf_11 ?_
  refine lv_iconst (v := (1 : Int32)) hx hb dX3_restOf_14 (by decide) ?_
  refine lv_isub hx hb dX3_restOf_15 ?_
  refine lv_iand hx hb dX3_restOf_16 ?_
  rw [← hQ]
  exact W.iret (v := (((uR.2.2.1 1 (p1).toNatClampNeg)).toInt32 &&& ((uZ.1 1) - (1 : Int32)))) hx hb hr (fun t ht1 hW => ⟨⟨_, (), rfl, hm, by rw [ht1]; exact hP, hD⟩, hS.F ht1⟩) hS.2.2 dX3_restOf_17

def f_X4_signOver_L5 (uS : OS) (p1 : Int32) : Nat → (Int32 → Int32 → Option (Int32)) → Int32 → Int32 → Option (Int32)
  | 0, _, _, _ => none
  | n5 + 1, K32_5, x1, x2 =>
    if x1 ≤ (0 : Int32) then (
    K32_5 x2 x1) else (
    gdi (x2 + x1) 33 <|
    if p1 < (uS.2.1 4 ((x2 + x1)).toNatClampNeg) then (
    bnd (x1 / (2 : Int32)) fun x9 =>
    f_X4_signOver_L5 uS p1 n5 K32_5 x9 x2) else (
    bnd (x2 + x1) fun x10 =>
    bnd (x1 / (2 : Int32)) fun x11 =>
    f_X4_signOver_L5 uS p1 n5 K32_5 x11 x10))

def f_X4_signOver (uS : OS) (p1 : Int32) : Option (Int32) :=
  bnd (fun (x3 : Int32) (x4 : Int32) =>
  some x3) fun K32_5 =>
  f_X4_signOver_L5 uS p1 FU K32_5 (16 : Int32) (0 : Int32)

set_option maxHeartbeats 4000000 in
set_option maxRecDepth 100000 in
theorem c_X4_signOver (l : Launch) (dC : Nat → ClassId) (dI : Nat → Nat → Nat) (cI cJ : ClassId) (aS : Nat) (jS : Nat → Nat) (sz : Nat) (uS : OS) (p1 : Int32) (o : Int32) (hm : f_X4_signOver uS p1 = some o) : Met l yX4_signOver (wq yX4_signOver cX4_signOver 4 (some .int)) ({ frames := 0, cells := 0, slots := 0, locals := 0 } : Room) (va_Pc [.ref aS, .int p1] (pcW dC dI cI cJ sz ([wS cI cJ aS jS uS] : List va_W).flatten)) (va_Qi (S := Unit) (fun r u => some r = some o) (fun (u : Unit) t => va_P (dC, dI) vwCl ([wS cI cJ aS jS uS] : List va_W).flatten t.heap ∧ va_D (va_A ([wS cI cJ aS jS uS] : List va_W).flatten sz) ([wS cI cJ aS jS uS] : List va_W).flatten) (va_A ([wS cI cJ aS jS uS] : List va_W).flatten sz)) 0 0 (va_A ([wS cI cJ aS jS uS] : List va_W).flatten sz) := by
  refine Met.ofW (cc := cX4_signOver) (maxL := 4) (ret := (some .int)) (by decide) rfl ?_
  intro p e s m args below meth c s₁ B hml hv
  obtain ⟨rfl, hsz, hP, hK, hD0, hN⟩ := hv
  have hx := B.exec
  have hb := B.bytes
  have hr := B.returns
  have ht : ∀ w ∈ lw_good, w.before _ s = true := fun w h => atoms_spec (ws := wq yX4_signOver cX4_signOver 4 (some .int)) B.pre w (wq_mem h)
  have hown : s.vm.findClass RX4 = some m.cls := findClass_of_methodNamed B.named
  have hlocks := B.notSynchronized
  subst hsz
  have hD := hD0.self (sz := s.heap.size)
  generalize hAe : va_A ([wS cI cJ aS jS uS] : List va_W).flatten s.heap.size = A at hD ⊢
  have hA : ∀ q : Nat, s.heap.size ≤ q → A q := fun q h => by rw [← hAe]; exact Or.inr h
  have hS : va_S A s.heap s.heap [] := va_S.rf
  have hl := lv_entry ([.ref aS, .int p1]) (n := 4) (Nat.le_of_ble_eq_true rfl)
  rw [lg_entry_eq]
  generalize (lg_sl ([.ref aS, .int p1]) ++ List.replicate (4 - (lg_sl ([.ref aS, .int p1])).length) Slot.unset).toArray = ls at hl ⊢
  have hl : lv_has ls 4 [(0, .ref aS), (1, .int p1)] := hl
  generalize hQ : MQ below _ _ s _ _ _ = Q
  generalize hH : s.heap = H at hP ⊢
  have hS : va_S A s.heap H [] := by rw [← hH]; exact va_S.rf
  show W p l e ({ frames := 0, cells := 0, slots := 0, locals := 0 } : Room) s m ([.ref aS, .int p1] : List Value).toArray below meth c H [] 0 0 Q (F0 m 0 ls [])
  unfold f_X4_signOver at hm
  refine lv_iconst (v := (0 : Int32)) hx hb dX4_signOver_0 (by decide) ?_
  refine lv_istore_n (lv' := [(2, .int (0 : Int32)), (0, .ref aS), (1, .int p1)]) hx hb dX4_signOver_1 rfl hl (by decide) rfl (fun ls hl => ?_)
  refine lv_bipush (v := (16 : Int32)) hx hb dX4_signOver_2 (by decide) ?_
  refine lv_istore_n (lv' := [(3, .int (16 : Int32)), (2, .int (0 : Int32)), (0, .ref aS), (1, .int p1)]) hx hb dX4_signOver_4 rfl hl (by decide) rfl (fun ls hl => ?_)
  obtain ⟨K32_5, eK32_5, hm⟩ := bnd_ex hm
  have X32_5 : ∀ (x3 : Int32) (x4 : Int32) (H : Heap) (locs : List Loc) (ls : Array Slot), K32_5 x3 x4 = some o → va_P (dC, dI) vwCl ([wS cI cJ aS jS uS] : List va_W).flatten H → va_D A ([wS cI cJ aS jS uS] : List va_W).flatten → va_S A s.heap H locs → lv_has ls 4 [(0, .ref aS), (1, .int p1), (2, .int x3), (3, .int x4)] → W p l e ({ frames := 0, cells := 0, slots := 0, locals := 0 } : Room) s m ([.ref aS, .int p1] : List Value).toArray below meth c H locs 0 0 Q (F0 m 32 ls []) := by
    intro x3 x4 H locs ls hm hP hD hS hl
    have hm := ap2 eK32_5 hm
    refine lv_iload_n hx hb dX4_signOver_32 rfl (lv_at hl 2 rfl) ?_
    rw [← hQ]
    exact W.iret (v := x3) hx hb hr (fun t ht1 hW => ⟨⟨_, (), rfl, hm, by rw [ht1]; exact hP, hD⟩, hS.F ht1⟩) hS.2.2 dX4_signOver_33
  have LP5 : ∀ (n5 : Nat) (x1 : Int32) (x2 : Int32) (H : Heap) (locs : List Loc) (ls : Array Slot), f_X4_signOver_L5 uS p1 n5 K32_5 x1 x2 = some o → va_P (dC, dI) vwCl ([wS cI cJ aS jS uS] : List va_W).flatten H → va_D A ([wS cI cJ aS jS uS] : List va_W).flatten → va_S A s.heap H locs → lv_has ls 4 [(0, .ref aS), (1, .int p1), (2, .int x2), (3, .int x1)] → W p l e ({ frames := 0, cells := 0, slots := 0, locals := 0 } : Room) s m ([.ref aS, .int p1] : List Value).toArray below meth c H locs 0 0 Q (F0 m 5 ls []) := by
    intro n5
    induction n5 with
    | zero => intro x1 x2 H locs ls hm; exact nomatch (show (none : Option _) = some _ from hm)
    | succ n5 ih5 =>
      intro x1 x2 H locs ls hm hP hD hS hl
      unfold f_X4_signOver_L5 at hm
      refine lv_iload_n hx hb dX4_signOver_5 rfl (lv_at hl 3 rfl) ?_
      refine lv_if_le (tgt := 32) hx hb dX4_signOver_6 (by decide) (fun c6 => ?_) (fun c6 => ?_)
      · have hm := ite_t c6 hm
        exact X32_5 x2 x1 _ _ _ hm hP hD hS (lv_sub hl [0, 1, 2, 3] rfl)
      · have hm := ite_f c6 hm
        refine lv_aload_n hx hb dX4_signOver_9 rfl (lv_at hl 0 rfl) ?_
        refine va_get (D := (dC, dI)) (ci := 5) (v := .ref (jS 4)) (C := RX4) (T := TX4) (N := 11) hx hb ht inX4 hown hK hP 0 rfl rfl 4 (by decide) (ht _ kw_216) (fun _ h9 => h9) rfl dX4_signOver_10 ?_
        refine lv_iload_n hx hb dX4_signOver_13 rfl (lv_at hl 2 rfl) ?_
        refine lv_iload_n hx hb dX4_signOver_14 rfl (lv_at hl 3 rfl) ?_
        refine lv_iadd hx hb dX4_signOver_15 ?_
        obtain ⟨g7, hm⟩ := gdi_of hm
        refine va_iald hx hb hK hP 2 0 rfl rfl g7 dX4_signOver_16 ?_
        refine lv_iload_n hx hb dX4_signOver_17 rfl (lv_at hl 1 rfl) ?_
        refine lv_icmp_gt (tgt := 25) hx hb dX4_signOver_18 (by decide) (fun c8 => ?_) (fun c8 => ?_)
        · have hm := ite_t c8 hm
          refine lv_iload_n hx hb dX4_signOver_25 rfl (lv_at hl 3 rfl) ?_
          refine lv_iconst (v := (2 : Int32)) hx hb dX4_signOver_26 (by decide) ?_
          refine lv_idiv hx hb dX4_signOver_27 (by decide) ?_
          refine lv_topi (fun x9 ex9 => ?_)
          have hm := bnd_nm ex9 hm
          refine lv_istore_n (lv' := [(3, .int x9), (0, .ref aS), (1, .int p1), (2, .int x2)]) hx hb dX4_signOver_28 rfl hl (by decide) rfl (fun ls hl => ?_)
          refine lv_goto (tgt := 5) hx hb dX4_signOver_29 (by decide) ?_
          exact ih5 x9 x2 _ _ _ hm hP hD hS (lv_sub hl [1, 2, 3, 0] rfl)
        · have hm := ite_f c8 hm
          refine lv_iload_n hx hb dX4_signOver_21 rfl (lv_at hl 2 rfl) ?_
          refine lv_iload_n hx hb dX4_signOver_22 rfl (lv_at hl 3 rfl) ?_
          refine lv_iadd hx hb dX4_signOver_23 ?_
          refine lv_topi (fun x10 ex10 => ?_)
          have hm := bnd_nm ex10 hm
          refine lv_istore_n (lv' := [(2, .int x10), (0, .ref aS), (1, .int p1), (3, .int x1)]) hx hb dX4_signOver_24 rfl hl (by decide) rfl (fun ls hl => ?_)
          refine lv_iload_n hx hb dX4_signOver_25 rfl (lv_at hl 3 rfl) ?_
          refine lv_iconst (v := (2 : Int32)) hx hb dX4_signOver_26 (by decide) ?_
          refine lv_idiv hx hb dX4_signOver_27 (by decide) ?_
          refine lv_topi (fun x11 ex11 => ?_)
          have hm := bnd_nm ex11 hm
          refine lv_istore_n (lv' := [(3, .int x11), (2, .int x10), (0, .ref aS), (1, .int p1)]) hx hb dX4_signOver_28 rfl hl (by decide) rfl (fun ls hl => ?_)
          refine lv_goto (tgt := 5) hx hb dX4_signOver_29 (by decide) ?_
          exact ih5 x11 x10 _ _ _ hm hP hD hS (lv_sub hl [2, 3, 1, 0] rfl)
  exact LP5 FU (16 : Int32) (0 : Int32) _ _ _ hm hP hD hS (lv_sub hl [2, 3, 1, 0] rfl)

def f_X4_shareOf (uS : OS) (p1 : Int32) : Option (Int32) :=
  oC1 (f_X6_isSign p1) fun r1 =>
  if r1 = (0 : Int32) then (
  some (0 : Int32)) else (
  gdi p1 32 <|
  some ((uS.2.1 3 (p1).toNatClampNeg)))

set_option maxHeartbeats 4000000 in
set_option maxRecDepth 100000 in
theorem c_X4_shareOf (l : Launch) (dC : Nat → ClassId) (dI : Nat → Nat → Nat) (cI cJ : ClassId) (aS : Nat) (jS : Nat → Nat) (sz : Nat) (uS : OS) (p1 : Int32) (o : Int32) (hm : f_X4_shareOf uS p1 = some o) : Met l yX4_shareOf (wq yX4_shareOf cX4_shareOf 2 (some .int)) ({ frames := 1, cells := 0, slots := 0, locals := 20 } : Room) (va_Pc [.ref aS, .int p1] (pcW dC dI cI cJ sz ([wS cI cJ aS jS uS] : List va_W).flatten)) (va_Qi (S := Unit) (fun r u => some r = some o) (fun (u : Unit) t => va_P (dC, dI) vwCl ([wS cI cJ aS jS uS] : List va_W).flatten t.heap ∧ va_D (va_A ([wS cI cJ aS jS uS] : List va_W).flatten sz) ([wS cI cJ aS jS uS] : List va_W).flatten) (va_A ([wS cI cJ aS jS uS] : List va_W).flatten sz)) 0 0 (va_A ([wS cI cJ aS jS uS] : List va_W).flatten sz) := by
  refine Met.ofW (cc := cX4_shareOf) (maxL := 2) (ret := (some .int)) (by decide) rfl ?_
  intro p e s m args below meth c s₁ B hml hv
  obtain ⟨rfl, hsz, hP, hK, hD0, hN⟩ := hv
  have hx := B.exec
  have hb := B.bytes
  have hr := B.returns
  have ht : ∀ w ∈ lw_good, w.before _ s = true := fun w h => atoms_spec (ws := wq yX4_shareOf cX4_shareOf 2 (some .int)) B.pre w (wq_mem h)
  have hown : s.vm.findClass RX4 = some m.cls := findClass_of_methodNamed B.named
  have hlocks := B.notSynchronized
  subst hsz
  have hD := hD0.self (sz := s.heap.size)
  generalize hAe : va_A ([wS cI cJ aS jS uS] : List va_W).flatten s.heap.size = A at hD ⊢
  have hA : ∀ q : Nat, s.heap.size ≤ q → A q := fun q h => by rw [← hAe]; exact Or.inr h
  have hS : va_S A s.heap s.heap [] := va_S.rf
  have hl := lv_entry ([.ref aS, .int p1]) (n := 2) (Nat.le_of_ble_eq_true rfl)
  rw [lg_entry_eq]
  generalize (lg_sl ([.ref aS, .int p1]) ++ List.replicate (2 - (lg_sl ([.ref aS, .int p1])).length) Slot.unset).toArray = ls at hl ⊢
  have hl : lv_has ls 2 [(0, .ref aS), (1, .int p1)] := hl
  generalize hQ : MQ below _ _ s _ _ _ = Q
  generalize hH : s.heap = H at hP ⊢
  have hS : va_S A s.heap H [] := by rw [← hH]; exact va_S.rf
  show W p l e ({ frames := 1, cells := 0, slots := 0, locals := 20 } : Room) s m ([.ref aS, .int p1] : List Value).toArray below meth c H [] 0 0 Q (F0 m 0 ls [])
  unfold f_X4_shareOf at hm
  refine lv_iload_n hx hb dX4_shareOf_0 rfl (lv_at hl 1 rfl) ?_
  have hPc : va_P (dC, dI) vwCl ([] : List va_W).flatten _ := hP.subF [] rfl
  have hDc : va_D A ([] : List va_W).flatten := hD.subF [] (by decide) rfl
  have hFc := va_freeF (fc := ([] : List va_W)) hD hS hA [] rfl
  obtain ⟨r1o, e2, hm⟩ := oC1_of hm
  refine va_calli (va_runSN (As := [.int p1]) (rest := []) ⟨hx, hb, hml, hown, ht⟩ (c_X6_isSign l dC dI cI cJ H.size p1 r1o e2) ⟨va_cnB 1 ht (gdC kw_214) rfl rfl rfl (hN _ kn_6) (ht _ kw_161) nd_X6_isSign ⟨Nat.le_of_ble_eq_true rfl, Nat.le_of_ble_eq_true rfl⟩, ht _ kw_215, trivial⟩ ⟨pcW_blind, pcW_pre hPc hK hDc hN⟩ rfl rfl hl.1 rfl (lv_room (Nat.le_of_ble_eq_true rfl)) dX4_shareOf_1 ⟨Nat.zero_le _, Nat.zero_le _⟩) hS (fun q _ z => hFc q z) hFc (fun r1 uu t H1 locs ht1 hvm hw hB hz1 hk1 hS => ?_)
  obtain ⟨⟩ := uu
  obtain ⟨hP1, hD1⟩ := hB
  rw [ht1] at hP1
  obtain rfl : r1 = r1o := Option.some.inj hw
  obtain ⟨hP, hD⟩ := va_joinF (fr := ([wS cI cJ aS jS uS] : List va_W)) (f1 := ([] : List va_W)) hP hD [] [0] rfl rfl (by decide) (by decide) hk1 hFc hP1 hD1
  have hP : va_P (dC, dI) vwCl ([wS cI cJ aS jS uS] : List va_W).flatten H1 := hP
  have hD : va_D A ([wS cI cJ aS jS uS] : List va_W).flatten := hD
  generalize H1 = H at hP hS ⊢
  refine lv_if_eq (tgt := 16) hx hb dX4_shareOf_4 (by decide) (fun c3 => ?_) (fun c3 => ?_)
  · have hm := ite_t c3 hm
    refine lv_iconst (v := (0 : Int32)) hx hb dX4_shareOf_16 (by decide) ?_
    rw [← hQ]
    exact W.iret (v := (0 : Int32)) hx hb hr (fun t ht1 hW => ⟨⟨_, (), rfl, hm, by rw [ht1]; exact hP, hD⟩, hS.F ht1⟩) hS.2.2 dX4_shareOf_17
  · have hm := ite_f c3 hm
    refine lv_aload_n hx hb dX4_shareOf_7 rfl (lv_at hl 0 rfl) ?_
    refine va_get (D := (dC, dI)) (ci := 5) (v := .ref (jS 3)) (C := RX4) (T := TX4) (N := 11) hx hb ht inX4 hown hK hP 0 rfl rfl 3 (by decide) (ht _ kw_189) (fun _ h9 => h9) rfl dX4_shareOf_8 ?_
    refine lv_iload_n hx hb dX4_shareOf_11 rfl (lv_at hl 1 rfl) ?_
    obtain ⟨g4, hm⟩ := gdi_of hm
    refine va_iald hx hb hK hP 1 0 rfl rfl g4 dX4_shareOf_12 ?_
    refine lv_goto (tgt := 17) hx hb dX4_shareOf_13 (by decide) ?_
    rw [← hQ]
    exact W.iret (v := (uS.2.1 3 (p1).toNatClampNeg)) hx hb hr (fun t ht1 hW => ⟨⟨_, (), rfl, hm, by rw [ht1]; exact hP, hD⟩, hS.F ht1⟩) hS.2.2 dX4_shareOf_17

def f_X4_fromOf (uS : OS) (p1 : Int32) : Option (Int32) :=
  oC1 (f_X6_isSign p1) fun r1 =>
  if r1 = (0 : Int32) then (
  some (0 : Int32)) else (
  gdi p1 33 <|
  some ((uS.2.1 4 (p1).toNatClampNeg)))

set_option maxHeartbeats 4000000 in
set_option maxRecDepth 100000 in
theorem c_X4_fromOf (l : Launch) (dC : Nat → ClassId) (dI : Nat → Nat → Nat) (cI cJ : ClassId) (aS : Nat) (jS : Nat → Nat) (sz : Nat) (uS : OS) (p1 : Int32) (o : Int32) (hm : f_X4_fromOf uS p1 = some o) : Met l yX4_fromOf (wq yX4_fromOf cX4_fromOf 2 (some .int)) ({ frames := 1, cells := 0, slots := 0, locals := 20 } : Room) (va_Pc [.ref aS, .int p1] (pcW dC dI cI cJ sz ([wS cI cJ aS jS uS] : List va_W).flatten)) (va_Qi (S := Unit) (fun r u => some r = some o) (fun (u : Unit) t => va_P (dC, dI) vwCl ([wS cI cJ aS jS uS] : List va_W).flatten t.heap ∧ va_D (va_A ([wS cI cJ aS jS uS] : List va_W).flatten sz) ([wS cI cJ aS jS uS] : List va_W).flatten) (va_A ([wS cI cJ aS jS uS] : List va_W).flatten sz)) 0 0 (va_A ([wS cI cJ aS jS uS] : List va_W).flatten sz) := by
  refine Met.ofW (cc := cX4_fromOf) (maxL := 2) (ret := (some .int)) (by decide) rfl ?_
  intro p e s m args below meth c s₁ B hml hv
  obtain ⟨rfl, hsz, hP, hK, hD0, hN⟩ := hv
  have hx := B.exec
  have hb := B.bytes
  have hr := B.returns
  have ht : ∀ w ∈ lw_good, w.before _ s = true := fun w h => atoms_spec (ws := wq yX4_fromOf cX4_fromOf 2 (some .int)) B.pre w (wq_mem h)
  have hown : s.vm.findClass RX4 = some m.cls := findClass_of_methodNamed B.named
  have hlocks := B.notSynchronized
  subst hsz
  have hD := hD0.self (sz := s.heap.size)
  generalize hAe : va_A ([wS cI cJ aS jS uS] : List va_W).flatten s.heap.size = A at hD ⊢
  have hA : ∀ q : Nat, s.heap.size ≤ q → A q := fun q h => by rw [← hAe]; exact Or.inr h
  have hS : va_S A s.heap s.heap [] := va_S.rf
  have hl := lv_entry ([.ref aS, .int p1]) (n := 2) (Nat.le_of_ble_eq_true rfl)
  rw [lg_entry_eq]
  generalize (lg_sl ([.ref aS, .int p1]) ++ List.replicate (2 - (lg_sl ([.ref aS, .int p1])).length) Slot.unset).toArray = ls at hl ⊢
  have hl : lv_has ls 2 [(0, .ref aS), (1, .int p1)] := hl
  generalize hQ : MQ below _ _ s _ _ _ = Q
  generalize hH : s.heap = H at hP ⊢
  have hS : va_S A s.heap H [] := by rw [← hH]; exact va_S.rf
  show W p l e ({ frames := 1, cells := 0, slots := 0, locals := 20 } : Room) s m ([.ref aS, .int p1] : List Value).toArray below meth c H [] 0 0 Q (F0 m 0 ls [])
  unfold f_X4_fromOf at hm
  refine lv_iload_n hx hb dX4_fromOf_0 rfl (lv_at hl 1 rfl) ?_
  have hPc : va_P (dC, dI) vwCl ([] : List va_W).flatten _ := hP.subF [] rfl
  have hDc : va_D A ([] : List va_W).flatten := hD.subF [] (by decide) rfl
  have hFc := va_freeF (fc := ([] : List va_W)) hD hS hA [] rfl
  obtain ⟨r1o, e2, hm⟩ := oC1_of hm
  refine va_calli (va_runSN (As := [.int p1]) (rest := []) ⟨hx, hb, hml, hown, ht⟩ (c_X6_isSign l dC dI cI cJ H.size p1 r1o e2) ⟨va_cnB 1 ht (gdC kw_214) rfl rfl rfl (hN _ kn_6) (ht _ kw_161) nd_X6_isSign ⟨Nat.le_of_ble_eq_true rfl, Nat.le_of_ble_eq_true rfl⟩, ht _ kw_215, trivial⟩ ⟨pcW_blind, pcW_pre hPc hK hDc hN⟩ rfl rfl hl.1 rfl (lv_room (Nat.le_of_ble_eq_true rfl)) dX4_fromOf_1 ⟨Nat.zero_le _, Nat.zero_le _⟩) hS (fun q _ z => hFc q z) hFc (fun r1 uu t H1 locs ht1 hvm hw hB hz1 hk1 hS => ?_)
  obtain ⟨⟩ := uu
  obtain ⟨hP1, hD1⟩ := hB
  rw [ht1] at hP1
  obtain rfl : r1 = r1o := Option.some.inj hw
  obtain ⟨hP, hD⟩ := va_joinF (fr := ([wS cI cJ aS jS uS] : List va_W)) (f1 := ([] : List va_W)) hP hD [] [0] rfl rfl (by decide) (by decide) hk1 hFc hP1 hD1
  have hP : va_P (dC, dI) vwCl ([wS cI cJ aS jS uS] : List va_W).flatten H1 := hP
  have hD : va_D A ([wS cI cJ aS jS uS] : List va_W).flatten := hD
  generalize H1 = H at hP hS ⊢
  refine lv_if_eq (tgt := 16) hx hb dX4_fromOf_4 (by decide) (fun c3 => ?_) (fun c3 => ?_)
  · have hm := ite_t c3 hm
    refine lv_iconst (v := (0 : Int32)) hx hb dX4_fromOf_16 (by decide) ?_
    rw [← hQ]
    exact W.iret (v := (0 : Int32)) hx hb hr (fun t ht1 hW => ⟨⟨_, (), rfl, hm, by rw [ht1]; exact hP, hD⟩, hS.F ht1⟩) hS.2.2 dX4_fromOf_17
  · have hm := ite_f c3 hm
    refine lv_aload_n hx hb dX4_fromOf_7 rfl (lv_at hl 0 rfl) ?_
    refine va_get (D := (dC, dI)) (ci := 5) (v := .ref (jS 4)) (C := RX4) (T := TX4) (N := 11) hx hb ht inX4 hown hK hP 0 rfl rfl 4 (by decide) (ht _ kw_216) (fun _ h9 => h9) rfl dX4_fromOf_8 ?_
    refine lv_iload_n hx hb dX4_fromOf_11 rfl (lv_at hl 1 rfl) ?_
    obtain ⟨g4, hm⟩ := gdi_of hm
    refine va_iald hx hb hK hP 2 0 rfl rfl g4 dX4_fromOf_12 ?_
    refine lv_goto (tgt := 17) hx hb dX4_fromOf_13 (by decide) ?_
    rw [← hQ]
    exact W.iret (v := (uS.2.1 4 (p1).toNatClampNeg)) hx hb hr (fun t ht1 hW => ⟨⟨_, (), rfl, hm, by rw [ht1]; exact hP, hD⟩, hS.F ht1⟩) hS.2.2 dX4_fromOf_17

def f_X3_narrow_L63 (uO : OS) (r1 : Int64) (x3 : Int32) : Nat → (Int64 → Int32 → OS → Option (OS)) → Int32 → Int64 → OS → Option (OS)
  | 0, _, _, _, _ => none
  | n63 + 1, K114_15, x9, y10, u11 =>
    if (2 : Int32) ≤ x9 then (
    K114_15 y10 x9 u11) else (
    if r1 ≤ y10 then (
    K114_15 y10 x9 u11) else (
    oC2 (f_X3_nextNumber u11 uO x3) fun u20 r21 =>
    if (u20.1 4) = (0 : Int32) then (
    bnd ((y10 <<< ((((8 : Int32) * x3)).toInt64 &&& (63 : Int64))) + r21) fun y24 =>
    bnd (x9 + (1 : Int32)) fun x25 =>
    f_X3_narrow_L63 uO r1 x3 n63 K114_15 x25 y24 u20) else (
    some u20)))

def f_X3_narrow (uR : OS) (uZ : OS) (uO : OS) (p1 : Int32) (p2 : Int32) (p3 : Int32) : Option (OS) :=
  oC1 (f_X6_firstState (uR.1 8) (uZ.1 1)) fun r1 =>
  bnd (fun (x3 : Int32) =>
  gdi p1 4 <|
  oC1 (f_X3_restOf uR uZ p1) fun r6 =>
  bnd ((((p2).toInt64 * ((uR.2.2.1 1 (p1).toNatClampNeg) >>> (((uZ.1 0)).toInt64 &&& (63 : Int64)))) + (r6).toInt64) - (p3).toInt64) fun y8 =>
  bnd (fun (y12 : Int64) (x13 : Int32) (u14 : OS) =>
  gdi p1 4 <|
  bnd (sL u14 1 p1 y12) fun u17 =>
  some u17) fun K114_15 =>
  f_X3_narrow_L63 uO r1 x3 FU K114_15 (0 : Int32) y8 uR) fun K29_4 =>
  if (uR.1 8) = (1 : Int32) then (
  K29_4 (4 : Int32)) else (
  K29_4 (1 : Int32))

set_option maxHeartbeats 4000000 in
set_option maxRecDepth 100000 in
theorem c_X3_narrow (l : Launch) (dC : Nat → ClassId) (dI : Nat → Nat → Nat) (cI cJ : ClassId) (aR : Nat) (jR : Nat → Nat) (aZ : Nat) (jZ : Nat → Nat) (aO : Nat) (jO : Nat → Nat) (sz : Nat) (uR : OS) (uZ : OS) (uO : OS) (p1 : Int32) (p2 : Int32) (p3 : Int32) (o : OS) (hm : f_X3_narrow uR uZ uO p1 p2 p3 = some o) : Met l yX3_narrow (wq yX3_narrow cX3_narrow 13 none) ({ frames := 1, cells := 0, slots := 0, locals := 25 } : Room) (va_Pc [.ref aR, .int p1, .int p2, .int p3, .ref aO] (pcW dC dI cI cJ sz ([wR cI cJ aR jR aZ uR, wS cI cJ aZ jZ uZ, wO cI cJ aO jO uO] : List va_W).flatten)) (va_Qv (S := OS) (fun u => some u = some o) (fun (u : OS) t => va_P (dC, dI) vwCl ([wR cI cJ aR jR aZ u, wS cI cJ aZ jZ uZ, wO cI cJ aO jO uO] : List va_W).flatten t.heap ∧ va_D (va_A ([wR cI cJ aR jR aZ uR, wS cI cJ aZ jZ uZ, wO cI cJ aO jO uO] : List va_W).flatten sz) ([wR cI cJ aR jR aZ u, wS cI cJ aZ jZ uZ, wO cI cJ aO jO uO] : List va_W).flatten) (va_A ([wR cI cJ aR jR aZ uR, wS cI cJ aZ jZ uZ, wO cI cJ aO jO uO] : List va_W).flatten sz)) 0 0 (va_A ([wR cI cJ aR jR aZ uR, wS cI cJ aZ jZ uZ, wO cI cJ aO jO uO] : List va_W).flatten sz) := by
  refine Met.ofW (cc := cX3_narrow) (maxL := 13) (ret := none) (by decide) rfl ?_
  intro p e s m args below meth c s₁ B hml hv
  obtain ⟨rfl, hsz, hP, hK, hD0, hN⟩ := hv
  have hx := B.exec
  have hb := B.bytes
  have hr := B.returns
  have ht : ∀ w ∈ lw_good, w.before _ s = true := fun w h => atoms_spec (ws := wq yX3_narrow cX3_narrow 13 none) B.pre w (wq_mem h)
  have hown : s.vm.findClass RX3 = some m.cls := findClass_of_methodNamed B.named
  have hlocks := B.notSynchronized
  subst hsz
  have hD := hD0.self (sz := s.heap.size)
  generalize hAe : va_A ([wR cI cJ aR jR aZ uR, wS cI cJ aZ jZ uZ, wO cI cJ aO jO uO] : List va_W).flatten s.heap.size = A at hD ⊢
  have hA : ∀ q : Nat, s.heap.size ≤ q → A q := fun q h => by rw [← hAe]; exact Or.inr h
  have hS : va_S A s.heap s.heap [] := va_S.rf
  have hl := lv_entry ([.ref aR, .int p1, .int p2, .int p3, .ref aO]) (n := 13) (Nat.le_of_ble_eq_true rfl)
  rw [lg_entry_eq]
  generalize (lg_sl ([.ref aR, .int p1, .int p2, .int p3, .ref aO]) ++ List.replicate (13 - (lg_sl ([.ref aR, .int p1, .int p2, .int p3, .ref aO])).length) Slot.unset).toArray = ls at hl ⊢
  have hl : lv_has ls 13 [(0, .ref aR), (1, .int p1), (2, .int p2), (3, .int p3), (4, .ref aO)] := hl
  generalize hQ : MQ below _ _ s _ _ _ = Q
  generalize hH : s.heap = H at hP ⊢
  have hS : va_S A s.heap H [] := by rw [← hH]; exact va_S.rf
  show W p l e ({ frames := 1, cells := 0, slots := 0, locals := 25 } : Room) s m ([.ref aR, .int p1, .int p2, .int p3, .ref aO] : List Value).toArray below meth c H [] 0 0 Q (F0 m 0 ls [])
  unfold f_X3_narrow at hm
  refine lv_aload_n hx hb dX3_narrow_0 rfl (lv_at hl 0 rfl) ?_
  refine va_get (D := (dC, dI)) (ci := 4) (v := .int (uR.1 8)) (C := RX3) (T := TX3) (N := 12) hx hb ht inX3 hown hK hP 0 rfl rfl 8 (by decide) (ht _ kw_186) (fun _ h9 => h9) rfl dX3_narrow_1 ?_
  refine lv_aload_n hx hb dX3_narrow_4 rfl (lv_at hl 0 rfl) ?_
  refine va_get (D := (dC, dI)) (ci := 4) (v := .ref aZ) (C := RX3) (T := TX3) (N := 12) hx hb ht inX3 hown hK hP 0 rfl rfl 0 (by decide) (ht _ kw_188) (fun _ h9 => h9) rfl dX3_narrow_5 ?_
  refine va_getN (D := (dC, dI)) (ci := 5) (v := .int (uZ.1 1)) (C := RX4) (T := TX4) (N := 11) hx hb ht inX4 hown hK hP 3 rfl rfl 1 (by decide) (va_Nw.use rfl (hN _ kn_5)) (fun _ h9 => h9) rfl dX3_narrow_8 ?_
  have hPc : va_P (dC, dI) vwCl ([] : List va_W).flatten _ := hP.subF [] rfl
  have hDc : va_D A ([] : List va_W).flatten := hD.subF [] (by decide) rfl
  have hFc := va_freeF (fc := ([] : List va_W)) hD hS hA [] rfl
  obtain ⟨r1o, e2, hm⟩ := oC1_of hm
  refine va_calll (va_runSN (As := [.int (uR.1 8), .int (uZ.1 1)]) (rest := []) ⟨hx, hb, hml, hown, ht⟩ (c_X6_firstState l dC dI cI cJ H.size (uR.1 8) (uZ.1 1) r1o e2) ⟨va_cnB 2 ht (gdC kw_239) rfl rfl rfl (hN _ kn_8) (ht _ kw_161) nd_X6_firstState ⟨Nat.le_of_ble_eq_true rfl, Nat.le_of_ble_eq_true rfl⟩, ht _ kw_240, trivial⟩ ⟨pcW_blind, pcW_pre hPc hK hDc hN⟩ rfl rfl hl.1 rfl (lv_room (Nat.le_of_ble_eq_true rfl)) dX3_narrow_11 ⟨Nat.zero_le _, Nat.zero_le _⟩) hS (fun q _ z => hFc q z) hFc (fun r1 uu t H1 locs ht1 hvm hw hB hz1 hk1 hS => ?_)
  obtain ⟨⟩ := uu
  obtain ⟨hP1, hD1⟩ := hB
  rw [ht1] at hP1
  obtain rfl : r1 = r1o := Option.some.inj hw
  obtain ⟨hP, hD⟩ := va_joinF (fr := ([wR cI cJ aR jR aZ uR, wS cI cJ aZ jZ uZ, wO cI cJ aO jO uO] : List va_W)) (f1 := ([] : List va_W)) hP hD [] [0, 1, 2] rfl rfl (by decide) (by decide) hk1 hFc hP1 hD1
  have hP : va_P (dC, dI) vwCl ([wR cI cJ aR jR aZ uR, wS cI cJ aZ jZ uZ, wO cI cJ aO jO uO] : List va_W).flatten H1 := hP
  have hD : va_D A ([wR cI cJ aR jR aZ uR, wS cI cJ aZ jZ uZ, wO cI cJ aO jO uO] : List va_W).flatten := hD
  generalize H1 = H at hP hS ⊢
  refine lv_lstore (lv' := [(5, .long r1), (0, .ref aR), (1, .int p1), (2, .int p2), (3, .int p3), (4, .ref aO)]) hx hb dX3_narrow_14 hl (by decide) rfl (fun ls hl => ?_)
  refine lv_aload_n hx hb dX3_narrow_16 rfl (lv_at hl 1 rfl) ?_
  refine va_get (D := (dC, dI)) (ci := 4) (v := .int (uR.1 8)) (C := RX3) (T := TX3) (N := 12) hx hb ht inX3 hown hK hP 0 rfl rfl 8 (by decide) (ht _ kw_186) (fun _ h9 => h9) rfl dX3_narrow_17 ?_
  refine lv_iconst (v := (1 : Int32)) hx hb dX3_narrow_20 (by decide) ?_
  obtain ⟨K29_4, eK29_4, hm⟩ := bnd_ex hm
  have J29_4 : ∀ (x3 : Int32) (H : Heap) (locs : List Loc) (ls : Array Slot), K29_4 x3 = some o → va_P (dC, dI) vwCl ([wR cI cJ aR jR aZ uR, wS cI cJ aZ jZ uZ, wO cI cJ aO jO uO] : List va_W).flatten H → va_D A ([wR cI cJ aR jR aZ uR, wS cI cJ aZ jZ uZ, wO cI cJ aO jO uO] : List va_W).flatten → va_S A s.heap H locs → lv_has ls 13 [(0, .ref aR), (1, .int p1), (2, .int p2), (3, .int p3), (4, .ref aO), (5, .long r1)] → W p l e ({ frames := 1, cells := 0, slots := 0, locals := 25 } : Room) s m ([.ref aR, .int p1, .int p2, .int p3, .ref aO] : List Value).toArray below meth c H locs 0 0 Q (F0 m 29 ls [.int x3]) := by
    intro x3 H locs ls hm hP hD hS hl
    have hm := ap1 eK29_4 hm
    refine lv_istore (lv' := [(7, .int x3), (0, .ref aR), (1, .int p1), (2, .int p2), (3, .int p3), (4, .ref aO), (5, .long r1)]) hx hb dX3_narrow_29 hl (by decide) rfl (fun ls hl => ?_)
    refine lv_iload_n hx hb dX3_narrow_31 rfl (lv_at hl 3 rfl) ?_
    refine lv_i2l hx hb dX3_narrow_32 rfl ?_
    refine lv_aload_n hx hb dX3_narrow_33 rfl (lv_at hl 1 rfl) ?_
    refine va_get (D := (dC, dI)) (ci := 4) (v := .ref (jR 1)) (C := RX3) (T := TX3) (N := 12) hx hb ht inX3 hown hK hP 0 rfl rfl 1 (by decide) (ht _ kw_238) (fun _ h9 => h9) rfl dX3_narrow_34 ?_
    refine lv_iload_n hx hb dX3_narrow_37 rfl (lv_at hl 2 rfl) ?_
    obtain ⟨g5, hm⟩ := gdi_of hm
    refine va_lald hx hb hK hP 1 1 rfl rfl g5 dX3_narrow_38 ?_
    refine lv_aload_n hx hb dX3_narrow_39 rfl (lv_at hl 1 rfl) ?_
    refine va_get (D := (dC, dI)) (ci := 4) (v := .ref aZ) (C := RX3) (T := TX3) (N := 12) hx hb ht inX3 hown hK hP 0 rfl rfl 0 (by decide) (ht _ kw_188) (fun _ h9 => h9) rfl dX3_narrow_40 ?_
    refine va_getN (D := (dC, dI)) (ci := 5) (v := .int (uZ.1 0)) (C := RX4) (T := TX4) (N := 11) hx hb ht inX4 hown hK hP 3 rfl rfl 0 (by decide) (va_Nw.use rfl (hN _ kn_11)) (fun _ h9 => h9) rfl dX3_narrow_43 ?_
    refine lv_lshr hx hb dX3_narrow_46 rfl ?_
    refine lv_lmul hx hb dX3_narrow_47 ?_
    refine lv_aload_n hx hb dX3_narrow_48 rfl (lv_at hl 1 rfl) ?_
    refine lv_iload_n hx hb dX3_narrow_49 rfl (lv_at hl 2 rfl) ?_
    have hPc : va_P (dC, dI) vwCl ([wR cI cJ aR jR aZ uR, wS cI cJ aZ jZ uZ] : List va_W).flatten _ := hP.subF [0, 1] rfl
    have hDc : va_D A ([wR cI cJ aR jR aZ uR, wS cI cJ aZ jZ uZ] : List va_W).flatten := hD.subF [0, 1] (by decide) rfl
    have hFc := va_freeF (fc := ([wR cI cJ aR jR aZ uR, wS cI cJ aZ jZ uZ] : List va_W)) hD hS hA [0, 1] rfl
    obtain ⟨r6o, e7, hm⟩ := oC1_of hm
    refine va_calli (va_runV (As := [.int p1]) (rest := [.long ((p2).toInt64 * ((uR.2.2.1 1 (p1).toNatClampNeg) >>> (((uZ.1 0)).toInt64 &&& (63 : Int64))))]) ⟨hx, hb, hml, hown, ht⟩ (c_X3_restOf l dC dI cI cJ aR jR aZ jZ H.size uR uZ p1 r6o e7) (cwV 1 ht (gdV kw_258 kw_256 kw_257 kw_205 kw_255) rfl rfl rfl ⟨rfl, nd_X3_restOf⟩ ⟨Nat.le_of_ble_eq_true rfl, Nat.le_of_ble_eq_true rfl⟩) ⟨pcW_blind, va_recv hK hPc (ci := 4) (q0 := 0) rfl rfl, pcW_pre hPc hK hDc hN⟩ rfl rfl hl.1 rfl (lv_room (Nat.le_of_ble_eq_true rfl)) dX3_narrow_50 ⟨Nat.zero_le _, Nat.zero_le _⟩) hS (fun q _ z => hFc q z) hFc (fun r6 uu t H1 locs ht1 hvm hw hB hz1 hk1 hS => ?_)
    obtain ⟨⟩ := uu
    obtain ⟨hP1, hD1⟩ := hB
    rw [ht1] at hP1
    obtain rfl : r6 = r6o := Option.some.inj hw
    obtain ⟨hP, hD⟩ := va_joinF (fr := ([wO cI cJ aO jO uO] : List va_W)) (f1 := ([wR cI cJ aR jR aZ uR, wS cI cJ aZ jZ uZ] : List va_W)) hP hD [0, 1] [2] rfl rfl (by decide) (by decide) hk1 hFc hP1 hD1
    have hP : va_P (dC, dI) vwCl ([wR cI cJ aR jR aZ uR, wS cI cJ aZ jZ uZ, wO cI cJ aO jO uO] : List va_W).flatten H1 := hP.subF [1, 2, 0] rfl
    have hD : va_D A ([wR cI cJ aR jR aZ uR, wS cI cJ aZ jZ uZ, wO cI cJ aO jO uO] : List va_W).flatten := hD.subF [1, 2, 0] (by decide) rfl
    generalize H1 = H at hP hS ⊢
    refine lv_i2l hx hb dX3_narrow_53 rfl ?_
    refine lv_ladd hx hb dX3_narrow_54 ?_
    refine lv_iload_n hx hb dX3_narrow_55 rfl (lv_at hl 4 rfl) ?_
    refine lv_i2l hx hb dX3_narrow_56 rfl ?_
    refine lv_lsub hx hb dX3_narrow_57 ?_
    refine lv_topl (fun y8 ey8 => ?_)
    have hm := bnd_nm ey8 hm
    refine lv_lstore (lv' := [(8, .long y8), (7, .int x3), (0, .ref aR), (1, .int p1), (2, .int p2), (3, .int p3), (4, .ref aO), (5, .long r1)]) hx hb dX3_narrow_58 hl (by decide) rfl (fun ls hl => ?_)
    refine lv_iconst (v := (0 : Int32)) hx hb dX3_narrow_60 (by decide) ?_
    refine lv_istore (lv' := [(10, .int (0 : Int32)), (8, .long y8), (7, .int x3), (0, .ref aR), (1, .int p1), (2, .int p2), (3, .int p3), (4, .ref aO), (5, .long r1)]) hx hb dX3_narrow_61 hl (by decide) rfl (fun ls hl => ?_)
    obtain ⟨K114_15, eK114_15, hm⟩ := bnd_ex hm
    have X114_15 : ∀ (y12 : Int64) (x13 : Int32) (u14 : OS) (H : Heap) (locs : List Loc) (ls : Array Slot), K114_15 y12 x13 u14 = some o → va_P (dC, dI) vwCl ([wR cI cJ aR jR aZ u14, wS cI cJ aZ jZ uZ, wO cI cJ aO jO uO] : List va_W).flatten H → va_D A ([wR cI cJ aR jR aZ u14, wS cI cJ aZ jZ uZ, wO cI cJ aO jO uO] : List va_W).flatten → va_S A s.heap H locs → lv_has ls 13 [(0, .ref aR), (1, .int p1), (2, .int p2), (3, .int p3), (4, .ref aO), (5, .long r1), (7, .int x3), (8, .long y12), (10, .int x13)] → W p l e ({ frames := 1, cells := 0, slots := 0, locals := 25 } : Room) s m ([.ref aR, .int p1, .int p2, .int p3, .ref aO] : List Value).toArray below meth c H locs 0 0 Q (F0 m 114 ls []) := by
      intro y12 x13 u14 H locs ls hm hP hD hS hl
      have hm := ap3 eK114_15 hm
      refine lv_aload_n hx hb dX3_narrow_114 rfl (lv_at hl 0 rfl) ?_
      refine va_get (D := (dC, dI)) (ci := 4) (v := .ref (jR 1)) (C := RX3) (T := TX3) (N := 12) hx hb ht inX3 hown hK hP 0 rfl rfl 1 (by decide) (ht _ kw_238) (fun _ h9 => h9) rfl dX3_narrow_115 ?_
      refine lv_iload_n hx hb dX3_narrow_118 rfl (lv_at hl 1 rfl) ?_
      refine lv_lload hx hb dX3_narrow_119 (lv_at hl 7 rfl) ?_
      obtain ⟨g16, hm⟩ := gdi_of hm
      refine va_last hx hb hK hP hD hS 1 1 rfl rfl g16 dX3_narrow_121 (fun H locs hP hD hS => ?_)
      obtain ⟨u17, eu17, hm⟩ := bnd_ex hm
      have hP : va_P (dC, dI) vwCl ([wR cI cJ aR jR aZ u17, wS cI cJ aZ jZ uZ, wO cI cJ aO jO uO] : List va_W).flatten H := by rw [eu17]; exact hP
      have hD : va_D A ([wR cI cJ aR jR aZ u17, wS cI cJ aZ jZ uZ, wO cI cJ aO jO uO] : List va_W).flatten := by rw [eu17]; exact hD
      rw [← hQ]
      exact W.vret hx hb hr (fun t ht1 hW => ⟨⟨u17, rfl, hm, by rw [ht1]; exact hP, hD⟩, hS.F ht1⟩) hS.2.2 dX3_narrow_122
    have LP63 : ∀ (n63 : Nat) (x9 : Int32) (y10 : Int64) (u11 : OS) (H : Heap) (locs : List Loc) (ls : Array Slot), f_X3_narrow_L63 uO r1 x3 n63 K114_15 x9 y10 u11 = some o → va_P (dC, dI) vwCl ([wR cI cJ aR jR aZ u11, wS cI cJ aZ jZ uZ, wO cI cJ aO jO uO] : List va_W).flatten H → va_D A ([wR cI cJ aR jR aZ u11, wS cI cJ aZ jZ uZ, wO cI cJ aO jO uO] : List va_W).flatten → va_S A s.heap H locs → lv_has ls 13 [(0, .ref aR), (1, .int p1), (2, .int p2), (3, .int p3), (4, .ref aO), (5, .long r1), (7, .int x3), (8, .long y10), (10, .int x9)] → W p l e ({ frames := 1, cells := 0, slots := 0, locals := 25 } : Room) s m ([.ref aR, .int p1, .int p2, .int p3, .ref aO] : List Value).toArray below meth c H locs 0 0 Q (F0 m 63 ls []) := by
      intro n63
      induction n63 with
      | zero => intro x9 y10 u11 H locs ls hm; exact nomatch (show (none : Option _) = some _ from hm)
      | succ n63 ih63 =>
        intro x9 y10 u11 H locs ls hm hP hD hS hl
        unfold f_X3_narrow_L63 at hm
        refine lv_iload hx hb dX3_narrow_63 (lv_at hl 8 rfl) ?_
        refine lv_iconst (v := (2 : Int32)) hx hb dX3_narrow_65 (by decide) ?_
        refine lv_icmp_ge (tgt := 114) hx hb dX3_narrow_66 (by decide) (fun c18 => ?_) (fun c18 => ?_)
        · have hm := ite_t c18 hm
          exact X114_15 y10 x9 u11 _ _ _ hm hP hD hS (lv_sub hl [0, 1, 2, 3, 4, 5, 6, 7, 8] rfl)
        · have hm := ite_f c18 hm
          refine lv_lload hx hb dX3_narrow_69 (lv_at hl 7 rfl) ?_
          refine lv_lload hx hb dX3_narrow_71 (lv_at hl 5 rfl) ?_
          refine W.lcmp hx hb dX3_narrow_73 ?_
          refine lv_if_ge (tgt := 114) hx hb dX3_narrow_74 (by decide) (fun c19 => ?_) (fun c19 => ?_)
          · have c19 := lgc_ge.mp c19
            have hm := ite_t c19 hm
            exact X114_15 y10 x9 u11 _ _ _ hm hP hD hS (lv_sub hl [0, 1, 2, 3, 4, 5, 6, 7, 8] rfl)
          · have c19 := mt lgc_ge.mpr c19
            have hm := ite_f c19 hm
            refine lv_aload_n hx hb dX3_narrow_77 rfl (lv_at hl 0 rfl) ?_
            refine lv_aload hx hb dX3_narrow_78 (lv_at hl 4 rfl) ?_
            refine lv_iload hx hb dX3_narrow_80 (lv_at hl 6 rfl) ?_
            have hPc : va_P (dC, dI) vwCl ([wR cI cJ aR jR aZ u11, wO cI cJ aO jO uO] : List va_W).flatten _ := hP.subF [0, 2] rfl
            have hDc : va_D A ([wR cI cJ aR jR aZ u11, wO cI cJ aO jO uO] : List va_W).flatten := hD.subF [0, 2] (by decide) rfl
            have hFc := va_freeF (fc := ([wR cI cJ aR jR aZ u11, wO cI cJ aO jO uO] : List va_W)) hD hS hA [0, 2] rfl
            obtain ⟨u20o, r21o, e22, hm⟩ := oC2_of hm
            refine va_calll (va_runV (As := [.ref aO, .int x3]) (rest := []) ⟨hx, hb, hml, hown, ht⟩ (c_X3_nextNumber l dC dI cI cJ aR jR aO jO aZ H.size u11 uO x3 (u20o, r21o) e22) (cwV 2 ht (gdV kw_208 kw_206 kw_207 kw_205 kw_204) rfl rfl rfl ⟨rfl, nd_X3_nextNumber⟩ ⟨Nat.le_of_ble_eq_true rfl, Nat.le_of_ble_eq_true rfl⟩) ⟨pcW_blind, va_recv hK hPc (ci := 4) (q0 := 0) rfl rfl, pcW_pre hPc hK hDc hN⟩ rfl rfl hl.1 rfl (lv_room (Nat.le_of_ble_eq_true rfl)) dX3_narrow_82 ⟨Nat.zero_le _, Nat.zero_le _⟩) hS (fun q _ z => hFc q z) hFc (fun r21 uu t H1 locs ht1 hvm hw hB hz1 hk1 hS => ?_)
            obtain ⟨u20, rfl⟩ : ∃ z, z = uu := ⟨_, rfl⟩
            obtain ⟨hP1, hD1⟩ := hB
            rw [ht1] at hP1
            obtain ⟨q0, q1⟩ := inj2 hw
            subst q0
            subst q1
            obtain ⟨hP, hD⟩ := va_joinF (fr := ([wS cI cJ aZ jZ uZ] : List va_W)) (f1 := ([wR cI cJ aR jR aZ u20, wO cI cJ aO jO uO] : List va_W)) hP hD [0, 2] [1] rfl rfl (by decide) (by decide) hk1 hFc hP1 hD1
            have hP : va_P (dC, dI) vwCl ([wR cI cJ aR jR aZ u20, wS cI cJ aZ jZ uZ, wO cI cJ aO jO uO] : List va_W).flatten H1 := hP.subF [1, 0, 2] rfl
            have hD : va_D A ([wR cI cJ aR jR aZ u20, wS cI cJ aZ jZ uZ, wO cI cJ aO jO uO] : List va_W).flatten := hD.subF [1, 0, 2] (by decide) rfl
            generalize H1 = H at hP hS ⊢
            refine lv_lstore (lv' := [(11, .long r21), (0, .ref aR), (1, .int p1), (2, .int p2), (3, .int p3), (4, .ref aO), (5, .long r1), (7, .int x3), (8, .long y10), (10, .int x9)]) hx hb dX3_narrow_85 hl (by decide) rfl (fun ls hl => ?_)
            refine lv_aload_n hx hb dX3_narrow_87 rfl (lv_at hl 1 rfl) ?_
            refine va_get (D := (dC, dI)) (ci := 4) (v := .int (u20.1 4)) (C := RX3) (T := TX3) (N := 12) hx hb ht inX3 hown hK hP 0 rfl rfl 4 (by decide) (ht _ kw_181) (fun _ h9 => h9) rfl dX3_narrow_88 ?_
            refine lv_if_eq (tgt := 95) hx hb dX3_narrow_91 (by decide) (fun c23 => ?_) (fun c23 => ?_)
            · have hm := ite_t c23 hm
              refine lv_lload hx hb dX3_narrow_95 (lv_at hl 8 rfl) ?_
              refine lv_bipush (v := (8 : Int32)) hx hb dX3_narrow_97 (by decide) ?_
              refine lv_iload hx hb dX3_narrow_99 (lv_at hl 7 rfl) ?_
              refine lv_imul hx hb dX3_narrow_101 ?_
              refine lv_lshl hx hb dX3_narrow_102 rfl ?_
              refine lv_lload hx hb dX3_narrow_103 (lv_at hl 0 rfl) ?_
              refine lv_ladd hx hb dX3_narrow_105 ?_
              refine lv_topl (fun y24 ey24 => ?_)
              have hm := bnd_nm ey24 hm
              refine lv_lstore (lv' := [(8, .long y24), (11, .long r21), (0, .ref aR), (1, .int p1), (2, .int p2), (3, .int p3), (4, .ref aO), (5, .long r1), (7, .int x3), (10, .int x9)]) hx hb dX3_narrow_106 hl (by decide) rfl (fun ls hl => ?_)
              obtain ⟨x25, ex25, hm⟩ := bnd_ex hm
              refine lv_iinc (v := x25) (lv' := [(10, .int x25), (8, .long y24), (11, .long r21), (0, .ref aR), (1, .int p1), (2, .int p2), (3, .int p3), (4, .ref aO), (5, .long r1), (7, .int x3)]) hx hb dX3_narrow_108 hl (k := 9) rfl (by rw [ex25]; exact congrArg _ (by decide)) (by decide) rfl (fun ls hl => ?_)
              refine lv_goto (tgt := 63) hx hb dX3_narrow_111 (by decide) ?_
              exact ih63 x25 y24 u20 _ _ _ hm hP hD hS (lv_sub hl [3, 4, 5, 6, 7, 8, 9, 1, 0] rfl)
            · have hm := ite_f c23 hm
              rw [← hQ]
              exact W.vret hx hb hr (fun t ht1 hW => ⟨⟨u20, rfl, hm, by rw [ht1]; exact hP, hD⟩, hS.F ht1⟩) hS.2.2 dX3_narrow_94
    exact LP63 FU (0 : Int32) y8 uR _ _ _ hm hP hD hS (lv_sub hl [3, 4, 5, 6, 7, 8, 2, 1, 0] rfl)
  refine lv_icmp_ne (tgt := 28) hx hb dX3_narrow_21 (by decide) (fun c26 => ?_) (fun c26 => ?_)
  · have hm := ite_f c26 hm
    refine lv_iconst (v := (1 : Int32)) hx hb dX3_narrow_28 (by decide) ?_
    exact J29_4 (1 : Int32) _ _ _ hm hP hD hS (lv_sub hl [1, 2, 3, 4, 5, 0] rfl)
  · have hm := ite_t c26 hm
    refine lv_iconst (v := (4 : Int32)) hx hb dX3_narrow_24 (by decide) ?_
    refine lv_goto (tgt := 29) hx hb dX3_narrow_25 (by decide) ?_
    exact J29_4 (4 : Int32) _ _ _ hm hP hD hS (lv_sub hl [1, 2, 3, 4, 5, 0] rfl)

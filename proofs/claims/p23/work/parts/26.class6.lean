def f_X5_putTwoSided_L3 (p1 : Int32) (p2 : Int32) (uS : OS) : Nat → (Int32 → OS → OS → Option (OS × OS)) → Int32 → OS → OS → Option (OS × OS)
  | 0, _, _, _, _ => none
  | n3 + 1, K76_7, x1, u2, u3 =>
    if (32 : Int32) ≤ x1 then (
    K76_7 x1 u2 u3) else (
    oC1 (f_X4_shareOfZero uS (p2 &&& ((-2 : Int32) * x1)) x1) fun r9 =>
    if (p2 &&& x1) = (0 : Int32) then (
    oC2 (f_X5_widen u2 u3 p1 r9 (0 : Int32) (uS.1 0) (3 : Int32)) fun u16 u17 =>
    bnd (x1 * (2 : Int32)) fun x19 =>
    f_X5_putTwoSided_L3 p1 p2 uS n3 K76_7 x19 u16 u17) else (
    oC2 (f_X5_widen u2 u3 p1 ((uS.1 1) - r9) r9 (uS.1 0) (3 : Int32)) fun u12 u13 =>
    bnd (x1 * (2 : Int32)) fun x15 =>
    f_X5_putTwoSided_L3 p1 p2 uS n3 K76_7 x15 u12 u13))

def f_X5_putTwoSided (uS : OS) (uW : OS) (uP : OS) (p1 : Int32) (p2 : Int32) : Option (OS × OS) :=
  bnd (fun (x4 : Int32) (u5 : OS) (u6 : OS) =>
  some (u5, u6)) fun K76_7 =>
  f_X5_putTwoSided_L3 p1 p2 uS FU K76_7 (1 : Int32) uW uP

set_option maxHeartbeats 4000000 in
set_option maxRecDepth 100000 in
theorem c_X5_putTwoSided (l : Launch) (dC : Nat → ClassId) (dI : Nat → Nat → Nat) (cI cJ : ClassId) (aS : Nat) (jS : Nat → Nat) (aW : Nat) (jW : Nat → Nat) (aP : Nat) (jP : Nat → Nat) (sz : Nat) (uS : OS) (uW : OS) (uP : OS) (p1 : Int32) (p2 : Int32) (o : OS × OS) (hm : f_X5_putTwoSided uS uW uP p1 p2 = some o) : Met l yX5_putTwoSided (wq yX5_putTwoSided cX5_putTwoSided 6 none) ({ frames := 2, cells := 0, slots := 0, locals := 54 } : Room) (va_Pc [.ref aW, .int p1, .int p2, .ref aS] (pcW dC dI cI cJ sz ([wS cI cJ aS jS uS, wW cI cJ aW jW aP uW, wP cI cJ aP jP uP] : List va_W).flatten)) (va_Qv (S := OS × OS) (fun u => some (u.1, u.2) = some o) (fun (u : OS × OS) t => va_P (dC, dI) vwCl ([wS cI cJ aS jS uS, wW cI cJ aW jW aP u.1, wP cI cJ aP jP u.2] : List va_W).flatten t.heap ∧ va_D (va_A ([wS cI cJ aS jS uS, wW cI cJ aW jW aP uW, wP cI cJ aP jP uP] : List va_W).flatten sz) ([wS cI cJ aS jS uS, wW cI cJ aW jW aP u.1, wP cI cJ aP jP u.2] : List va_W).flatten) (va_A ([wS cI cJ aS jS uS, wW cI cJ aW jW aP uW, wP cI cJ aP jP uP] : List va_W).flatten sz)) 0 0 (va_A ([wS cI cJ aS jS uS, wW cI cJ aW jW aP uW, wP cI cJ aP jP uP] : List va_W).flatten sz) := by
  refine Met.ofW (cc := cX5_putTwoSided) (maxL := 6) (ret := none) (by decide) rfl ?_
  intro p e s m args below meth c s₁ B hml hv
  obtain ⟨rfl, hsz, hP, hK, hD0, hN⟩ := hv
  have hx := B.exec
  have hb := B.bytes
  have hr := B.returns
  have ht : ∀ w ∈ lw_good, w.before _ s = true := fun w h => atoms_spec (ws := wq yX5_putTwoSided cX5_putTwoSided 6 none) B.pre w (wq_mem h)
  have hown : s.vm.findClass RX5 = some m.cls := findClass_of_methodNamed B.named
  have hlocks := B.notSynchronized
  subst hsz
  have hD := hD0.self (sz := s.heap.size)
  generalize hAe : va_A ([wS cI cJ aS jS uS, wW cI cJ aW jW aP uW, wP cI cJ aP jP uP] : List va_W).flatten s.heap.size = A at hD ⊢
  have hA : ∀ q : Nat, s.heap.size ≤ q → A q := fun q h => by rw [← hAe]; exact Or.inr h
  have hS : va_S A s.heap s.heap [] := va_S.rf
  have hl := lv_entry ([.ref aW, .int p1, .int p2, .ref aS]) (n := 6) (Nat.le_of_ble_eq_true rfl)
  rw [lg_entry_eq]
  generalize (lg_sl ([.ref aW, .int p1, .int p2, .ref aS]) ++ List.replicate (6 - (lg_sl ([.ref aW, .int p1, .int p2, .ref aS])).length) Slot.unset).toArray = ls at hl ⊢
  have hl : lv_has ls 6 [(0, .ref aW), (1, .int p1), (2, .int p2), (3, .ref aS)] := hl
  generalize hQ : MQ below _ _ s _ _ _ = Q
  generalize hH : s.heap = H at hP ⊢
  have hS : va_S A s.heap H [] := by rw [← hH]; exact va_S.rf
  show W p l e ({ frames := 2, cells := 0, slots := 0, locals := 54 } : Room) s m ([.ref aW, .int p1, .int p2, .ref aS] : List Value).toArray below meth c H [] 0 0 Q (F0 m 0 ls [])
  unfold f_X5_putTwoSided at hm
  refine lv_iconst (v := (1 : Int32)) hx hb dX5_putTwoSided_0 (by decide) ?_
  refine lv_istore (lv' := [(4, .int (1 : Int32)), (0, .ref aW), (1, .int p1), (2, .int p2), (3, .ref aS)]) hx hb dX5_putTwoSided_1 hl (by decide) rfl (fun ls hl => ?_)
  obtain ⟨K76_7, eK76_7, hm⟩ := bnd_ex hm
  have X76_7 : ∀ (x4 : Int32) (u5 : OS) (u6 : OS) (H : Heap) (locs : List Loc) (ls : Array Slot), K76_7 x4 u5 u6 = some o → va_P (dC, dI) vwCl ([wS cI cJ aS jS uS, wW cI cJ aW jW aP u5, wP cI cJ aP jP u6] : List va_W).flatten H → va_D A ([wS cI cJ aS jS uS, wW cI cJ aW jW aP u5, wP cI cJ aP jP u6] : List va_W).flatten → va_S A s.heap H locs → lv_has ls 6 [(0, .ref aW), (1, .int p1), (2, .int p2), (3, .ref aS), (4, .int x4)] → W p l e ({ frames := 2, cells := 0, slots := 0, locals := 54 } : Room) s m ([.ref aW, .int p1, .int p2, .ref aS] : List Value).toArray below meth c H locs 0 0 Q (F0 m 76 ls []) := by
    intro x4 u5 u6 H locs ls hm hP hD hS hl
    have hm := ap3 eK76_7 hm
    rw [← hQ]
    exact W.vret hx hb hr (fun t ht1 hW => ⟨⟨(u5, u6), rfl, hm, by rw [ht1]; exact hP, hD⟩, hS.F ht1⟩) hS.2.2 dX5_putTwoSided_76
  have LP3 : ∀ (n3 : Nat) (x1 : Int32) (u2 : OS) (u3 : OS) (H : Heap) (locs : List Loc) (ls : Array Slot), f_X5_putTwoSided_L3 p1 p2 uS n3 K76_7 x1 u2 u3 = some o → va_P (dC, dI) vwCl ([wS cI cJ aS jS uS, wW cI cJ aW jW aP u2, wP cI cJ aP jP u3] : List va_W).flatten H → va_D A ([wS cI cJ aS jS uS, wW cI cJ aW jW aP u2, wP cI cJ aP jP u3] : List va_W).flatten → va_S A s.heap H locs → lv_has ls 6 [(0, .ref aW), (1, .int p1), (2, .int p2), (3, .ref aS), (4, .int x1)] → W p l e ({ frames := 2, cells := 0, slots := 0, locals := 54 } : Room) s m ([.ref aW, .int p1, .int p2, .ref aS] : List Value).toArray below meth c H locs 0 0 Q (F0 m 3 ls []) := by
    intro n3
    induction n3 with
    | zero => intro x1 u2 u3 H locs ls hm; exact nomatch (show (none : Option _) = some _ from hm)
    | succ n3 ih3 =>
      intro x1 u2 u3 H locs ls hm hP hD hS hl
      unfold f_X5_putTwoSided_L3 at hm
      refine lv_iload hx hb dX5_putTwoSided_3 (lv_at hl 4 rfl) ?_
      refine lv_bipush (v := (32 : Int32)) hx hb dX5_putTwoSided_5 (by decide) ?_
      refine lv_icmp_ge (tgt := 76) hx hb dX5_putTwoSided_7 (by decide) (fun c8 => ?_) (fun c8 => ?_)
      · have hm := ite_t c8 hm
        exact X76_7 x1 u2 u3 _ _ _ hm hP hD hS (lv_sub hl [0, 1, 2, 3, 4] rfl)
      · have hm := ite_f c8 hm
        refine lv_aload_n hx hb dX5_putTwoSided_10 rfl (lv_at hl 3 rfl) ?_
        refine lv_iload_n hx hb dX5_putTwoSided_11 rfl (lv_at hl 2 rfl) ?_
        refine lv_bipush (v := (-2 : Int32)) hx hb dX5_putTwoSided_12 (by decide) ?_
        refine lv_iload hx hb dX5_putTwoSided_14 (lv_at hl 4 rfl) ?_
        refine lv_imul hx hb dX5_putTwoSided_16 ?_
        refine lv_iand hx hb dX5_putTwoSided_17 ?_
        refine lv_iload hx hb dX5_putTwoSided_18 (lv_at hl 4 rfl) ?_
        have hPc : va_P (dC, dI) vwCl ([wS cI cJ aS jS uS] : List va_W).flatten _ := hP.subF [0] rfl
        have hDc : va_D A ([wS cI cJ aS jS uS] : List va_W).flatten := hD.subF [0] (by decide) rfl
        have hFc := va_freeF (fc := ([wS cI cJ aS jS uS] : List va_W)) hD hS hA [0] rfl
        obtain ⟨r9o, e10, hm⟩ := oC1_of hm
        refine va_calli (va_runV (As := [.int (p2 &&& ((-2 : Int32) * x1)), .int x1]) (rest := []) ⟨hx, hb, hml, hown, ht⟩ (c_X4_shareOfZero l dC dI cI cJ aS jS H.size uS (p2 &&& ((-2 : Int32) * x1)) x1 r9o e10) (cwV 2 ht (gdV kw_369 kw_267 kw_268 kw_199 kw_266) rfl rfl rfl ⟨rfl, nd_X4_shareOfZero⟩ ⟨Nat.le_of_ble_eq_true rfl, Nat.le_of_ble_eq_true rfl⟩) ⟨pcW_blind, va_recv hK hPc (ci := 5) (q0 := 0) rfl rfl, pcW_pre hPc hK hDc hN⟩ rfl rfl hl.1 rfl (lv_room (Nat.le_of_ble_eq_true rfl)) dX5_putTwoSided_20 ⟨Nat.zero_le _, Nat.zero_le _⟩) hS (fun q _ z => hFc q z) hFc (fun r9 uu t H1 locs ht1 hvm hw hB hz1 hk1 hS => ?_)
        obtain ⟨⟩ := uu
        obtain ⟨hP1, hD1⟩ := hB
        rw [ht1] at hP1
        obtain rfl : r9 = r9o := Option.some.inj hw
        obtain ⟨hP, hD⟩ := va_joinF (fr := ([wW cI cJ aW jW aP u2, wP cI cJ aP jP u3] : List va_W)) (f1 := ([wS cI cJ aS jS uS] : List va_W)) hP hD [0] [1, 2] rfl rfl (by decide) (by decide) hk1 hFc hP1 hD1
        have hP : va_P (dC, dI) vwCl ([wS cI cJ aS jS uS, wW cI cJ aW jW aP u2, wP cI cJ aP jP u3] : List va_W).flatten H1 := hP.subF [2, 0, 1] rfl
        have hD : va_D A ([wS cI cJ aS jS uS, wW cI cJ aW jW aP u2, wP cI cJ aP jP u3] : List va_W).flatten := hD.subF [2, 0, 1] (by decide) rfl
        generalize H1 = H at hP hS ⊢
        refine lv_istore (lv' := [(5, .int r9), (0, .ref aW), (1, .int p1), (2, .int p2), (3, .ref aS), (4, .int x1)]) hx hb dX5_putTwoSided_23 hl (by decide) rfl (fun ls hl => ?_)
        refine lv_iload_n hx hb dX5_putTwoSided_25 rfl (lv_at hl 3 rfl) ?_
        refine lv_iload hx hb dX5_putTwoSided_26 (lv_at hl 5 rfl) ?_
        refine lv_iand hx hb dX5_putTwoSided_28 ?_
        refine lv_if_ne (tgt := 48) hx hb dX5_putTwoSided_29 (by decide) (fun c11 => ?_) (fun c11 => ?_)
        · have hm := ite_f c11 hm
          refine lv_aload_n hx hb dX5_putTwoSided_48 rfl (lv_at hl 1 rfl) ?_
          refine lv_iload_n hx hb dX5_putTwoSided_49 rfl (lv_at hl 2 rfl) ?_
          refine lv_aload_n hx hb dX5_putTwoSided_50 rfl (lv_at hl 4 rfl) ?_
          refine va_getN (D := (dC, dI)) (ci := 5) (v := .int (uS.1 1)) (C := RX4) (T := TX4) (N := 11) hx hb ht inX4 hown hK hP 0 rfl rfl 1 (by decide) (va_Nw.use rfl (hN _ kn_13)) (fun _ h9 => h9) rfl dX5_putTwoSided_51 ?_
          refine lv_iload hx hb dX5_putTwoSided_54 (lv_at hl 0 rfl) ?_
          refine lv_isub hx hb dX5_putTwoSided_56 ?_
          refine lv_iload hx hb dX5_putTwoSided_57 (lv_at hl 0 rfl) ?_
          refine lv_aload_n hx hb dX5_putTwoSided_59 rfl (lv_at hl 4 rfl) ?_
          refine va_getN (D := (dC, dI)) (ci := 5) (v := .int (uS.1 0)) (C := RX4) (T := TX4) (N := 11) hx hb ht inX4 hown hK hP 0 rfl rfl 0 (by decide) (va_Nw.use rfl (hN _ kn_14)) (fun _ h9 => h9) rfl dX5_putTwoSided_60 ?_
          refine lv_iconst (v := (3 : Int32)) hx hb dX5_putTwoSided_63 (by decide) ?_
          have hPc : va_P (dC, dI) vwCl ([wW cI cJ aW jW aP u2, wP cI cJ aP jP u3] : List va_W).flatten _ := hP.subF [1, 2] rfl
          have hDc : va_D A ([wW cI cJ aW jW aP u2, wP cI cJ aP jP u3] : List va_W).flatten := hD.subF [1, 2] (by decide) rfl
          have hFc := va_freeF (fc := ([wW cI cJ aW jW aP u2, wP cI cJ aP jP u3] : List va_W)) hD hS hA [1, 2] rfl
          obtain ⟨u12o, u13o, e14, hm⟩ := oC2_of hm
          refine va_callv (va_runV (As := [.int p1, .int ((uS.1 1) - r9), .int r9, .int (uS.1 0), .int (3 : Int32)]) (rest := []) ⟨hx, hb, hml, hown, ht⟩ (c_X5_widen l dC dI cI cJ aW jW aP jP H.size u2 u3 p1 ((uS.1 1) - r9) r9 (uS.1 0) (3 : Int32) (u12o, u13o) e14) (cwV 5 ht (gdV kw_374 kw_372 kw_373 kw_371 kw_370) rfl rfl rfl ⟨rfl, nd_X5_widen⟩ ⟨Nat.le_of_ble_eq_true rfl, Nat.le_of_ble_eq_true rfl⟩) ⟨pcW_blind, va_recv hK hPc (ci := 6) (q0 := 0) rfl rfl, pcW_pre hPc hK hDc hN⟩ rfl rfl hl.1 rfl (lv_room (Nat.le_of_ble_eq_true rfl)) dX5_putTwoSided_64 ⟨Nat.zero_le _, Nat.zero_le _⟩) hS (fun q _ z => hFc q z) hFc (fun uu t H1 locs ht1 hvm hw hB hz1 hk1 hS => ?_)
          obtain ⟨u12, u13⟩ := uu
          obtain ⟨hP1, hD1⟩ := hB
          rw [ht1] at hP1
          obtain ⟨q0, q1⟩ := inj2 hw
          subst q0
          subst q1
          obtain ⟨hP, hD⟩ := va_joinF (fr := ([wS cI cJ aS jS uS] : List va_W)) (f1 := ([wW cI cJ aW jW aP u12, wP cI cJ aP jP u13] : List va_W)) hP hD [1, 2] [0] rfl rfl (by decide) (by decide) hk1 hFc hP1 hD1
          have hP : va_P (dC, dI) vwCl ([wS cI cJ aS jS uS, wW cI cJ aW jW aP u12, wP cI cJ aP jP u13] : List va_W).flatten H1 := hP
          have hD : va_D A ([wS cI cJ aS jS uS, wW cI cJ aW jW aP u12, wP cI cJ aP jP u13] : List va_W).flatten := hD
          generalize H1 = H at hP hS ⊢
          refine lv_iload hx hb dX5_putTwoSided_67 (lv_at hl 5 rfl) ?_
          refine lv_iconst (v := (2 : Int32)) hx hb dX5_putTwoSided_69 (by decide) ?_
          refine lv_imul hx hb dX5_putTwoSided_70 ?_
          refine lv_topi (fun x15 ex15 => ?_)
          have hm := bnd_nm ex15 hm
          refine lv_istore (lv' := [(4, .int x15), (5, .int r9), (0, .ref aW), (1, .int p1), (2, .int p2), (3, .ref aS)]) hx hb dX5_putTwoSided_71 hl (by decide) rfl (fun ls hl => ?_)
          refine lv_goto (tgt := 3) hx hb dX5_putTwoSided_73 (by decide) ?_
          exact ih3 x15 u12 u13 _ _ _ hm hP hD hS (lv_sub hl [2, 3, 4, 5, 0] rfl)
        · have hm := ite_t c11 hm
          refine lv_aload_n hx hb dX5_putTwoSided_32 rfl (lv_at hl 1 rfl) ?_
          refine lv_iload_n hx hb dX5_putTwoSided_33 rfl (lv_at hl 2 rfl) ?_
          refine lv_iload hx hb dX5_putTwoSided_34 (lv_at hl 0 rfl) ?_
          refine lv_iconst (v := (0 : Int32)) hx hb dX5_putTwoSided_36 (by decide) ?_
          refine lv_aload_n hx hb dX5_putTwoSided_37 rfl (lv_at hl 4 rfl) ?_
          refine va_getN (D := (dC, dI)) (ci := 5) (v := .int (uS.1 0)) (C := RX4) (T := TX4) (N := 11) hx hb ht inX4 hown hK hP 0 rfl rfl 0 (by decide) (va_Nw.use rfl (hN _ kn_14)) (fun _ h9 => h9) rfl dX5_putTwoSided_38 ?_
          refine lv_iconst (v := (3 : Int32)) hx hb dX5_putTwoSided_41 (by decide) ?_
          have hPc : va_P (dC, dI) vwCl ([wW cI cJ aW jW aP u2, wP cI cJ aP jP u3] : List va_W).flatten _ := hP.subF [1, 2] rfl
          have hDc : va_D A ([wW cI cJ aW jW aP u2, wP cI cJ aP jP u3] : List va_W).flatten := hD.subF [1, 2] (by decide) rfl
          have hFc := va_freeF (fc := ([wW cI cJ aW jW aP u2, wP cI cJ aP jP u3] : List va_W)) hD hS hA [1, 2] rfl
          obtain ⟨u16o, u17o, e18, hm⟩ := oC2_of hm
          refine va_callv (va_runV (As := [.int p1, .int r9, .int (0 : Int32), .int (uS.1 0), .int (3 : Int32)]) (rest := []) ⟨hx, hb, hml, hown, ht⟩ (c_X5_widen l dC dI cI cJ aW jW aP jP H.size u2 u3 p1 r9 (0 : Int32) (uS.1 0) (3 : Int32) (u16o, u17o) e18) (cwV 5 ht (gdV kw_374 kw_372 kw_373 kw_371 kw_370) rfl rfl rfl ⟨rfl, nd_X5_widen⟩ ⟨Nat.le_of_ble_eq_true rfl, Nat.le_of_ble_eq_true rfl⟩) ⟨pcW_blind, va_recv hK hPc (ci := 6) (q0 := 0) rfl rfl, pcW_pre hPc hK hDc hN⟩ rfl rfl hl.1 rfl (lv_room (Nat.le_of_ble_eq_true rfl)) dX5_putTwoSided_42 ⟨Nat.zero_le _, Nat.zero_le _⟩) hS (fun q _ z => hFc q z) hFc (fun uu t H1 locs ht1 hvm hw hB hz1 hk1 hS => ?_)
          obtain ⟨u16, u17⟩ := uu
          obtain ⟨hP1, hD1⟩ := hB
          rw [ht1] at hP1
          obtain ⟨q0, q1⟩ := inj2 hw
          subst q0
          subst q1
          obtain ⟨hP, hD⟩ := va_joinF (fr := ([wS cI cJ aS jS uS] : List va_W)) (f1 := ([wW cI cJ aW jW aP u16, wP cI cJ aP jP u17] : List va_W)) hP hD [1, 2] [0] rfl rfl (by decide) (by decide) hk1 hFc hP1 hD1
          have hP : va_P (dC, dI) vwCl ([wS cI cJ aS jS uS, wW cI cJ aW jW aP u16, wP cI cJ aP jP u17] : List va_W).flatten H1 := hP
          have hD : va_D A ([wS cI cJ aS jS uS, wW cI cJ aW jW aP u16, wP cI cJ aP jP u17] : List va_W).flatten := hD
          generalize H1 = H at hP hS ⊢
          refine lv_goto (tgt := 67) hx hb dX5_putTwoSided_45 (by decide) ?_
          refine lv_iload hx hb dX5_putTwoSided_67 (lv_at hl 5 rfl) ?_
          refine lv_iconst (v := (2 : Int32)) hx hb dX5_putTwoSided_69 (by decide) ?_
          refine lv_imul hx hb dX5_putTwoSided_70 ?_
          refine lv_topi (fun x19 ex19 => ?_)
          have hm := bnd_nm ex19 hm
          refine lv_istore (lv' := [(4, .int x19), (5, .int r9), (0, .ref aW), (1, .int p1), (2, .int p2), (3, .ref aS)]) hx hb dX5_putTwoSided_71 hl (by decide) rfl (fun ls hl => ?_)
          refine lv_goto (tgt := 3) hx hb dX5_putTwoSided_73 (by decide) ?_
          exact ih3 x19 u16 u17 _ _ _ hm hP hD hS (lv_sub hl [2, 3, 4, 5, 0] rfl)
  exact LP3 FU (1 : Int32) uW uP _ _ _ hm hP hD hS (lv_sub hl [1, 2, 3, 4, 0] rfl)

def f_X5_putSign (uS : OS) (uW : OS) (uP : OS) (p1 : Int32) (p2 : Int32) (p3 : Int32) : Option (OS × OS) :=
  if p1 = (2 : Int32) then (
  oC2 (f_X5_putByTable uS uW uP p2 p3) fun u1 u2 =>
  some (u1, u2)) else (
  if p1 = (3 : Int32) then (
  oC2 (f_X5_putTwoSided uS uW uP p2 p3) fun u4 u5 =>
  some (u4, u5)) else (
  oC1 (f_X4_shareOf uS p3) fun r7 =>
  oC1 (f_X4_fromOf uS p3) fun r9 =>
  oC2 (f_X5_widen uW uP p2 r7 r9 (uS.1 0) p1) fun u11 u12 =>
  some (u11, u12)))

set_option maxHeartbeats 4000000 in
set_option maxRecDepth 100000 in
theorem c_X5_putSign (l : Launch) (dC : Nat → ClassId) (dI : Nat → Nat → Nat) (cI cJ : ClassId) (aS : Nat) (jS : Nat → Nat) (aW : Nat) (jW : Nat → Nat) (aP : Nat) (jP : Nat → Nat) (sz : Nat) (uS : OS) (uW : OS) (uP : OS) (p1 : Int32) (p2 : Int32) (p3 : Int32) (o : OS × OS) (hm : f_X5_putSign uS uW uP p1 p2 p3 = some o) : Met l yX5_putSign (wq yX5_putSign cX5_putSign 5 none) ({ frames := 4, cells := 0, slots := 0, locals := 90 } : Room) (va_Pc [.ref aW, .int p1, .int p2, .int p3, .ref aS] (pcW dC dI cI cJ sz ([wS cI cJ aS jS uS, wW cI cJ aW jW aP uW, wP cI cJ aP jP uP] : List va_W).flatten)) (va_Qv (S := OS × OS) (fun u => some (u.1, u.2) = some o) (fun (u : OS × OS) t => va_P (dC, dI) vwCl ([wS cI cJ aS jS uS, wW cI cJ aW jW aP u.1, wP cI cJ aP jP u.2] : List va_W).flatten t.heap ∧ va_D (va_A ([wS cI cJ aS jS uS, wW cI cJ aW jW aP uW, wP cI cJ aP jP uP] : List va_W).flatten sz) ([wS cI cJ aS jS uS, wW cI cJ aW jW aP u.1, wP cI cJ aP jP u.2] : List va_W).flatten) (va_A ([wS cI cJ aS jS uS, wW cI cJ aW jW aP uW, wP cI cJ aP jP uP] : List va_W).flatten sz)) 0 0 (va_A ([wS cI cJ aS jS uS, wW cI cJ aW jW aP uW, wP cI cJ aP jP uP] : List va_W).flatten sz) := by
  refine Met.ofW (cc := cX5_putSign) (maxL := 5) (ret := none) (by decide) rfl ?_
  intro p e s m args below meth c s₁ B hml hv
  obtain ⟨rfl, hsz, hP, hK, hD0, hN⟩ := hv
  have hx := B.exec
  have hb := B.bytes
  have hr := B.returns
  have ht : ∀ w ∈ lw_good, w.before _ s = true := fun w h => atoms_spec (ws := wq yX5_putSign cX5_putSign 5 none) B.pre w (wq_mem h)
  have hown : s.vm.findClass RX5 = some m.cls := findClass_of_methodNamed B.named
  have hlocks := B.notSynchronized
  subst hsz
  have hD := hD0.self (sz := s.heap.size)
  generalize hAe : va_A ([wS cI cJ aS jS uS, wW cI cJ aW jW aP uW, wP cI cJ aP jP uP] : List va_W).flatten s.heap.size = A at hD ⊢
  have hA : ∀ q : Nat, s.heap.size ≤ q → A q := fun q h => by rw [← hAe]; exact Or.inr h
  have hS : va_S A s.heap s.heap [] := va_S.rf
  have hl := lv_entry ([.ref aW, .int p1, .int p2, .int p3, .ref aS]) (n := 5) (Nat.le_of_ble_eq_true rfl)
  rw [lg_entry_eq]
  generalize (lg_sl ([.ref aW, .int p1, .int p2, .int p3, .ref aS]) ++ List.replicate (5 - (lg_sl ([.ref aW, .int p1, .int p2, .int p3, .ref aS])).length) Slot.unset).toArray = ls at hl ⊢
  have hl : lv_has ls 5 [(0, .ref aW), (1, .int p1), (2, .int p2), (3, .int p3), (4, .ref aS)] := hl
  generalize hQ : MQ below _ _ s _ _ _ = Q
  generalize hH : s.heap = H at hP ⊢
  have hS : va_S A s.heap H [] := by rw [← hH]; exact va_S.rf
  show W p l e ({ frames := 4, cells := 0, slots := 0, locals := 90 } : Room) s m ([.ref aW, .int p1, .int p2, .int p3, .ref aS] : List Value).toArray below meth c H [] 0 0 Q (F0 m 0 ls [])
  unfold f_X5_putSign at hm
  refine lv_iload_n hx hb dX5_putSign_0 rfl (lv_at hl 1 rfl) ?_
  by_cases c14 : p1 = (2 : Int32)
  · have hm := ite_t c14 hm
    refine lv_lookup (tgt := 28) (off := 27) hx hb dX5_putSign_1 (by decide) (by rw [c14]; decide) (by decide) ?_
    refine lv_aload_n hx hb dX5_putSign_28 rfl (lv_at hl 0 rfl) ?_
    refine lv_iload_n hx hb dX5_putSign_29 rfl (lv_at hl 2 rfl) ?_
    refine lv_iload_n hx hb dX5_putSign_30 rfl (lv_at hl 3 rfl) ?_
    refine lv_aload hx hb dX5_putSign_31 (lv_at hl 4 rfl) ?_
    have hPc : va_P (dC, dI) vwCl ([wS cI cJ aS jS uS, wW cI cJ aW jW aP uW, wP cI cJ aP jP uP] : List va_W).flatten _ := hP
    have hDc : va_D A ([wS cI cJ aS jS uS, wW cI cJ aW jW aP uW, wP cI cJ aP jP uP] : List va_W).flatten := hD
    have hFc := va_freeF (fc := ([wS cI cJ aS jS uS, wW cI cJ aW jW aP uW, wP cI cJ aP jP uP] : List va_W)) hD hS hA [0, 1, 2] rfl
    obtain ⟨u1o, u2o, e3, hm⟩ := oC2_of hm
    refine va_callv (va_runV (As := [.int p2, .int p3, .ref aS]) (rest := []) ⟨hx, hb, hml, hown, ht⟩ (c_X5_putByTable l dC dI cI cJ aS jS aW jW aP jP H.size uS uW uP p2 p3 (u1o, u2o) e3) (cwV 3 ht (gdV kw_378 kw_376 kw_377 kw_371 kw_375) rfl rfl rfl ⟨rfl, nd_X5_putByTable⟩ ⟨Nat.le_of_ble_eq_true rfl, Nat.le_of_ble_eq_true rfl⟩) ⟨pcW_blind, va_recv hK hP (ci := 6) (q0 := 8) rfl rfl, pcW_pre hPc hK hDc hN⟩ rfl rfl hl.1 rfl (lv_room (Nat.le_of_ble_eq_true rfl)) dX5_putSign_33 ⟨Nat.zero_le _, Nat.zero_le _⟩) hS (fun q _ z => hFc q z) hFc (fun uu t H1 locs ht1 hvm hw hB hz1 hk1 hS => ?_)
    obtain ⟨u1, u2⟩ := uu
    obtain ⟨hP1, hD1⟩ := hB
    rw [ht1] at hP1
    obtain ⟨q0, q1⟩ := inj2 hw
    subst q0
    subst q1
    have hP : va_P (dC, dI) vwCl ([wS cI cJ aS jS uS, wW cI cJ aW jW aP u1, wP cI cJ aP jP u2] : List va_W).flatten H1 := hP1
    have hD : va_D A ([wS cI cJ aS jS uS, wW cI cJ aW jW aP u1, wP cI cJ aP jP u2] : List va_W).flatten := hD1.weaken (fun _ q _ z => hFc q.1 z)
    generalize H1 = H at hP hS ⊢
    refine lv_goto (tgt := 73) hx hb dX5_putSign_36 (by decide) ?_
    rw [← hQ]
    exact W.vret hx hb hr (fun t ht1 hW => ⟨⟨(u1, u2), rfl, hm, by rw [ht1]; exact hP, hD⟩, hS.F ht1⟩) hS.2.2 dX5_putSign_73
  · have hm := ite_f c14 hm
    by_cases c15 : p1 = (3 : Int32)
    · have hm := ite_t c15 hm
      refine lv_lookup (tgt := 39) (off := 38) hx hb dX5_putSign_1 (by decide) (by rw [c15]; decide) (by decide) ?_
      refine lv_aload_n hx hb dX5_putSign_39 rfl (lv_at hl 0 rfl) ?_
      refine lv_iload_n hx hb dX5_putSign_40 rfl (lv_at hl 2 rfl) ?_
      refine lv_iload_n hx hb dX5_putSign_41 rfl (lv_at hl 3 rfl) ?_
      refine lv_aload hx hb dX5_putSign_42 (lv_at hl 4 rfl) ?_
      have hPc : va_P (dC, dI) vwCl ([wS cI cJ aS jS uS, wW cI cJ aW jW aP uW, wP cI cJ aP jP uP] : List va_W).flatten _ := hP
      have hDc : va_D A ([wS cI cJ aS jS uS, wW cI cJ aW jW aP uW, wP cI cJ aP jP uP] : List va_W).flatten := hD
      have hFc := va_freeF (fc := ([wS cI cJ aS jS uS, wW cI cJ aW jW aP uW, wP cI cJ aP jP uP] : List va_W)) hD hS hA [0, 1, 2] rfl
      obtain ⟨u4o, u5o, e6, hm⟩ := oC2_of hm
      refine va_callv (va_runV (As := [.int p2, .int p3, .ref aS]) (rest := []) ⟨hx, hb, hml, hown, ht⟩ (c_X5_putTwoSided l dC dI cI cJ aS jS aW jW aP jP H.size uS uW uP p2 p3 (u4o, u5o) e6) (cwV 3 ht (gdV kw_382 kw_380 kw_381 kw_371 kw_379) rfl rfl rfl ⟨rfl, nd_X5_putTwoSided⟩ ⟨Nat.le_of_ble_eq_true rfl, Nat.le_of_ble_eq_true rfl⟩) ⟨pcW_blind, va_recv hK hP (ci := 6) (q0 := 8) rfl rfl, pcW_pre hPc hK hDc hN⟩ rfl rfl hl.1 rfl (lv_room (Nat.le_of_ble_eq_true rfl)) dX5_putSign_44 ⟨Nat.zero_le _, Nat.zero_le _⟩) hS (fun q _ z => hFc q z) hFc (fun uu t H1 locs ht1 hvm hw hB hz1 hk1 hS => ?_)
      obtain ⟨u4, u5⟩ := uu
      obtain ⟨hP1, hD1⟩ := hB
      rw [ht1] at hP1
      obtain ⟨q0, q1⟩ := inj2 hw
      subst q0
      subst q1
      have hP : va_P (dC, dI) vwCl ([wS cI cJ aS jS uS, wW cI cJ aW jW aP u4, wP cI cJ aP jP u5] : List va_W).flatten H1 := hP1
      have hD : va_D A ([wS cI cJ aS jS uS, wW cI cJ aW jW aP u4, wP cI cJ aP jP u5] : List va_W).flatten := hD1.weaken (fun _ q _ z => hFc q.1 z)
      generalize H1 = H at hP hS ⊢
      refine lv_goto (tgt := 73) hx hb dX5_putSign_47 (by decide) ?_
      rw [← hQ]
      exact W.vret hx hb hr (fun t ht1 hW => ⟨⟨(u4, u5), rfl, hm, by rw [ht1]; exact hP, hD⟩, hS.F ht1⟩) hS.2.2 dX5_putSign_73
    · have hm := ite_f c15 hm
      refine lv_lookup (tgt := 50) (off := 49) hx hb dX5_putSign_1 (by decide) (lk_out2 c14 c15) (by decide) ?_
      refine lv_aload_n hx hb dX5_putSign_50 rfl (lv_at hl 0 rfl) ?_
      refine lv_iload_n hx hb dX5_putSign_51 rfl (lv_at hl 2 rfl) ?_
      refine lv_aload hx hb dX5_putSign_52 (lv_at hl 4 rfl) ?_
      refine lv_iload_n hx hb dX5_putSign_54 rfl (lv_at hl 3 rfl) ?_
      have hPc : va_P (dC, dI) vwCl ([wS cI cJ aS jS uS] : List va_W).flatten _ := hP.subF [0] rfl
      have hDc : va_D A ([wS cI cJ aS jS uS] : List va_W).flatten := hD.subF [0] (by decide) rfl
      have hFc := va_freeF (fc := ([wS cI cJ aS jS uS] : List va_W)) hD hS hA [0] rfl
      obtain ⟨r7o, e8, hm⟩ := oC1_of hm
      refine va_calli (va_runV (As := [.int p3]) (rest := [.int p2, .ref aW]) ⟨hx, hb, hml, hown, ht⟩ (c_X4_shareOf l dC dI cI cJ aS jS H.size uS p3 r7o e8) (cwV 1 ht (gdV kw_355 kw_287 kw_288 kw_199 kw_286) rfl rfl rfl ⟨rfl, nd_X4_shareOf⟩ ⟨Nat.le_of_ble_eq_true rfl, Nat.le_of_ble_eq_true rfl⟩) ⟨pcW_blind, va_recv hK hPc (ci := 5) (q0 := 0) rfl rfl, pcW_pre hPc hK hDc hN⟩ rfl rfl hl.1 rfl (lv_room (Nat.le_of_ble_eq_true rfl)) dX5_putSign_55 ⟨Nat.zero_le _, Nat.zero_le _⟩) hS (fun q _ z => hFc q z) hFc (fun r7 uu t H1 locs ht1 hvm hw hB hz1 hk1 hS => ?_)
      obtain ⟨⟩ := uu
      obtain ⟨hP1, hD1⟩ := hB
      rw [ht1] at hP1
      obtain rfl : r7 = r7o := Option.some.inj hw
      obtain ⟨hP, hD⟩ := va_joinF (fr := ([wW cI cJ aW jW aP uW, wP cI cJ aP jP uP] : List va_W)) (f1 := ([wS cI cJ aS jS uS] : List va_W)) hP hD [0] [1, 2] rfl rfl (by decide) (by decide) hk1 hFc hP1 hD1
      have hP : va_P (dC, dI) vwCl ([wS cI cJ aS jS uS, wW cI cJ aW jW aP uW, wP cI cJ aP jP uP] : List va_W).flatten H1 := hP.subF [2, 0, 1] rfl
      have hD : va_D A ([wS cI cJ aS jS uS, wW cI cJ aW jW aP uW, wP cI cJ aP jP uP] : List va_W).flatten := hD.subF [2, 0, 1] (by decide) rfl
      generalize H1 = H at hP hS ⊢
      refine lv_aload hx hb dX5_putSign_58 (lv_at hl 4 rfl) ?_
      refine lv_iload_n hx hb dX5_putSign_60 rfl (lv_at hl 3 rfl) ?_
      have hPc : va_P (dC, dI) vwCl ([wS cI cJ aS jS uS] : List va_W).flatten _ := hP.subF [0] rfl
      have hDc : va_D A ([wS cI cJ aS jS uS] : List va_W).flatten := hD.subF [0] (by decide) rfl
      have hFc := va_freeF (fc := ([wS cI cJ aS jS uS] : List va_W)) hD hS hA [0] rfl
      obtain ⟨r9o, e10, hm⟩ := oC1_of hm
      refine va_calli (va_runV (As := [.int p3]) (rest := [.int r7, .int p2, .ref aW]) ⟨hx, hb, hml, hown, ht⟩ (c_X4_fromOf l dC dI cI cJ aS jS H.size uS p3 r9o e10) (cwV 1 ht (gdV kw_383 kw_291 kw_292 kw_199 kw_290) rfl rfl rfl ⟨rfl, nd_X4_fromOf⟩ ⟨Nat.le_of_ble_eq_true rfl, Nat.le_of_ble_eq_true rfl⟩) ⟨pcW_blind, va_recv hK hPc (ci := 5) (q0 := 0) rfl rfl, pcW_pre hPc hK hDc hN⟩ rfl rfl hl.1 rfl (lv_room (Nat.le_of_ble_eq_true rfl)) dX5_putSign_61 ⟨Nat.zero_le _, Nat.zero_le _⟩) hS (fun q _ z => hFc q z) hFc (fun r9 uu t H1 locs ht1 hvm hw hB hz1 hk1 hS => ?_)
      obtain ⟨⟩ := uu
      obtain ⟨hP1, hD1⟩ := hB
      rw [ht1] at hP1
      obtain rfl : r9 = r9o := Option.some.inj hw
      obtain ⟨hP, hD⟩ := va_joinF (fr := ([wW cI cJ aW jW aP uW, wP cI cJ aP jP uP] : List va_W)) (f1 := ([wS cI cJ aS jS uS] : List va_W)) hP hD [0] [1, 2] rfl rfl (by decide) (by decide) hk1 hFc hP1 hD1
      have hP : va_P (dC, dI) vwCl ([wS cI cJ aS jS uS, wW cI cJ aW jW aP uW, wP cI cJ aP jP uP] : List va_W).flatten H1 := hP.subF [2, 0, 1] rfl
      have hD : va_D A ([wS cI cJ aS jS uS, wW cI cJ aW jW aP uW, wP cI cJ aP jP uP] : List va_W).flatten := hD.subF [2, 0, 1] (by decide) rfl
      generalize H1 = H at hP hS ⊢
      refine lv_aload hx hb dX5_putSign_64 (lv_at hl 4 rfl) ?_
      refine va_getN (D := (dC, dI)) (ci := 5) (v := .int (uS.1 0)) (C := RX4) (T := TX4) (N := 11) hx hb ht inX4 hown hK hP 0 rfl rfl 0 (by decide) (va_Nw.use rfl (hN _ kn_14)) (fun _ h9 => h9) rfl dX5_putSign_66 ?_
      refine lv_iload_n hx hb dX5_putSign_69 rfl (lv_at hl 1 rfl) ?_
      have hPc : va_P (dC, dI) vwCl ([wW cI cJ aW jW aP uW, wP cI cJ aP jP uP] : List va_W).flatten _ := hP.subF [1, 2] rfl
      have hDc : va_D A ([wW cI cJ aW jW aP uW, wP cI cJ aP jP uP] : List va_W).flatten := hD.subF [1, 2] (by decide) rfl
      have hFc := va_freeF (fc := ([wW cI cJ aW jW aP uW, wP cI cJ aP jP uP] : List va_W)) hD hS hA [1, 2] rfl
      obtain ⟨u11o, u12o, e13, hm⟩ := oC2_of hm
      refine va_callv (va_runV (As := [.int p2, .int r7, .int r9, .int (uS.1 0), .int p1]) (rest := []) ⟨hx, hb, hml, hown, ht⟩ (c_X5_widen l dC dI cI cJ aW jW aP jP H.size uW uP p2 r7 r9 (uS.1 0) p1 (u11o, u12o) e13) (cwV 5 ht (gdV kw_374 kw_372 kw_373 kw_371 kw_370) rfl rfl rfl ⟨rfl, nd_X5_widen⟩ ⟨Nat.le_of_ble_eq_true rfl, Nat.le_of_ble_eq_true rfl⟩) ⟨pcW_blind, va_recv hK hPc (ci := 6) (q0 := 0) rfl rfl, pcW_pre hPc hK hDc hN⟩ rfl rfl hl.1 rfl (lv_room (Nat.le_of_ble_eq_true rfl)) dX5_putSign_70 ⟨Nat.zero_le _, Nat.zero_le _⟩) hS (fun q _ z => hFc q z) hFc (fun uu t H1 locs ht1 hvm hw hB hz1 hk1 hS => ?_)
      obtain ⟨u11, u12⟩ := uu
      obtain ⟨hP1, hD1⟩ := hB
      rw [ht1] at hP1
      obtain ⟨q0, q1⟩ := inj2 hw
      subst q0
      subst q1
      obtain ⟨hP, hD⟩ := va_joinF (fr := ([wS cI cJ aS jS uS] : List va_W)) (f1 := ([wW cI cJ aW jW aP u11, wP cI cJ aP jP u12] : List va_W)) hP hD [1, 2] [0] rfl rfl (by decide) (by decide) hk1 hFc hP1 hD1
      have hP : va_P (dC, dI) vwCl ([wS cI cJ aS jS uS, wW cI cJ aW jW aP u11, wP cI cJ aP jP u12] : List va_W).flatten H1 := hP
      have hD : va_D A ([wS cI cJ aS jS uS, wW cI cJ aW jW aP u11, wP cI cJ aP jP u12] : List va_W).flatten := hD
      generalize H1 = H at hP hS ⊢
      rw [← hQ]
      exact W.vret hx hb hr (fun t ht1 hW => ⟨⟨(u11, u12), rfl, hm, by rw [ht1]; exact hP, hD⟩, hS.F ht1⟩) hS.2.2 dX5_putSign_73

def f_X5_putHead (uS : OS) (uW : OS) (uO : OS) (p1 : Int32) (p2 : Int32) : Option ((OS) × Nat × Nat) :=
  oA2 (f_X1_append uO ((p1 * (4 : Int32)) + ((uW.1 2) / (2 : Int32)))) fun u1 r3 kc5 ks5 =>
  addc kc5 ks5 <|
  oA2 (f_X1_append u1 (uS.1 0)) fun u7 r9 kc11 ks11 =>
  addc kc11 ks11 <|
  oA1 (f_X1_appendNumber u7 (p2).toInt64 (2 : Int32)) fun u13 kc16 ks16 =>
  addc kc16 ks16 <|
  some (u13, 0, 0)

set_option maxHeartbeats 4000000 in
set_option maxRecDepth 100000 in
theorem c_X5_putHead (l : Launch) (dC : Nat → ClassId) (dI : Nat → Nat → Nat) (cI cJ : ClassId) (aS : Nat) (jS : Nat → Nat) (aW : Nat) (jW : Nat → Nat) (aO : Nat) (jO : Nat → Nat) (aP : Nat) (sz : Nat) (uS : OS) (uW : OS) (uO : OS) (p1 : Int32) (p2 : Int32) (o : OS) (mc ms : Nat) (hm : f_X5_putHead uS uW uO p1 p2 = some (o, mc, ms)) : Met l yX5_putHead (wq yX5_putHead cX5_putHead 5 none) ({ frames := 5, cells := mc, slots := ms, locals := 147 } : Room) (va_Pc [.ref aW, .int p1, .int p2, .ref aS, .ref aO] (pcW dC dI cI cJ sz ([wS cI cJ aS jS uS, wW cI cJ aW jW aP uW, wO cI cJ aO jO uO] : List va_W).flatten)) (va_Qv (S := OS) (fun u => some u = some o) (fun (u : OS) t => ∃ hhO : Nat → Nat, va_P (dC, dI) vwCl ([wS cI cJ aS jS uS, wW cI cJ aW jW aP uW, wO cI cJ aO hhO u] : List va_W).flatten t.heap ∧ va_D (va_A ([wS cI cJ aS jS uS, wW cI cJ aW jW aP uW, wO cI cJ aO jO uO] : List va_W).flatten sz) ([wS cI cJ aS jS uS, wW cI cJ aW jW aP uW, wO cI cJ aO hhO u] : List va_W).flatten) (va_A ([wS cI cJ aS jS uS, wW cI cJ aW jW aP uW, wO cI cJ aO jO uO] : List va_W).flatten sz)) mc ms (va_A ([wS cI cJ aS jS uS, wW cI cJ aW jW aP uW, wO cI cJ aO jO uO] : List va_W).flatten sz) := by
  refine Met.ofW (cc := cX5_putHead) (maxL := 5) (ret := none) (by decide) rfl ?_
  intro p e s m args below meth c s₁ B hml hv
  obtain ⟨rfl, hsz, hP, hK, hD0, hN⟩ := hv
  have hx := B.exec
  have hb := B.bytes
  have hr := B.returns
  have ht : ∀ w ∈ lw_good, w.before _ s = true := fun w h => atoms_spec (ws := wq yX5_putHead cX5_putHead 5 none) B.pre w (wq_mem h)
  have hown : s.vm.findClass RX5 = some m.cls := findClass_of_methodNamed B.named
  have hlocks := B.notSynchronized
  subst hsz
  have hD := hD0.self (sz := s.heap.size)
  generalize hAe : va_A ([wS cI cJ aS jS uS, wW cI cJ aW jW aP uW, wO cI cJ aO jO uO] : List va_W).flatten s.heap.size = A at hD ⊢
  have hA : ∀ q : Nat, s.heap.size ≤ q → A q := fun q h => by rw [← hAe]; exact Or.inr h
  have hS : va_S A s.heap s.heap [] := va_S.rf
  have hl := lv_entry ([.ref aW, .int p1, .int p2, .ref aS, .ref aO]) (n := 5) (Nat.le_of_ble_eq_true rfl)
  rw [lg_entry_eq]
  generalize (lg_sl ([.ref aW, .int p1, .int p2, .ref aS, .ref aO]) ++ List.replicate (5 - (lg_sl ([.ref aW, .int p1, .int p2, .ref aS, .ref aO])).length) Slot.unset).toArray = ls at hl ⊢
  have hl : lv_has ls 5 [(0, .ref aW), (1, .int p1), (2, .int p2), (3, .ref aS), (4, .ref aO)] := hl
  generalize hQ : MQ below _ _ s _ _ _ = Q
  generalize hH : s.heap = H at hP ⊢
  have hS : va_S A s.heap H [] := by rw [← hH]; exact va_S.rf
  obtain ⟨ce, hce⟩ := ex_eq (0 : Nat)
  obtain ⟨sl, hsl⟩ := ex_eq (0 : Nat)
  obtain ⟨kc, hkc⟩ := ex_eq mc
  obtain ⟨ks, hks⟩ := ex_eq ms
  rw [← hkc, ← hks] at hm
  have hc1 : ce + kc = mc := by omega
  have hc2 : sl + ks = ms := by omega
  suffices hw : W p l e ({ frames := 5, cells := mc, slots := ms, locals := 147 } : Room) s m ([.ref aW, .int p1, .int p2, .ref aS, .ref aO] : List Value).toArray below meth c H [] ce sl Q (F0 m 0 ls []) by rw [hce, hsl] at hw; exact hw
  clear hce hsl hkc hks
  unfold f_X5_putHead at hm
  refine lv_aload hx hb dX5_putHead_0 (lv_at hl 4 rfl) ?_
  refine lv_iload_n hx hb dX5_putHead_2 rfl (lv_at hl 1 rfl) ?_
  refine lv_iconst (v := (4 : Int32)) hx hb dX5_putHead_3 (by decide) ?_
  refine lv_imul hx hb dX5_putHead_4 ?_
  refine lv_aload_n hx hb dX5_putHead_5 rfl (lv_at hl 0 rfl) ?_
  refine va_get (D := (dC, dI)) (ci := 6) (v := .int (uW.1 2)) (C := RX5) (T := TX5) (N := 4) hx hb ht inX5 hown hK hP 8 rfl rfl 2 (by decide) (ht _ kw_352) (fun _ h9 => h9) rfl dX5_putHead_6 ?_
  refine lv_iconst (v := (2 : Int32)) hx hb dX5_putHead_9 (by decide) ?_
  refine lv_idiv hx hb dX5_putHead_10 (by decide) ?_
  refine lv_iadd hx hb dX5_putHead_11 ?_
  have hPc : va_P (dC, dI) vwCl ([wO cI cJ aO jO uO] : List va_W).flatten _ := hP.subF [2] rfl
  have hDc : va_D A ([wO cI cJ aO jO uO] : List va_W).flatten := hD.subF [2] (by decide) rfl
  have hFc := va_freeF (fc := ([wO cI cJ aO jO uO] : List va_W)) hD hS hA [2] rfl
  obtain ⟨u1o, r3o, kc5, ks5, e4, hm⟩ := oA2_of hm
  obtain ⟨kcq6, ksq6, hm, hkcq6, hksq6⟩ := addc_of hm
  refine va_calli (va_runV (As := [.int ((p1 * (4 : Int32)) + ((uW.1 2) / (2 : Int32)))]) (rest := []) ⟨hx, hb, hml, hown, ht⟩ (c_X1_append l dC dI cI cJ aO jO H.size uO ((p1 * (4 : Int32)) + ((uW.1 2) / (2 : Int32))) (u1o, r3o) kc5 ks5 e4) (cwV 1 ht (gdV kw_384 kw_174 kw_175 kw_173 kw_172) rfl rfl rfl ⟨rfl, nd_X1_append⟩ ⟨Nat.le_of_ble_eq_true rfl, Nat.le_of_ble_eq_true rfl⟩) ⟨pcW_blind, va_recv hK hPc (ci := 2) (q0 := 0) rfl rfl, pcW_pre hPc hK hDc hN⟩ rfl rfl hl.1 rfl (lv_room (Nat.le_of_ble_eq_true rfl)) dX5_putHead_12 ⟨cle hc1 hkcq6, cle hc2 hksq6⟩) hS (fun q _ z => hFc q z) hFc (fun r3 uu t H1 locs ht1 hvm hw hB hz1 hk1 hS => ?_)
  obtain ⟨u1, rfl⟩ : ∃ z, z = uu := ⟨_, rfl⟩
  obtain ⟨h2, hP1, hD1⟩ := hB
  rw [ht1] at hP1
  obtain ⟨q0, q1⟩ := inj2 hw
  subst q0
  subst q1
  obtain ⟨hP, hD⟩ := va_joinF (fr := ([wS cI cJ aS jS uS, wW cI cJ aW jW aP uW] : List va_W)) (f1 := ([wO cI cJ aO h2 u1] : List va_W)) hP hD [2] [0, 1] rfl rfl (by decide) (by decide) hk1 hFc hP1 hD1
  have hP : va_P (dC, dI) vwCl ([wS cI cJ aS jS uS, wW cI cJ aW jW aP uW, wO cI cJ aO h2 u1] : List va_W).flatten H1 := hP
  have hD : va_D A ([wS cI cJ aS jS uS, wW cI cJ aW jW aP uW, wO cI cJ aO h2 u1] : List va_W).flatten := hD
  generalize H1 = H at hP hS ⊢
  have hc1 := cadd hc1 hkcq6
  have hc2 := cadd hc2 hksq6
  refine lv_pop hx hb dX5_putHead_15 rfl ?_
  refine lv_aload hx hb dX5_putHead_16 (lv_at hl 4 rfl) ?_
  refine lv_aload_n hx hb dX5_putHead_18 rfl (lv_at hl 3 rfl) ?_
  refine va_getN (D := (dC, dI)) (ci := 5) (v := .int (uS.1 0)) (C := RX4) (T := TX4) (N := 11) hx hb ht inX4 hown hK hP 0 rfl rfl 0 (by decide) (va_Nw.use rfl (hN _ kn_14)) (fun _ h9 => h9) rfl dX5_putHead_19 ?_
  have hPc : va_P (dC, dI) vwCl ([wO cI cJ aO h2 u1] : List va_W).flatten _ := hP.subF [2] rfl
  have hDc : va_D A ([wO cI cJ aO h2 u1] : List va_W).flatten := hD.subF [2] (by decide) rfl
  have hFc := va_freeF (fc := ([wO cI cJ aO h2 u1] : List va_W)) hD hS hA [2] rfl
  obtain ⟨u7o, r9o, kc11, ks11, e10, hm⟩ := oA2_of hm
  obtain ⟨kcq12, ksq12, hm, hkcq12, hksq12⟩ := addc_of hm
  refine va_calli (va_runV (As := [.int (uS.1 0)]) (rest := []) ⟨hx, hb, hml, hown, ht⟩ (c_X1_append l dC dI cI cJ aO h2 H.size u1 (uS.1 0) (u7o, r9o) kc11 ks11 e10) (cwV 1 ht (gdV kw_384 kw_174 kw_175 kw_173 kw_172) rfl rfl rfl ⟨rfl, nd_X1_append⟩ ⟨Nat.le_of_ble_eq_true rfl, Nat.le_of_ble_eq_true rfl⟩) ⟨pcW_blind, va_recv hK hPc (ci := 2) (q0 := 0) rfl rfl, pcW_pre hPc hK hDc hN⟩ rfl rfl hl.1 rfl (lv_room (Nat.le_of_ble_eq_true rfl)) dX5_putHead_22 ⟨cle hc1 hkcq12, cle hc2 hksq12⟩) hS (fun q _ z => hFc q z) hFc (fun r9 uu t H1 locs ht1 hvm hw hB hz1 hk1 hS => ?_)
  obtain ⟨u7, rfl⟩ : ∃ z, z = uu := ⟨_, rfl⟩
  obtain ⟨h8, hP1, hD1⟩ := hB
  rw [ht1] at hP1
  obtain ⟨q0, q1⟩ := inj2 hw
  subst q0
  subst q1
  obtain ⟨hP, hD⟩ := va_joinF (fr := ([wS cI cJ aS jS uS, wW cI cJ aW jW aP uW] : List va_W)) (f1 := ([wO cI cJ aO h8 u7] : List va_W)) hP hD [2] [0, 1] rfl rfl (by decide) (by decide) hk1 hFc hP1 hD1
  have hP : va_P (dC, dI) vwCl ([wS cI cJ aS jS uS, wW cI cJ aW jW aP uW, wO cI cJ aO h8 u7] : List va_W).flatten H1 := hP
  have hD : va_D A ([wS cI cJ aS jS uS, wW cI cJ aW jW aP uW, wO cI cJ aO h8 u7] : List va_W).flatten := hD
  generalize H1 = H at hP hS ⊢
  have hc1 := cadd hc1 hkcq12
  have hc2 := cadd hc2 hksq12
  refine lv_pop hx hb dX5_putHead_25 rfl ?_
  refine lv_aload hx hb dX5_putHead_26 (lv_at hl 4 rfl) ?_
  refine lv_iload_n hx hb dX5_putHead_28 rfl (lv_at hl 2 rfl) ?_
  refine lv_i2l hx hb dX5_putHead_29 rfl ?_
  refine lv_iconst (v := (2 : Int32)) hx hb dX5_putHead_30 (by decide) ?_
  have hPc : va_P (dC, dI) vwCl ([wO cI cJ aO h8 u7] : List va_W).flatten _ := hP.subF [2] rfl
  have hDc : va_D A ([wO cI cJ aO h8 u7] : List va_W).flatten := hD.subF [2] (by decide) rfl
  have hFc := va_freeF (fc := ([wO cI cJ aO h8 u7] : List va_W)) hD hS hA [2] rfl
  obtain ⟨u13o, kc16, ks16, e15, hm⟩ := oA1_of hm
  obtain ⟨kcq17, ksq17, hm, hkcq17, hksq17⟩ := addc_of hm
  refine va_callv (va_runV (As := [.long (p2).toInt64, .int (2 : Int32)]) (rest := []) ⟨hx, hb, hml, hown, ht⟩ (c_X1_appendNumber l dC dI cI cJ aO h8 H.size u7 (p2).toInt64 (2 : Int32) u13o kc16 ks16 e15) (cwV 2 ht (gdV kw_388 kw_386 kw_387 kw_173 kw_385) rfl rfl rfl ⟨rfl, nd_X1_appendNumber⟩ ⟨Nat.le_of_ble_eq_true rfl, Nat.le_of_ble_eq_true rfl⟩) ⟨pcW_blind, va_recv hK hPc (ci := 2) (q0 := 0) rfl rfl, pcW_pre hPc hK hDc hN⟩ rfl rfl hl.1 rfl (lv_room (Nat.le_of_ble_eq_true rfl)) dX5_putHead_31 ⟨cle hc1 hkcq17, cle hc2 hksq17⟩) hS (fun q _ z => hFc q z) hFc (fun uu t H1 locs ht1 hvm hw hB hz1 hk1 hS => ?_)
  obtain ⟨u13, rfl⟩ : ∃ z, z = uu := ⟨_, rfl⟩
  obtain ⟨h14, hP1, hD1⟩ := hB
  rw [ht1] at hP1
  obtain rfl : u13 = u13o := Option.some.inj hw
  obtain ⟨hP, hD⟩ := va_joinF (fr := ([wS cI cJ aS jS uS, wW cI cJ aW jW aP uW] : List va_W)) (f1 := ([wO cI cJ aO h14 u13] : List va_W)) hP hD [2] [0, 1] rfl rfl (by decide) (by decide) hk1 hFc hP1 hD1
  have hP : va_P (dC, dI) vwCl ([wS cI cJ aS jS uS, wW cI cJ aW jW aP uW, wO cI cJ aO h14 u13] : List va_W).flatten H1 := hP
  have hD : va_D A ([wS cI cJ aS jS uS, wW cI cJ aW jW aP uW, wO cI cJ aO h14 u13] : List va_W).flatten := hD
  generalize H1 = H at hP hS ⊢
  have hc1 := cadd hc1 hkcq17
  have hc2 := cadd hc2 hksq17
  obtain ⟨hmz, hz1, hz2⟩ := ret0 hm
  subst hz1
  subst hz2
  refine W.cs (cells' := mc) (slots' := ms) hc1 hc2 ?_
  rw [← hQ]
  exact W.vret hx hb hr (fun t ht1 hW => ⟨⟨u13, rfl, hmz, h14, by rw [ht1]; exact hP, hD⟩, hS.F ht1⟩) hS.2.2 dX5_putHead_34

def f_X5_putTable_L8 (uS : OS) : Nat → (Int32 → Int32 → OS → Option ((OS) × Nat × Nat)) → Int32 → Int32 → OS → Option ((OS) × Nat × Nat)
  | 0, _, _, _, _ => none
  | n8 + 1, K48_10, x3, x4, u5 =>
    if (32 : Int32) ≤ x3 then (
    K48_10 x4 x3 u5) else (
    if x4 ≤ (0 : Int32) then (
    K48_10 x4 x3 u5) else (
    oC1 (f_X4_shareOf uS x3) fun r13 =>
    oC1 (f_X6_bitLength x4) fun r15 =>
    oA1 (f_X1_appendBits u5 r13 r15) fun u17 kc20 ks20 =>
    addc kc20 ks20 <|
    oC1 (f_X4_shareOf uS x3) fun r22 =>
    bnd (x4 - r22) fun x24 =>
    bnd (x3 + (1 : Int32)) fun x25 =>
    f_X5_putTable_L8 uS n8 K48_10 x25 x24 u17))

def f_X5_putTable (uS : OS) (uO : OS) : Option ((OS) × Nat × Nat) :=
  bnd (uS.1 1) fun x1 =>
  bnd (fun (x7 : Int32) (x8 : Int32) (u9 : OS) =>
  some (u9, 0, 0)) fun K48_10 =>
  f_X5_putTable_L8 uS FU K48_10 (0 : Int32) x1 uO

set_option maxHeartbeats 4000000 in
set_option maxRecDepth 100000 in
theorem c_X5_putTable (l : Launch) (dC : Nat → ClassId) (dI : Nat → Nat → Nat) (cI cJ : ClassId) (aS : Nat) (jS : Nat → Nat) (aO : Nat) (jO : Nat → Nat) (aW : Nat) (sz : Nat) (uS : OS) (uO : OS) (o : OS) (mc ms : Nat) (hm : f_X5_putTable uS uO = some (o, mc, ms)) : Met l yX5_putTable (wq yX5_putTable cX5_putTable 5 none) ({ frames := 5, cells := mc, slots := ms, locals := 146 } : Room) (va_Pc [.ref aW, .ref aS, .ref aO] (pcW dC dI cI cJ sz ([wS cI cJ aS jS uS, wO cI cJ aO jO uO] : List va_W).flatten)) (va_Qv (S := OS) (fun u => some u = some o) (fun (u : OS) t => ∃ hhO : Nat → Nat, va_P (dC, dI) vwCl ([wS cI cJ aS jS uS, wO cI cJ aO hhO u] : List va_W).flatten t.heap ∧ va_D (va_A ([wS cI cJ aS jS uS, wO cI cJ aO jO uO] : List va_W).flatten sz) ([wS cI cJ aS jS uS, wO cI cJ aO hhO u] : List va_W).flatten) (va_A ([wS cI cJ aS jS uS, wO cI cJ aO jO uO] : List va_W).flatten sz)) mc ms (va_A ([wS cI cJ aS jS uS, wO cI cJ aO jO uO] : List va_W).flatten sz) := by
  refine Met.ofW (cc := cX5_putTable) (maxL := 5) (ret := none) (by decide) rfl ?_
  intro p e s m args below meth c s₁ B hml hv
  obtain ⟨rfl, hsz, hP, hK, hD0, hN⟩ := hv
  have hx := B.exec
  have hb := B.bytes
  have hr := B.returns
  have ht : ∀ w ∈ lw_good, w.before _ s = true := fun w h => atoms_spec (ws := wq yX5_putTable cX5_putTable 5 none) B.pre w (wq_mem h)
  have hown : s.vm.findClass RX5 = some m.cls := findClass_of_methodNamed B.named
  have hlocks := B.notSynchronized
  subst hsz
  have hD := hD0.self (sz := s.heap.size)
  generalize hAe : va_A ([wS cI cJ aS jS uS, wO cI cJ aO jO uO] : List va_W).flatten s.heap.size = A at hD ⊢
  have hA : ∀ q : Nat, s.heap.size ≤ q → A q := fun q h => by rw [← hAe]; exact Or.inr h
  have hS : va_S A s.heap s.heap [] := va_S.rf
  have hl := lv_entry ([.ref aW, .ref aS, .ref aO]) (n := 5) (Nat.le_of_ble_eq_true rfl)
  rw [lg_entry_eq]
  generalize (lg_sl ([.ref aW, .ref aS, .ref aO]) ++ List.replicate (5 - (lg_sl ([.ref aW, .ref aS, .ref aO])).length) Slot.unset).toArray = ls at hl ⊢
  have hl : lv_has ls 5 [(0, .ref aW), (1, .ref aS), (2, .ref aO)] := hl
  generalize hQ : MQ below _ _ s _ _ _ = Q
  generalize hH : s.heap = H at hP ⊢
  have hS : va_S A s.heap H [] := by rw [← hH]; exact va_S.rf
  obtain ⟨ce, hce⟩ := ex_eq (0 : Nat)
  obtain ⟨sl, hsl⟩ := ex_eq (0 : Nat)
  obtain ⟨kc, hkc⟩ := ex_eq mc
  obtain ⟨ks, hks⟩ := ex_eq ms
  rw [← hkc, ← hks] at hm
  have hc1 : ce + kc = mc := by omega
  have hc2 : sl + ks = ms := by omega
  suffices hw : W p l e ({ frames := 5, cells := mc, slots := ms, locals := 146 } : Room) s m ([.ref aW, .ref aS, .ref aO] : List Value).toArray below meth c H [] ce sl Q (F0 m 0 ls []) by rw [hce, hsl] at hw; exact hw
  clear hce hsl hkc hks
  unfold f_X5_putTable at hm
  refine lv_aload_n hx hb dX5_putTable_0 rfl (lv_at hl 1 rfl) ?_
  refine va_getN (D := (dC, dI)) (ci := 5) (v := .int (uS.1 1)) (C := RX4) (T := TX4) (N := 11) hx hb ht inX4 hown hK hP 0 rfl rfl 1 (by decide) (va_Nw.use rfl (hN _ kn_13)) (fun _ h9 => h9) rfl dX5_putTable_1 ?_
  refine lv_topi (fun x1 ex1 => ?_)
  have hm := bnd_nm ex1 hm
  refine lv_istore_n (lv' := [(3, .int x1), (0, .ref aW), (1, .ref aS), (2, .ref aO)]) hx hb dX5_putTable_4 rfl hl (by decide) rfl (fun ls hl => ?_)
  refine lv_iconst (v := (0 : Int32)) hx hb dX5_putTable_5 (by decide) ?_
  refine lv_istore (lv' := [(4, .int (0 : Int32)), (3, .int x1), (0, .ref aW), (1, .ref aS), (2, .ref aO)]) hx hb dX5_putTable_6 hl (by decide) rfl (fun ls hl => ?_)
  obtain ⟨K48_10, eK48_10, hm⟩ := bnd_ex hm
  have X48_10 : ∀ (x7 : Int32) (x8 : Int32) (u9 : OS) (hg6 : Nat → Nat) (ce sl kc ks : Nat) (H : Heap) (locs : List Loc) (ls : Array Slot), K48_10 x7 x8 u9 = some (o, kc, ks) → ce + kc = mc → sl + ks = ms → va_P (dC, dI) vwCl ([wS cI cJ aS jS uS, wO cI cJ aO hg6 u9] : List va_W).flatten H → va_D A ([wS cI cJ aS jS uS, wO cI cJ aO hg6 u9] : List va_W).flatten → va_S A s.heap H locs → lv_has ls 5 [(0, .ref aW), (1, .ref aS), (2, .ref aO), (3, .int x7), (4, .int x8)] → W p l e ({ frames := 5, cells := mc, slots := ms, locals := 146 } : Room) s m ([.ref aW, .ref aS, .ref aO] : List Value).toArray below meth c H locs ce sl Q (F0 m 48 ls []) := by
    intro x7 x8 u9 hg6 ce sl kc ks H locs ls hm hc1 hc2 hP hD hS hl
    have hm := ap3 eK48_10 hm
    obtain ⟨hmz, hz1, hz2⟩ := ret0 hm
    subst hz1
    subst hz2
    refine W.cs (cells' := mc) (slots' := ms) hc1 hc2 ?_
    rw [← hQ]
    exact W.vret hx hb hr (fun t ht1 hW => ⟨⟨u9, rfl, hmz, hg6, by rw [ht1]; exact hP, hD⟩, hS.F ht1⟩) hS.2.2 dX5_putTable_48
  have LP8 : ∀ (n8 : Nat) (x3 : Int32) (x4 : Int32) (u5 : OS) (hg2 : Nat → Nat) (ce sl kc ks : Nat) (H : Heap) (locs : List Loc) (ls : Array Slot), f_X5_putTable_L8 uS n8 K48_10 x3 x4 u5 = some (o, kc, ks) → ce + kc = mc → sl + ks = ms → va_P (dC, dI) vwCl ([wS cI cJ aS jS uS, wO cI cJ aO hg2 u5] : List va_W).flatten H → va_D A ([wS cI cJ aS jS uS, wO cI cJ aO hg2 u5] : List va_W).flatten → va_S A s.heap H locs → lv_has ls 5 [(0, .ref aW), (1, .ref aS), (2, .ref aO), (3, .int x4), (4, .int x3)] → W p l e ({ frames := 5, cells := mc, slots := ms, locals := 146 } : Room) s m ([.ref aW, .ref aS, .ref aO] : List Value).toArray below meth c H locs ce sl Q (F0 m 8 ls []) := by
    intro n8
    induction n8 with
    | zero => intro x3 x4 u5 hg2 ce sl kc ks H locs ls hm; exact nomatch (show (none : Option _) = some _ from hm)
    | succ n8 ih8 =>
      intro x3 x4 u5 hg2 ce sl kc ks H locs ls hm hc1 hc2 hP hD hS hl
      unfold f_X5_putTable_L8 at hm
      refine lv_iload hx hb dX5_putTable_8 (lv_at hl 4 rfl) ?_
      refine lv_bipush (v := (32 : Int32)) hx hb dX5_putTable_10 (by decide) ?_
      refine lv_icmp_ge (tgt := 48) hx hb dX5_putTable_12 (by decide) (fun c11 => ?_) (fun c11 => ?_)
      · have hm := ite_t c11 hm
        exact X48_10 x4 x3 u5 hg2 _ _ _ _ _ _ _ hm hc1 hc2 hP hD hS (lv_sub hl [0, 1, 2, 3, 4] rfl)
      · have hm := ite_f c11 hm
        refine lv_iload_n hx hb dX5_putTable_15 rfl (lv_at hl 3 rfl) ?_
        refine lv_if_le (tgt := 48) hx hb dX5_putTable_16 (by decide) (fun c12 => ?_) (fun c12 => ?_)
        · have hm := ite_t c12 hm
          exact X48_10 x4 x3 u5 hg2 _ _ _ _ _ _ _ hm hc1 hc2 hP hD hS (lv_sub hl [0, 1, 2, 3, 4] rfl)
        · have hm := ite_f c12 hm
          refine lv_aload_n hx hb dX5_putTable_19 rfl (lv_at hl 2 rfl) ?_
          refine lv_aload_n hx hb dX5_putTable_20 rfl (lv_at hl 1 rfl) ?_
          refine lv_iload hx hb dX5_putTable_21 (lv_at hl 4 rfl) ?_
          have hPc : va_P (dC, dI) vwCl ([wS cI cJ aS jS uS] : List va_W).flatten _ := hP.subF [0] rfl
          have hDc : va_D A ([wS cI cJ aS jS uS] : List va_W).flatten := hD.subF [0] (by decide) rfl
          have hFc := va_freeF (fc := ([wS cI cJ aS jS uS] : List va_W)) hD hS hA [0] rfl
          obtain ⟨r13o, e14, hm⟩ := oC1_of hm
          refine va_calli (va_runV (As := [.int x3]) (rest := [.ref aO]) ⟨hx, hb, hml, hown, ht⟩ (c_X4_shareOf l dC dI cI cJ aS jS H.size uS x3 r13o e14) (cwV 1 ht (gdV kw_355 kw_287 kw_288 kw_199 kw_286) rfl rfl rfl ⟨rfl, nd_X4_shareOf⟩ ⟨Nat.le_of_ble_eq_true rfl, Nat.le_of_ble_eq_true rfl⟩) ⟨pcW_blind, va_recv hK hPc (ci := 5) (q0 := 0) rfl rfl, pcW_pre hPc hK hDc hN⟩ rfl rfl hl.1 rfl (lv_room (Nat.le_of_ble_eq_true rfl)) dX5_putTable_23 ⟨cle0 hc1, cle0 hc2⟩) hS (fun q _ z => hFc q z) hFc (fun r13 uu t H1 locs ht1 hvm hw hB hz1 hk1 hS => ?_)
          obtain ⟨⟩ := uu
          obtain ⟨hP1, hD1⟩ := hB
          rw [ht1] at hP1
          obtain rfl : r13 = r13o := Option.some.inj hw
          obtain ⟨hP, hD⟩ := va_joinF (fr := ([wO cI cJ aO hg2 u5] : List va_W)) (f1 := ([wS cI cJ aS jS uS] : List va_W)) hP hD [0] [1] rfl rfl (by decide) (by decide) hk1 hFc hP1 hD1
          have hP : va_P (dC, dI) vwCl ([wS cI cJ aS jS uS, wO cI cJ aO hg2 u5] : List va_W).flatten H1 := hP.subF [1, 0] rfl
          have hD : va_D A ([wS cI cJ aS jS uS, wO cI cJ aO hg2 u5] : List va_W).flatten := hD.subF [1, 0] (by decide) rfl
          generalize H1 = H at hP hS ⊢
          refine W.cs (Nat.add_zero _) (Nat.add_zero _) ?_
          refine lv_iload_n hx hb dX5_putTable_26 rfl (lv_at hl 3 rfl) ?_
          have hPc : va_P (dC, dI) vwCl ([] : List va_W).flatten _ := hP.subF [] rfl
          have hDc : va_D A ([] : List va_W).flatten := hD.subF [] (by decide) rfl
          have hFc := va_freeF (fc := ([] : List va_W)) hD hS hA [] rfl
          obtain ⟨r15o, e16, hm⟩ := oC1_of hm
          refine va_calli (va_runSN (As := [.int x4]) (rest := [.int r13, .ref aO]) ⟨hx, hb, hml, hown, ht⟩ (c_X6_bitLength l dC dI cI cJ H.size x4 r15o e16) ⟨va_cnB 1 ht (gdC kw_160) rfl rfl rfl (hN _ kn_15) (ht _ kw_161) nd_X6_bitLength ⟨Nat.le_of_ble_eq_true rfl, Nat.le_of_ble_eq_true rfl⟩, ht _ kw_162, trivial⟩ ⟨pcW_blind, pcW_pre hPc hK hDc hN⟩ rfl rfl hl.1 rfl (lv_room (Nat.le_of_ble_eq_true rfl)) dX5_putTable_27 ⟨cle0 hc1, cle0 hc2⟩) hS (fun q _ z => hFc q z) hFc (fun r15 uu t H1 locs ht1 hvm hw hB hz1 hk1 hS => ?_)
          obtain ⟨⟩ := uu
          obtain ⟨hP1, hD1⟩ := hB
          rw [ht1] at hP1
          obtain rfl : r15 = r15o := Option.some.inj hw
          obtain ⟨hP, hD⟩ := va_joinF (fr := ([wS cI cJ aS jS uS, wO cI cJ aO hg2 u5] : List va_W)) (f1 := ([] : List va_W)) hP hD [] [0, 1] rfl rfl (by decide) (by decide) hk1 hFc hP1 hD1
          have hP : va_P (dC, dI) vwCl ([wS cI cJ aS jS uS, wO cI cJ aO hg2 u5] : List va_W).flatten H1 := hP
          have hD : va_D A ([wS cI cJ aS jS uS, wO cI cJ aO hg2 u5] : List va_W).flatten := hD
          generalize H1 = H at hP hS ⊢
          refine W.cs (Nat.add_zero _) (Nat.add_zero _) ?_
          have hPc : va_P (dC, dI) vwCl ([wO cI cJ aO hg2 u5] : List va_W).flatten _ := hP.subF [1] rfl
          have hDc : va_D A ([wO cI cJ aO hg2 u5] : List va_W).flatten := hD.subF [1] (by decide) rfl
          have hFc := va_freeF (fc := ([wO cI cJ aO hg2 u5] : List va_W)) hD hS hA [1] rfl
          obtain ⟨u17o, kc20, ks20, e19, hm⟩ := oA1_of hm
          obtain ⟨kcq21, ksq21, hm, hkcq21, hksq21⟩ := addc_of hm
          refine va_callv (va_runV (As := [.int r13, .int r15]) (rest := []) ⟨hx, hb, hml, hown, ht⟩ (c_X1_appendBits l dC dI cI cJ aO hg2 H.size u5 r13 r15 u17o kc20 ks20 e19) (cwV 2 ht (gdV kw_392 kw_390 kw_391 kw_173 kw_389) rfl rfl rfl ⟨rfl, nd_X1_appendBits⟩ ⟨Nat.le_of_ble_eq_true rfl, Nat.le_of_ble_eq_true rfl⟩) ⟨pcW_blind, va_recv hK hPc (ci := 2) (q0 := 0) rfl rfl, pcW_pre hPc hK hDc hN⟩ rfl rfl hl.1 rfl (lv_room (Nat.le_of_ble_eq_true rfl)) dX5_putTable_30 ⟨cle hc1 hkcq21, cle hc2 hksq21⟩) hS (fun q _ z => hFc q z) hFc (fun uu t H1 locs ht1 hvm hw hB hz1 hk1 hS => ?_)
          obtain ⟨u17, rfl⟩ : ∃ z, z = uu := ⟨_, rfl⟩
          obtain ⟨h18, hP1, hD1⟩ := hB
          rw [ht1] at hP1
          obtain rfl : u17 = u17o := Option.some.inj hw
          obtain ⟨hP, hD⟩ := va_joinF (fr := ([wS cI cJ aS jS uS] : List va_W)) (f1 := ([wO cI cJ aO h18 u17] : List va_W)) hP hD [1] [0] rfl rfl (by decide) (by decide) hk1 hFc hP1 hD1
          have hP : va_P (dC, dI) vwCl ([wS cI cJ aS jS uS, wO cI cJ aO h18 u17] : List va_W).flatten H1 := hP
          have hD : va_D A ([wS cI cJ aS jS uS, wO cI cJ aO h18 u17] : List va_W).flatten := hD
          generalize H1 = H at hP hS ⊢
          have hc1 := cadd hc1 hkcq21
          have hc2 := cadd hc2 hksq21
          refine lv_iload_n hx hb dX5_putTable_33 rfl (lv_at hl 3 rfl) ?_
          refine lv_aload_n hx hb dX5_putTable_34 rfl (lv_at hl 1 rfl) ?_
          refine lv_iload hx hb dX5_putTable_35 (lv_at hl 4 rfl) ?_
          have hPc : va_P (dC, dI) vwCl ([wS cI cJ aS jS uS] : List va_W).flatten _ := hP.subF [0] rfl
          have hDc : va_D A ([wS cI cJ aS jS uS] : List va_W).flatten := hD.subF [0] (by decide) rfl
          have hFc := va_freeF (fc := ([wS cI cJ aS jS uS] : List va_W)) hD hS hA [0] rfl
          obtain ⟨r22o, e23, hm⟩ := oC1_of hm
          refine va_calli (va_runV (As := [.int x3]) (rest := [.int x4]) ⟨hx, hb, hml, hown, ht⟩ (c_X4_shareOf l dC dI cI cJ aS jS H.size uS x3 r22o e23) (cwV 1 ht (gdV kw_355 kw_287 kw_288 kw_199 kw_286) rfl rfl rfl ⟨rfl, nd_X4_shareOf⟩ ⟨Nat.le_of_ble_eq_true rfl, Nat.le_of_ble_eq_true rfl⟩) ⟨pcW_blind, va_recv hK hPc (ci := 5) (q0 := 0) rfl rfl, pcW_pre hPc hK hDc hN⟩ rfl rfl hl.1 rfl (lv_room (Nat.le_of_ble_eq_true rfl)) dX5_putTable_37 ⟨cle0 hc1, cle0 hc2⟩) hS (fun q _ z => hFc q z) hFc (fun r22 uu t H1 locs ht1 hvm hw hB hz1 hk1 hS => ?_)
          obtain ⟨⟩ := uu
          obtain ⟨hP1, hD1⟩ := hB
          rw [ht1] at hP1
          obtain rfl : r22 = r22o := Option.some.inj hw
          obtain ⟨hP, hD⟩ := va_joinF (fr := ([wO cI cJ aO h18 u17] : List va_W)) (f1 := ([wS cI cJ aS jS uS] : List va_W)) hP hD [0] [1] rfl rfl (by decide) (by decide) hk1 hFc hP1 hD1
          have hP : va_P (dC, dI) vwCl ([wS cI cJ aS jS uS, wO cI cJ aO h18 u17] : List va_W).flatten H1 := hP.subF [1, 0] rfl
          have hD : va_D A ([wS cI cJ aS jS uS, wO cI cJ aO h18 u17] : List va_W).flatten := hD.subF [1, 0] (by decide) rfl
          generalize H1 = H at hP hS ⊢
          refine W.cs (Nat.add_zero _) (Nat.add_zero _) ?_
          refine lv_isub hx hb dX5_putTable_40 ?_
          refine lv_topi (fun x24 ex24 => ?_)
          have hm := bnd_nm ex24 hm
          refine lv_istore_n (lv' := [(3, .int x24), (0, .ref aW), (1, .ref aS), (2, .ref aO), (4, .int x3)]) hx hb dX5_putTable_41 rfl hl (by decide) rfl (fun ls hl => ?_)
          obtain ⟨x25, ex25, hm⟩ := bnd_ex hm
          refine lv_iinc (v := x25) (lv' := [(4, .int x25), (3, .int x24), (0, .ref aW), (1, .ref aS), (2, .ref aO)]) hx hb dX5_putTable_42 hl (k := 4) rfl (by rw [ex25]; exact congrArg _ (by decide)) (by decide) rfl (fun ls hl => ?_)
          refine lv_goto (tgt := 8) hx hb dX5_putTable_45 (by decide) ?_
          exact ih8 x25 x24 u17 h18 _ _ _ _ _ _ _ hm hc1 hc2 hP hD hS (lv_sub hl [2, 3, 4, 1, 0] rfl)
  exact LP8 FU (0 : Int32) x1 uO jO _ _ _ _ _ _ _ hm hc1 hc2 hP hD hS (lv_sub hl [2, 3, 4, 1, 0] rfl)

def f_X5_writeRow_L116 (p4 : Int32) (u24 : OS) : Nat → (Int32 → OS → Option ((OS × OS × OS × OS) × Nat × Nat)) → Int32 → OS → Option ((OS × OS × OS × OS) × Nat × Nat)
  | 0, _, _, _ => none
  | n116 + 1, K148_49, x42, u43 =>
    if (u24.1 2) ≤ x42 then (
    K148_49 x42 u43) else (
    gdi x42 4 <|
    oC1 (f_X6_stateWidth p4) fun r58 =>
    oA1 (f_X1_appendNumber u43 (u24.2.2.1 0 (x42).toNatClampNeg) r58) fun u60 kc63 ks63 =>
    addc kc63 ks63 <|
    bnd (x42 + (1 : Int32)) fun x65 =>
    f_X5_writeRow_L116 p4 u24 n116 K148_49 x65 u60)

def f_X5_writeRow_L53 (uA : OS) (p4 : Int32) (u11 : OS) : Nat → (Int32 → OS → OS → Option ((OS × OS × OS × OS) × Nat × Nat)) → Int32 → OS → OS → Option ((OS × OS × OS × OS) × Nat × Nat)
  | 0, _, _, _, _ => none
  | n53 + 1, K91_26, x17, u18, u19 =>
    if x17 < (0 : Int32) then (
    K91_26 x17 u18 u19) else (
    oA1 (f_X2_makeRoomForSign u19) fun u67 kc70 ks70 =>
    addc kc70 ks70 <|
    gdi x17 (uA.2.2.2 0) <|
    oC2 (f_X5_putSign u11 u18 u67 p4 (x17 &&& ((u18.1 2) - (1 : Int32))) (uA.2.1 0 (x17).toNatClampNeg)) fun u73 u74 =>
    bnd (x17 + (-1 : Int32)) fun x76 =>
    f_X5_writeRow_L53 uA p4 u11 n53 K91_26 x76 u73 u74)

def f_X5_writeRow (uS : OS) (uW : OS) (uP : OS) (uO : OS) (uA : OS) (p2 : Int32) (p4 : Int32) (p5 : Int32) : Option ((OS × OS × OS × OS) × Nat × Nat) :=
  bnd (sF uW 2 (if (4 : Int32) < p5 then (4 : Int32) else p5)) fun u1 =>
  oC1 (f_X2_empty uP) fun u2 =>
  oC1 (f_X6_firstState p4 (uS.1 1)) fun r4 =>
  bnd (sGL u1 0 (flL 4 (u1.2.2.1 0) r4)) fun u6 =>
  bnd (fun (u11 : OS) =>
  bnd ((if (nI (uA.2.2.2 0)) < p2 then (nI (uA.2.2.2 0)) else p2) - (1 : Int32)) fun x13 =>
  bnd (fun (x23 : Int32) (u24 : OS) (u25 : OS) =>
  oC1 (f_X1_restart uO) fun u27 =>
  oA1 (f_X5_putHead u11 u24 u27 p4 p2) fun u29 kc32 ks32 =>
  addc kc32 ks32 <|
  oA1 (f_X5_putTable u11 u29) fun u34 kc37 ks37 =>
  addc kc37 ks37 <|
  bnd (fun (x47 : Int32) (u48 : OS) =>
  oA1 (f_X2_pourInto u25 u48) fun u50 kc53 ks53 =>
  addc kc53 ks53 <|
  bnd (sF u24 3 (1 : Int32)) fun u55 =>
  some ((u11, u55, u25, u50), 0, 0)) fun K148_49 =>
  f_X5_writeRow_L116 p4 u24 FU K148_49 (0 : Int32) u34) fun K91_26 =>
  f_X5_writeRow_L53 uA p4 u11 FU K91_26 x13 u6 u2) fun K43_12 =>
  if p4 = (2 : Int32) then (
  oA1 (f_X4_makeSpread uS) fun u78 kc81 ks81 =>
  addc kc81 ks81 <|
  K43_12 u78) else (
  K43_12 uS)

set_option maxHeartbeats 4000000 in
set_option maxRecDepth 100000 in
theorem c_X5_writeRow (l : Launch) (dC : Nat → ClassId) (dI : Nat → Nat → Nat) (cI cJ : ClassId) (aS : Nat) (jS : Nat → Nat) (aW : Nat) (jW : Nat → Nat) (aP : Nat) (jP : Nat → Nat) (aO : Nat) (jO : Nat → Nat) (jA : Nat → Nat) (sz : Nat) (uS : OS) (uW : OS) (uP : OS) (uO : OS) (uA : OS) (p2 : Int32) (p4 : Int32) (p5 : Int32) (o : OS × OS × OS × OS) (mc ms : Nat) (hm : f_X5_writeRow uS uW uP uO uA p2 p4 p5 = some (o, mc, ms)) : Met l yX5_writeRow (wq yX5_writeRow cX5_writeRow 8 none) ({ frames := 6, cells := mc, slots := ms, locals := 171 } : Room) (va_Pc [.ref aW, .ref (jA 0), .int p2, .ref aS, .int p4, .int p5, .ref aO] (pcW dC dI cI cJ sz ([wS cI cJ aS jS uS, wW cI cJ aW jW aP uW, wP cI cJ aP jP uP, wO cI cJ aO jO uO, wA cI cJ jA uA] : List va_W).flatten)) (va_Qv (S := OS × OS × OS × OS) (fun u => some (u.1, u.2.1, u.2.2.1, u.2.2.2) = some o) (fun (u : OS × OS × OS × OS) t => ∃ hhS : Nat → Nat, ∃ hhP : Nat → Nat, ∃ hhO : Nat → Nat, va_P (dC, dI) vwCl ([wS cI cJ aS hhS u.1, wW cI cJ aW jW aP u.2.1, wP cI cJ aP hhP u.2.2.1, wO cI cJ aO hhO u.2.2.2, wA cI cJ jA uA] : List va_W).flatten t.heap ∧ va_D (va_A ([wS cI cJ aS jS uS, wW cI cJ aW jW aP uW, wP cI cJ aP jP uP, wO cI cJ aO jO uO, wA cI cJ jA uA] : List va_W).flatten sz) ([wS cI cJ aS hhS u.1, wW cI cJ aW jW aP u.2.1, wP cI cJ aP hhP u.2.2.1, wO cI cJ aO hhO u.2.2.2, wA cI cJ jA uA] : List va_W).flatten) (va_A ([wS cI cJ aS jS uS, wW cI cJ aW jW aP uW, wP cI cJ aP jP uP, wO cI cJ aO jO uO, wA cI cJ jA uA] : List va_W).flatten sz)) mc ms (va_A ([wS cI cJ aS jS uS, wW cI cJ aW jW aP uW, wP cI cJ aP jP uP, wO cI cJ aO jO uO, wA cI cJ jA uA] : List va_W).flatten sz) := by
  refine Met.ofW (cc := cX5_writeRow) (maxL := 8) (ret := none) (by decide) rfl ?_
  intro p e s m args below meth c s₁ B hml hv
  obtain ⟨rfl, hsz, hP, hK, hD0, hN⟩ := hv
  have hx := B.exec
  have hb := B.bytes
  have hr := B.returns
  have ht : ∀ w ∈ lw_good, w.before _ s = true := fun w h => atoms_spec (ws := wq yX5_writeRow cX5_writeRow 8 none) B.pre w (wq_mem h)
  have hown : s.vm.findClass RX5 = some m.cls := findClass_of_methodNamed B.named
  have hlocks := B.notSynchronized
  subst hsz
  have hD := hD0.self (sz := s.heap.size)
  generalize hAe : va_A ([wS cI cJ aS jS uS, wW cI cJ aW jW aP uW, wP cI cJ aP jP uP, wO cI cJ aO jO uO, wA cI cJ jA uA] : List va_W).flatten s.heap.size = A at hD ⊢
  have hA : ∀ q : Nat, s.heap.size ≤ q → A q := fun q h => by rw [← hAe]; exact Or.inr h
  have hS : va_S A s.heap s.heap [] := va_S.rf
  have hl := lv_entry ([.ref aW, .ref (jA 0), .int p2, .ref aS, .int p4, .int p5, .ref aO]) (n := 8) (Nat.le_of_ble_eq_true rfl)
  rw [lg_entry_eq]
  generalize (lg_sl ([.ref aW, .ref (jA 0), .int p2, .ref aS, .int p4, .int p5, .ref aO]) ++ List.replicate (8 - (lg_sl ([.ref aW, .ref (jA 0), .int p2, .ref aS, .int p4, .int p5, .ref aO])).length) Slot.unset).toArray = ls at hl ⊢
  have hl : lv_has ls 8 [(0, .ref aW), (1, .ref (jA 0)), (2, .int p2), (3, .ref aS), (4, .int p4), (5, .int p5), (6, .ref aO)] := hl
  generalize hQ : MQ below _ _ s _ _ _ = Q
  generalize hH : s.heap = H at hP ⊢
  have hS : va_S A s.heap H [] := by rw [← hH]; exact va_S.rf
  obtain ⟨ce, hce⟩ := ex_eq (0 : Nat)
  obtain ⟨sl, hsl⟩ := ex_eq (0 : Nat)
  obtain ⟨kc, hkc⟩ := ex_eq mc
  obtain ⟨ks, hks⟩ := ex_eq ms
  rw [← hkc, ← hks] at hm
  have hc1 : ce + kc = mc := by omega
  have hc2 : sl + ks = ms := by omega
  suffices hw : W p l e ({ frames := 6, cells := mc, slots := ms, locals := 171 } : Room) s m ([.ref aW, .ref (jA 0), .int p2, .ref aS, .int p4, .int p5, .ref aO] : List Value).toArray below meth c H [] ce sl Q (F0 m 0 ls []) by rw [hce, hsl] at hw; exact hw
  clear hce hsl hkc hks
  unfold f_X5_writeRow at hm
  refine lv_aload_n hx hb dX5_writeRow_0 rfl (lv_at hl 0 rfl) ?_
  refine lv_iload hx hb dX5_writeRow_1 (lv_at hl 5 rfl) ?_
  refine lv_iconst (v := (4 : Int32)) hx hb dX5_writeRow_3 (by decide) ?_
  refine va_mmin hx hb (hml.trans hl.1.symm) hown (ht _ kw_351) (ht _ kw_264) (ht _ kw_261) (ht _ kw_265) (Nat.le_of_ble_eq_true rfl) (Nat.le_of_ble_eq_true rfl) (cle1 hc1) (cle1 hc2) dX5_writeRow_4 ?_
  refine va_put (D := (dC, dI)) (ci := 6) (v := .int (if (4 : Int32) < p5 then (4 : Int32) else p5)) (ty := .int) (C := RX5) (T := TX5) (N := 4) hx hb ht inX5 tyX5 tyX5_ok nmX5 hown hK hP hD hS 8 rfl rfl 2 (by decide) (ht _ kw_352) (fun _ h9 => h9) rfl (by decide +kernel) rfl rfl (Nat.le_of_ble_eq_true rfl) dX5_writeRow_7 (fun H locs hP hD hS => ?_)
  obtain ⟨u1, eu1, hm⟩ := bnd_ex hm
  have hP : va_P (dC, dI) vwCl ([wS cI cJ aS jS uS, wW cI cJ aW jW aP u1, wP cI cJ aP jP uP, wO cI cJ aO jO uO, wA cI cJ jA uA] : List va_W).flatten H := by rw [eu1]; exact hP
  have hD : va_D A ([wS cI cJ aS jS uS, wW cI cJ aW jW aP u1, wP cI cJ aP jP uP, wO cI cJ aO jO uO, wA cI cJ jA uA] : List va_W).flatten := by rw [eu1]; exact hD
  refine lv_aload_n hx hb dX5_writeRow_10 rfl (lv_at hl 0 rfl) ?_
  refine va_get (D := (dC, dI)) (ci := 6) (v := .ref aP) (C := RX5) (T := TX5) (N := 4) hx hb ht inX5 hown hK hP 8 rfl rfl 1 (by decide) (ht _ kw_353) (fun _ h9 => h9) rfl dX5_writeRow_11 ?_
  have hPc : va_P (dC, dI) vwCl ([wP cI cJ aP jP uP] : List va_W).flatten _ := hP.subF [2] rfl
  have hDc : va_D A ([wP cI cJ aP jP uP] : List va_W).flatten := hD.subF [2] (by decide) rfl
  have hFc := va_freeF (fc := ([wP cI cJ aP jP uP] : List va_W)) hD hS hA [2] rfl
  obtain ⟨u2o, e3, hm⟩ := oC1_of hm
  refine va_callv (va_runV (As := []) (rest := []) ⟨hx, hb, hml, hown, ht⟩ (c_X2_empty l dC dI cI cJ aP jP H.size uP u2o e3) (cwV 0 ht (gdV kw_397 kw_395 kw_396 kw_361 kw_394) rfl rfl rfl ⟨rfl, nd_X2_empty⟩ ⟨Nat.le_of_ble_eq_true rfl, Nat.le_of_ble_eq_true rfl⟩) ⟨pcW_blind, va_recv hK hPc (ci := 3) (q0 := 0) rfl rfl, pcW_pre hPc hK hDc hN⟩ rfl rfl hl.1 rfl (lv_room (Nat.le_of_ble_eq_true rfl)) dX5_writeRow_14 ⟨cle0 hc1, cle0 hc2⟩) hS (fun q _ z => hFc q z) hFc (fun uu t H1 locs ht1 hvm hw hB hz1 hk1 hS => ?_)
  obtain ⟨u2, rfl⟩ : ∃ z, z = uu := ⟨_, rfl⟩
  obtain ⟨hP1, hD1⟩ := hB
  rw [ht1] at hP1
  obtain rfl : u2 = u2o := Option.some.inj hw
  obtain ⟨hP, hD⟩ := va_joinF (fr := ([wS cI cJ aS jS uS, wW cI cJ aW jW aP u1, wO cI cJ aO jO uO, wA cI cJ jA uA] : List va_W)) (f1 := ([wP cI cJ aP jP u2] : List va_W)) hP hD [2] [0, 1, 3, 4] rfl rfl (by decide) (by decide) hk1 hFc hP1 hD1
  have hP : va_P (dC, dI) vwCl ([wS cI cJ aS jS uS, wW cI cJ aW jW aP u1, wP cI cJ aP jP u2, wO cI cJ aO jO uO, wA cI cJ jA uA] : List va_W).flatten H1 := hP.subF [0, 1, 4, 2, 3] rfl
  have hD : va_D A ([wS cI cJ aS jS uS, wW cI cJ aW jW aP u1, wP cI cJ aP jP u2, wO cI cJ aO jO uO, wA cI cJ jA uA] : List va_W).flatten := hD.subF [0, 1, 4, 2, 3] (by decide) rfl
  generalize H1 = H at hP hS ⊢
  refine W.cs (Nat.add_zero _) (Nat.add_zero _) ?_
  refine lv_aload_n hx hb dX5_writeRow_17 rfl (lv_at hl 0 rfl) ?_
  refine va_get (D := (dC, dI)) (ci := 6) (v := .ref (jW 0)) (C := RX5) (T := TX5) (N := 4) hx hb ht inX5 hown hK hP 8 rfl rfl 0 (by decide) (ht _ kw_354) (fun _ h9 => h9) rfl dX5_writeRow_18 ?_
  refine lv_iload hx hb dX5_writeRow_21 (lv_at hl 4 rfl) ?_
  refine lv_aload_n hx hb dX5_writeRow_23 rfl (lv_at hl 3 rfl) ?_
  refine va_getN (D := (dC, dI)) (ci := 5) (v := .int (uS.1 1)) (C := RX4) (T := TX4) (N := 11) hx hb ht inX4 hown hK hP 0 rfl rfl 1 (by decide) (va_Nw.use rfl (hN _ kn_13)) (fun _ h9 => h9) rfl dX5_writeRow_24 ?_
  have hPc : va_P (dC, dI) vwCl ([] : List va_W).flatten _ := hP.subF [] rfl
  have hDc : va_D A ([] : List va_W).flatten := hD.subF [] (by decide) rfl
  have hFc := va_freeF (fc := ([] : List va_W)) hD hS hA [] rfl
  obtain ⟨r4o, e5, hm⟩ := oC1_of hm
  refine va_calll (va_runSN (As := [.int p4, .int (uS.1 1)]) (rest := [.ref (jW 0)]) ⟨hx, hb, hml, hown, ht⟩ (c_X6_firstState l dC dI cI cJ H.size p4 (uS.1 1) r4o e5) ⟨va_cnB 2 ht (gdC kw_239) rfl rfl rfl (hN _ kn_16) (ht _ kw_161) nd_X6_firstState ⟨Nat.le_of_ble_eq_true rfl, Nat.le_of_ble_eq_true rfl⟩, ht _ kw_240, trivial⟩ ⟨pcW_blind, pcW_pre hPc hK hDc hN⟩ rfl rfl hl.1 rfl (lv_room (Nat.le_of_ble_eq_true rfl)) dX5_writeRow_27 ⟨cle0 hc1, cle0 hc2⟩) hS (fun q _ z => hFc q z) hFc (fun r4 uu t H1 locs ht1 hvm hw hB hz1 hk1 hS => ?_)
  obtain ⟨⟩ := uu
  obtain ⟨hP1, hD1⟩ := hB
  rw [ht1] at hP1
  obtain rfl : r4 = r4o := Option.some.inj hw
  obtain ⟨hP, hD⟩ := va_joinF (fr := ([wS cI cJ aS jS uS, wW cI cJ aW jW aP u1, wP cI cJ aP jP u2, wO cI cJ aO jO uO, wA cI cJ jA uA] : List va_W)) (f1 := ([] : List va_W)) hP hD [] [0, 1, 2, 3, 4] rfl rfl (by decide) (by decide) hk1 hFc hP1 hD1
  have hP : va_P (dC, dI) vwCl ([wS cI cJ aS jS uS, wW cI cJ aW jW aP u1, wP cI cJ aP jP u2, wO cI cJ aO jO uO, wA cI cJ jA uA] : List va_W).flatten H1 := hP
  have hD : va_D A ([wS cI cJ aS jS uS, wW cI cJ aW jW aP u1, wP cI cJ aP jP u2, wO cI cJ aO jO uO, wA cI cJ jA uA] : List va_W).flatten := hD
  generalize H1 = H at hP hS ⊢
  refine W.cs (Nat.add_zero _) (Nat.add_zero _) ?_
  have g7 : 4 < 2 ^ 31 := by decide
  have hPc : va_P (dC, dI) vwCl [((jW 0), .inl (cJ, 4, .inr (.inl (u1.2.2.1 0))))] _ := hP.sub [9] rfl
  have hDc : va_D A [((jW 0), .inl (cJ, 4, .inr (.inl (u1.2.2.1 0))))] := hD.sub [9] (by decide) rfl
  have hFc := va_free (wc := [((jW 0), .inl (cJ, 4, .inr (.inl (u1.2.2.1 0))))]) hD hS hA [9] rfl
  obtain ⟨u6, eu6, hm⟩ := bnd_ex hm
  refine va_callv (va_runS (As := [.ref (jW 0), .long r4]) (rest := []) ⟨hx, hb, hml, hown, ht⟩ (c_fillL l dC dI cI cJ (jW 0) H.size 4 g7 (u1.2.2.1 0) r4) (va_cwS 2 ht (gdS kw_400 kw_399 kw_194 kw_398) rfl rfl rfl nd_J7_fill_d0a16 ⟨Nat.le_of_ble_eq_true rfl, Nat.le_of_ble_eq_true rfl⟩) ⟨pcW_blind, pcW_pre hPc hK hDc hN⟩ rfl rfl hl.1 rfl (lv_room (Nat.le_of_ble_eq_true rfl)) dX5_writeRow_30 ⟨cle0 hc1, cle0 hc2⟩) hS (fun q _ z => hFc q z) hFc (fun uu t H1 locs ht1 hvm hw hB hz1 hk1 hS => ?_)
  obtain ⟨hP1, hD1⟩ := hB
  rw [ht1] at hP1
  subst hw
  obtain ⟨hP, hD⟩ := va_join (wr := [(wS cI cJ aS jS uS)[0], (wS cI cJ aS jS uS)[1], (wS cI cJ aS jS uS)[2], (wS cI cJ aS jS uS)[3], (wS cI cJ aS jS uS)[4], (wS cI cJ aS jS uS)[5], (wS cI cJ aS jS uS)[6], (wS cI cJ aS jS uS)[7], (wW cI cJ aW jW aP u1)[0], (wP cI cJ aP jP u2)[0], (wP cI cJ aP jP u2)[1], (wO cI cJ aO jO uO)[0], (wO cI cJ aO jO uO)[1], (wA cI cJ jA uA)[0]]) (w1 := [((jW 0), .inl (cJ, 4, .inr (.inl (flL 4 (u1.2.2.1 0) r4))))]) hP hD [9] [0, 1, 2, 3, 4, 5, 6, 7, 8, 10, 11, 12, 13, 14] rfl rfl (by decide) (by decide) hk1 hFc hP1 hD1
  generalize H1 = H at hP hS ⊢
  have hP : va_P (dC, dI) vwCl ([wS cI cJ aS jS uS, wW cI cJ aW jW aP u6, wP cI cJ aP jP u2, wO cI cJ aO jO uO, wA cI cJ jA uA] : List va_W).flatten H := by rw [eu6]; exact hP.sub [0, 1, 2, 3, 4, 5, 6, 7, 8, 14, 9, 10, 11, 12, 13] rfl
  have hD : va_D A ([wS cI cJ aS jS uS, wW cI cJ aW jW aP u6, wP cI cJ aP jP u2, wO cI cJ aO jO uO, wA cI cJ jA uA] : List va_W).flatten := by rw [eu6]; exact hD.sub [0, 1, 2, 3, 4, 5, 6, 7, 8, 14, 9, 10, 11, 12, 13] (by decide) rfl
  refine W.cs (Nat.add_zero _) (Nat.add_zero _) ?_
  refine lv_iload hx hb dX5_writeRow_33 (lv_at hl 4 rfl) ?_
  refine lv_iconst (v := (2 : Int32)) hx hb dX5_writeRow_35 (by decide) ?_
  obtain ⟨K43_12, eK43_12, hm⟩ := bnd_ex hm
  have J43_12 : ∀ (u11 : OS) (hg8 : Nat → Nat) (hg9 : Nat → Nat) (hg10 : Nat → Nat) (ce sl kc ks : Nat) (H : Heap) (locs : List Loc) (ls : Array Slot), K43_12 u11 = some (o, kc, ks) → ce + kc = mc → sl + ks = ms → va_P (dC, dI) vwCl ([wS cI cJ aS hg8 u11, wW cI cJ aW jW aP u6, wP cI cJ aP hg9 u2, wO cI cJ aO hg10 uO, wA cI cJ jA uA] : List va_W).flatten H → va_D A ([wS cI cJ aS hg8 u11, wW cI cJ aW jW aP u6, wP cI cJ aP hg9 u2, wO cI cJ aO hg10 uO, wA cI cJ jA uA] : List va_W).flatten → va_S A s.heap H locs → lv_has ls 8 [(0, .ref aW), (1, .ref (jA 0)), (2, .int p2), (3, .ref aS), (4, .int p4), (5, .int p5), (6, .ref aO)] → W p l e ({ frames := 6, cells := mc, slots := ms, locals := 171 } : Room) s m ([.ref aW, .ref (jA 0), .int p2, .ref aS, .int p4, .int p5, .ref aO] : List Value).toArray below meth c H locs ce sl Q (F0 m 43 ls []) := by
    intro u11 hg8 hg9 hg10 ce sl kc ks H locs ls hm hc1 hc2 hP hD hS hl
    have hm := ap1 eK43_12 hm
    refine lv_iload_n hx hb dX5_writeRow_43 rfl (lv_at hl 2 rfl) ?_
    refine lv_aload_n hx hb dX5_writeRow_44 rfl (lv_at hl 1 rfl) ?_
    refine va_alen (v := (nI (uA.2.2.2 0))) hx hb hK hP 14 0 rfl rfl rfl dX5_writeRow_45 ?_
    refine va_mmin hx hb (hml.trans hl.1.symm) hown (ht _ kw_351) (ht _ kw_264) (ht _ kw_261) (ht _ kw_265) (Nat.le_of_ble_eq_true rfl) (Nat.le_of_ble_eq_true rfl) (cle1 hc1) (cle1 hc2) dX5_writeRow_46 ?_
    refine lv_iconst (v := (1 : Int32)) hx hb dX5_writeRow_49 (by decide) ?_
    refine lv_isub hx hb dX5_writeRow_50 ?_
    refine lv_topi (fun x13 ex13 => ?_)
    have hm := bnd_nm ex13 hm
    refine lv_istore (lv' := [(7, .int x13), (0, .ref aW), (1, .ref (jA 0)), (2, .int p2), (3, .ref aS), (4, .int p4), (5, .int p5), (6, .ref aO)]) hx hb dX5_writeRow_51 hl (by decide) rfl (fun ls hl => ?_)
    obtain ⟨K91_26, eK91_26, hm⟩ := bnd_ex hm
    have X91_26 : ∀ (x23 : Int32) (u24 : OS) (u25 : OS) (hg20 : Nat → Nat) (hg21 : Nat → Nat) (hg22 : Nat → Nat) (ce sl kc ks : Nat) (H : Heap) (locs : List Loc) (ls : Array Slot), K91_26 x23 u24 u25 = some (o, kc, ks) → ce + kc = mc → sl + ks = ms → va_P (dC, dI) vwCl ([wS cI cJ aS hg20 u11, wW cI cJ aW jW aP u24, wP cI cJ aP hg21 u25, wO cI cJ aO hg22 uO, wA cI cJ jA uA] : List va_W).flatten H → va_D A ([wS cI cJ aS hg20 u11, wW cI cJ aW jW aP u24, wP cI cJ aP hg21 u25, wO cI cJ aO hg22 uO, wA cI cJ jA uA] : List va_W).flatten → va_S A s.heap H locs → lv_has ls 8 [(0, .ref aW), (1, .ref (jA 0)), (2, .int p2), (3, .ref aS), (4, .int p4), (5, .int p5), (6, .ref aO), (7, .int x23)] → W p l e ({ frames := 6, cells := mc, slots := ms, locals := 171 } : Room) s m ([.ref aW, .ref (jA 0), .int p2, .ref aS, .int p4, .int p5, .ref aO] : List Value).toArray below meth c H locs ce sl Q (F0 m 91 ls []) := by
      intro x23 u24 u25 hg20 hg21 hg22 ce sl kc ks H locs ls hm hc1 hc2 hP hD hS hl
      have hm := ap3 eK91_26 hm
      refine lv_aload hx hb dX5_writeRow_91 (lv_at hl 6 rfl) ?_
      have hPc : va_P (dC, dI) vwCl ([wO cI cJ aO hg22 uO] : List va_W).flatten _ := hP.subF [3] rfl
      have hDc : va_D A ([wO cI cJ aO hg22 uO] : List va_W).flatten := hD.subF [3] (by decide) rfl
      have hFc := va_freeF (fc := ([wO cI cJ aO hg22 uO] : List va_W)) hD hS hA [3] rfl
      obtain ⟨u27o, e28, hm⟩ := oC1_of hm
      refine va_callv (va_runV (As := []) (rest := []) ⟨hx, hb, hml, hown, ht⟩ (c_X1_restart l dC dI cI cJ aO hg22 H.size uO u27o e28) (cwV 0 ht (gdV kw_404 kw_402 kw_403 kw_173 kw_401) rfl rfl rfl ⟨rfl, nd_X1_restart⟩ ⟨Nat.le_of_ble_eq_true rfl, Nat.le_of_ble_eq_true rfl⟩) ⟨pcW_blind, va_recv hK hPc (ci := 2) (q0 := 0) rfl rfl, pcW_pre hPc hK hDc hN⟩ rfl rfl hl.1 rfl (lv_room (Nat.le_of_ble_eq_true rfl)) dX5_writeRow_93 ⟨cle0 hc1, cle0 hc2⟩) hS (fun q _ z => hFc q z) hFc (fun uu t H1 locs ht1 hvm hw hB hz1 hk1 hS => ?_)
      obtain ⟨u27, rfl⟩ : ∃ z, z = uu := ⟨_, rfl⟩
      obtain ⟨hP1, hD1⟩ := hB
      rw [ht1] at hP1
      obtain rfl : u27 = u27o := Option.some.inj hw
      obtain ⟨hP, hD⟩ := va_joinF (fr := ([wS cI cJ aS hg20 u11, wW cI cJ aW jW aP u24, wP cI cJ aP hg21 u25, wA cI cJ jA uA] : List va_W)) (f1 := ([wO cI cJ aO hg22 u27] : List va_W)) hP hD [3] [0, 1, 2, 4] rfl rfl (by decide) (by decide) hk1 hFc hP1 hD1
      have hP : va_P (dC, dI) vwCl ([wS cI cJ aS hg20 u11, wW cI cJ aW jW aP u24, wP cI cJ aP hg21 u25, wO cI cJ aO hg22 u27, wA cI cJ jA uA] : List va_W).flatten H1 := hP.subF [0, 1, 2, 4, 3] rfl
      have hD : va_D A ([wS cI cJ aS hg20 u11, wW cI cJ aW jW aP u24, wP cI cJ aP hg21 u25, wO cI cJ aO hg22 u27, wA cI cJ jA uA] : List va_W).flatten := hD.subF [0, 1, 2, 4, 3] (by decide) rfl
      generalize H1 = H at hP hS ⊢
      refine W.cs (Nat.add_zero _) (Nat.add_zero _) ?_
      refine lv_aload_n hx hb dX5_writeRow_96 rfl (lv_at hl 0 rfl) ?_
      refine lv_iload hx hb dX5_writeRow_97 (lv_at hl 4 rfl) ?_
      refine lv_iload_n hx hb dX5_writeRow_99 rfl (lv_at hl 2 rfl) ?_
      refine lv_aload_n hx hb dX5_writeRow_100 rfl (lv_at hl 3 rfl) ?_
      refine lv_aload hx hb dX5_writeRow_101 (lv_at hl 6 rfl) ?_
      have hPc : va_P (dC, dI) vwCl ([wS cI cJ aS hg20 u11, wW cI cJ aW jW aP u24, wO cI cJ aO hg22 u27] : List va_W).flatten _ := hP.subF [0, 1, 3] rfl
      have hDc : va_D A ([wS cI cJ aS hg20 u11, wW cI cJ aW jW aP u24, wO cI cJ aO hg22 u27] : List va_W).flatten := hD.subF [0, 1, 3] (by decide) rfl
      have hFc := va_freeF (fc := ([wS cI cJ aS hg20 u11, wW cI cJ aW jW aP u24, wO cI cJ aO hg22 u27] : List va_W)) hD hS hA [0, 1, 3] rfl
      obtain ⟨u29o, kc32, ks32, e31, hm⟩ := oA1_of hm
      obtain ⟨kcq33, ksq33, hm, hkcq33, hksq33⟩ := addc_of hm
      refine va_callv (va_runV (As := [.int p4, .int p2, .ref aS, .ref aO]) (rest := []) ⟨hx, hb, hml, hown, ht⟩ (c_X5_putHead l dC dI cI cJ aS hg20 aW jW aO hg22 aP H.size u11 u24 u27 p4 p2 u29o kc32 ks32 e31) (cwV 4 ht (gdV kw_408 kw_406 kw_407 kw_371 kw_405) rfl rfl rfl ⟨rfl, nd_X5_putHead⟩ ⟨Nat.le_of_ble_eq_true rfl, Nat.le_of_ble_eq_true rfl⟩) ⟨pcW_blind, va_recv hK hP (ci := 6) (q0 := 8) rfl rfl, pcW_pre hPc hK hDc hN⟩ rfl rfl hl.1 rfl (lv_room (Nat.le_of_ble_eq_true rfl)) dX5_writeRow_103 ⟨cle hc1 hkcq33, cle hc2 hksq33⟩) hS (fun q _ z => hFc q z) hFc (fun uu t H1 locs ht1 hvm hw hB hz1 hk1 hS => ?_)
      obtain ⟨u29, rfl⟩ : ∃ z, z = uu := ⟨_, rfl⟩
      obtain ⟨h30, hP1, hD1⟩ := hB
      rw [ht1] at hP1
      obtain rfl : u29 = u29o := Option.some.inj hw
      obtain ⟨hP, hD⟩ := va_joinF (fr := ([wP cI cJ aP hg21 u25, wA cI cJ jA uA] : List va_W)) (f1 := ([wS cI cJ aS hg20 u11, wW cI cJ aW jW aP u24, wO cI cJ aO h30 u29] : List va_W)) hP hD [0, 1, 3] [2, 4] rfl rfl (by decide) (by decide) hk1 hFc hP1 hD1
      have hP : va_P (dC, dI) vwCl ([wS cI cJ aS hg20 u11, wW cI cJ aW jW aP u24, wP cI cJ aP hg21 u25, wO cI cJ aO h30 u29, wA cI cJ jA uA] : List va_W).flatten H1 := hP.subF [2, 3, 0, 4, 1] rfl
      have hD : va_D A ([wS cI cJ aS hg20 u11, wW cI cJ aW jW aP u24, wP cI cJ aP hg21 u25, wO cI cJ aO h30 u29, wA cI cJ jA uA] : List va_W).flatten := hD.subF [2, 3, 0, 4, 1] (by decide) rfl
      generalize H1 = H at hP hS ⊢
      have hc1 := cadd hc1 hkcq33
      have hc2 := cadd hc2 hksq33
      refine lv_aload_n hx hb dX5_writeRow_106 rfl (lv_at hl 0 rfl) ?_
      refine lv_aload_n hx hb dX5_writeRow_107 rfl (lv_at hl 3 rfl) ?_
      refine lv_aload hx hb dX5_writeRow_108 (lv_at hl 6 rfl) ?_
      have hPc : va_P (dC, dI) vwCl ([wS cI cJ aS hg20 u11, wO cI cJ aO h30 u29] : List va_W).flatten _ := hP.subF [0, 3] rfl
      have hDc : va_D A ([wS cI cJ aS hg20 u11, wO cI cJ aO h30 u29] : List va_W).flatten := hD.subF [0, 3] (by decide) rfl
      have hFc := va_freeF (fc := ([wS cI cJ aS hg20 u11, wO cI cJ aO h30 u29] : List va_W)) hD hS hA [0, 3] rfl
      obtain ⟨u34o, kc37, ks37, e36, hm⟩ := oA1_of hm
      obtain ⟨kcq38, ksq38, hm, hkcq38, hksq38⟩ := addc_of hm
      refine va_callv (va_runV (As := [.ref aS, .ref aO]) (rest := []) ⟨hx, hb, hml, hown, ht⟩ (c_X5_putTable l dC dI cI cJ aS hg20 aO h30 aW H.size u11 u29 u34o kc37 ks37 e36) (cwV 2 ht (gdV kw_412 kw_410 kw_411 kw_371 kw_409) rfl rfl rfl ⟨rfl, nd_X5_putTable⟩ ⟨Nat.le_of_ble_eq_true rfl, Nat.le_of_ble_eq_true rfl⟩) ⟨pcW_blind, va_recv hK hP (ci := 6) (q0 := 8) rfl rfl, pcW_pre hPc hK hDc hN⟩ rfl rfl hl.1 rfl (lv_room (Nat.le_of_ble_eq_true rfl)) dX5_writeRow_110 ⟨cle hc1 hkcq38, cle hc2 hksq38⟩) hS (fun q _ z => hFc q z) hFc (fun uu t H1 locs ht1 hvm hw hB hz1 hk1 hS => ?_)
      obtain ⟨u34, rfl⟩ : ∃ z, z = uu := ⟨_, rfl⟩
      obtain ⟨h35, hP1, hD1⟩ := hB
      rw [ht1] at hP1
      obtain rfl : u34 = u34o := Option.some.inj hw
      obtain ⟨hP, hD⟩ := va_joinF (fr := ([wW cI cJ aW jW aP u24, wP cI cJ aP hg21 u25, wA cI cJ jA uA] : List va_W)) (f1 := ([wS cI cJ aS hg20 u11, wO cI cJ aO h35 u34] : List va_W)) hP hD [0, 3] [1, 2, 4] rfl rfl (by decide) (by decide) hk1 hFc hP1 hD1
      have hP : va_P (dC, dI) vwCl ([wS cI cJ aS hg20 u11, wW cI cJ aW jW aP u24, wP cI cJ aP hg21 u25, wO cI cJ aO h35 u34, wA cI cJ jA uA] : List va_W).flatten H1 := hP.subF [3, 0, 1, 4, 2] rfl
      have hD : va_D A ([wS cI cJ aS hg20 u11, wW cI cJ aW jW aP u24, wP cI cJ aP hg21 u25, wO cI cJ aO h35 u34, wA cI cJ jA uA] : List va_W).flatten := hD.subF [3, 0, 1, 4, 2] (by decide) rfl
      generalize H1 = H at hP hS ⊢
      have hc1 := cadd hc1 hkcq38
      have hc2 := cadd hc2 hksq38
      refine lv_iconst (v := (0 : Int32)) hx hb dX5_writeRow_113 (by decide) ?_
      refine lv_istore (lv' := [(7, .int (0 : Int32)), (0, .ref aW), (1, .ref (jA 0)), (2, .int p2), (3, .ref aS), (4, .int p4), (5, .int p5), (6, .ref aO)]) hx hb dX5_writeRow_114 hl (by decide) rfl (fun ls hl => ?_)
      obtain ⟨K148_49, eK148_49, hm⟩ := bnd_ex hm
      have X148_49 : ∀ (x47 : Int32) (u48 : OS) (hg44 : Nat → Nat) (hg45 : Nat → Nat) (hg46 : Nat → Nat) (ce sl kc ks : Nat) (H : Heap) (locs : List Loc) (ls : Array Slot), K148_49 x47 u48 = some (o, kc, ks) → ce + kc = mc → sl + ks = ms → va_P (dC, dI) vwCl ([wS cI cJ aS hg44 u11, wW cI cJ aW jW aP u24, wP cI cJ aP hg45 u25, wO cI cJ aO hg46 u48, wA cI cJ jA uA] : List va_W).flatten H → va_D A ([wS cI cJ aS hg44 u11, wW cI cJ aW jW aP u24, wP cI cJ aP hg45 u25, wO cI cJ aO hg46 u48, wA cI cJ jA uA] : List va_W).flatten → va_S A s.heap H locs → lv_has ls 8 [(0, .ref aW), (1, .ref (jA 0)), (2, .int p2), (3, .ref aS), (4, .int p4), (5, .int p5), (6, .ref aO), (7, .int x47)] → W p l e ({ frames := 6, cells := mc, slots := ms, locals := 171 } : Room) s m ([.ref aW, .ref (jA 0), .int p2, .ref aS, .int p4, .int p5, .ref aO] : List Value).toArray below meth c H locs ce sl Q (F0 m 148 ls []) := by
        intro x47 u48 hg44 hg45 hg46 ce sl kc ks H locs ls hm hc1 hc2 hP hD hS hl
        have hm := ap2 eK148_49 hm
        refine lv_aload_n hx hb dX5_writeRow_148 rfl (lv_at hl 0 rfl) ?_
        refine va_get (D := (dC, dI)) (ci := 6) (v := .ref aP) (C := RX5) (T := TX5) (N := 4) hx hb ht inX5 hown hK hP 8 rfl rfl 1 (by decide) (ht _ kw_353) (fun _ h9 => h9) rfl dX5_writeRow_149 ?_
        refine lv_aload hx hb dX5_writeRow_152 (lv_at hl 6 rfl) ?_
        have hPc : va_P (dC, dI) vwCl ([wP cI cJ aP hg45 u25, wO cI cJ aO hg46 u48] : List va_W).flatten _ := hP.subF [2, 3] rfl
        have hDc : va_D A ([wP cI cJ aP hg45 u25, wO cI cJ aO hg46 u48] : List va_W).flatten := hD.subF [2, 3] (by decide) rfl
        have hFc := va_freeF (fc := ([wP cI cJ aP hg45 u25, wO cI cJ aO hg46 u48] : List va_W)) hD hS hA [2, 3] rfl
        obtain ⟨u50o, kc53, ks53, e52, hm⟩ := oA1_of hm
        obtain ⟨kcq54, ksq54, hm, hkcq54, hksq54⟩ := addc_of hm
        refine va_callv (va_runV (As := [.ref aO]) (rest := []) ⟨hx, hb, hml, hown, ht⟩ (c_X2_pourInto l dC dI cI cJ aP hg45 aO hg46 H.size u25 u48 u50o kc53 ks53 e52) (cwV 1 ht (gdV kw_416 kw_414 kw_415 kw_361 kw_413) rfl rfl rfl ⟨rfl, nd_X2_pourInto⟩ ⟨Nat.le_of_ble_eq_true rfl, Nat.le_of_ble_eq_true rfl⟩) ⟨pcW_blind, va_recv hK hPc (ci := 3) (q0 := 0) rfl rfl, pcW_pre hPc hK hDc hN⟩ rfl rfl hl.1 rfl (lv_room (Nat.le_of_ble_eq_true rfl)) dX5_writeRow_154 ⟨cle hc1 hkcq54, cle hc2 hksq54⟩) hS (fun q _ z => hFc q z) hFc (fun uu t H1 locs ht1 hvm hw hB hz1 hk1 hS => ?_)
        obtain ⟨u50, rfl⟩ : ∃ z, z = uu := ⟨_, rfl⟩
        obtain ⟨h51, hP1, hD1⟩ := hB
        rw [ht1] at hP1
        obtain rfl : u50 = u50o := Option.some.inj hw
        obtain ⟨hP, hD⟩ := va_joinF (fr := ([wS cI cJ aS hg44 u11, wW cI cJ aW jW aP u24, wA cI cJ jA uA] : List va_W)) (f1 := ([wP cI cJ aP hg45 u25, wO cI cJ aO h51 u50] : List va_W)) hP hD [2, 3] [0, 1, 4] rfl rfl (by decide) (by decide) hk1 hFc hP1 hD1
        have hP : va_P (dC, dI) vwCl ([wS cI cJ aS hg44 u11, wW cI cJ aW jW aP u24, wP cI cJ aP hg45 u25, wO cI cJ aO h51 u50, wA cI cJ jA uA] : List va_W).flatten H1 := hP.subF [0, 1, 3, 4, 2] rfl
        have hD : va_D A ([wS cI cJ aS hg44 u11, wW cI cJ aW jW aP u24, wP cI cJ aP hg45 u25, wO cI cJ aO h51 u50, wA cI cJ jA uA] : List va_W).flatten := hD.subF [0, 1, 3, 4, 2] (by decide) rfl
        generalize H1 = H at hP hS ⊢
        have hc1 := cadd hc1 hkcq54
        have hc2 := cadd hc2 hksq54
        refine lv_aload_n hx hb dX5_writeRow_157 rfl (lv_at hl 0 rfl) ?_
        refine lv_iconst (v := (1 : Int32)) hx hb dX5_writeRow_158 (by decide) ?_
        refine va_put (D := (dC, dI)) (ci := 6) (v := .int (1 : Int32)) (ty := .boolean) (C := RX5) (T := TX5) (N := 4) hx hb ht inX5 tyX5 tyX5_ok nmX5 hown hK hP hD hS 8 rfl rfl 3 (by decide) (ht _ kw_393) (fun _ h9 => h9) rfl (by decide +kernel) rfl rfl (Nat.le_of_ble_eq_true rfl) dX5_writeRow_159 (fun H locs hP hD hS => ?_)
        obtain ⟨u55, eu55, hm⟩ := bnd_ex hm
        have hP : va_P (dC, dI) vwCl ([wS cI cJ aS hg44 u11, wW cI cJ aW jW aP u55, wP cI cJ aP hg45 u25, wO cI cJ aO h51 u50, wA cI cJ jA uA] : List va_W).flatten H := by rw [eu55]; exact hP
        have hD : va_D A ([wS cI cJ aS hg44 u11, wW cI cJ aW jW aP u55, wP cI cJ aP hg45 u25, wO cI cJ aO h51 u50, wA cI cJ jA uA] : List va_W).flatten := by rw [eu55]; exact hD
        obtain ⟨hmz, hz1, hz2⟩ := ret0 hm
        subst hz1
        subst hz2
        refine W.cs (cells' := mc) (slots' := ms) hc1 hc2 ?_
        rw [← hQ]
        exact W.vret hx hb hr (fun t ht1 hW => ⟨⟨(u11, u55, u25, u50), rfl, hmz, hg44, hg45, h51, by rw [ht1]; exact hP, hD⟩, hS.F ht1⟩) hS.2.2 dX5_writeRow_162
      have LP116 : ∀ (n116 : Nat) (x42 : Int32) (u43 : OS) (hg39 : Nat → Nat) (hg40 : Nat → Nat) (hg41 : Nat → Nat) (ce sl kc ks : Nat) (H : Heap) (locs : List Loc) (ls : Array Slot), f_X5_writeRow_L116 p4 u24 n116 K148_49 x42 u43 = some (o, kc, ks) → ce + kc = mc → sl + ks = ms → va_P (dC, dI) vwCl ([wS cI cJ aS hg39 u11, wW cI cJ aW jW aP u24, wP cI cJ aP hg40 u25, wO cI cJ aO hg41 u43, wA cI cJ jA uA] : List va_W).flatten H → va_D A ([wS cI cJ aS hg39 u11, wW cI cJ aW jW aP u24, wP cI cJ aP hg40 u25, wO cI cJ aO hg41 u43, wA cI cJ jA uA] : List va_W).flatten → va_S A s.heap H locs → lv_has ls 8 [(0, .ref aW), (1, .ref (jA 0)), (2, .int p2), (3, .ref aS), (4, .int p4), (5, .int p5), (6, .ref aO), (7, .int x42)] → W p l e ({ frames := 6, cells := mc, slots := ms, locals := 171 } : Room) s m ([.ref aW, .ref (jA 0), .int p2, .ref aS, .int p4, .int p5, .ref aO] : List Value).toArray below meth c H locs ce sl Q (F0 m 116 ls []) := by
        intro n116
        induction n116 with
        | zero => intro x42 u43 hg39 hg40 hg41 ce sl kc ks H locs ls hm; exact nomatch (show (none : Option _) = some _ from hm)
        | succ n116 ih116 =>
          intro x42 u43 hg39 hg40 hg41 ce sl kc ks H locs ls hm hc1 hc2 hP hD hS hl
          unfold f_X5_writeRow_L116 at hm
          refine lv_iload hx hb dX5_writeRow_116 (lv_at hl 7 rfl) ?_
          refine lv_aload_n hx hb dX5_writeRow_118 rfl (lv_at hl 0 rfl) ?_
          refine va_get (D := (dC, dI)) (ci := 6) (v := .int (u24.1 2)) (C := RX5) (T := TX5) (N := 4) hx hb ht inX5 hown hK hP 8 rfl rfl 2 (by decide) (ht _ kw_352) (fun _ h9 => h9) rfl dX5_writeRow_119 ?_
          refine lv_icmp_ge (tgt := 148) hx hb dX5_writeRow_122 (by decide) (fun c56 => ?_) (fun c56 => ?_)
          · have hm := ite_t c56 hm
            exact X148_49 x42 u43 hg39 hg40 hg41 _ _ _ _ _ _ _ hm hc1 hc2 hP hD hS (lv_sub hl [0, 1, 2, 3, 4, 5, 6, 7] rfl)
          · have hm := ite_f c56 hm
            refine lv_aload hx hb dX5_writeRow_125 (lv_at hl 6 rfl) ?_
            refine lv_aload_n hx hb dX5_writeRow_127 rfl (lv_at hl 0 rfl) ?_
            refine va_get (D := (dC, dI)) (ci := 6) (v := .ref (jW 0)) (C := RX5) (T := TX5) (N := 4) hx hb ht inX5 hown hK hP 8 rfl rfl 0 (by decide) (ht _ kw_354) (fun _ h9 => h9) rfl dX5_writeRow_128 ?_
            refine lv_iload hx hb dX5_writeRow_131 (lv_at hl 7 rfl) ?_
            obtain ⟨g57, hm⟩ := gdi_of hm
            refine va_lald hx hb hK hP 9 1 rfl rfl g57 dX5_writeRow_133 ?_
            refine lv_iload hx hb dX5_writeRow_134 (lv_at hl 4 rfl) ?_
            have hPc : va_P (dC, dI) vwCl ([] : List va_W).flatten _ := hP.subF [] rfl
            have hDc : va_D A ([] : List va_W).flatten := hD.subF [] (by decide) rfl
            have hFc := va_freeF (fc := ([] : List va_W)) hD hS hA [] rfl
            obtain ⟨r58o, e59, hm⟩ := oC1_of hm
            refine va_calli (va_runSN (As := [.int p4]) (rest := [.long (u24.2.2.1 0 (x42).toNatClampNeg), .ref aO]) ⟨hx, hb, hml, hown, ht⟩ (c_X6_stateWidth l dC dI cI cJ H.size p4 r58o e59) ⟨va_cnB 1 ht (gdC kw_243) rfl rfl rfl (hN _ kn_17) (ht _ kw_161) nd_X6_stateWidth ⟨Nat.le_of_ble_eq_true rfl, Nat.le_of_ble_eq_true rfl⟩, ht _ kw_244, trivial⟩ ⟨pcW_blind, pcW_pre hPc hK hDc hN⟩ rfl rfl hl.1 rfl (lv_room (Nat.le_of_ble_eq_true rfl)) dX5_writeRow_136 ⟨cle0 hc1, cle0 hc2⟩) hS (fun q _ z => hFc q z) hFc (fun r58 uu t H1 locs ht1 hvm hw hB hz1 hk1 hS => ?_)
            obtain ⟨⟩ := uu
            obtain ⟨hP1, hD1⟩ := hB
            rw [ht1] at hP1
            obtain rfl : r58 = r58o := Option.some.inj hw
            obtain ⟨hP, hD⟩ := va_joinF (fr := ([wS cI cJ aS hg39 u11, wW cI cJ aW jW aP u24, wP cI cJ aP hg40 u25, wO cI cJ aO hg41 u43, wA cI cJ jA uA] : List va_W)) (f1 := ([] : List va_W)) hP hD [] [0, 1, 2, 3, 4] rfl rfl (by decide) (by decide) hk1 hFc hP1 hD1
            have hP : va_P (dC, dI) vwCl ([wS cI cJ aS hg39 u11, wW cI cJ aW jW aP u24, wP cI cJ aP hg40 u25, wO cI cJ aO hg41 u43, wA cI cJ jA uA] : List va_W).flatten H1 := hP
            have hD : va_D A ([wS cI cJ aS hg39 u11, wW cI cJ aW jW aP u24, wP cI cJ aP hg40 u25, wO cI cJ aO hg41 u43, wA cI cJ jA uA] : List va_W).flatten := hD
            generalize H1 = H at hP hS ⊢
            refine W.cs (Nat.add_zero _) (Nat.add_zero _) ?_
            have hPc : va_P (dC, dI) vwCl ([wO cI cJ aO hg41 u43] : List va_W).flatten _ := hP.subF [3] rfl
            have hDc : va_D A ([wO cI cJ aO hg41 u43] : List va_W).flatten := hD.subF [3] (by decide) rfl
            have hFc := va_freeF (fc := ([wO cI cJ aO hg41 u43] : List va_W)) hD hS hA [3] rfl
            obtain ⟨u60o, kc63, ks63, e62, hm⟩ := oA1_of hm
            obtain ⟨kcq64, ksq64, hm, hkcq64, hksq64⟩ := addc_of hm
            refine va_callv (va_runV (As := [.long (u24.2.2.1 0 (x42).toNatClampNeg), .int r58]) (rest := []) ⟨hx, hb, hml, hown, ht⟩ (c_X1_appendNumber l dC dI cI cJ aO hg41 H.size u43 (u24.2.2.1 0 (x42).toNatClampNeg) r58 u60o kc63 ks63 e62) (cwV 2 ht (gdV kw_388 kw_386 kw_387 kw_173 kw_385) rfl rfl rfl ⟨rfl, nd_X1_appendNumber⟩ ⟨Nat.le_of_ble_eq_true rfl, Nat.le_of_ble_eq_true rfl⟩) ⟨pcW_blind, va_recv hK hPc (ci := 2) (q0 := 0) rfl rfl, pcW_pre hPc hK hDc hN⟩ rfl rfl hl.1 rfl (lv_room (Nat.le_of_ble_eq_true rfl)) dX5_writeRow_139 ⟨cle hc1 hkcq64, cle hc2 hksq64⟩) hS (fun q _ z => hFc q z) hFc (fun uu t H1 locs ht1 hvm hw hB hz1 hk1 hS => ?_)
            obtain ⟨u60, rfl⟩ : ∃ z, z = uu := ⟨_, rfl⟩
            obtain ⟨h61, hP1, hD1⟩ := hB
            rw [ht1] at hP1
            obtain rfl : u60 = u60o := Option.some.inj hw
            obtain ⟨hP, hD⟩ := va_joinF (fr := ([wS cI cJ aS hg39 u11, wW cI cJ aW jW aP u24, wP cI cJ aP hg40 u25, wA cI cJ jA uA] : List va_W)) (f1 := ([wO cI cJ aO h61 u60] : List va_W)) hP hD [3] [0, 1, 2, 4] rfl rfl (by decide) (by decide) hk1 hFc hP1 hD1
            have hP : va_P (dC, dI) vwCl ([wS cI cJ aS hg39 u11, wW cI cJ aW jW aP u24, wP cI cJ aP hg40 u25, wO cI cJ aO h61 u60, wA cI cJ jA uA] : List va_W).flatten H1 := hP.subF [0, 1, 2, 4, 3] rfl
            have hD : va_D A ([wS cI cJ aS hg39 u11, wW cI cJ aW jW aP u24, wP cI cJ aP hg40 u25, wO cI cJ aO h61 u60, wA cI cJ jA uA] : List va_W).flatten := hD.subF [0, 1, 2, 4, 3] (by decide) rfl
            generalize H1 = H at hP hS ⊢
            have hc1 := cadd hc1 hkcq64
            have hc2 := cadd hc2 hksq64
            obtain ⟨x65, ex65, hm⟩ := bnd_ex hm
            refine lv_iinc (v := x65) (lv' := [(7, .int x65), (0, .ref aW), (1, .ref (jA 0)), (2, .int p2), (3, .ref aS), (4, .int p4), (5, .int p5), (6, .ref aO)]) hx hb dX5_writeRow_142 hl (k := 7) rfl (by rw [ex65]; exact congrArg _ (by decide)) (by decide) rfl (fun ls hl => ?_)
            refine lv_goto (tgt := 116) hx hb dX5_writeRow_145 (by decide) ?_
            exact ih116 x65 u60 hg39 hg40 h61 _ _ _ _ _ _ _ hm hc1 hc2 hP hD hS (lv_sub hl [1, 2, 3, 4, 5, 6, 7, 0] rfl)
      exact LP116 FU (0 : Int32) u34 hg20 hg21 h35 _ _ _ _ _ _ _ hm hc1 hc2 hP hD hS (lv_sub hl [1, 2, 3, 4, 5, 6, 7, 0] rfl)
    have LP53 : ∀ (n53 : Nat) (x17 : Int32) (u18 : OS) (u19 : OS) (hg14 : Nat → Nat) (hg15 : Nat → Nat) (hg16 : Nat → Nat) (ce sl kc ks : Nat) (H : Heap) (locs : List Loc) (ls : Array Slot), f_X5_writeRow_L53 uA p4 u11 n53 K91_26 x17 u18 u19 = some (o, kc, ks) → ce + kc = mc → sl + ks = ms → va_P (dC, dI) vwCl ([wS cI cJ aS hg14 u11, wW cI cJ aW jW aP u18, wP cI cJ aP hg15 u19, wO cI cJ aO hg16 uO, wA cI cJ jA uA] : List va_W).flatten H → va_D A ([wS cI cJ aS hg14 u11, wW cI cJ aW jW aP u18, wP cI cJ aP hg15 u19, wO cI cJ aO hg16 uO, wA cI cJ jA uA] : List va_W).flatten → va_S A s.heap H locs → lv_has ls 8 [(0, .ref aW), (1, .ref (jA 0)), (2, .int p2), (3, .ref aS), (4, .int p4), (5, .int p5), (6, .ref aO), (7, .int x17)] → W p l e ({ frames := 6, cells := mc, slots := ms, locals := 171 } : Room) s m ([.ref aW, .ref (jA 0), .int p2, .ref aS, .int p4, .int p5, .ref aO] : List Value).toArray below meth c H locs ce sl Q (F0 m 53 ls []) := by
      intro n53
      induction n53 with
      | zero => intro x17 u18 u19 hg14 hg15 hg16 ce sl kc ks H locs ls hm; exact nomatch (show (none : Option _) = some _ from hm)
      | succ n53 ih53 =>
        intro x17 u18 u19 hg14 hg15 hg16 ce sl kc ks H locs ls hm hc1 hc2 hP hD hS hl
        unfold f_X5_writeRow_L53 at hm
        refine lv_iload hx hb dX5_writeRow_53 (lv_at hl 7 rfl) ?_
        refine lv_if_lt (tgt := 91) hx hb dX5_writeRow_55 (by decide) (fun c66 => ?_) (fun c66 => ?_)
        · have hm := ite_t c66 hm
          exact X91_26 x17 u18 u19 hg14 hg15 hg16 _ _ _ _ _ _ _ hm hc1 hc2 hP hD hS (lv_sub hl [0, 1, 2, 3, 4, 5, 6, 7] rfl)
        · have hm := ite_f c66 hm
          refine lv_aload_n hx hb dX5_writeRow_58 rfl (lv_at hl 0 rfl) ?_
          refine va_get (D := (dC, dI)) (ci := 6) (v := .ref aP) (C := RX5) (T := TX5) (N := 4) hx hb ht inX5 hown hK hP 8 rfl rfl 1 (by decide) (ht _ kw_353) (fun _ h9 => h9) rfl dX5_writeRow_59 ?_
          have hPc : va_P (dC, dI) vwCl ([wP cI cJ aP hg15 u19] : List va_W).flatten _ := hP.subF [2] rfl
          have hDc : va_D A ([wP cI cJ aP hg15 u19] : List va_W).flatten := hD.subF [2] (by decide) rfl
          have hFc := va_freeF (fc := ([wP cI cJ aP hg15 u19] : List va_W)) hD hS hA [2] rfl
          obtain ⟨u67o, kc70, ks70, e69, hm⟩ := oA1_of hm
          obtain ⟨kcq71, ksq71, hm, hkcq71, hksq71⟩ := addc_of hm
          refine va_callv (va_runV (As := []) (rest := []) ⟨hx, hb, hml, hown, ht⟩ (c_X2_makeRoomForSign l dC dI cI cJ aP hg15 H.size u19 u67o kc70 ks70 e69) (cwV 0 ht (gdV kw_420 kw_418 kw_419 kw_361 kw_417) rfl rfl rfl ⟨rfl, nd_X2_makeRoomForSign⟩ ⟨Nat.le_of_ble_eq_true rfl, Nat.le_of_ble_eq_true rfl⟩) ⟨pcW_blind, va_recv hK hPc (ci := 3) (q0 := 0) rfl rfl, pcW_pre hPc hK hDc hN⟩ rfl rfl hl.1 rfl (lv_room (Nat.le_of_ble_eq_true rfl)) dX5_writeRow_62 ⟨cle hc1 hkcq71, cle hc2 hksq71⟩) hS (fun q _ z => hFc q z) hFc (fun uu t H1 locs ht1 hvm hw hB hz1 hk1 hS => ?_)
          obtain ⟨u67, rfl⟩ : ∃ z, z = uu := ⟨_, rfl⟩
          obtain ⟨h68, hP1, hD1⟩ := hB
          rw [ht1] at hP1
          obtain rfl : u67 = u67o := Option.some.inj hw
          obtain ⟨hP, hD⟩ := va_joinF (fr := ([wS cI cJ aS hg14 u11, wW cI cJ aW jW aP u18, wO cI cJ aO hg16 uO, wA cI cJ jA uA] : List va_W)) (f1 := ([wP cI cJ aP h68 u67] : List va_W)) hP hD [2] [0, 1, 3, 4] rfl rfl (by decide) (by decide) hk1 hFc hP1 hD1
          have hP : va_P (dC, dI) vwCl ([wS cI cJ aS hg14 u11, wW cI cJ aW jW aP u18, wP cI cJ aP h68 u67, wO cI cJ aO hg16 uO, wA cI cJ jA uA] : List va_W).flatten H1 := hP.subF [0, 1, 4, 2, 3] rfl
          have hD : va_D A ([wS cI cJ aS hg14 u11, wW cI cJ aW jW aP u18, wP cI cJ aP h68 u67, wO cI cJ aO hg16 uO, wA cI cJ jA uA] : List va_W).flatten := hD.subF [0, 1, 4, 2, 3] (by decide) rfl
          generalize H1 = H at hP hS ⊢
          have hc1 := cadd hc1 hkcq71
          have hc2 := cadd hc2 hksq71
          refine lv_aload_n hx hb dX5_writeRow_65 rfl (lv_at hl 0 rfl) ?_
          refine lv_iload hx hb dX5_writeRow_66 (lv_at hl 4 rfl) ?_
          refine lv_iload hx hb dX5_writeRow_68 (lv_at hl 7 rfl) ?_
          refine lv_aload_n hx hb dX5_writeRow_70 rfl (lv_at hl 0 rfl) ?_
          refine va_get (D := (dC, dI)) (ci := 6) (v := .int (u18.1 2)) (C := RX5) (T := TX5) (N := 4) hx hb ht inX5 hown hK hP 8 rfl rfl 2 (by decide) (ht _ kw_352) (fun _ h9 => h9) rfl dX5_writeRow_71 ?_
          refine lv_iconst (v := (1 : Int32)) hx hb dX5_writeRow_74 (by decide) ?_
          refine lv_isub hx hb dX5_writeRow_75 ?_
          refine lv_iand hx hb dX5_writeRow_76 ?_
          refine lv_aload_n hx hb dX5_writeRow_77 rfl (lv_at hl 1 rfl) ?_
          refine lv_iload hx hb dX5_writeRow_78 (lv_at hl 7 rfl) ?_
          obtain ⟨g72, hm⟩ := gdi_of hm
          refine va_iald hx hb hK hP 14 0 rfl rfl g72 dX5_writeRow_80 ?_
          refine lv_aload_n hx hb dX5_writeRow_81 rfl (lv_at hl 3 rfl) ?_
          have hPc : va_P (dC, dI) vwCl ([wS cI cJ aS hg14 u11, wW cI cJ aW jW aP u18, wP cI cJ aP h68 u67] : List va_W).flatten _ := hP.subF [0, 1, 2] rfl
          have hDc : va_D A ([wS cI cJ aS hg14 u11, wW cI cJ aW jW aP u18, wP cI cJ aP h68 u67] : List va_W).flatten := hD.subF [0, 1, 2] (by decide) rfl
          have hFc := va_freeF (fc := ([wS cI cJ aS hg14 u11, wW cI cJ aW jW aP u18, wP cI cJ aP h68 u67] : List va_W)) hD hS hA [0, 1, 2] rfl
          obtain ⟨u73o, u74o, e75, hm⟩ := oC2_of hm
          refine va_callv (va_runV (As := [.int p4, .int (x17 &&& ((u18.1 2) - (1 : Int32))), .int (uA.2.1 0 (x17).toNatClampNeg), .ref aS]) (rest := []) ⟨hx, hb, hml, hown, ht⟩ (c_X5_putSign l dC dI cI cJ aS hg14 aW jW aP h68 H.size u11 u18 u67 p4 (x17 &&& ((u18.1 2) - (1 : Int32))) (uA.2.1 0 (x17).toNatClampNeg) (u73o, u74o) e75) (cwV 4 ht (gdV kw_424 kw_422 kw_423 kw_371 kw_421) rfl rfl rfl ⟨rfl, nd_X5_putSign⟩ ⟨Nat.le_of_ble_eq_true rfl, Nat.le_of_ble_eq_true rfl⟩) ⟨pcW_blind, va_recv hK hP (ci := 6) (q0 := 8) rfl rfl, pcW_pre hPc hK hDc hN⟩ rfl rfl hl.1 rfl (lv_room (Nat.le_of_ble_eq_true rfl)) dX5_writeRow_82 ⟨cle0 hc1, cle0 hc2⟩) hS (fun q _ z => hFc q z) hFc (fun uu t H1 locs ht1 hvm hw hB hz1 hk1 hS => ?_)
          obtain ⟨u73, u74⟩ := uu
          obtain ⟨hP1, hD1⟩ := hB
          rw [ht1] at hP1
          obtain ⟨q0, q1⟩ := inj2 hw
          subst q0
          subst q1
          obtain ⟨hP, hD⟩ := va_joinF (fr := ([wO cI cJ aO hg16 uO, wA cI cJ jA uA] : List va_W)) (f1 := ([wS cI cJ aS hg14 u11, wW cI cJ aW jW aP u73, wP cI cJ aP h68 u74] : List va_W)) hP hD [0, 1, 2] [3, 4] rfl rfl (by decide) (by decide) hk1 hFc hP1 hD1
          have hP : va_P (dC, dI) vwCl ([wS cI cJ aS hg14 u11, wW cI cJ aW jW aP u73, wP cI cJ aP h68 u74, wO cI cJ aO hg16 uO, wA cI cJ jA uA] : List va_W).flatten H1 := hP.subF [2, 3, 4, 0, 1] rfl
          have hD : va_D A ([wS cI cJ aS hg14 u11, wW cI cJ aW jW aP u73, wP cI cJ aP h68 u74, wO cI cJ aO hg16 uO, wA cI cJ jA uA] : List va_W).flatten := hD.subF [2, 3, 4, 0, 1] (by decide) rfl
          generalize H1 = H at hP hS ⊢
          refine W.cs (Nat.add_zero _) (Nat.add_zero _) ?_
          obtain ⟨x76, ex76, hm⟩ := bnd_ex hm
          refine lv_iinc (v := x76) (lv' := [(7, .int x76), (0, .ref aW), (1, .ref (jA 0)), (2, .int p2), (3, .ref aS), (4, .int p4), (5, .int p5), (6, .ref aO)]) hx hb dX5_writeRow_85 hl (k := 7) rfl (by rw [ex76]; exact congrArg _ (by decide)) (by decide) rfl (fun ls hl => ?_)
          refine lv_goto (tgt := 53) hx hb dX5_writeRow_88 (by decide) ?_
          exact ih53 x76 u73 u74 hg14 h68 hg16 _ _ _ _ _ _ _ hm hc1 hc2 hP hD hS (lv_sub hl [1, 2, 3, 4, 5, 6, 7, 0] rfl)
    exact LP53 FU x13 u6 u2 hg8 hg9 hg10 _ _ _ _ _ _ _ hm hc1 hc2 hP hD hS (lv_sub hl [1, 2, 3, 4, 5, 6, 7, 0] rfl)
  refine lv_icmp_ne (tgt := 43) hx hb dX5_writeRow_36 (by decide) (fun c77 => ?_) (fun c77 => ?_)
  · have hm := ite_f c77 hm
    exact J43_12 uS jS jP jO _ _ _ _ _ _ _ hm hc1 hc2 hP hD hS (lv_sub hl [0, 1, 2, 3, 4, 5, 6] rfl)
  · have hm := ite_t c77 hm
    refine lv_aload_n hx hb dX5_writeRow_39 rfl (lv_at hl 3 rfl) ?_
    have hPc : va_P (dC, dI) vwCl ([wS cI cJ aS jS uS] : List va_W).flatten _ := hP.subF [0] rfl
    have hDc : va_D A ([wS cI cJ aS jS uS] : List va_W).flatten := hD.subF [0] (by decide) rfl
    have hFc := va_freeF (fc := ([wS cI cJ aS jS uS] : List va_W)) hD hS hA [0] rfl
    obtain ⟨u78o, kc81, ks81, e80, hm⟩ := oA1_of hm
    obtain ⟨kcq82, ksq82, hm, hkcq82, hksq82⟩ := addc_of hm
    refine va_callv (va_runV (As := []) (rest := []) ⟨hx, hb, hml, hown, ht⟩ (c_X4_makeSpread l dC dI cI cJ aS jS H.size uS u78o kc81 ks81 e80) (cwV 0 ht (gdV kw_425 kw_312 kw_313 kw_199 kw_311) rfl rfl rfl ⟨rfl, nd_X4_makeSpread⟩ ⟨Nat.le_of_ble_eq_true rfl, Nat.le_of_ble_eq_true rfl⟩) ⟨pcW_blind, va_recv hK hPc (ci := 5) (q0 := 0) rfl rfl, pcW_pre hPc hK hDc hN⟩ rfl rfl hl.1 rfl (lv_room (Nat.le_of_ble_eq_true rfl)) dX5_writeRow_40 ⟨cle hc1 hkcq82, cle hc2 hksq82⟩) hS (fun q _ z => hFc q z) hFc (fun uu t H1 locs ht1 hvm hw hB hz1 hk1 hS => ?_)
    obtain ⟨u78, rfl⟩ : ∃ z, z = uu := ⟨_, rfl⟩
    obtain ⟨h79, hP1, hD1⟩ := hB
    rw [ht1] at hP1
    obtain rfl : u78 = u78o := Option.some.inj hw
    obtain ⟨hP, hD⟩ := va_joinF (fr := ([wW cI cJ aW jW aP u6, wP cI cJ aP jP u2, wO cI cJ aO jO uO, wA cI cJ jA uA] : List va_W)) (f1 := ([wS cI cJ aS h79 u78] : List va_W)) hP hD [0] [1, 2, 3, 4] rfl rfl (by decide) (by decide) hk1 hFc hP1 hD1
    have hP : va_P (dC, dI) vwCl ([wS cI cJ aS h79 u78, wW cI cJ aW jW aP u6, wP cI cJ aP jP u2, wO cI cJ aO jO uO, wA cI cJ jA uA] : List va_W).flatten H1 := hP.subF [4, 0, 1, 2, 3] rfl
    have hD : va_D A ([wS cI cJ aS h79 u78, wW cI cJ aW jW aP u6, wP cI cJ aP jP u2, wO cI cJ aO jO uO, wA cI cJ jA uA] : List va_W).flatten := hD.subF [4, 0, 1, 2, 3] (by decide) rfl
    generalize H1 = H at hP hS ⊢
    have hc1 := cadd hc1 hkcq82
    have hc2 := cadd hc2 hksq82
    exact J43_12 u78 h79 jP jO _ _ _ _ _ _ _ hm hc1 hc2 hP hD hS (lv_sub hl [0, 1, 2, 3, 4, 5, 6] rfl)

def f_X6_add (uX : OS) (p1 : Int32) : Option ((OS × Int32) × Nat × Nat) :=
  oC1 (f_X6_isSign p1) fun r1 =>
  if r1 = (0 : Int32) then (
  some ((uX, (-1 : Int32)), 0, 0)) else (
  oA2 (f_withRoom (uX.2.2.2 6) (uX.2.1 6) (uX.1 7) (1000 : Int32)) fun n10 f10 kc10 ks10 =>
  addc kc10 ks10 <|
  bnd (sR uX 6 n10 f10) fun u4 =>
  if (u4.1 7) < (nI (u4.2.2.2 6)) then (
  gdi (u4.1 7) (u4.2.2.2 6) <|
  bnd (sA u4 6 (u4.1 7) p1) fun u8 =>
  bnd (sF u8 7 ((u8.1 7) + (1 : Int32))) fun u9 =>
  some ((u9, (u9.1 7)), 0, 0)) else (
  some ((u4, (-3 : Int32)), 0, 0)))

set_option maxHeartbeats 4000000 in
set_option maxRecDepth 100000 in
theorem c_X6_add (l : Launch) (dC : Nat → ClassId) (dI : Nat → Nat → Nat) (cI cJ : ClassId) (aX : Nat) (jX : Nat → Nat) (aL : Nat) (aS : Nat) (aW : Nat) (aR : Nat) (aO : Nat) (sz : Nat) (uX : OS) (p1 : Int32) (o : OS × Int32) (mc ms : Nat) (hm : f_X6_add uX p1 = some (o, mc, ms)) : Met l yX6_add (wq yX6_add cX6_add 2 (some .int)) ({ frames := 3, cells := mc, slots := ms, locals := 102 } : Room) (va_Pc [.ref aX, .int p1] (pcW dC dI cI cJ sz ([wX cI cJ aX jX aL aS aW aR aO uX] : List va_W).flatten)) (va_Qi (S := OS) (fun r u => some (u, r) = some o) (fun (u : OS) t => ∃ hhX : Nat → Nat, va_P (dC, dI) vwCl ([wX cI cJ aX hhX aL aS aW aR aO u] : List va_W).flatten t.heap ∧ va_D (va_A ([wX cI cJ aX jX aL aS aW aR aO uX] : List va_W).flatten sz) ([wX cI cJ aX hhX aL aS aW aR aO u] : List va_W).flatten) (va_A ([wX cI cJ aX jX aL aS aW aR aO uX] : List va_W).flatten sz)) mc ms (va_A ([wX cI cJ aX jX aL aS aW aR aO uX] : List va_W).flatten sz) := by
  refine Met.ofW (cc := cX6_add) (maxL := 2) (ret := (some .int)) (by decide) rfl ?_
  intro p e s m args below meth c s₁ B hml hv
  obtain ⟨rfl, hsz, hP, hK, hD0, hN⟩ := hv
  have hx := B.exec
  have hb := B.bytes
  have hr := B.returns
  have ht : ∀ w ∈ lw_good, w.before _ s = true := fun w h => atoms_spec (ws := wq yX6_add cX6_add 2 (some .int)) B.pre w (wq_mem h)
  have hown : s.vm.findClass RX6 = some m.cls := findClass_of_methodNamed B.named
  have hlocks := B.notSynchronized
  subst hsz
  have hD := hD0.self (sz := s.heap.size)
  generalize hAe : va_A ([wX cI cJ aX jX aL aS aW aR aO uX] : List va_W).flatten s.heap.size = A at hD ⊢
  have hA : ∀ q : Nat, s.heap.size ≤ q → A q := fun q h => by rw [← hAe]; exact Or.inr h
  have hS : va_S A s.heap s.heap [] := va_S.rf
  have hl := lv_entry ([.ref aX, .int p1]) (n := 2) (Nat.le_of_ble_eq_true rfl)
  rw [lg_entry_eq]
  generalize (lg_sl ([.ref aX, .int p1]) ++ List.replicate (2 - (lg_sl ([.ref aX, .int p1])).length) Slot.unset).toArray = ls at hl ⊢
  have hl : lv_has ls 2 [(0, .ref aX), (1, .int p1)] := hl
  generalize hQ : MQ below _ _ s _ _ _ = Q
  generalize hH : s.heap = H at hP ⊢
  have hS : va_S A s.heap H [] := by rw [← hH]; exact va_S.rf
  obtain ⟨ce, hce⟩ := ex_eq (0 : Nat)
  obtain ⟨sl, hsl⟩ := ex_eq (0 : Nat)
  obtain ⟨kc, hkc⟩ := ex_eq mc
  obtain ⟨ks, hks⟩ := ex_eq ms
  rw [← hkc, ← hks] at hm
  have hc1 : ce + kc = mc := by omega
  have hc2 : sl + ks = ms := by omega
  suffices hw : W p l e ({ frames := 3, cells := mc, slots := ms, locals := 102 } : Room) s m ([.ref aX, .int p1] : List Value).toArray below meth c H [] ce sl Q (F0 m 0 ls []) by rw [hce, hsl] at hw; exact hw
  clear hce hsl hkc hks
  unfold f_X6_add at hm
  refine lv_iload_n hx hb dX6_add_0 rfl (lv_at hl 1 rfl) ?_
  have hPc : va_P (dC, dI) vwCl ([] : List va_W).flatten _ := hP.subF [] rfl
  have hDc : va_D A ([] : List va_W).flatten := hD.subF [] (by decide) rfl
  have hFc := va_freeF (fc := ([] : List va_W)) hD hS hA [] rfl
  obtain ⟨r1o, e2, hm⟩ := oC1_of hm
  refine va_calli (va_runS (As := [.int p1]) (rest := []) ⟨hx, hb, hml, hown, ht⟩ (c_X6_isSign l dC dI cI cJ H.size p1 r1o e2) (va_cwS 1 ht (gdS kw_428 kw_215 kw_161 kw_214) rfl rfl rfl nd_X6_isSign ⟨Nat.le_of_ble_eq_true rfl, Nat.le_of_ble_eq_true rfl⟩) ⟨pcW_blind, pcW_pre hPc hK hDc hN⟩ rfl rfl hl.1 rfl (lv_room (Nat.le_of_ble_eq_true rfl)) dX6_add_1 ⟨cle0 hc1, cle0 hc2⟩) hS (fun q _ z => hFc q z) hFc (fun r1 uu t H1 locs ht1 hvm hw hB hz1 hk1 hS => ?_)
  obtain ⟨⟩ := uu
  obtain ⟨hP1, hD1⟩ := hB
  rw [ht1] at hP1
  obtain rfl : r1 = r1o := Option.some.inj hw
  obtain ⟨hP, hD⟩ := va_joinF (fr := ([wX cI cJ aX jX aL aS aW aR aO uX] : List va_W)) (f1 := ([] : List va_W)) hP hD [] [0] rfl rfl (by decide) (by decide) hk1 hFc hP1 hD1
  have hP : va_P (dC, dI) vwCl ([wX cI cJ aX jX aL aS aW aR aO uX] : List va_W).flatten H1 := hP
  have hD : va_D A ([wX cI cJ aX jX aL aS aW aR aO uX] : List va_W).flatten := hD
  generalize H1 = H at hP hS ⊢
  refine W.cs (Nat.add_zero _) (Nat.add_zero _) ?_
  refine lv_if_ne (tgt := 9) hx hb dX6_add_4 (by decide) (fun c3 => ?_) (fun c3 => ?_)
  · have hm := ite_f c3 hm
    refine lv_aload_n hx hb dX6_add_9 rfl (lv_at hl 0 rfl) ?_
    refine lv_aload_n hx hb dX6_add_10 rfl (lv_at hl 0 rfl) ?_
    refine va_get (D := (dC, dI)) (ci := 7) (v := .ref (jX 6)) (C := RX6) (T := TX6) (N := 10) hx hb ht inX6 hown hK hP 0 rfl rfl 6 (by decide) (ht _ kw_426) (fun _ h9 => h9) rfl dX6_add_11 ?_
    refine lv_aload_n hx hb dX6_add_14 rfl (lv_at hl 0 rfl) ?_
    refine va_get (D := (dC, dI)) (ci := 7) (v := .int (uX.1 7)) (C := RX6) (T := TX6) (N := 10) hx hb ht inX6 hown hK hP 0 rfl rfl 7 (by decide) (ht _ kw_427) (fun _ h9 => h9) rfl dX6_add_15 ?_
    refine lv_sipush (v := (1000 : Int32)) hx hb dX6_add_18 (by decide) ?_
    have hPc : va_P (dC, dI) vwCl [((jX 6), .inl (cI, (uX.2.2.2 6), .inl (uX.2.1 6)))] _ := hP.sub [2] rfl
    have hDc : va_D A [((jX 6), .inl (cI, (uX.2.2.2 6), .inl (uX.2.1 6)))] := hD.sub [2] (by decide) rfl
    have hFc := va_free (wc := [((jX 6), .inl (cI, (uX.2.2.2 6), .inl (uX.2.1 6)))]) hD hS hA [2] rfl
    obtain ⟨n10, f10, kc10, ks10, e10, hm⟩ := oA2_of hm
    obtain ⟨kr10, sr10, hm, hkc10, hks10⟩ := addc_of hm
    refine va_callr (va_runS (As := [.ref (jX 6), .int (uX.1 7), .int (1000 : Int32)]) (rest := [.ref aX]) ⟨hx, hb, hml, hown, ht⟩ (c_withRoom l dC dI cI cJ (jX 6) H.size (uX.2.2.2 6) (uX.2.1 6) (uX.1 7) (1000 : Int32) n10 f10 kc10 ks10 e10) (va_cwS 3 ht (gdS kw_429 kw_171 kw_161 kw_170) rfl rfl rfl nd_X6_withRoom ⟨Nat.le_of_ble_eq_true rfl, Nat.le_of_ble_eq_true rfl⟩) ⟨pcW_blind, pcW_pre hPc hK hDc hN⟩ rfl rfl hl.1 rfl (lv_room (Nat.le_of_ble_eq_true rfl)) dX6_add_21 ⟨cle hc1 hkc10, cle hc2 hks10⟩) hS (fun q _ z => hFc q z) hFc (fun uu ra10 t H1 locs ht1 hvm hw hB hz1 hk1 hS => ?_)
    obtain ⟨hP1, hD1⟩ := hB
    rw [ht1] at hP1
    have hc1 := cadd hc1 hkc10
    have hc2 := cadd hc2 hks10
    obtain ⟨hP, hD⟩ := va_join (wr := [(wX cI cJ aX jX aL aS aW aR aO uX)[0], (wX cI cJ aX jX aL aS aW aR aO uX)[1]]) (w1 := [(ra10, .inl (cI, n10, .inl f10))]) hP hD [2] [0, 1] rfl rfl (by decide) (by decide) hk1 hFc hP1 hD1
    generalize H1 = H at hP hS ⊢
    refine va_put (D := (dC, dI)) (ci := 7) (v := .ref ra10) (ty := .array .int) (C := RX6) (T := TX6) (N := 10) hx hb ht inX6 tyX6 tyX6_ok nmX6 hown hK hP hD hS 0 rfl rfl 6 (by decide) (ht _ kw_426) (fun _ h9 => h9) rfl (by decide +kernel) rfl rfl (Nat.le_of_ble_eq_true rfl) dX6_add_24 (fun H locs hP hD hS => ?_)
    obtain ⟨u4, eu4, hm⟩ := bnd_ex hm
    obtain ⟨h5, eh5⟩ := ex_eq (va_up jX 6 ra10)
    have hP : va_P (dC, dI) vwCl ([wX cI cJ aX h5 aL aS aW aR aO u4] : List va_W).flatten H := by rw [eu4, eh5]; exact hP.sub [0, 1, 2] rfl
    have hD : va_D A ([wX cI cJ aX h5 aL aS aW aR aO u4] : List va_W).flatten := by rw [eu4, eh5]; exact hD.sub [0, 1, 2] (by decide) rfl
    refine lv_aload_n hx hb dX6_add_27 rfl (lv_at hl 0 rfl) ?_
    refine va_get (D := (dC, dI)) (ci := 7) (v := .int (u4.1 7)) (C := RX6) (T := TX6) (N := 10) hx hb ht inX6 hown hK hP 0 rfl rfl 7 (by decide) (ht _ kw_427) (fun _ h9 => h9) rfl dX6_add_28 ?_
    refine lv_aload_n hx hb dX6_add_31 rfl (lv_at hl 0 rfl) ?_
    refine va_get (D := (dC, dI)) (ci := 7) (v := .ref (h5 6)) (C := RX6) (T := TX6) (N := 10) hx hb ht inX6 hown hK hP 0 rfl rfl 6 (by decide) (ht _ kw_426) (fun _ h9 => h9) rfl dX6_add_32 ?_
    refine va_alen (v := (nI (u4.2.2.2 6))) hx hb hK hP 2 0 rfl rfl rfl dX6_add_35 ?_
    refine lv_icmp_lt (tgt := 42) hx hb dX6_add_36 (by decide) (fun c6 => ?_) (fun c6 => ?_)
    · have hm := ite_t c6 hm
      refine lv_aload_n hx hb dX6_add_42 rfl (lv_at hl 0 rfl) ?_
      refine va_get (D := (dC, dI)) (ci := 7) (v := .ref (h5 6)) (C := RX6) (T := TX6) (N := 10) hx hb ht inX6 hown hK hP 0 rfl rfl 6 (by decide) (ht _ kw_426) (fun _ h9 => h9) rfl dX6_add_43 ?_
      refine lv_aload_n hx hb dX6_add_46 rfl (lv_at hl 0 rfl) ?_
      refine va_get (D := (dC, dI)) (ci := 7) (v := .int (u4.1 7)) (C := RX6) (T := TX6) (N := 10) hx hb ht inX6 hown hK hP 0 rfl rfl 7 (by decide) (ht _ kw_427) (fun _ h9 => h9) rfl dX6_add_47 ?_
      refine lv_iload_n hx hb dX6_add_50 rfl (lv_at hl 1 rfl) ?_
      obtain ⟨g7, hm⟩ := gdi_of hm
      refine va_iast hx hb hK hP hD hS 2 0 rfl rfl g7 dX6_add_51 (fun H locs hP hD hS => ?_)
      obtain ⟨u8, eu8, hm⟩ := bnd_ex hm
      have hP : va_P (dC, dI) vwCl ([wX cI cJ aX h5 aL aS aW aR aO u8] : List va_W).flatten H := by rw [eu8]; exact hP
      have hD : va_D A ([wX cI cJ aX h5 aL aS aW aR aO u8] : List va_W).flatten := by rw [eu8]; exact hD
      refine lv_aload_n hx hb dX6_add_52 rfl (lv_at hl 0 rfl) ?_
      refine lv_dup hx hb dX6_add_53 rfl ?_
      refine va_get (D := (dC, dI)) (ci := 7) (v := .int (u8.1 7)) (C := RX6) (T := TX6) (N := 10) hx hb ht inX6 hown hK hP 0 rfl rfl 7 (by decide) (ht _ kw_427) (fun _ h9 => h9) rfl dX6_add_54 ?_
      refine lv_iconst (v := (1 : Int32)) hx hb dX6_add_57 (by decide) ?_
      refine lv_iadd hx hb dX6_add_58 ?_
      refine va_put (D := (dC, dI)) (ci := 7) (v := .int ((u8.1 7) + (1 : Int32))) (ty := .int) (C := RX6) (T := TX6) (N := 10) hx hb ht inX6 tyX6 tyX6_ok nmX6 hown hK hP hD hS 0 rfl rfl 7 (by decide) (ht _ kw_427) (fun _ h9 => h9) rfl (by decide +kernel) rfl rfl (Nat.le_of_ble_eq_true rfl) dX6_add_59 (fun H locs hP hD hS => ?_)
      obtain ⟨u9, eu9, hm⟩ := bnd_ex hm
      have hP : va_P (dC, dI) vwCl ([wX cI cJ aX h5 aL aS aW aR aO u9] : List va_W).flatten H := by rw [eu9]; exact hP
      have hD : va_D A ([wX cI cJ aX h5 aL aS aW aR aO u9] : List va_W).flatten := by rw [eu9]; exact hD
      refine lv_aload_n hx hb dX6_add_62 rfl (lv_at hl 0 rfl) ?_
      refine va_get (D := (dC, dI)) (ci := 7) (v := .int (u9.1 7)) (C := RX6) (T := TX6) (N := 10) hx hb ht inX6 hown hK hP 0 rfl rfl 7 (by decide) (ht _ kw_427) (fun _ h9 => h9) rfl dX6_add_63 ?_
      obtain ⟨hmz, hz1, hz2⟩ := ret0 hm
      subst hz1
      subst hz2
      refine W.cs (cells' := mc) (slots' := ms) hc1 hc2 ?_
      rw [← hQ]
      exact W.iret (v := (u9.1 7)) hx hb hr (fun t ht1 hW => ⟨⟨_, u9, rfl, hmz, h5, by rw [ht1]; exact hP, hD⟩, hS.F ht1⟩) hS.2.2 dX6_add_66
    · have hm := ite_f c6 hm
      refine lv_bipush (v := (-3 : Int32)) hx hb dX6_add_39 (by decide) ?_
      obtain ⟨hmz, hz1, hz2⟩ := ret0 hm
      subst hz1
      subst hz2
      refine W.cs (cells' := mc) (slots' := ms) hc1 hc2 ?_
      rw [← hQ]
      exact W.iret (v := (-3 : Int32)) hx hb hr (fun t ht1 hW => ⟨⟨_, u4, rfl, hmz, h5, by rw [ht1]; exact hP, hD⟩, hS.F ht1⟩) hS.2.2 dX6_add_41
  · have hm := ite_t c3 hm
    refine lv_iconst (v := (-1 : Int32)) hx hb dX6_add_7 (by decide) ?_
    obtain ⟨hmz, hz1, hz2⟩ := ret0 hm
    subst hz1
    subst hz2
    refine W.cs (cells' := mc) (slots' := ms) hc1 hc2 ?_
    rw [← hQ]
    exact W.iret (v := (-1 : Int32)) hx hb hr (fun t ht1 hW => ⟨⟨_, uX, rfl, hmz, jX, by rw [ht1]; exact hP, hD⟩, hS.F ht1⟩) hS.2.2 dX6_add_8

def f_X6_clear (uX : OS) : Option (OS × Int32) :=
  bnd (uX.1 7) fun x1 =>
  bnd (sF uX 7 (0 : Int32)) fun u2 =>
  some (u2, x1)

set_option maxHeartbeats 4000000 in
set_option maxRecDepth 100000 in
theorem c_X6_clear (l : Launch) (dC : Nat → ClassId) (dI : Nat → Nat → Nat) (cI cJ : ClassId) (aX : Nat) (jX : Nat → Nat) (aL : Nat) (aS : Nat) (aW : Nat) (aR : Nat) (aO : Nat) (sz : Nat) (uX : OS) (o : OS × Int32) (hm : f_X6_clear uX = some o) : Met l yX6_clear (wq yX6_clear cX6_clear 2 (some .int)) ({ frames := 0, cells := 0, slots := 0, locals := 0 } : Room) (va_Pc [.ref aX] (pcW dC dI cI cJ sz ([wX cI cJ aX jX aL aS aW aR aO uX] : List va_W).flatten)) (va_Qi (S := OS) (fun r u => some (u, r) = some o) (fun (u : OS) t => va_P (dC, dI) vwCl ([wX cI cJ aX jX aL aS aW aR aO u] : List va_W).flatten t.heap ∧ va_D (va_A ([wX cI cJ aX jX aL aS aW aR aO uX] : List va_W).flatten sz) ([wX cI cJ aX jX aL aS aW aR aO u] : List va_W).flatten) (va_A ([wX cI cJ aX jX aL aS aW aR aO uX] : List va_W).flatten sz)) 0 0 (va_A ([wX cI cJ aX jX aL aS aW aR aO uX] : List va_W).flatten sz) := by
  refine Met.ofW (cc := cX6_clear) (maxL := 2) (ret := (some .int)) (by decide) rfl ?_
  intro p e s m args below meth c s₁ B hml hv
  obtain ⟨rfl, hsz, hP, hK, hD0, hN⟩ := hv
  have hx := B.exec
  have hb := B.bytes
  have hr := B.returns
  have ht : ∀ w ∈ lw_good, w.before _ s = true := fun w h => atoms_spec (ws := wq yX6_clear cX6_clear 2 (some .int)) B.pre w (wq_mem h)
  have hown : s.vm.findClass RX6 = some m.cls := findClass_of_methodNamed B.named
  have hlocks := B.notSynchronized
  subst hsz
  have hD := hD0.self (sz := s.heap.size)
  generalize hAe : va_A ([wX cI cJ aX jX aL aS aW aR aO uX] : List va_W).flatten s.heap.size = A at hD ⊢
  have hA : ∀ q : Nat, s.heap.size ≤ q → A q := fun q h => by rw [← hAe]; exact Or.inr h
  have hS : va_S A s.heap s.heap [] := va_S.rf
  have hl := lv_entry ([.ref aX]) (n := 2) (Nat.le_of_ble_eq_true rfl)
  rw [lg_entry_eq]
  generalize (lg_sl ([.ref aX]) ++ List.replicate (2 - (lg_sl ([.ref aX])).length) Slot.unset).toArray = ls at hl ⊢
  have hl : lv_has ls 2 [(0, .ref aX)] := hl
  generalize hQ : MQ below _ _ s _ _ _ = Q
  generalize hH : s.heap = H at hP ⊢
  have hS : va_S A s.heap H [] := by rw [← hH]; exact va_S.rf
  show W p l e ({ frames := 0, cells := 0, slots := 0, locals := 0 } : Room) s m ([.ref aX] : List Value).toArray below meth c H [] 0 0 Q (F0 m 0 ls [])
  unfold f_X6_clear at hm
  refine lv_aload_n hx hb dX6_clear_0 rfl (lv_at hl 0 rfl) ?_
  refine va_get (D := (dC, dI)) (ci := 7) (v := .int (uX.1 7)) (C := RX6) (T := TX6) (N := 10) hx hb ht inX6 hown hK hP 0 rfl rfl 7 (by decide) (ht _ kw_427) (fun _ h9 => h9) rfl dX6_clear_1 ?_
  refine lv_topi (fun x1 ex1 => ?_)
  have hm := bnd_nm ex1 hm
  refine lv_istore_n (lv' := [(1, .int x1), (0, .ref aX)]) hx hb dX6_clear_4 rfl hl (by decide) rfl (fun ls hl => ?_)
  refine lv_aload_n hx hb dX6_clear_5 rfl (lv_at hl 1 rfl) ?_
  refine lv_iconst (v := (0 : Int32)) hx hb dX6_clear_6 (by decide) ?_
  refine va_put (D := (dC, dI)) (ci := 7) (v := .int (0 : Int32)) (ty := .int) (C := RX6) (T := TX6) (N := 10) hx hb ht inX6 tyX6 tyX6_ok nmX6 hown hK hP hD hS 0 rfl rfl 7 (by decide) (ht _ kw_427) (fun _ h9 => h9) rfl (by decide +kernel) rfl rfl (Nat.le_of_ble_eq_true rfl) dX6_clear_7 (fun H locs hP hD hS => ?_)
  obtain ⟨u2, eu2, hm⟩ := bnd_ex hm
  have hP : va_P (dC, dI) vwCl ([wX cI cJ aX jX aL aS aW aR aO u2] : List va_W).flatten H := by rw [eu2]; exact hP
  have hD : va_D A ([wX cI cJ aX jX aL aS aW aR aO u2] : List va_W).flatten := by rw [eu2]; exact hD
  refine lv_iload_n hx hb dX6_clear_10 rfl (lv_at hl 0 rfl) ?_
  rw [← hQ]
  exact W.iret (v := x1) hx hb hr (fun t ht1 hW => ⟨⟨_, u2, rfl, hm, by rw [ht1]; exact hP, hD⟩, hS.F ht1⟩) hS.2.2 dX6_clear_11

def f_X6_count (uX : OS) (uS : OS) (p1 : Int32) (p2 : Int32) : Option (OS × OS × Int32) :=
  oC1 (f_X6_isSign p1) fun r1 =>
  if r1 = (0 : Int32) then (
  some (uX, uS, (-1 : Int32))) else (
  if p2 < (0 : Int32) then (
  some (uX, uS, (-1 : Int32))) else (
  if p2 ≤ (1000000 : Int32) then (
  gdi p1 32 <|
  bnd (uX.2.1 5 (p1).toNatClampNeg) fun x7 =>
  gdi p1 32 <|
  bnd (sA uX 5 p1 p2) fun u9 =>
  oC1 (f_X4_forget uS) fun u10 =>
  some (u9, u10, x7)) else (
  some (uX, uS, (-1 : Int32)))))

set_option maxHeartbeats 4000000 in
set_option maxRecDepth 100000 in
theorem c_X6_count (l : Launch) (dC : Nat → ClassId) (dI : Nat → Nat → Nat) (cI cJ : ClassId) (aX : Nat) (jX : Nat → Nat) (aS : Nat) (jS : Nat → Nat) (aL : Nat) (aW : Nat) (aR : Nat) (aO : Nat) (sz : Nat) (uX : OS) (uS : OS) (p1 : Int32) (p2 : Int32) (o : OS × OS × Int32) (hm : f_X6_count uX uS p1 p2 = some o) : Met l yX6_count (wq yX6_count cX6_count 4 (some .int)) ({ frames := 2, cells := 0, slots := 0, locals := 44 } : Room) (va_Pc [.ref aX, .int p1, .int p2] (pcW dC dI cI cJ sz ([wX cI cJ aX jX aL aS aW aR aO uX, wS cI cJ aS jS uS] : List va_W).flatten)) (va_Qi (S := OS × OS) (fun r u => some (u.1, u.2, r) = some o) (fun (u : OS × OS) t => va_P (dC, dI) vwCl ([wX cI cJ aX jX aL aS aW aR aO u.1, wS cI cJ aS jS u.2] : List va_W).flatten t.heap ∧ va_D (va_A ([wX cI cJ aX jX aL aS aW aR aO uX, wS cI cJ aS jS uS] : List va_W).flatten sz) ([wX cI cJ aX jX aL aS aW aR aO u.1, wS cI cJ aS jS u.2] : List va_W).flatten) (va_A ([wX cI cJ aX jX aL aS aW aR aO uX, wS cI cJ aS jS uS] : List va_W).flatten sz)) 0 0 (va_A ([wX cI cJ aX jX aL aS aW aR aO uX, wS cI cJ aS jS uS] : List va_W).flatten sz) := by
  refine Met.ofW (cc := cX6_count) (maxL := 4) (ret := (some .int)) (by decide) rfl ?_
  intro p e s m args below meth c s₁ B hml hv
  obtain ⟨rfl, hsz, hP, hK, hD0, hN⟩ := hv
  have hx := B.exec
  have hb := B.bytes
  have hr := B.returns
  have ht : ∀ w ∈ lw_good, w.before _ s = true := fun w h => atoms_spec (ws := wq yX6_count cX6_count 4 (some .int)) B.pre w (wq_mem h)
  have hown : s.vm.findClass RX6 = some m.cls := findClass_of_methodNamed B.named
  have hlocks := B.notSynchronized
  subst hsz
  have hD := hD0.self (sz := s.heap.size)
  generalize hAe : va_A ([wX cI cJ aX jX aL aS aW aR aO uX, wS cI cJ aS jS uS] : List va_W).flatten s.heap.size = A at hD ⊢
  have hA : ∀ q : Nat, s.heap.size ≤ q → A q := fun q h => by rw [← hAe]; exact Or.inr h
  have hS : va_S A s.heap s.heap [] := va_S.rf
  have hl := lv_entry ([.ref aX, .int p1, .int p2]) (n := 4) (Nat.le_of_ble_eq_true rfl)
  rw [lg_entry_eq]
  generalize (lg_sl ([.ref aX, .int p1, .int p2]) ++ List.replicate (4 - (lg_sl ([.ref aX, .int p1, .int p2])).length) Slot.unset).toArray = ls at hl ⊢
  have hl : lv_has ls 4 [(0, .ref aX), (1, .int p1), (2, .int p2)] := hl
  generalize hQ : MQ below _ _ s _ _ _ = Q
  generalize hH : s.heap = H at hP ⊢
  have hS : va_S A s.heap H [] := by rw [← hH]; exact va_S.rf
  show W p l e ({ frames := 2, cells := 0, slots := 0, locals := 44 } : Room) s m ([.ref aX, .int p1, .int p2] : List Value).toArray below meth c H [] 0 0 Q (F0 m 0 ls [])
  unfold f_X6_count at hm
  refine lv_iload_n hx hb dX6_count_0 rfl (lv_at hl 1 rfl) ?_
  have hPc : va_P (dC, dI) vwCl ([] : List va_W).flatten _ := hP.subF [] rfl
  have hDc : va_D A ([] : List va_W).flatten := hD.subF [] (by decide) rfl
  have hFc := va_freeF (fc := ([] : List va_W)) hD hS hA [] rfl
  obtain ⟨r1o, e2, hm⟩ := oC1_of hm
  refine va_calli (va_runS (As := [.int p1]) (rest := []) ⟨hx, hb, hml, hown, ht⟩ (c_X6_isSign l dC dI cI cJ H.size p1 r1o e2) (va_cwS 1 ht (gdS kw_428 kw_215 kw_161 kw_214) rfl rfl rfl nd_X6_isSign ⟨Nat.le_of_ble_eq_true rfl, Nat.le_of_ble_eq_true rfl⟩) ⟨pcW_blind, pcW_pre hPc hK hDc hN⟩ rfl rfl hl.1 rfl (lv_room (Nat.le_of_ble_eq_true rfl)) dX6_count_1 ⟨Nat.zero_le _, Nat.zero_le _⟩) hS (fun q _ z => hFc q z) hFc (fun r1 uu t H1 locs ht1 hvm hw hB hz1 hk1 hS => ?_)
  obtain ⟨⟩ := uu
  obtain ⟨hP1, hD1⟩ := hB
  rw [ht1] at hP1
  obtain rfl : r1 = r1o := Option.some.inj hw
  obtain ⟨hP, hD⟩ := va_joinF (fr := ([wX cI cJ aX jX aL aS aW aR aO uX, wS cI cJ aS jS uS] : List va_W)) (f1 := ([] : List va_W)) hP hD [] [0, 1] rfl rfl (by decide) (by decide) hk1 hFc hP1 hD1
  have hP : va_P (dC, dI) vwCl ([wX cI cJ aX jX aL aS aW aR aO uX, wS cI cJ aS jS uS] : List va_W).flatten H1 := hP
  have hD : va_D A ([wX cI cJ aX jX aL aS aW aR aO uX, wS cI cJ aS jS uS] : List va_W).flatten := hD
  generalize H1 = H at hP hS ⊢
  refine lv_if_eq (tgt := 17) hx hb dX6_count_4 (by decide) (fun c3 => ?_) (fun c3 => ?_)
  · have hm := ite_t c3 hm
    refine lv_iconst (v := (-1 : Int32)) hx hb dX6_count_17 (by decide) ?_
    rw [← hQ]
    exact W.iret (v := (-1 : Int32)) hx hb hr (fun t ht1 hW => ⟨⟨_, (uX, uS), rfl, hm, by rw [ht1]; exact hP, hD⟩, hS.F ht1⟩) hS.2.2 dX6_count_18
  · have hm := ite_f c3 hm
    refine lv_iload_n hx hb dX6_count_7 rfl (lv_at hl 2 rfl) ?_
    refine lv_if_lt (tgt := 17) hx hb dX6_count_8 (by decide) (fun c4 => ?_) (fun c4 => ?_)
    · have hm := ite_t c4 hm
      refine lv_iconst (v := (-1 : Int32)) hx hb dX6_count_17 (by decide) ?_
      rw [← hQ]
      exact W.iret (v := (-1 : Int32)) hx hb hr (fun t ht1 hW => ⟨⟨_, (uX, uS), rfl, hm, by rw [ht1]; exact hP, hD⟩, hS.F ht1⟩) hS.2.2 dX6_count_18
    · have hm := ite_f c4 hm
      refine lv_iload_n hx hb dX6_count_11 rfl (lv_at hl 2 rfl) ?_
      refine lv_ldc (v := (1000000 : Int32)) hx hb hown (ht _ kw_430) dX6_count_12 ?_
      refine lv_icmp_le (tgt := 19) hx hb dX6_count_14 (by decide) (fun c5 => ?_) (fun c5 => ?_)
      · have hm := ite_t c5 hm
        refine lv_aload_n hx hb dX6_count_19 rfl (lv_at hl 0 rfl) ?_
        refine va_get (D := (dC, dI)) (ci := 7) (v := .ref (jX 5)) (C := RX6) (T := TX6) (N := 10) hx hb ht inX6 hown hK hP 0 rfl rfl 5 (by decide) (ht _ kw_431) (fun _ h9 => h9) rfl dX6_count_20 ?_
        refine lv_iload_n hx hb dX6_count_23 rfl (lv_at hl 1 rfl) ?_
        obtain ⟨g6, hm⟩ := gdi_of hm
        refine va_iald hx hb hK hP 1 0 rfl rfl g6 dX6_count_24 ?_
        refine lv_topi (fun x7 ex7 => ?_)
        have hm := bnd_nm ex7 hm
        refine lv_istore_n (lv' := [(3, .int x7), (0, .ref aX), (1, .int p1), (2, .int p2)]) hx hb dX6_count_25 rfl hl (by decide) rfl (fun ls hl => ?_)
        refine lv_aload_n hx hb dX6_count_26 rfl (lv_at hl 1 rfl) ?_
        refine va_get (D := (dC, dI)) (ci := 7) (v := .ref (jX 5)) (C := RX6) (T := TX6) (N := 10) hx hb ht inX6 hown hK hP 0 rfl rfl 5 (by decide) (ht _ kw_431) (fun _ h9 => h9) rfl dX6_count_27 ?_
        refine lv_iload_n hx hb dX6_count_30 rfl (lv_at hl 2 rfl) ?_
        refine lv_iload_n hx hb dX6_count_31 rfl (lv_at hl 3 rfl) ?_
        obtain ⟨g8, hm⟩ := gdi_of hm
        refine va_iast hx hb hK hP hD hS 1 0 rfl rfl g8 dX6_count_32 (fun H locs hP hD hS => ?_)
        obtain ⟨u9, eu9, hm⟩ := bnd_ex hm
        have hP : va_P (dC, dI) vwCl ([wX cI cJ aX jX aL aS aW aR aO u9, wS cI cJ aS jS uS] : List va_W).flatten H := by rw [eu9]; exact hP
        have hD : va_D A ([wX cI cJ aX jX aL aS aW aR aO u9, wS cI cJ aS jS uS] : List va_W).flatten := by rw [eu9]; exact hD
        refine lv_aload_n hx hb dX6_count_33 rfl (lv_at hl 1 rfl) ?_
        refine va_get (D := (dC, dI)) (ci := 7) (v := .ref aS) (C := RX6) (T := TX6) (N := 10) hx hb ht inX6 hown hK hP 0 rfl rfl 1 (by decide) (ht _ kw_432) (fun _ h9 => h9) rfl dX6_count_34 ?_
        have hPc : va_P (dC, dI) vwCl ([wS cI cJ aS jS uS] : List va_W).flatten _ := hP.subF [1] rfl
        have hDc : va_D A ([wS cI cJ aS jS uS] : List va_W).flatten := hD.subF [1] (by decide) rfl
        have hFc := va_freeF (fc := ([wS cI cJ aS jS uS] : List va_W)) hD hS hA [1] rfl
        obtain ⟨u10o, e11, hm⟩ := oC1_of hm
        refine va_callv (va_runV (As := []) (rest := []) ⟨hx, hb, hml, hown, ht⟩ (c_X4_forget l dC dI cI cJ aS jS H.size uS u10o e11) (cwV 0 ht (gdV kw_433 kw_200 kw_201 kw_199 kw_198) rfl rfl rfl ⟨rfl, nd_X4_forget⟩ ⟨Nat.le_of_ble_eq_true rfl, Nat.le_of_ble_eq_true rfl⟩) ⟨pcW_blind, va_recv hK hPc (ci := 5) (q0 := 0) rfl rfl, pcW_pre hPc hK hDc hN⟩ rfl rfl hl.1 rfl (lv_room (Nat.le_of_ble_eq_true rfl)) dX6_count_37 ⟨Nat.zero_le _, Nat.zero_le _⟩) hS (fun q _ z => hFc q z) hFc (fun uu t H1 locs ht1 hvm hw hB hz1 hk1 hS => ?_)
        obtain ⟨u10, rfl⟩ : ∃ z, z = uu := ⟨_, rfl⟩
        obtain ⟨hP1, hD1⟩ := hB
        rw [ht1] at hP1
        obtain rfl : u10 = u10o := Option.some.inj hw
        obtain ⟨hP, hD⟩ := va_joinF (fr := ([wX cI cJ aX jX aL aS aW aR aO u9] : List va_W)) (f1 := ([wS cI cJ aS jS u10] : List va_W)) hP hD [1] [0] rfl rfl (by decide) (by decide) hk1 hFc hP1 hD1
        have hP : va_P (dC, dI) vwCl ([wX cI cJ aX jX aL aS aW aR aO u9, wS cI cJ aS jS u10] : List va_W).flatten H1 := hP
        have hD : va_D A ([wX cI cJ aX jX aL aS aW aR aO u9, wS cI cJ aS jS u10] : List va_W).flatten := hD
        generalize H1 = H at hP hS ⊢
        refine lv_iload_n hx hb dX6_count_40 rfl (lv_at hl 0 rfl) ?_
        rw [← hQ]
        exact W.iret (v := x7) hx hb hr (fun t ht1 hW => ⟨⟨_, (u9, u10), rfl, hm, by rw [ht1]; exact hP, hD⟩, hS.F ht1⟩) hS.2.2 dX6_count_41
      · have hm := ite_f c5 hm
        refine lv_iconst (v := (-1 : Int32)) hx hb dX6_count_17 (by decide) ?_
        rw [← hQ]
        exact W.iret (v := (-1 : Int32)) hx hb hr (fun t ht1 hW => ⟨⟨_, (uX, uS), rfl, hm, by rw [ht1]; exact hP, hD⟩, hS.F ht1⟩) hS.2.2 dX6_count_18

def f_X6_counts_L71 (u6 : OS) : Nat → (Int32 → Int32 → Option (OS × OS × Int32)) → Int32 → Int32 → Option (OS × OS × Int32)
  | 0, _, _, _ => none
  | n71 + 1, K100_14, x10, x11 =>
    if (32 : Int32) ≤ x10 then (
    K100_14 x11 x10) else (
    gdi x10 32 <|
    if (u6.2.1 5 (x10).toNatClampNeg) ≤ (0 : Int32) then (
    bnd (x11 + (0 : Int32)) fun x18 =>
    bnd (x10 + (1 : Int32)) fun x19 =>
    f_X6_counts_L71 u6 n71 K100_14 x19 x18) else (
    bnd (x11 + (1 : Int32)) fun x20 =>
    bnd (x10 + (1 : Int32)) fun x21 =>
    f_X6_counts_L71 u6 n71 K100_14 x21 x20))

def f_X6_counts_L10 : Nat → (Int32 → OS → Option (OS × OS × Int32)) → Int32 → OS → Option (OS × OS × Int32)
  | 0, _, _, _ => none
  | n10 + 1, K60_7, x3, u4 =>
    if (u4.1 7) ≤ x3 then (
    K60_7 x3 u4) else (
    if (nI (u4.2.2.2 6)) ≤ x3 then (
    K60_7 x3 u4) else (
    gdi x3 (u4.2.2.2 6) <|
    oC1 (f_X6_isSign (u4.2.1 6 (x3).toNatClampNeg)) fun r25 =>
    if r25 = (0 : Int32) then (
    bnd (x3 + (1 : Int32)) fun x28 =>
    f_X6_counts_L10 n10 K60_7 x28 u4) else (
    gdi x3 (u4.2.2.2 6) <|
    gdi (u4.2.1 6 (x3).toNatClampNeg) 32 <|
    gdi (u4.2.1 6 (x3).toNatClampNeg) 32 <|
    bnd (sA u4 5 (u4.2.1 6 (x3).toNatClampNeg) ((u4.2.1 5 ((u4.2.1 6 (x3).toNatClampNeg)).toNatClampNeg) + (1 : Int32))) fun u32 =>
    bnd (x3 + (1 : Int32)) fun x33 =>
    f_X6_counts_L10 n10 K60_7 x33 u32)))

def f_X6_counts (uX : OS) (uS : OS) : Option (OS × OS × Int32) :=
  bnd (sG uX 5 (flI 32 (uX.2.1 5) (0 : Int32))) fun u1 =>
  bnd (fun (x5 : Int32) (u6 : OS) =>
  oC1 (f_X4_forget uS) fun u8 =>
  bnd (fun (x12 : Int32) (x13 : Int32) =>
  some (u6, u8, x12)) fun K100_14 =>
  f_X6_counts_L71 u6 FU K100_14 (0 : Int32) (0 : Int32)) fun K60_7 =>
  f_X6_counts_L10 FU K60_7 (0 : Int32) u1

set_option maxHeartbeats 4000000 in
set_option maxRecDepth 100000 in
theorem c_X6_counts (l : Launch) (dC : Nat → ClassId) (dI : Nat → Nat → Nat) (cI cJ : ClassId) (aX : Nat) (jX : Nat → Nat) (aS : Nat) (jS : Nat → Nat) (aL : Nat) (aW : Nat) (aR : Nat) (aO : Nat) (sz : Nat) (uX : OS) (uS : OS) (o : OS × OS × Int32) (hm : f_X6_counts uX uS = some o) : Met l yX6_counts (wq yX6_counts cX6_counts 3 (some .int)) ({ frames := 2, cells := 0, slots := 0, locals := 44 } : Room) (va_Pc [.ref aX] (pcW dC dI cI cJ sz ([wX cI cJ aX jX aL aS aW aR aO uX, wS cI cJ aS jS uS] : List va_W).flatten)) (va_Qi (S := OS × OS) (fun r u => some (u.1, u.2, r) = some o) (fun (u : OS × OS) t => va_P (dC, dI) vwCl ([wX cI cJ aX jX aL aS aW aR aO u.1, wS cI cJ aS jS u.2] : List va_W).flatten t.heap ∧ va_D (va_A ([wX cI cJ aX jX aL aS aW aR aO uX, wS cI cJ aS jS uS] : List va_W).flatten sz) ([wX cI cJ aX jX aL aS aW aR aO u.1, wS cI cJ aS jS u.2] : List va_W).flatten) (va_A ([wX cI cJ aX jX aL aS aW aR aO uX, wS cI cJ aS jS uS] : List va_W).flatten sz)) 0 0 (va_A ([wX cI cJ aX jX aL aS aW aR aO uX, wS cI cJ aS jS uS] : List va_W).flatten sz) := by
  refine Met.ofW (cc := cX6_counts) (maxL := 3) (ret := (some .int)) (by decide) rfl ?_
  intro p e s m args below meth c s₁ B hml hv
  obtain ⟨rfl, hsz, hP, hK, hD0, hN⟩ := hv
  have hx := B.exec
  have hb := B.bytes
  have hr := B.returns
  have ht : ∀ w ∈ lw_good, w.before _ s = true := fun w h => atoms_spec (ws := wq yX6_counts cX6_counts 3 (some .int)) B.pre w (wq_mem h)
  have hown : s.vm.findClass RX6 = some m.cls := findClass_of_methodNamed B.named
  have hlocks := B.notSynchronized
  subst hsz
  have hD := hD0.self (sz := s.heap.size)
  generalize hAe : va_A ([wX cI cJ aX jX aL aS aW aR aO uX, wS cI cJ aS jS uS] : List va_W).flatten s.heap.size = A at hD ⊢
  have hA : ∀ q : Nat, s.heap.size ≤ q → A q := fun q h => by rw [← hAe]; exact Or.inr h
  have hS : va_S A s.heap s.heap [] := va_S.rf
  have hl := lv_entry ([.ref aX]) (n := 3) (Nat.le_of_ble_eq_true rfl)
  rw [lg_entry_eq]
  generalize (lg_sl ([.ref aX]) ++ List.replicate (3 - (lg_sl ([.ref aX])).length) Slot.unset).toArray = ls at hl ⊢
  have hl : lv_has ls 3 [(0, .ref aX)] := hl
  generalize hQ : MQ below _ _ s _ _ _ = Q
  generalize hH : s.heap = H at hP ⊢
  have hS : va_S A s.heap H [] := by rw [← hH]; exact va_S.rf
  show W p l e ({ frames := 2, cells := 0, slots := 0, locals := 44 } : Room) s m ([.ref aX] : List Value).toArray below meth c H [] 0 0 Q (F0 m 0 ls [])
  unfold f_X6_counts at hm
  refine lv_aload_n hx hb dX6_counts_0 rfl (lv_at hl 0 rfl) ?_
  refine va_get (D := (dC, dI)) (ci := 7) (v := .ref (jX 5)) (C := RX6) (T := TX6) (N := 10) hx hb ht inX6 hown hK hP 0 rfl rfl 5 (by decide) (ht _ kw_431) (fun _ h9 => h9) rfl dX6_counts_1 ?_
  refine lv_iconst (v := (0 : Int32)) hx hb dX6_counts_4 (by decide) ?_
  have g2 : 32 < 2 ^ 31 := by decide
  have hPc : va_P (dC, dI) vwCl [((jX 5), .inl (cI, 32, .inl (uX.2.1 5)))] _ := hP.sub [1] rfl
  have hDc : va_D A [((jX 5), .inl (cI, 32, .inl (uX.2.1 5)))] := hD.sub [1] (by decide) rfl
  have hFc := va_free (wc := [((jX 5), .inl (cI, 32, .inl (uX.2.1 5)))]) hD hS hA [1] rfl
  obtain ⟨u1, eu1, hm⟩ := bnd_ex hm
  refine va_callv (va_runS (As := [.ref (jX 5), .int (0 : Int32)]) (rest := []) ⟨hx, hb, hml, hown, ht⟩ (c_fillI l dC dI cI cJ (jX 5) H.size 32 g2 (uX.2.1 5) (0 : Int32)) (va_cwS 2 ht (gdS kw_434 kw_193 kw_194 kw_192) rfl rfl rfl nd_J7_fill_53178 ⟨Nat.le_of_ble_eq_true rfl, Nat.le_of_ble_eq_true rfl⟩) ⟨pcW_blind, pcW_pre hPc hK hDc hN⟩ rfl rfl hl.1 rfl (lv_room (Nat.le_of_ble_eq_true rfl)) dX6_counts_5 ⟨Nat.zero_le _, Nat.zero_le _⟩) hS (fun q _ z => hFc q z) hFc (fun uu t H1 locs ht1 hvm hw hB hz1 hk1 hS => ?_)
  obtain ⟨hP1, hD1⟩ := hB
  rw [ht1] at hP1
  subst hw
  obtain ⟨hP, hD⟩ := va_join (wr := [(wX cI cJ aX jX aL aS aW aR aO uX)[0], (wX cI cJ aX jX aL aS aW aR aO uX)[2], (wS cI cJ aS jS uS)[0], (wS cI cJ aS jS uS)[1], (wS cI cJ aS jS uS)[2], (wS cI cJ aS jS uS)[3], (wS cI cJ aS jS uS)[4], (wS cI cJ aS jS uS)[5], (wS cI cJ aS jS uS)[6], (wS cI cJ aS jS uS)[7]]) (w1 := [((jX 5), .inl (cI, 32, .inl (flI 32 (uX.2.1 5) (0 : Int32))))]) hP hD [1] [0, 2, 3, 4, 5, 6, 7, 8, 9, 10] rfl rfl (by decide) (by decide) hk1 hFc hP1 hD1
  generalize H1 = H at hP hS ⊢
  have hP : va_P (dC, dI) vwCl ([wX cI cJ aX jX aL aS aW aR aO u1, wS cI cJ aS jS uS] : List va_W).flatten H := by rw [eu1]; exact hP.sub [0, 10, 1, 2, 3, 4, 5, 6, 7, 8, 9] rfl
  have hD : va_D A ([wX cI cJ aX jX aL aS aW aR aO u1, wS cI cJ aS jS uS] : List va_W).flatten := by rw [eu1]; exact hD.sub [0, 10, 1, 2, 3, 4, 5, 6, 7, 8, 9] (by decide) rfl
  refine lv_iconst (v := (0 : Int32)) hx hb dX6_counts_8 (by decide) ?_
  refine lv_istore_n (lv' := [(1, .int (0 : Int32)), (0, .ref aX)]) hx hb dX6_counts_9 rfl hl (by decide) rfl (fun ls hl => ?_)
  obtain ⟨K60_7, eK60_7, hm⟩ := bnd_ex hm
  have X60_7 : ∀ (x5 : Int32) (u6 : OS) (H : Heap) (locs : List Loc) (ls : Array Slot), K60_7 x5 u6 = some o → va_P (dC, dI) vwCl ([wX cI cJ aX jX aL aS aW aR aO u6, wS cI cJ aS jS uS] : List va_W).flatten H → va_D A ([wX cI cJ aX jX aL aS aW aR aO u6, wS cI cJ aS jS uS] : List va_W).flatten → va_S A s.heap H locs → lv_has ls 3 [(0, .ref aX), (1, .int x5)] → W p l e ({ frames := 2, cells := 0, slots := 0, locals := 44 } : Room) s m ([.ref aX] : List Value).toArray below meth c H locs 0 0 Q (F0 m 60 ls []) := by
    intro x5 u6 H locs ls hm hP hD hS hl
    have hm := ap2 eK60_7 hm
    refine lv_aload_n hx hb dX6_counts_60 rfl (lv_at hl 0 rfl) ?_
    refine va_get (D := (dC, dI)) (ci := 7) (v := .ref aS) (C := RX6) (T := TX6) (N := 10) hx hb ht inX6 hown hK hP 0 rfl rfl 1 (by decide) (ht _ kw_432) (fun _ h9 => h9) rfl dX6_counts_61 ?_
    have hPc : va_P (dC, dI) vwCl ([wS cI cJ aS jS uS] : List va_W).flatten _ := hP.subF [1] rfl
    have hDc : va_D A ([wS cI cJ aS jS uS] : List va_W).flatten := hD.subF [1] (by decide) rfl
    have hFc := va_freeF (fc := ([wS cI cJ aS jS uS] : List va_W)) hD hS hA [1] rfl
    obtain ⟨u8o, e9, hm⟩ := oC1_of hm
    refine va_callv (va_runV (As := []) (rest := []) ⟨hx, hb, hml, hown, ht⟩ (c_X4_forget l dC dI cI cJ aS jS H.size uS u8o e9) (cwV 0 ht (gdV kw_433 kw_200 kw_201 kw_199 kw_198) rfl rfl rfl ⟨rfl, nd_X4_forget⟩ ⟨Nat.le_of_ble_eq_true rfl, Nat.le_of_ble_eq_true rfl⟩) ⟨pcW_blind, va_recv hK hPc (ci := 5) (q0 := 0) rfl rfl, pcW_pre hPc hK hDc hN⟩ rfl rfl hl.1 rfl (lv_room (Nat.le_of_ble_eq_true rfl)) dX6_counts_64 ⟨Nat.zero_le _, Nat.zero_le _⟩) hS (fun q _ z => hFc q z) hFc (fun uu t H1 locs ht1 hvm hw hB hz1 hk1 hS => ?_)
    obtain ⟨u8, rfl⟩ : ∃ z, z = uu := ⟨_, rfl⟩
    obtain ⟨hP1, hD1⟩ := hB
    rw [ht1] at hP1
    obtain rfl : u8 = u8o := Option.some.inj hw
    obtain ⟨hP, hD⟩ := va_joinF (fr := ([wX cI cJ aX jX aL aS aW aR aO u6] : List va_W)) (f1 := ([wS cI cJ aS jS u8] : List va_W)) hP hD [1] [0] rfl rfl (by decide) (by decide) hk1 hFc hP1 hD1
    have hP : va_P (dC, dI) vwCl ([wX cI cJ aX jX aL aS aW aR aO u6, wS cI cJ aS jS u8] : List va_W).flatten H1 := hP
    have hD : va_D A ([wX cI cJ aX jX aL aS aW aR aO u6, wS cI cJ aS jS u8] : List va_W).flatten := hD
    generalize H1 = H at hP hS ⊢
    refine lv_iconst (v := (0 : Int32)) hx hb dX6_counts_67 (by decide) ?_
    refine lv_istore_n (lv' := [(1, .int (0 : Int32)), (0, .ref aX)]) hx hb dX6_counts_68 rfl hl (by decide) rfl (fun ls hl => ?_)
    refine lv_iconst (v := (0 : Int32)) hx hb dX6_counts_69 (by decide) ?_
    refine lv_istore_n (lv' := [(2, .int (0 : Int32)), (1, .int (0 : Int32)), (0, .ref aX)]) hx hb dX6_counts_70 rfl hl (by decide) rfl (fun ls hl => ?_)
    obtain ⟨K100_14, eK100_14, hm⟩ := bnd_ex hm
    have X100_14 : ∀ (x12 : Int32) (x13 : Int32) (H : Heap) (locs : List Loc) (ls : Array Slot), K100_14 x12 x13 = some o → va_P (dC, dI) vwCl ([wX cI cJ aX jX aL aS aW aR aO u6, wS cI cJ aS jS u8] : List va_W).flatten H → va_D A ([wX cI cJ aX jX aL aS aW aR aO u6, wS cI cJ aS jS u8] : List va_W).flatten → va_S A s.heap H locs → lv_has ls 3 [(0, .ref aX), (1, .int x12), (2, .int x13)] → W p l e ({ frames := 2, cells := 0, slots := 0, locals := 44 } : Room) s m ([.ref aX] : List Value).toArray below meth c H locs 0 0 Q (F0 m 100 ls []) := by
      intro x12 x13 H locs ls hm hP hD hS hl
      have hm := ap2 eK100_14 hm
      refine lv_iload_n hx hb dX6_counts_100 rfl (lv_at hl 1 rfl) ?_
      rw [← hQ]
      exact W.iret (v := x12) hx hb hr (fun t ht1 hW => ⟨⟨_, (u6, u8), rfl, hm, by rw [ht1]; exact hP, hD⟩, hS.F ht1⟩) hS.2.2 dX6_counts_101
    have LP71 : ∀ (n71 : Nat) (x10 : Int32) (x11 : Int32) (H : Heap) (locs : List Loc) (ls : Array Slot), f_X6_counts_L71 u6 n71 K100_14 x10 x11 = some o → va_P (dC, dI) vwCl ([wX cI cJ aX jX aL aS aW aR aO u6, wS cI cJ aS jS u8] : List va_W).flatten H → va_D A ([wX cI cJ aX jX aL aS aW aR aO u6, wS cI cJ aS jS u8] : List va_W).flatten → va_S A s.heap H locs → lv_has ls 3 [(0, .ref aX), (1, .int x11), (2, .int x10)] → W p l e ({ frames := 2, cells := 0, slots := 0, locals := 44 } : Room) s m ([.ref aX] : List Value).toArray below meth c H locs 0 0 Q (F0 m 71 ls []) := by
      intro n71
      induction n71 with
      | zero => intro x10 x11 H locs ls hm; exact nomatch (show (none : Option _) = some _ from hm)
      | succ n71 ih71 =>
        intro x10 x11 H locs ls hm hP hD hS hl
        unfold f_X6_counts_L71 at hm
        refine lv_iload_n hx hb dX6_counts_71 rfl (lv_at hl 2 rfl) ?_
        refine lv_bipush (v := (32 : Int32)) hx hb dX6_counts_72 (by decide) ?_
        refine lv_icmp_ge (tgt := 100) hx hb dX6_counts_74 (by decide) (fun c15 => ?_) (fun c15 => ?_)
        · have hm := ite_t c15 hm
          exact X100_14 x11 x10 _ _ _ hm hP hD hS (lv_sub hl [0, 1, 2] rfl)
        · have hm := ite_f c15 hm
          refine lv_iload_n hx hb dX6_counts_77 rfl (lv_at hl 1 rfl) ?_
          refine lv_aload_n hx hb dX6_counts_78 rfl (lv_at hl 0 rfl) ?_
          refine va_get (D := (dC, dI)) (ci := 7) (v := .ref (jX 5)) (C := RX6) (T := TX6) (N := 10) hx hb ht inX6 hown hK hP 0 rfl rfl 5 (by decide) (ht _ kw_431) (fun _ h9 => h9) rfl dX6_counts_79 ?_
          refine lv_iload_n hx hb dX6_counts_82 rfl (lv_at hl 2 rfl) ?_
          obtain ⟨g16, hm⟩ := gdi_of hm
          refine va_iald hx hb hK hP 1 0 rfl rfl g16 dX6_counts_83 ?_
          refine lv_if_le (tgt := 91) hx hb dX6_counts_84 (by decide) (fun c17 => ?_) (fun c17 => ?_)
          · have hm := ite_t c17 hm
            refine lv_iconst (v := (0 : Int32)) hx hb dX6_counts_91 (by decide) ?_
            refine lv_iadd hx hb dX6_counts_92 ?_
            refine lv_topi (fun x18 ex18 => ?_)
            have hm := bnd_nm ex18 hm
            refine lv_istore_n (lv' := [(1, .int x18), (0, .ref aX), (2, .int x10)]) hx hb dX6_counts_93 rfl hl (by decide) rfl (fun ls hl => ?_)
            obtain ⟨x19, ex19, hm⟩ := bnd_ex hm
            refine lv_iinc (v := x19) (lv' := [(2, .int x19), (1, .int x18), (0, .ref aX)]) hx hb dX6_counts_94 hl (k := 2) rfl (by rw [ex19]; exact congrArg _ (by decide)) (by decide) rfl (fun ls hl => ?_)
            refine lv_goto (tgt := 71) hx hb dX6_counts_97 (by decide) ?_
            exact ih71 x19 x18 _ _ _ hm hP hD hS (lv_sub hl [2, 1, 0] rfl)
          · have hm := ite_f c17 hm
            refine lv_iconst (v := (1 : Int32)) hx hb dX6_counts_87 (by decide) ?_
            refine lv_goto (tgt := 92) hx hb dX6_counts_88 (by decide) ?_
            refine lv_iadd hx hb dX6_counts_92 ?_
            refine lv_topi (fun x20 ex20 => ?_)
            have hm := bnd_nm ex20 hm
            refine lv_istore_n (lv' := [(1, .int x20), (0, .ref aX), (2, .int x10)]) hx hb dX6_counts_93 rfl hl (by decide) rfl (fun ls hl => ?_)
            obtain ⟨x21, ex21, hm⟩ := bnd_ex hm
            refine lv_iinc (v := x21) (lv' := [(2, .int x21), (1, .int x20), (0, .ref aX)]) hx hb dX6_counts_94 hl (k := 2) rfl (by rw [ex21]; exact congrArg _ (by decide)) (by decide) rfl (fun ls hl => ?_)
            refine lv_goto (tgt := 71) hx hb dX6_counts_97 (by decide) ?_
            exact ih71 x21 x20 _ _ _ hm hP hD hS (lv_sub hl [2, 1, 0] rfl)
    exact LP71 FU (0 : Int32) (0 : Int32) _ _ _ hm hP hD hS (lv_sub hl [2, 1, 0] rfl)
  have LP10 : ∀ (n10 : Nat) (x3 : Int32) (u4 : OS) (H : Heap) (locs : List Loc) (ls : Array Slot), f_X6_counts_L10 n10 K60_7 x3 u4 = some o → va_P (dC, dI) vwCl ([wX cI cJ aX jX aL aS aW aR aO u4, wS cI cJ aS jS uS] : List va_W).flatten H → va_D A ([wX cI cJ aX jX aL aS aW aR aO u4, wS cI cJ aS jS uS] : List va_W).flatten → va_S A s.heap H locs → lv_has ls 3 [(0, .ref aX), (1, .int x3)] → W p l e ({ frames := 2, cells := 0, slots := 0, locals := 44 } : Room) s m ([.ref aX] : List Value).toArray below meth c H locs 0 0 Q (F0 m 10 ls []) := by
    intro n10
    induction n10 with
    | zero => intro x3 u4 H locs ls hm; exact nomatch (show (none : Option _) = some _ from hm)
    | succ n10 ih10 =>
      intro x3 u4 H locs ls hm hP hD hS hl
      unfold f_X6_counts_L10 at hm
      refine lv_iload_n hx hb dX6_counts_10 rfl (lv_at hl 1 rfl) ?_
      refine lv_aload_n hx hb dX6_counts_11 rfl (lv_at hl 0 rfl) ?_
      refine va_get (D := (dC, dI)) (ci := 7) (v := .int (u4.1 7)) (C := RX6) (T := TX6) (N := 10) hx hb ht inX6 hown hK hP 0 rfl rfl 7 (by decide) (ht _ kw_427) (fun _ h9 => h9) rfl dX6_counts_12 ?_
      refine lv_icmp_ge (tgt := 60) hx hb dX6_counts_15 (by decide) (fun c22 => ?_) (fun c22 => ?_)
      · have hm := ite_t c22 hm
        exact X60_7 x3 u4 _ _ _ hm hP hD hS (lv_sub hl [0, 1] rfl)
      · have hm := ite_f c22 hm
        refine lv_iload_n hx hb dX6_counts_18 rfl (lv_at hl 1 rfl) ?_
        refine lv_aload_n hx hb dX6_counts_19 rfl (lv_at hl 0 rfl) ?_
        refine va_get (D := (dC, dI)) (ci := 7) (v := .ref (jX 6)) (C := RX6) (T := TX6) (N := 10) hx hb ht inX6 hown hK hP 0 rfl rfl 6 (by decide) (ht _ kw_426) (fun _ h9 => h9) rfl dX6_counts_20 ?_
        refine va_alen (v := (nI (u4.2.2.2 6))) hx hb hK hP 2 0 rfl rfl rfl dX6_counts_23 ?_
        refine lv_icmp_ge (tgt := 60) hx hb dX6_counts_24 (by decide) (fun c23 => ?_) (fun c23 => ?_)
        · have hm := ite_t c23 hm
          exact X60_7 x3 u4 _ _ _ hm hP hD hS (lv_sub hl [0, 1] rfl)
        · have hm := ite_f c23 hm
          refine lv_aload_n hx hb dX6_counts_27 rfl (lv_at hl 0 rfl) ?_
          refine va_get (D := (dC, dI)) (ci := 7) (v := .ref (jX 6)) (C := RX6) (T := TX6) (N := 10) hx hb ht inX6 hown hK hP 0 rfl rfl 6 (by decide) (ht _ kw_426) (fun _ h9 => h9) rfl dX6_counts_28 ?_
          refine lv_iload_n hx hb dX6_counts_31 rfl (lv_at hl 1 rfl) ?_
          obtain ⟨g24, hm⟩ := gdi_of hm
          refine va_iald hx hb hK hP 2 0 rfl rfl g24 dX6_counts_32 ?_
          have hPc : va_P (dC, dI) vwCl ([] : List va_W).flatten _ := hP.subF [] rfl
          have hDc : va_D A ([] : List va_W).flatten := hD.subF [] (by decide) rfl
          have hFc := va_freeF (fc := ([] : List va_W)) hD hS hA [] rfl
          obtain ⟨r25o, e26, hm⟩ := oC1_of hm
          refine va_calli (va_runS (As := [.int (u4.2.1 6 (x3).toNatClampNeg)]) (rest := []) ⟨hx, hb, hml, hown, ht⟩ (c_X6_isSign l dC dI cI cJ H.size (u4.2.1 6 (x3).toNatClampNeg) r25o e26) (va_cwS 1 ht (gdS kw_428 kw_215 kw_161 kw_214) rfl rfl rfl nd_X6_isSign ⟨Nat.le_of_ble_eq_true rfl, Nat.le_of_ble_eq_true rfl⟩) ⟨pcW_blind, pcW_pre hPc hK hDc hN⟩ rfl rfl hl.1 rfl (lv_room (Nat.le_of_ble_eq_true rfl)) dX6_counts_33 ⟨Nat.zero_le _, Nat.zero_le _⟩) hS (fun q _ z => hFc q z) hFc (fun r25 uu t H1 locs ht1 hvm hw hB hz1 hk1 hS => ?_)
          obtain ⟨⟩ := uu
          obtain ⟨hP1, hD1⟩ := hB
          rw [ht1] at hP1
          obtain rfl : r25 = r25o := Option.some.inj hw
          obtain ⟨hP, hD⟩ := va_joinF (fr := ([wX cI cJ aX jX aL aS aW aR aO u4, wS cI cJ aS jS uS] : List va_W)) (f1 := ([] : List va_W)) hP hD [] [0, 1] rfl rfl (by decide) (by decide) hk1 hFc hP1 hD1
          have hP : va_P (dC, dI) vwCl ([wX cI cJ aX jX aL aS aW aR aO u4, wS cI cJ aS jS uS] : List va_W).flatten H1 := hP
          have hD : va_D A ([wX cI cJ aX jX aL aS aW aR aO u4, wS cI cJ aS jS uS] : List va_W).flatten := hD
          generalize H1 = H at hP hS ⊢
          refine lv_if_eq (tgt := 54) hx hb dX6_counts_36 (by decide) (fun c27 => ?_) (fun c27 => ?_)
          · have hm := ite_t c27 hm
            obtain ⟨x28, ex28, hm⟩ := bnd_ex hm
            refine lv_iinc (v := x28) (lv' := [(1, .int x28), (0, .ref aX)]) hx hb dX6_counts_54 hl (k := 1) rfl (by rw [ex28]; exact congrArg _ (by decide)) (by decide) rfl (fun ls hl => ?_)
            refine lv_goto (tgt := 10) hx hb dX6_counts_57 (by decide) ?_
            exact ih10 x28 u4 _ _ _ hm hP hD hS (lv_sub hl [1, 0] rfl)
          · have hm := ite_f c27 hm
            refine lv_aload_n hx hb dX6_counts_39 rfl (lv_at hl 0 rfl) ?_
            refine va_get (D := (dC, dI)) (ci := 7) (v := .ref (jX 5)) (C := RX6) (T := TX6) (N := 10) hx hb ht inX6 hown hK hP 0 rfl rfl 5 (by decide) (ht _ kw_431) (fun _ h9 => h9) rfl dX6_counts_40 ?_
            refine lv_aload_n hx hb dX6_counts_43 rfl (lv_at hl 0 rfl) ?_
            refine va_get (D := (dC, dI)) (ci := 7) (v := .ref (jX 6)) (C := RX6) (T := TX6) (N := 10) hx hb ht inX6 hown hK hP 0 rfl rfl 6 (by decide) (ht _ kw_426) (fun _ h9 => h9) rfl dX6_counts_44 ?_
            refine lv_iload_n hx hb dX6_counts_47 rfl (lv_at hl 1 rfl) ?_
            obtain ⟨g29, hm⟩ := gdi_of hm
            refine va_iald hx hb hK hP 2 0 rfl rfl g29 dX6_counts_48 ?_
            refine lv_dup2_11 hx hb dX6_counts_49 rfl rfl ?_
            obtain ⟨g30, hm⟩ := gdi_of hm
            refine va_iald hx hb hK hP 1 0 rfl rfl g30 dX6_counts_50 ?_
            refine lv_iconst (v := (1 : Int32)) hx hb dX6_counts_51 (by decide) ?_
            refine lv_iadd hx hb dX6_counts_52 ?_
            obtain ⟨g31, hm⟩ := gdi_of hm
            refine va_iast hx hb hK hP hD hS 1 0 rfl rfl g31 dX6_counts_53 (fun H locs hP hD hS => ?_)
            obtain ⟨u32, eu32, hm⟩ := bnd_ex hm
            have hP : va_P (dC, dI) vwCl ([wX cI cJ aX jX aL aS aW aR aO u32, wS cI cJ aS jS uS] : List va_W).flatten H := by rw [eu32]; exact hP
            have hD : va_D A ([wX cI cJ aX jX aL aS aW aR aO u32, wS cI cJ aS jS uS] : List va_W).flatten := by rw [eu32]; exact hD
            obtain ⟨x33, ex33, hm⟩ := bnd_ex hm
            refine lv_iinc (v := x33) (lv' := [(1, .int x33), (0, .ref aX)]) hx hb dX6_counts_54 hl (k := 1) rfl (by rw [ex33]; exact congrArg _ (by decide)) (by decide) rfl (fun ls hl => ?_)
            refine lv_goto (tgt := 10) hx hb dX6_counts_57 (by decide) ?_
            exact ih10 x33 u32 _ _ _ hm hP hD hS (lv_sub hl [1, 0] rfl)
  exact LP10 FU (0 : Int32) u1 _ _ _ hm hP hD hS (lv_sub hl [1, 0] rfl)

def f_X6_normal (uX : OS) (uL : OS) (uS : OS) : Option (OS × OS × Int32) :=
  bnd (fun (u1 : OS) (u2 : OS) =>
  if (u2.1 2) = (0 : Int32) then (
  some (u1, u2, (-2 : Int32))) else (
  oC1 (f_X4_howMany u2) fun r5 =>
  some (u1, u2, r5))) fun K25_3 =>
  if (uS.1 2) = (0 : Int32) then (
  oC2 (f_X4_makeOf uL uS (mkA 32 (uX.2.1 5))) fun u8 u9 =>
  K25_3 u8 u9) else (
  K25_3 uL uS)

set_option maxHeartbeats 4000000 in
set_option maxRecDepth 100000 in
theorem c_X6_normal (l : Launch) (dC : Nat → ClassId) (dI : Nat → Nat → Nat) (cI cJ : ClassId) (aX : Nat) (jX : Nat → Nat) (aL : Nat) (jL : Nat → Nat) (aS : Nat) (jS : Nat → Nat) (aW : Nat) (aR : Nat) (aO : Nat) (sz : Nat) (uX : OS) (uL : OS) (uS : OS) (o : OS × OS × Int32) (hm : f_X6_normal uX uL uS = some o) : Met l yX6_normal (wq yX6_normal cX6_normal 1 (some .int)) ({ frames := 5, cells := 0, slots := 0, locals := 118 } : Room) (va_Pc [.ref aX] (pcW dC dI cI cJ sz ([wX cI cJ aX jX aL aS aW aR aO uX, wL cI cJ aL jL uL, wS cI cJ aS jS uS] : List va_W).flatten)) (va_Qi (S := OS × OS) (fun r u => some (u.1, u.2, r) = some o) (fun (u : OS × OS) t => va_P (dC, dI) vwCl ([wX cI cJ aX jX aL aS aW aR aO uX, wL cI cJ aL jL u.1, wS cI cJ aS jS u.2] : List va_W).flatten t.heap ∧ va_D (va_A ([wX cI cJ aX jX aL aS aW aR aO uX, wL cI cJ aL jL uL, wS cI cJ aS jS uS] : List va_W).flatten sz) ([wX cI cJ aX jX aL aS aW aR aO uX, wL cI cJ aL jL u.1, wS cI cJ aS jS u.2] : List va_W).flatten) (va_A ([wX cI cJ aX jX aL aS aW aR aO uX, wL cI cJ aL jL uL, wS cI cJ aS jS uS] : List va_W).flatten sz)) 0 0 (va_A ([wX cI cJ aX jX aL aS aW aR aO uX, wL cI cJ aL jL uL, wS cI cJ aS jS uS] : List va_W).flatten sz) := by
  refine Met.ofW (cc := cX6_normal) (maxL := 1) (ret := (some .int)) (by decide) rfl ?_
  intro p e s m args below meth c s₁ B hml hv
  obtain ⟨rfl, hsz, hP, hK, hD0, hN⟩ := hv
  have hx := B.exec
  have hb := B.bytes
  have hr := B.returns
  have ht : ∀ w ∈ lw_good, w.before _ s = true := fun w h => atoms_spec (ws := wq yX6_normal cX6_normal 1 (some .int)) B.pre w (wq_mem h)
  have hown : s.vm.findClass RX6 = some m.cls := findClass_of_methodNamed B.named
  have hlocks := B.notSynchronized
  subst hsz
  have hD := hD0.self (sz := s.heap.size)
  generalize hAe : va_A ([wX cI cJ aX jX aL aS aW aR aO uX, wL cI cJ aL jL uL, wS cI cJ aS jS uS] : List va_W).flatten s.heap.size = A at hD ⊢
  have hA : ∀ q : Nat, s.heap.size ≤ q → A q := fun q h => by rw [← hAe]; exact Or.inr h
  have hS : va_S A s.heap s.heap [] := va_S.rf
  have hl := lv_entry ([.ref aX]) (n := 1) (Nat.le_of_ble_eq_true rfl)
  rw [lg_entry_eq]
  generalize (lg_sl ([.ref aX]) ++ List.replicate (1 - (lg_sl ([.ref aX])).length) Slot.unset).toArray = ls at hl ⊢
  have hl : lv_has ls 1 [(0, .ref aX)] := hl
  generalize hQ : MQ below _ _ s _ _ _ = Q
  generalize hH : s.heap = H at hP ⊢
  have hS : va_S A s.heap H [] := by rw [← hH]; exact va_S.rf
  show W p l e ({ frames := 5, cells := 0, slots := 0, locals := 118 } : Room) s m ([.ref aX] : List Value).toArray below meth c H [] 0 0 Q (F0 m 0 ls [])
  unfold f_X6_normal at hm
  refine lv_aload_n hx hb dX6_normal_0 rfl (lv_at hl 0 rfl) ?_
  refine va_get (D := (dC, dI)) (ci := 7) (v := .ref aS) (C := RX6) (T := TX6) (N := 10) hx hb ht inX6 hown hK hP 0 rfl rfl 1 (by decide) (ht _ kw_432) (fun _ h9 => h9) rfl dX6_normal_1 ?_
  refine va_getN (D := (dC, dI)) (ci := 5) (v := .int (uS.1 2)) (C := RX4) (T := TX4) (N := 11) hx hb ht inX4 hown hK hP 5 rfl rfl 2 (by decide) (va_Nw.use rfl (hN _ kn_18)) (fun _ h9 => h9) rfl dX6_normal_4 ?_
  obtain ⟨K25_3, eK25_3, hm⟩ := bnd_ex hm
  have J25_3 : ∀ (u1 : OS) (u2 : OS) (H : Heap) (locs : List Loc) (ls : Array Slot), K25_3 u1 u2 = some o → va_P (dC, dI) vwCl ([wX cI cJ aX jX aL aS aW aR aO uX, wL cI cJ aL jL u1, wS cI cJ aS jS u2] : List va_W).flatten H → va_D A ([wX cI cJ aX jX aL aS aW aR aO uX, wL cI cJ aL jL u1, wS cI cJ aS jS u2] : List va_W).flatten → va_S A s.heap H locs → lv_has ls 1 [(0, .ref aX)] → W p l e ({ frames := 5, cells := 0, slots := 0, locals := 118 } : Room) s m ([.ref aX] : List Value).toArray below meth c H locs 0 0 Q (F0 m 25 ls []) := by
    intro u1 u2 H locs ls hm hP hD hS hl
    have hm := ap2 eK25_3 hm
    refine lv_aload_n hx hb dX6_normal_25 rfl (lv_at hl 0 rfl) ?_
    refine va_get (D := (dC, dI)) (ci := 7) (v := .ref aS) (C := RX6) (T := TX6) (N := 10) hx hb ht inX6 hown hK hP 0 rfl rfl 1 (by decide) (ht _ kw_432) (fun _ h9 => h9) rfl dX6_normal_26 ?_
    refine va_getN (D := (dC, dI)) (ci := 5) (v := .int (u2.1 2)) (C := RX4) (T := TX4) (N := 11) hx hb ht inX4 hown hK hP 5 rfl rfl 2 (by decide) (va_Nw.use rfl (hN _ kn_18)) (fun _ h9 => h9) rfl dX6_normal_29 ?_
    refine lv_if_eq (tgt := 45) hx hb dX6_normal_32 (by decide) (fun c4 => ?_) (fun c4 => ?_)
    · have hm := ite_t c4 hm
      refine lv_bipush (v := (-2 : Int32)) hx hb dX6_normal_45 (by decide) ?_
      rw [← hQ]
      exact W.iret (v := (-2 : Int32)) hx hb hr (fun t ht1 hW => ⟨⟨_, (u1, u2), rfl, hm, by rw [ht1]; exact hP, hD⟩, hS.F ht1⟩) hS.2.2 dX6_normal_47
    · have hm := ite_f c4 hm
      refine lv_aload_n hx hb dX6_normal_35 rfl (lv_at hl 0 rfl) ?_
      refine va_get (D := (dC, dI)) (ci := 7) (v := .ref aS) (C := RX6) (T := TX6) (N := 10) hx hb ht inX6 hown hK hP 0 rfl rfl 1 (by decide) (ht _ kw_432) (fun _ h9 => h9) rfl dX6_normal_36 ?_
      have hPc : va_P (dC, dI) vwCl ([wS cI cJ aS jS u2] : List va_W).flatten _ := hP.subF [2] rfl
      have hDc : va_D A ([wS cI cJ aS jS u2] : List va_W).flatten := hD.subF [2] (by decide) rfl
      have hFc := va_freeF (fc := ([wS cI cJ aS jS u2] : List va_W)) hD hS hA [2] rfl
      obtain ⟨r5o, e6, hm⟩ := oC1_of hm
      refine va_calli (va_runV (As := []) (rest := []) ⟨hx, hb, hml, hown, ht⟩ (c_X4_howMany l dC dI cI cJ aS jS H.size u2 r5o e6) (cwV 0 ht (gdV kw_439 kw_437 kw_438 kw_199 kw_436) rfl rfl rfl ⟨rfl, nd_X4_howMany⟩ ⟨Nat.le_of_ble_eq_true rfl, Nat.le_of_ble_eq_true rfl⟩) ⟨pcW_blind, va_recv hK hPc (ci := 5) (q0 := 0) rfl rfl, pcW_pre hPc hK hDc hN⟩ rfl rfl hl.1 rfl (lv_room (Nat.le_of_ble_eq_true rfl)) dX6_normal_39 ⟨Nat.zero_le _, Nat.zero_le _⟩) hS (fun q _ z => hFc q z) hFc (fun r5 uu t H1 locs ht1 hvm hw hB hz1 hk1 hS => ?_)
      obtain ⟨⟩ := uu
      obtain ⟨hP1, hD1⟩ := hB
      rw [ht1] at hP1
      obtain rfl : r5 = r5o := Option.some.inj hw
      obtain ⟨hP, hD⟩ := va_joinF (fr := ([wX cI cJ aX jX aL aS aW aR aO uX, wL cI cJ aL jL u1] : List va_W)) (f1 := ([wS cI cJ aS jS u2] : List va_W)) hP hD [2] [0, 1] rfl rfl (by decide) (by decide) hk1 hFc hP1 hD1
      have hP : va_P (dC, dI) vwCl ([wX cI cJ aX jX aL aS aW aR aO uX, wL cI cJ aL jL u1, wS cI cJ aS jS u2] : List va_W).flatten H1 := hP
      have hD : va_D A ([wX cI cJ aX jX aL aS aW aR aO uX, wL cI cJ aL jL u1, wS cI cJ aS jS u2] : List va_W).flatten := hD
      generalize H1 = H at hP hS ⊢
      refine lv_goto (tgt := 47) hx hb dX6_normal_42 (by decide) ?_
      rw [← hQ]
      exact W.iret (v := r5) hx hb hr (fun t ht1 hW => ⟨⟨_, (u1, u2), rfl, hm, by rw [ht1]; exact hP, hD⟩, hS.F ht1⟩) hS.2.2 dX6_normal_47
  refine lv_if_ne (tgt := 25) hx hb dX6_normal_7 (by decide) (fun c7 => ?_) (fun c7 => ?_)
  · have hm := ite_f c7 hm
    exact J25_3 uL uS _ _ _ hm hP hD hS (lv_sub hl [0] rfl)
  · have hm := ite_t c7 hm
    refine lv_aload_n hx hb dX6_normal_10 rfl (lv_at hl 0 rfl) ?_
    refine va_get (D := (dC, dI)) (ci := 7) (v := .ref aS) (C := RX6) (T := TX6) (N := 10) hx hb ht inX6 hown hK hP 0 rfl rfl 1 (by decide) (ht _ kw_432) (fun _ h9 => h9) rfl dX6_normal_11 ?_
    refine lv_aload_n hx hb dX6_normal_14 rfl (lv_at hl 0 rfl) ?_
    refine va_get (D := (dC, dI)) (ci := 7) (v := .ref (jX 5)) (C := RX6) (T := TX6) (N := 10) hx hb ht inX6 hown hK hP 0 rfl rfl 5 (by decide) (ht _ kw_431) (fun _ h9 => h9) rfl dX6_normal_15 ?_
    refine lv_aload_n hx hb dX6_normal_18 rfl (lv_at hl 0 rfl) ?_
    refine va_get (D := (dC, dI)) (ci := 7) (v := .ref aL) (C := RX6) (T := TX6) (N := 10) hx hb ht inX6 hown hK hP 0 rfl rfl 0 (by decide) (ht _ kw_435) (fun _ h9 => h9) rfl dX6_normal_19 ?_
    have hPc : va_P (dC, dI) vwCl ([wL cI cJ aL jL uL, wS cI cJ aS jS uS, wA cI cJ (fun _ => (jX 5)) (mkA 32 (uX.2.1 5))] : List va_W).flatten _ := hP.sub [3, 4, 5, 6, 7, 8, 9, 10, 11, 12, 1] rfl
    have hDc : va_D A ([wL cI cJ aL jL uL, wS cI cJ aS jS uS, wA cI cJ (fun _ => (jX 5)) (mkA 32 (uX.2.1 5))] : List va_W).flatten := hD.sub [3, 4, 5, 6, 7, 8, 9, 10, 11, 12, 1] (by decide) rfl
    have hFc := va_free (wc := ([wL cI cJ aL jL uL, wS cI cJ aS jS uS, wA cI cJ (fun _ => (jX 5)) (mkA 32 (uX.2.1 5))] : List va_W).flatten) hD hS hA [3, 4, 5, 6, 7, 8, 9, 10, 11, 12, 1] rfl
    obtain ⟨u8o, u9o, e10, hm⟩ := oC2_of hm
    refine va_callv (va_runV (As := [.ref (jX 5), .ref aL]) (rest := []) ⟨hx, hb, hml, hown, ht⟩ (c_X4_makeOf l dC dI cI cJ aL jL aS jS (fun _ => (jX 5)) H.size uL uS (mkA 32 (uX.2.1 5)) (u8o, u9o) e10) (cwV 2 ht (gdV kw_443 kw_441 kw_442 kw_199 kw_440) rfl rfl rfl ⟨rfl, nd_X4_makeOf⟩ ⟨Nat.le_of_ble_eq_true rfl, Nat.le_of_ble_eq_true rfl⟩) ⟨pcW_blind, va_recv hK hP (ci := 5) (q0 := 5) rfl rfl, pcW_pre hPc hK hDc hN⟩ rfl rfl hl.1 rfl (lv_room (Nat.le_of_ble_eq_true rfl)) dX6_normal_22 ⟨Nat.zero_le _, Nat.zero_le _⟩) hS (fun q _ z => hFc q z) hFc (fun uu t H1 locs ht1 hvm hw hB hz1 hk1 hS => ?_)
    obtain ⟨u8, u9⟩ := uu
    obtain ⟨hP1, hD1⟩ := hB
    rw [ht1] at hP1
    obtain ⟨q0, q1⟩ := inj2 hw
    subst q0
    subst q1
    obtain ⟨hP, hD⟩ := va_join (wr := [(wX cI cJ aX jX aL aS aW aR aO uX)[0], (wX cI cJ aX jX aL aS aW aR aO uX)[2]]) (w1 := ([wL cI cJ aL jL u8, wS cI cJ aS jS u9, wA cI cJ (fun _ => (jX 5)) (mkA 32 (uX.2.1 5))] : List va_W).flatten) hP hD [3, 4, 5, 6, 7, 8, 9, 10, 11, 12, 1] [0, 2] rfl rfl (by decide) (by decide) hk1 hFc hP1 hD1
    have hP : va_P (dC, dI) vwCl ([wX cI cJ aX jX aL aS aW aR aO uX, wL cI cJ aL jL u8, wS cI cJ aS jS u9] : List va_W).flatten H1 := hP.sub [0, 12, 1, 2, 3, 4, 5, 6, 7, 8, 9, 10, 11] rfl
    have hD : va_D A ([wX cI cJ aX jX aL aS aW aR aO uX, wL cI cJ aL jL u8, wS cI cJ aS jS u9] : List va_W).flatten := hD.sub [0, 12, 1, 2, 3, 4, 5, 6, 7, 8, 9, 10, 11] (by decide) rfl
    generalize H1 = H at hP hS ⊢
    exact J25_3 u8 u9 _ _ _ hm hP hD hS (lv_sub hl [0] rfl)

def f_X6_share (uX : OS) (uS : OS) (p1 : Int32) : Option (Int32) :=
  oC1 (f_X6_isSign p1) fun r1 =>
  if r1 = (0 : Int32) then (
  some (-1 : Int32)) else (
  oC1 (f_X4_shareOf uS p1) fun r4 =>
  some r4)

set_option maxHeartbeats 4000000 in
set_option maxRecDepth 100000 in
theorem c_X6_share (l : Launch) (dC : Nat → ClassId) (dI : Nat → Nat → Nat) (cI cJ : ClassId) (aX : Nat) (jX : Nat → Nat) (aS : Nat) (jS : Nat → Nat) (aL : Nat) (aW : Nat) (aR : Nat) (aO : Nat) (sz : Nat) (uX : OS) (uS : OS) (p1 : Int32) (o : Int32) (hm : f_X6_share uX uS p1 = some o) : Met l yX6_share (wq yX6_share cX6_share 2 (some .int)) ({ frames := 2, cells := 0, slots := 0, locals := 41 } : Room) (va_Pc [.ref aX, .int p1] (pcW dC dI cI cJ sz ([wX cI cJ aX jX aL aS aW aR aO uX, wS cI cJ aS jS uS] : List va_W).flatten)) (va_Qi (S := Unit) (fun r u => some r = some o) (fun (u : Unit) t => va_P (dC, dI) vwCl ([wX cI cJ aX jX aL aS aW aR aO uX, wS cI cJ aS jS uS] : List va_W).flatten t.heap ∧ va_D (va_A ([wX cI cJ aX jX aL aS aW aR aO uX, wS cI cJ aS jS uS] : List va_W).flatten sz) ([wX cI cJ aX jX aL aS aW aR aO uX, wS cI cJ aS jS uS] : List va_W).flatten) (va_A ([wX cI cJ aX jX aL aS aW aR aO uX, wS cI cJ aS jS uS] : List va_W).flatten sz)) 0 0 (va_A ([wX cI cJ aX jX aL aS aW aR aO uX, wS cI cJ aS jS uS] : List va_W).flatten sz) := by
  refine Met.ofW (cc := cX6_share) (maxL := 2) (ret := (some .int)) (by decide) rfl ?_
  intro p e s m args below meth c s₁ B hml hv
  obtain ⟨rfl, hsz, hP, hK, hD0, hN⟩ := hv
  have hx := B.exec
  have hb := B.bytes
  have hr := B.returns
  have ht : ∀ w ∈ lw_good, w.before _ s = true := fun w h => atoms_spec (ws := wq yX6_share cX6_share 2 (some .int)) B.pre w (wq_mem h)
  have hown : s.vm.findClass RX6 = some m.cls := findClass_of_methodNamed B.named
  have hlocks := B.notSynchronized
  subst hsz
  have hD := hD0.self (sz := s.heap.size)
  generalize hAe : va_A ([wX cI cJ aX jX aL aS aW aR aO uX, wS cI cJ aS jS uS] : List va_W).flatten s.heap.size = A at hD ⊢
  have hA : ∀ q : Nat, s.heap.size ≤ q → A q := fun q h => by rw [← hAe]; exact Or.inr h
  have hS : va_S A s.heap s.heap [] := va_S.rf
  have hl := lv_entry ([.ref aX, .int p1]) (n := 2) (Nat.le_of_ble_eq_true rfl)
  rw [lg_entry_eq]
  generalize (lg_sl ([.ref aX, .int p1]) ++ List.replicate (2 - (lg_sl ([.ref aX, .int p1])).length) Slot.unset).toArray = ls at hl ⊢
  have hl : lv_has ls 2 [(0, .ref aX), (1, .int p1)] := hl
  generalize hQ : MQ below _ _ s _ _ _ = Q
  generalize hH : s.heap = H at hP ⊢
  have hS : va_S A s.heap H [] := by rw [← hH]; exact va_S.rf
  show W p l e ({ frames := 2, cells := 0, slots := 0, locals := 41 } : Room) s m ([.ref aX, .int p1] : List Value).toArray below meth c H [] 0 0 Q (F0 m 0 ls [])
  unfold f_X6_share at hm
  refine lv_iload_n hx hb dX6_share_0 rfl (lv_at hl 1 rfl) ?_
  have hPc : va_P (dC, dI) vwCl ([] : List va_W).flatten _ := hP.subF [] rfl
  have hDc : va_D A ([] : List va_W).flatten := hD.subF [] (by decide) rfl
  have hFc := va_freeF (fc := ([] : List va_W)) hD hS hA [] rfl
  obtain ⟨r1o, e2, hm⟩ := oC1_of hm
  refine va_calli (va_runS (As := [.int p1]) (rest := []) ⟨hx, hb, hml, hown, ht⟩ (c_X6_isSign l dC dI cI cJ H.size p1 r1o e2) (va_cwS 1 ht (gdS kw_428 kw_215 kw_161 kw_214) rfl rfl rfl nd_X6_isSign ⟨Nat.le_of_ble_eq_true rfl, Nat.le_of_ble_eq_true rfl⟩) ⟨pcW_blind, pcW_pre hPc hK hDc hN⟩ rfl rfl hl.1 rfl (lv_room (Nat.le_of_ble_eq_true rfl)) dX6_share_1 ⟨Nat.zero_le _, Nat.zero_le _⟩) hS (fun q _ z => hFc q z) hFc (fun r1 uu t H1 locs ht1 hvm hw hB hz1 hk1 hS => ?_)
  obtain ⟨⟩ := uu
  obtain ⟨hP1, hD1⟩ := hB
  rw [ht1] at hP1
  obtain rfl : r1 = r1o := Option.some.inj hw
  obtain ⟨hP, hD⟩ := va_joinF (fr := ([wX cI cJ aX jX aL aS aW aR aO uX, wS cI cJ aS jS uS] : List va_W)) (f1 := ([] : List va_W)) hP hD [] [0, 1] rfl rfl (by decide) (by decide) hk1 hFc hP1 hD1
  have hP : va_P (dC, dI) vwCl ([wX cI cJ aX jX aL aS aW aR aO uX, wS cI cJ aS jS uS] : List va_W).flatten H1 := hP
  have hD : va_D A ([wX cI cJ aX jX aL aS aW aR aO uX, wS cI cJ aS jS uS] : List va_W).flatten := hD
  generalize H1 = H at hP hS ⊢
  refine lv_if_eq (tgt := 18) hx hb dX6_share_4 (by decide) (fun c3 => ?_) (fun c3 => ?_)
  · have hm := ite_t c3 hm
    refine lv_iconst (v := (-1 : Int32)) hx hb dX6_share_18 (by decide) ?_
    rw [← hQ]
    exact W.iret (v := (-1 : Int32)) hx hb hr (fun t ht1 hW => ⟨⟨_, (), rfl, hm, by rw [ht1]; exact hP, hD⟩, hS.F ht1⟩) hS.2.2 dX6_share_19
  · have hm := ite_f c3 hm
    refine lv_aload_n hx hb dX6_share_7 rfl (lv_at hl 0 rfl) ?_
    refine va_get (D := (dC, dI)) (ci := 7) (v := .ref aS) (C := RX6) (T := TX6) (N := 10) hx hb ht inX6 hown hK hP 0 rfl rfl 1 (by decide) (ht _ kw_432) (fun _ h9 => h9) rfl dX6_share_8 ?_
    refine lv_iload_n hx hb dX6_share_11 rfl (lv_at hl 1 rfl) ?_
    have hPc : va_P (dC, dI) vwCl ([wS cI cJ aS jS uS] : List va_W).flatten _ := hP.subF [1] rfl
    have hDc : va_D A ([wS cI cJ aS jS uS] : List va_W).flatten := hD.subF [1] (by decide) rfl
    have hFc := va_freeF (fc := ([wS cI cJ aS jS uS] : List va_W)) hD hS hA [1] rfl
    obtain ⟨r4o, e5, hm⟩ := oC1_of hm
    refine va_calli (va_runV (As := [.int p1]) (rest := []) ⟨hx, hb, hml, hown, ht⟩ (c_X4_shareOf l dC dI cI cJ aS jS H.size uS p1 r4o e5) (cwV 1 ht (gdV kw_444 kw_287 kw_288 kw_199 kw_286) rfl rfl rfl ⟨rfl, nd_X4_shareOf⟩ ⟨Nat.le_of_ble_eq_true rfl, Nat.le_of_ble_eq_true rfl⟩) ⟨pcW_blind, va_recv hK hPc (ci := 5) (q0 := 0) rfl rfl, pcW_pre hPc hK hDc hN⟩ rfl rfl hl.1 rfl (lv_room (Nat.le_of_ble_eq_true rfl)) dX6_share_12 ⟨Nat.zero_le _, Nat.zero_le _⟩) hS (fun q _ z => hFc q z) hFc (fun r4 uu t H1 locs ht1 hvm hw hB hz1 hk1 hS => ?_)
    obtain ⟨⟩ := uu
    obtain ⟨hP1, hD1⟩ := hB
    rw [ht1] at hP1
    obtain rfl : r4 = r4o := Option.some.inj hw
    obtain ⟨hP, hD⟩ := va_joinF (fr := ([wX cI cJ aX jX aL aS aW aR aO uX] : List va_W)) (f1 := ([wS cI cJ aS jS uS] : List va_W)) hP hD [1] [0] rfl rfl (by decide) (by decide) hk1 hFc hP1 hD1
    have hP : va_P (dC, dI) vwCl ([wX cI cJ aX jX aL aS aW aR aO uX, wS cI cJ aS jS uS] : List va_W).flatten H1 := hP
    have hD : va_D A ([wX cI cJ aX jX aL aS aW aR aO uX, wS cI cJ aS jS uS] : List va_W).flatten := hD
    generalize H1 = H at hP hS ⊢
    refine lv_goto (tgt := 19) hx hb dX6_share_15 (by decide) ?_
    rw [← hQ]
    exact W.iret (v := r4) hx hb hr (fun t ht1 hW => ⟨⟨_, (), rfl, hm, by rw [ht1]; exact hP, hD⟩, hS.F ht1⟩) hS.2.2 dX6_share_19

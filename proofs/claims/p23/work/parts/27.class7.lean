def f_X6_loss_L18 (uX : OS) (uS : OS) : Nat → (Int64 → Int32 → OS → Option (OS × Int64)) → Int32 → Int64 → OS → Option (OS × Int64)
  | 0, _, _, _, _ => none
  | n18 + 1, K80_8, x2, y3, u4 =>
    if (32 : Int32) ≤ x2 then (
    K80_8 y3 x2 u4) else (
    gdi x2 32 <|
    if (uX.2.1 5 (x2).toNatClampNeg) ≤ (0 : Int32) then (
    bnd (x2 + (1 : Int32)) fun x12 =>
    f_X6_loss_L18 uX uS n18 K80_8 x12 y3 u4) else (
    gdi x2 32 <|
    oC2 (f_X0_of u4 (uS.1 1)) fun u14 r15 =>
    oC1 (f_X4_shareOf uS x2) fun r17 =>
    oC2 (f_X0_of u14 r17) fun u19 r20 =>
    bnd (y3 + (((uX.2.1 5 (x2).toNatClampNeg)).toInt64 * (r15 - r20))) fun y22 =>
    bnd (x2 + (1 : Int32)) fun x23 =>
    f_X6_loss_L18 uX uS n18 K80_8 x23 y22 u19))

def f_X6_loss (uX : OS) (uL : OS) (uS : OS) : Option (OS × Int64) :=
  if (uS.1 2) = (0 : Int32) then (
  some (uL, (-1 : Int64))) else (
  bnd (fun (y5 : Int64) (x6 : Int32) (u7 : OS) =>
  some (u7, y5)) fun K80_8 =>
  f_X6_loss_L18 uX uS FU K80_8 (0 : Int32) (0 : Int64) uL)

set_option maxHeartbeats 4000000 in
set_option maxRecDepth 100000 in
theorem c_X6_loss (l : Launch) (dC : Nat → ClassId) (dI : Nat → Nat → Nat) (cI cJ : ClassId) (aX : Nat) (jX : Nat → Nat) (aL : Nat) (jL : Nat → Nat) (aS : Nat) (jS : Nat → Nat) (aW : Nat) (aR : Nat) (aO : Nat) (sz : Nat) (uX : OS) (uL : OS) (uS : OS) (o : OS × Int64) (hm : f_X6_loss uX uL uS = some o) : Met l yX6_loss (wq yX6_loss cX6_loss 4 (some .long)) ({ frames := 3, cells := 0, slots := 0, locals := 70 } : Room) (va_Pc [.ref aX] (pcW dC dI cI cJ sz ([wX cI cJ aX jX aL aS aW aR aO uX, wL cI cJ aL jL uL, wS cI cJ aS jS uS] : List va_W).flatten)) (va_Ql (S := OS) (fun r u => some (u, r) = some o) (fun (u : OS) t => va_P (dC, dI) vwCl ([wX cI cJ aX jX aL aS aW aR aO uX, wL cI cJ aL jL u, wS cI cJ aS jS uS] : List va_W).flatten t.heap ∧ va_D (va_A ([wX cI cJ aX jX aL aS aW aR aO uX, wL cI cJ aL jL uL, wS cI cJ aS jS uS] : List va_W).flatten sz) ([wX cI cJ aX jX aL aS aW aR aO uX, wL cI cJ aL jL u, wS cI cJ aS jS uS] : List va_W).flatten) (va_A ([wX cI cJ aX jX aL aS aW aR aO uX, wL cI cJ aL jL uL, wS cI cJ aS jS uS] : List va_W).flatten sz)) 0 0 (va_A ([wX cI cJ aX jX aL aS aW aR aO uX, wL cI cJ aL jL uL, wS cI cJ aS jS uS] : List va_W).flatten sz) := by
  refine Met.ofW (cc := cX6_loss) (maxL := 4) (ret := (some .long)) (by decide) rfl ?_
  intro p e s m args below meth c s₁ B hml hv
  obtain ⟨rfl, hsz, hP, hK, hD0, hN⟩ := hv
  have hx := B.exec
  have hb := B.bytes
  have hr := B.returns
  have ht : ∀ w ∈ lw_good, w.before _ s = true := fun w h => atoms_spec (ws := wq yX6_loss cX6_loss 4 (some .long)) B.pre w (wq_mem h)
  have hown : s.vm.findClass RX6 = some m.cls := findClass_of_methodNamed B.named
  have hlocks := B.notSynchronized
  subst hsz
  have hD := hD0.self (sz := s.heap.size)
  generalize hAe : va_A ([wX cI cJ aX jX aL aS aW aR aO uX, wL cI cJ aL jL uL, wS cI cJ aS jS uS] : List va_W).flatten s.heap.size = A at hD ⊢
  have hA : ∀ q : Nat, s.heap.size ≤ q → A q := fun q h => by rw [← hAe]; exact Or.inr h
  have hS : va_S A s.heap s.heap [] := va_S.rf
  have hl := lv_entry ([.ref aX]) (n := 4) (Nat.le_of_ble_eq_true rfl)
  rw [lg_entry_eq]
  generalize (lg_sl ([.ref aX]) ++ List.replicate (4 - (lg_sl ([.ref aX])).length) Slot.unset).toArray = ls at hl ⊢
  have hl : lv_has ls 4 [(0, .ref aX)] := hl
  generalize hQ : MQ below _ _ s _ _ _ = Q
  generalize hH : s.heap = H at hP ⊢
  have hS : va_S A s.heap H [] := by rw [← hH]; exact va_S.rf
  show W p l e ({ frames := 3, cells := 0, slots := 0, locals := 70 } : Room) s m ([.ref aX] : List Value).toArray below meth c H [] 0 0 Q (F0 m 0 ls [])
  unfold f_X6_loss at hm
  refine lv_aload_n hx hb dX6_loss_0 rfl (lv_at hl 0 rfl) ?_
  refine va_get (D := (dC, dI)) (ci := 7) (v := .ref aS) (C := RX6) (T := TX6) (N := 10) hx hb ht inX6 hown hK hP 0 rfl rfl 1 (by decide) (ht _ kw_432) (fun _ h9 => h9) rfl dX6_loss_1 ?_
  refine va_getN (D := (dC, dI)) (ci := 5) (v := .int (uS.1 2)) (C := RX4) (T := TX4) (N := 11) hx hb ht inX4 hown hK hP 5 rfl rfl 2 (by decide) (va_Nw.use rfl (hN _ kn_18)) (fun _ h9 => h9) rfl dX6_loss_4 ?_
  refine lv_if_ne (tgt := 14) hx hb dX6_loss_7 (by decide) (fun c1 => ?_) (fun c1 => ?_)
  · have hm := ite_f c1 hm
    refine lv_lconst (v := (0 : Int64)) hx hb dX6_loss_14 (by decide) ?_
    refine lv_lstore_n (lv' := [(1, .long (0 : Int64)), (0, .ref aX)]) hx hb dX6_loss_15 rfl hl (by decide) rfl (fun ls hl => ?_)
    refine lv_iconst (v := (0 : Int32)) hx hb dX6_loss_16 (by decide) ?_
    refine lv_istore_n (lv' := [(3, .int (0 : Int32)), (1, .long (0 : Int64)), (0, .ref aX)]) hx hb dX6_loss_17 rfl hl (by decide) rfl (fun ls hl => ?_)
    obtain ⟨K80_8, eK80_8, hm⟩ := bnd_ex hm
    have X80_8 : ∀ (y5 : Int64) (x6 : Int32) (u7 : OS) (H : Heap) (locs : List Loc) (ls : Array Slot), K80_8 y5 x6 u7 = some o → va_P (dC, dI) vwCl ([wX cI cJ aX jX aL aS aW aR aO uX, wL cI cJ aL jL u7, wS cI cJ aS jS uS] : List va_W).flatten H → va_D A ([wX cI cJ aX jX aL aS aW aR aO uX, wL cI cJ aL jL u7, wS cI cJ aS jS uS] : List va_W).flatten → va_S A s.heap H locs → lv_has ls 4 [(0, .ref aX), (1, .long y5), (3, .int x6)] → W p l e ({ frames := 3, cells := 0, slots := 0, locals := 70 } : Room) s m ([.ref aX] : List Value).toArray below meth c H locs 0 0 Q (F0 m 80 ls []) := by
      intro y5 x6 u7 H locs ls hm hP hD hS hl
      have hm := ap3 eK80_8 hm
      refine lv_lload_n hx hb dX6_loss_80 rfl (lv_at hl 1 rfl) ?_
      rw [← hQ]
      exact W.lret (v := y5) hx hb hr (fun t ht1 hW => ⟨⟨_, u7, rfl, hm, by rw [ht1]; exact hP, hD⟩, hS.F ht1⟩) hS.2.2 dX6_loss_81
    have LP18 : ∀ (n18 : Nat) (x2 : Int32) (y3 : Int64) (u4 : OS) (H : Heap) (locs : List Loc) (ls : Array Slot), f_X6_loss_L18 uX uS n18 K80_8 x2 y3 u4 = some o → va_P (dC, dI) vwCl ([wX cI cJ aX jX aL aS aW aR aO uX, wL cI cJ aL jL u4, wS cI cJ aS jS uS] : List va_W).flatten H → va_D A ([wX cI cJ aX jX aL aS aW aR aO uX, wL cI cJ aL jL u4, wS cI cJ aS jS uS] : List va_W).flatten → va_S A s.heap H locs → lv_has ls 4 [(0, .ref aX), (1, .long y3), (3, .int x2)] → W p l e ({ frames := 3, cells := 0, slots := 0, locals := 70 } : Room) s m ([.ref aX] : List Value).toArray below meth c H locs 0 0 Q (F0 m 18 ls []) := by
      intro n18
      induction n18 with
      | zero => intro x2 y3 u4 H locs ls hm; exact nomatch (show (none : Option _) = some _ from hm)
      | succ n18 ih18 =>
        intro x2 y3 u4 H locs ls hm hP hD hS hl
        unfold f_X6_loss_L18 at hm
        refine lv_iload_n hx hb dX6_loss_18 rfl (lv_at hl 2 rfl) ?_
        refine lv_bipush (v := (32 : Int32)) hx hb dX6_loss_19 (by decide) ?_
        refine lv_icmp_ge (tgt := 80) hx hb dX6_loss_21 (by decide) (fun c9 => ?_) (fun c9 => ?_)
        · have hm := ite_t c9 hm
          exact X80_8 y3 x2 u4 _ _ _ hm hP hD hS (lv_sub hl [0, 1, 2] rfl)
        · have hm := ite_f c9 hm
          refine lv_aload_n hx hb dX6_loss_24 rfl (lv_at hl 0 rfl) ?_
          refine va_get (D := (dC, dI)) (ci := 7) (v := .ref (jX 5)) (C := RX6) (T := TX6) (N := 10) hx hb ht inX6 hown hK hP 0 rfl rfl 5 (by decide) (ht _ kw_431) (fun _ h9 => h9) rfl dX6_loss_25 ?_
          refine lv_iload_n hx hb dX6_loss_28 rfl (lv_at hl 2 rfl) ?_
          obtain ⟨g10, hm⟩ := gdi_of hm
          refine va_iald hx hb hK hP 1 0 rfl rfl g10 dX6_loss_29 ?_
          refine lv_if_le (tgt := 74) hx hb dX6_loss_30 (by decide) (fun c11 => ?_) (fun c11 => ?_)
          · have hm := ite_t c11 hm
            obtain ⟨x12, ex12, hm⟩ := bnd_ex hm
            refine lv_iinc (v := x12) (lv' := [(3, .int x12), (0, .ref aX), (1, .long y3)]) hx hb dX6_loss_74 hl (k := 2) rfl (by rw [ex12]; exact congrArg _ (by decide)) (by decide) rfl (fun ls hl => ?_)
            refine lv_goto (tgt := 18) hx hb dX6_loss_77 (by decide) ?_
            exact ih18 x12 y3 u4 _ _ _ hm hP hD hS (lv_sub hl [1, 2, 0] rfl)
          · have hm := ite_f c11 hm
            refine lv_lload_n hx hb dX6_loss_33 rfl (lv_at hl 1 rfl) ?_
            refine lv_aload_n hx hb dX6_loss_34 rfl (lv_at hl 0 rfl) ?_
            refine va_get (D := (dC, dI)) (ci := 7) (v := .ref (jX 5)) (C := RX6) (T := TX6) (N := 10) hx hb ht inX6 hown hK hP 0 rfl rfl 5 (by decide) (ht _ kw_431) (fun _ h9 => h9) rfl dX6_loss_35 ?_
            refine lv_iload_n hx hb dX6_loss_38 rfl (lv_at hl 2 rfl) ?_
            obtain ⟨g13, hm⟩ := gdi_of hm
            refine va_iald hx hb hK hP 1 0 rfl rfl g13 dX6_loss_39 ?_
            refine lv_i2l hx hb dX6_loss_40 rfl ?_
            refine lv_aload_n hx hb dX6_loss_41 rfl (lv_at hl 0 rfl) ?_
            refine va_get (D := (dC, dI)) (ci := 7) (v := .ref aL) (C := RX6) (T := TX6) (N := 10) hx hb ht inX6 hown hK hP 0 rfl rfl 0 (by decide) (ht _ kw_435) (fun _ h9 => h9) rfl dX6_loss_42 ?_
            refine lv_aload_n hx hb dX6_loss_45 rfl (lv_at hl 0 rfl) ?_
            refine va_get (D := (dC, dI)) (ci := 7) (v := .ref aS) (C := RX6) (T := TX6) (N := 10) hx hb ht inX6 hown hK hP 0 rfl rfl 1 (by decide) (ht _ kw_432) (fun _ h9 => h9) rfl dX6_loss_46 ?_
            refine va_getN (D := (dC, dI)) (ci := 5) (v := .int (uS.1 1)) (C := RX4) (T := TX4) (N := 11) hx hb ht inX4 hown hK hP 5 rfl rfl 1 (by decide) (va_Nw.use rfl (hN _ kn_19)) (fun _ h9 => h9) rfl dX6_loss_49 ?_
            have hPc : va_P (dC, dI) vwCl ([wL cI cJ aL jL u4] : List va_W).flatten _ := hP.subF [1] rfl
            have hDc : va_D A ([wL cI cJ aL jL u4] : List va_W).flatten := hD.subF [1] (by decide) rfl
            have hFc := va_freeF (fc := ([wL cI cJ aL jL u4] : List va_W)) hD hS hA [1] rfl
            obtain ⟨u14o, r15o, e16, hm⟩ := oC2_of hm
            refine va_calll (va_runV (As := [.int (uS.1 1)]) (rest := [.long ((uX.2.1 5 (x2).toNatClampNeg)).toInt64, .long y3]) ⟨hx, hb, hml, hown, ht⟩ (c_X0_of l dC dI cI cJ aL jL H.size u4 (uS.1 1) (u14o, r15o) e16) (cwV 1 ht (gdV kw_446 kw_337 kw_338 kw_164 kw_336) rfl rfl rfl ⟨rfl, nd_X0_of⟩ ⟨Nat.le_of_ble_eq_true rfl, Nat.le_of_ble_eq_true rfl⟩) ⟨pcW_blind, va_recv hK hPc (ci := 1) (q0 := 0) rfl rfl, pcW_pre hPc hK hDc hN⟩ rfl rfl hl.1 rfl (lv_room (Nat.le_of_ble_eq_true rfl)) dX6_loss_52 ⟨Nat.zero_le _, Nat.zero_le _⟩) hS (fun q _ z => hFc q z) hFc (fun r15 uu t H1 locs ht1 hvm hw hB hz1 hk1 hS => ?_)
            obtain ⟨u14, rfl⟩ : ∃ z, z = uu := ⟨_, rfl⟩
            obtain ⟨hP1, hD1⟩ := hB
            rw [ht1] at hP1
            obtain ⟨q0, q1⟩ := inj2 hw
            subst q0
            subst q1
            obtain ⟨hP, hD⟩ := va_joinF (fr := ([wX cI cJ aX jX aL aS aW aR aO uX, wS cI cJ aS jS uS] : List va_W)) (f1 := ([wL cI cJ aL jL u14] : List va_W)) hP hD [1] [0, 2] rfl rfl (by decide) (by decide) hk1 hFc hP1 hD1
            have hP : va_P (dC, dI) vwCl ([wX cI cJ aX jX aL aS aW aR aO uX, wL cI cJ aL jL u14, wS cI cJ aS jS uS] : List va_W).flatten H1 := hP.subF [0, 2, 1] rfl
            have hD : va_D A ([wX cI cJ aX jX aL aS aW aR aO uX, wL cI cJ aL jL u14, wS cI cJ aS jS uS] : List va_W).flatten := hD.subF [0, 2, 1] (by decide) rfl
            generalize H1 = H at hP hS ⊢
            refine lv_aload_n hx hb dX6_loss_55 rfl (lv_at hl 0 rfl) ?_
            refine va_get (D := (dC, dI)) (ci := 7) (v := .ref aL) (C := RX6) (T := TX6) (N := 10) hx hb ht inX6 hown hK hP 0 rfl rfl 0 (by decide) (ht _ kw_435) (fun _ h9 => h9) rfl dX6_loss_56 ?_
            refine lv_aload_n hx hb dX6_loss_59 rfl (lv_at hl 0 rfl) ?_
            refine va_get (D := (dC, dI)) (ci := 7) (v := .ref aS) (C := RX6) (T := TX6) (N := 10) hx hb ht inX6 hown hK hP 0 rfl rfl 1 (by decide) (ht _ kw_432) (fun _ h9 => h9) rfl dX6_loss_60 ?_
            refine lv_iload_n hx hb dX6_loss_63 rfl (lv_at hl 2 rfl) ?_
            have hPc : va_P (dC, dI) vwCl ([wS cI cJ aS jS uS] : List va_W).flatten _ := hP.subF [2] rfl
            have hDc : va_D A ([wS cI cJ aS jS uS] : List va_W).flatten := hD.subF [2] (by decide) rfl
            have hFc := va_freeF (fc := ([wS cI cJ aS jS uS] : List va_W)) hD hS hA [2] rfl
            obtain ⟨r17o, e18, hm⟩ := oC1_of hm
            refine va_calli (va_runV (As := [.int x2]) (rest := [.ref aL, .long r15, .long ((uX.2.1 5 (x2).toNatClampNeg)).toInt64, .long y3]) ⟨hx, hb, hml, hown, ht⟩ (c_X4_shareOf l dC dI cI cJ aS jS H.size uS x2 r17o e18) (cwV 1 ht (gdV kw_444 kw_287 kw_288 kw_199 kw_286) rfl rfl rfl ⟨rfl, nd_X4_shareOf⟩ ⟨Nat.le_of_ble_eq_true rfl, Nat.le_of_ble_eq_true rfl⟩) ⟨pcW_blind, va_recv hK hPc (ci := 5) (q0 := 0) rfl rfl, pcW_pre hPc hK hDc hN⟩ rfl rfl hl.1 rfl (lv_room (Nat.le_of_ble_eq_true rfl)) dX6_loss_64 ⟨Nat.zero_le _, Nat.zero_le _⟩) hS (fun q _ z => hFc q z) hFc (fun r17 uu t H1 locs ht1 hvm hw hB hz1 hk1 hS => ?_)
            obtain ⟨⟩ := uu
            obtain ⟨hP1, hD1⟩ := hB
            rw [ht1] at hP1
            obtain rfl : r17 = r17o := Option.some.inj hw
            obtain ⟨hP, hD⟩ := va_joinF (fr := ([wX cI cJ aX jX aL aS aW aR aO uX, wL cI cJ aL jL u14] : List va_W)) (f1 := ([wS cI cJ aS jS uS] : List va_W)) hP hD [2] [0, 1] rfl rfl (by decide) (by decide) hk1 hFc hP1 hD1
            have hP : va_P (dC, dI) vwCl ([wX cI cJ aX jX aL aS aW aR aO uX, wL cI cJ aL jL u14, wS cI cJ aS jS uS] : List va_W).flatten H1 := hP
            have hD : va_D A ([wX cI cJ aX jX aL aS aW aR aO uX, wL cI cJ aL jL u14, wS cI cJ aS jS uS] : List va_W).flatten := hD
            generalize H1 = H at hP hS ⊢
            have hPc : va_P (dC, dI) vwCl ([wL cI cJ aL jL u14] : List va_W).flatten _ := hP.subF [1] rfl
            have hDc : va_D A ([wL cI cJ aL jL u14] : List va_W).flatten := hD.subF [1] (by decide) rfl
            have hFc := va_freeF (fc := ([wL cI cJ aL jL u14] : List va_W)) hD hS hA [1] rfl
            obtain ⟨u19o, r20o, e21, hm⟩ := oC2_of hm
            refine va_calll (va_runV (As := [.int r17]) (rest := [.long r15, .long ((uX.2.1 5 (x2).toNatClampNeg)).toInt64, .long y3]) ⟨hx, hb, hml, hown, ht⟩ (c_X0_of l dC dI cI cJ aL jL H.size u14 r17 (u19o, r20o) e21) (cwV 1 ht (gdV kw_446 kw_337 kw_338 kw_164 kw_336) rfl rfl rfl ⟨rfl, nd_X0_of⟩ ⟨Nat.le_of_ble_eq_true rfl, Nat.le_of_ble_eq_true rfl⟩) ⟨pcW_blind, va_recv hK hPc (ci := 1) (q0 := 0) rfl rfl, pcW_pre hPc hK hDc hN⟩ rfl rfl hl.1 rfl (lv_room (Nat.le_of_ble_eq_true rfl)) dX6_loss_67 ⟨Nat.zero_le _, Nat.zero_le _⟩) hS (fun q _ z => hFc q z) hFc (fun r20 uu t H1 locs ht1 hvm hw hB hz1 hk1 hS => ?_)
            obtain ⟨u19, rfl⟩ : ∃ z, z = uu := ⟨_, rfl⟩
            obtain ⟨hP1, hD1⟩ := hB
            rw [ht1] at hP1
            obtain ⟨q0, q1⟩ := inj2 hw
            subst q0
            subst q1
            obtain ⟨hP, hD⟩ := va_joinF (fr := ([wX cI cJ aX jX aL aS aW aR aO uX, wS cI cJ aS jS uS] : List va_W)) (f1 := ([wL cI cJ aL jL u19] : List va_W)) hP hD [1] [0, 2] rfl rfl (by decide) (by decide) hk1 hFc hP1 hD1
            have hP : va_P (dC, dI) vwCl ([wX cI cJ aX jX aL aS aW aR aO uX, wL cI cJ aL jL u19, wS cI cJ aS jS uS] : List va_W).flatten H1 := hP.subF [0, 2, 1] rfl
            have hD : va_D A ([wX cI cJ aX jX aL aS aW aR aO uX, wL cI cJ aL jL u19, wS cI cJ aS jS uS] : List va_W).flatten := hD.subF [0, 2, 1] (by decide) rfl
            generalize H1 = H at hP hS ⊢
            refine lv_lsub hx hb dX6_loss_70 ?_
            refine lv_lmul hx hb dX6_loss_71 ?_
            refine lv_ladd hx hb dX6_loss_72 ?_
            refine lv_topl (fun y22 ey22 => ?_)
            have hm := bnd_nm ey22 hm
            refine lv_lstore_n (lv' := [(1, .long y22), (0, .ref aX), (3, .int x2)]) hx hb dX6_loss_73 rfl hl (by decide) rfl (fun ls hl => ?_)
            obtain ⟨x23, ex23, hm⟩ := bnd_ex hm
            refine lv_iinc (v := x23) (lv' := [(3, .int x23), (1, .long y22), (0, .ref aX)]) hx hb dX6_loss_74 hl (k := 2) rfl (by rw [ex23]; exact congrArg _ (by decide)) (by decide) rfl (fun ls hl => ?_)
            refine lv_goto (tgt := 18) hx hb dX6_loss_77 (by decide) ?_
            exact ih18 x23 y22 u19 _ _ _ hm hP hD hS (lv_sub hl [2, 1, 0] rfl)
    exact LP18 FU (0 : Int32) (0 : Int64) uL _ _ _ hm hP hD hS (lv_sub hl [2, 1, 0] rfl)
  · have hm := ite_t c1 hm
    refine lv_ldc2 (v := (-1 : Int64)) hx hb hown (ht _ kw_445) dX6_loss_10 ?_
    rw [← hQ]
    exact W.lret (v := (-1 : Int64)) hx hb hr (fun t ht1 hW => ⟨⟨_, uL, rfl, hm, by rw [ht1]; exact hP, hD⟩, hS.F ht1⟩) hS.2.2 dX6_loss_13

def f_X6_lg (uX : OS) (uL : OS) (p1 : Int32) : Option (OS × Int64) :=
  oC2 (f_X0_of uL p1) fun u1 r2 =>
  some (u1, r2)

set_option maxHeartbeats 4000000 in
set_option maxRecDepth 100000 in
theorem c_X6_lg (l : Launch) (dC : Nat → ClassId) (dI : Nat → Nat → Nat) (cI cJ : ClassId) (aX : Nat) (jX : Nat → Nat) (aL : Nat) (jL : Nat → Nat) (aS : Nat) (aW : Nat) (aR : Nat) (aO : Nat) (sz : Nat) (uX : OS) (uL : OS) (p1 : Int32) (o : OS × Int64) (hm : f_X6_lg uX uL p1 = some o) : Met l yX6_lg (wq yX6_lg cX6_lg 2 (some .long)) ({ frames := 3, cells := 0, slots := 0, locals := 70 } : Room) (va_Pc [.ref aX, .int p1] (pcW dC dI cI cJ sz ([wX cI cJ aX jX aL aS aW aR aO uX, wL cI cJ aL jL uL] : List va_W).flatten)) (va_Ql (S := OS) (fun r u => some (u, r) = some o) (fun (u : OS) t => va_P (dC, dI) vwCl ([wX cI cJ aX jX aL aS aW aR aO uX, wL cI cJ aL jL u] : List va_W).flatten t.heap ∧ va_D (va_A ([wX cI cJ aX jX aL aS aW aR aO uX, wL cI cJ aL jL uL] : List va_W).flatten sz) ([wX cI cJ aX jX aL aS aW aR aO uX, wL cI cJ aL jL u] : List va_W).flatten) (va_A ([wX cI cJ aX jX aL aS aW aR aO uX, wL cI cJ aL jL uL] : List va_W).flatten sz)) 0 0 (va_A ([wX cI cJ aX jX aL aS aW aR aO uX, wL cI cJ aL jL uL] : List va_W).flatten sz) := by
  refine Met.ofW (cc := cX6_lg) (maxL := 2) (ret := (some .long)) (by decide) rfl ?_
  intro p e s m args below meth c s₁ B hml hv
  obtain ⟨rfl, hsz, hP, hK, hD0, hN⟩ := hv
  have hx := B.exec
  have hb := B.bytes
  have hr := B.returns
  have ht : ∀ w ∈ lw_good, w.before _ s = true := fun w h => atoms_spec (ws := wq yX6_lg cX6_lg 2 (some .long)) B.pre w (wq_mem h)
  have hown : s.vm.findClass RX6 = some m.cls := findClass_of_methodNamed B.named
  have hlocks := B.notSynchronized
  subst hsz
  have hD := hD0.self (sz := s.heap.size)
  generalize hAe : va_A ([wX cI cJ aX jX aL aS aW aR aO uX, wL cI cJ aL jL uL] : List va_W).flatten s.heap.size = A at hD ⊢
  have hA : ∀ q : Nat, s.heap.size ≤ q → A q := fun q h => by rw [← hAe]; exact Or.inr h
  have hS : va_S A s.heap s.heap [] := va_S.rf
  have hl := lv_entry ([.ref aX, .int p1]) (n := 2) (Nat.le_of_ble_eq_true rfl)
  rw [lg_entry_eq]
  generalize (lg_sl ([.ref aX, .int p1]) ++ List.replicate (2 - (lg_sl ([.ref aX, .int p1])).length) Slot.unset).toArray = ls at hl ⊢
  have hl : lv_has ls 2 [(0, .ref aX), (1, .int p1)] := hl
  generalize hQ : MQ below _ _ s _ _ _ = Q
  generalize hH : s.heap = H at hP ⊢
  have hS : va_S A s.heap H [] := by rw [← hH]; exact va_S.rf
  show W p l e ({ frames := 3, cells := 0, slots := 0, locals := 70 } : Room) s m ([.ref aX, .int p1] : List Value).toArray below meth c H [] 0 0 Q (F0 m 0 ls [])
  unfold f_X6_lg at hm
  refine lv_aload_n hx hb dX6_lg_0 rfl (lv_at hl 0 rfl) ?_
  refine va_get (D := (dC, dI)) (ci := 7) (v := .ref aL) (C := RX6) (T := TX6) (N := 10) hx hb ht inX6 hown hK hP 0 rfl rfl 0 (by decide) (ht _ kw_435) (fun _ h9 => h9) rfl dX6_lg_1 ?_
  refine lv_iload_n hx hb dX6_lg_4 rfl (lv_at hl 1 rfl) ?_
  have hPc : va_P (dC, dI) vwCl ([wL cI cJ aL jL uL] : List va_W).flatten _ := hP.subF [1] rfl
  have hDc : va_D A ([wL cI cJ aL jL uL] : List va_W).flatten := hD.subF [1] (by decide) rfl
  have hFc := va_freeF (fc := ([wL cI cJ aL jL uL] : List va_W)) hD hS hA [1] rfl
  obtain ⟨u1o, r2o, e3, hm⟩ := oC2_of hm
  refine va_calll (va_runV (As := [.int p1]) (rest := []) ⟨hx, hb, hml, hown, ht⟩ (c_X0_of l dC dI cI cJ aL jL H.size uL p1 (u1o, r2o) e3) (cwV 1 ht (gdV kw_446 kw_337 kw_338 kw_164 kw_336) rfl rfl rfl ⟨rfl, nd_X0_of⟩ ⟨Nat.le_of_ble_eq_true rfl, Nat.le_of_ble_eq_true rfl⟩) ⟨pcW_blind, va_recv hK hPc (ci := 1) (q0 := 0) rfl rfl, pcW_pre hPc hK hDc hN⟩ rfl rfl hl.1 rfl (lv_room (Nat.le_of_ble_eq_true rfl)) dX6_lg_5 ⟨Nat.zero_le _, Nat.zero_le _⟩) hS (fun q _ z => hFc q z) hFc (fun r2 uu t H1 locs ht1 hvm hw hB hz1 hk1 hS => ?_)
  obtain ⟨u1, rfl⟩ : ∃ z, z = uu := ⟨_, rfl⟩
  obtain ⟨hP1, hD1⟩ := hB
  rw [ht1] at hP1
  obtain ⟨q0, q1⟩ := inj2 hw
  subst q0
  subst q1
  obtain ⟨hP, hD⟩ := va_joinF (fr := ([wX cI cJ aX jX aL aS aW aR aO uX] : List va_W)) (f1 := ([wL cI cJ aL jL u1] : List va_W)) hP hD [1] [0] rfl rfl (by decide) (by decide) hk1 hFc hP1 hD1
  have hP : va_P (dC, dI) vwCl ([wX cI cJ aX jX aL aS aW aR aO uX, wL cI cJ aL jL u1] : List va_W).flatten H1 := hP
  have hD : va_D A ([wX cI cJ aX jX aL aS aW aR aO uX, wL cI cJ aL jL u1] : List va_W).flatten := hD
  generalize H1 = H at hP hS ⊢
  rw [← hQ]
  exact W.lret (v := r2) hx hb hr (fun t ht1 hW => ⟨⟨_, u1, rfl, hm, by rw [ht1]; exact hP, hD⟩, hS.F ht1⟩) hS.2.2 dX6_lg_8

def f_X6_form (uX : OS) (p1 : Int32) : Option (OS × Int32) :=
  if p1 < (0 : Int32) then (
  some (uX, (-1 : Int32))) else (
  if p1 ≤ (3 : Int32) then (
  bnd (uX.1 8) fun x3 =>
  bnd (sF uX 8 p1) fun u4 =>
  some (u4, x3)) else (
  some (uX, (-1 : Int32))))

set_option maxHeartbeats 4000000 in
set_option maxRecDepth 100000 in
theorem c_X6_form (l : Launch) (dC : Nat → ClassId) (dI : Nat → Nat → Nat) (cI cJ : ClassId) (aX : Nat) (jX : Nat → Nat) (aL : Nat) (aS : Nat) (aW : Nat) (aR : Nat) (aO : Nat) (sz : Nat) (uX : OS) (p1 : Int32) (o : OS × Int32) (hm : f_X6_form uX p1 = some o) : Met l yX6_form (wq yX6_form cX6_form 3 (some .int)) ({ frames := 0, cells := 0, slots := 0, locals := 0 } : Room) (va_Pc [.ref aX, .int p1] (pcW dC dI cI cJ sz ([wX cI cJ aX jX aL aS aW aR aO uX] : List va_W).flatten)) (va_Qi (S := OS) (fun r u => some (u, r) = some o) (fun (u : OS) t => va_P (dC, dI) vwCl ([wX cI cJ aX jX aL aS aW aR aO u] : List va_W).flatten t.heap ∧ va_D (va_A ([wX cI cJ aX jX aL aS aW aR aO uX] : List va_W).flatten sz) ([wX cI cJ aX jX aL aS aW aR aO u] : List va_W).flatten) (va_A ([wX cI cJ aX jX aL aS aW aR aO uX] : List va_W).flatten sz)) 0 0 (va_A ([wX cI cJ aX jX aL aS aW aR aO uX] : List va_W).flatten sz) := by
  refine Met.ofW (cc := cX6_form) (maxL := 3) (ret := (some .int)) (by decide) rfl ?_
  intro p e s m args below meth c s₁ B hml hv
  obtain ⟨rfl, hsz, hP, hK, hD0, hN⟩ := hv
  have hx := B.exec
  have hb := B.bytes
  have hr := B.returns
  have ht : ∀ w ∈ lw_good, w.before _ s = true := fun w h => atoms_spec (ws := wq yX6_form cX6_form 3 (some .int)) B.pre w (wq_mem h)
  have hown : s.vm.findClass RX6 = some m.cls := findClass_of_methodNamed B.named
  have hlocks := B.notSynchronized
  subst hsz
  have hD := hD0.self (sz := s.heap.size)
  generalize hAe : va_A ([wX cI cJ aX jX aL aS aW aR aO uX] : List va_W).flatten s.heap.size = A at hD ⊢
  have hA : ∀ q : Nat, s.heap.size ≤ q → A q := fun q h => by rw [← hAe]; exact Or.inr h
  have hS : va_S A s.heap s.heap [] := va_S.rf
  have hl := lv_entry ([.ref aX, .int p1]) (n := 3) (Nat.le_of_ble_eq_true rfl)
  rw [lg_entry_eq]
  generalize (lg_sl ([.ref aX, .int p1]) ++ List.replicate (3 - (lg_sl ([.ref aX, .int p1])).length) Slot.unset).toArray = ls at hl ⊢
  have hl : lv_has ls 3 [(0, .ref aX), (1, .int p1)] := hl
  generalize hQ : MQ below _ _ s _ _ _ = Q
  generalize hH : s.heap = H at hP ⊢
  have hS : va_S A s.heap H [] := by rw [← hH]; exact va_S.rf
  show W p l e ({ frames := 0, cells := 0, slots := 0, locals := 0 } : Room) s m ([.ref aX, .int p1] : List Value).toArray below meth c H [] 0 0 Q (F0 m 0 ls [])
  unfold f_X6_form at hm
  refine lv_iload_n hx hb dX6_form_0 rfl (lv_at hl 1 rfl) ?_
  refine lv_if_lt (tgt := 9) hx hb dX6_form_1 (by decide) (fun c1 => ?_) (fun c1 => ?_)
  · have hm := ite_t c1 hm
    refine lv_iconst (v := (-1 : Int32)) hx hb dX6_form_9 (by decide) ?_
    rw [← hQ]
    exact W.iret (v := (-1 : Int32)) hx hb hr (fun t ht1 hW => ⟨⟨_, uX, rfl, hm, by rw [ht1]; exact hP, hD⟩, hS.F ht1⟩) hS.2.2 dX6_form_10
  · have hm := ite_f c1 hm
    refine lv_iload_n hx hb dX6_form_4 rfl (lv_at hl 1 rfl) ?_
    refine lv_iconst (v := (3 : Int32)) hx hb dX6_form_5 (by decide) ?_
    refine lv_icmp_le (tgt := 11) hx hb dX6_form_6 (by decide) (fun c2 => ?_) (fun c2 => ?_)
    · have hm := ite_t c2 hm
      refine lv_aload_n hx hb dX6_form_11 rfl (lv_at hl 0 rfl) ?_
      refine va_get (D := (dC, dI)) (ci := 7) (v := .int (uX.1 8)) (C := RX6) (T := TX6) (N := 10) hx hb ht inX6 hown hK hP 0 rfl rfl 8 (by decide) (ht _ kw_447) (fun _ h9 => h9) rfl dX6_form_12 ?_
      refine lv_topi (fun x3 ex3 => ?_)
      have hm := bnd_nm ex3 hm
      refine lv_istore_n (lv' := [(2, .int x3), (0, .ref aX), (1, .int p1)]) hx hb dX6_form_15 rfl hl (by decide) rfl (fun ls hl => ?_)
      refine lv_aload_n hx hb dX6_form_16 rfl (lv_at hl 1 rfl) ?_
      refine lv_iload_n hx hb dX6_form_17 rfl (lv_at hl 2 rfl) ?_
      refine va_put (D := (dC, dI)) (ci := 7) (v := .int p1) (ty := .int) (C := RX6) (T := TX6) (N := 10) hx hb ht inX6 tyX6 tyX6_ok nmX6 hown hK hP hD hS 0 rfl rfl 8 (by decide) (ht _ kw_447) (fun _ h9 => h9) rfl (by decide +kernel) rfl rfl (Nat.le_of_ble_eq_true rfl) dX6_form_18 (fun H locs hP hD hS => ?_)
      obtain ⟨u4, eu4, hm⟩ := bnd_ex hm
      have hP : va_P (dC, dI) vwCl ([wX cI cJ aX jX aL aS aW aR aO u4] : List va_W).flatten H := by rw [eu4]; exact hP
      have hD : va_D A ([wX cI cJ aX jX aL aS aW aR aO u4] : List va_W).flatten := by rw [eu4]; exact hD
      refine lv_iload_n hx hb dX6_form_21 rfl (lv_at hl 0 rfl) ?_
      rw [← hQ]
      exact W.iret (v := x3) hx hb hr (fun t ht1 hW => ⟨⟨_, u4, rfl, hm, by rw [ht1]; exact hP, hD⟩, hS.F ht1⟩) hS.2.2 dX6_form_22
    · have hm := ite_f c2 hm
      refine lv_iconst (v := (-1 : Int32)) hx hb dX6_form_9 (by decide) ?_
      rw [← hQ]
      exact W.iret (v := (-1 : Int32)) hx hb hr (fun t ht1 hW => ⟨⟨_, uX, rfl, hm, by rw [ht1]; exact hP, hD⟩, hS.F ht1⟩) hS.2.2 dX6_form_10

def f_X6_lanes (uX : OS) (p1 : Int32) : Option (OS × Int32) :=
  bnd (bnd (uX.1 9) fun x2 =>
  bnd (sF uX 9 p1) fun u3 =>
  some (u3, x2)) fun K17_1 =>
  if p1 = (1 : Int32) then (
  K17_1) else (
  if p1 = (2 : Int32) then (
  K17_1) else (
  if p1 = (4 : Int32) then (
  K17_1) else (
  some (uX, (-1 : Int32)))))

set_option maxHeartbeats 4000000 in
set_option maxRecDepth 100000 in
theorem c_X6_lanes (l : Launch) (dC : Nat → ClassId) (dI : Nat → Nat → Nat) (cI cJ : ClassId) (aX : Nat) (jX : Nat → Nat) (aL : Nat) (aS : Nat) (aW : Nat) (aR : Nat) (aO : Nat) (sz : Nat) (uX : OS) (p1 : Int32) (o : OS × Int32) (hm : f_X6_lanes uX p1 = some o) : Met l yX6_lanes (wq yX6_lanes cX6_lanes 3 (some .int)) ({ frames := 0, cells := 0, slots := 0, locals := 0 } : Room) (va_Pc [.ref aX, .int p1] (pcW dC dI cI cJ sz ([wX cI cJ aX jX aL aS aW aR aO uX] : List va_W).flatten)) (va_Qi (S := OS) (fun r u => some (u, r) = some o) (fun (u : OS) t => va_P (dC, dI) vwCl ([wX cI cJ aX jX aL aS aW aR aO u] : List va_W).flatten t.heap ∧ va_D (va_A ([wX cI cJ aX jX aL aS aW aR aO uX] : List va_W).flatten sz) ([wX cI cJ aX jX aL aS aW aR aO u] : List va_W).flatten) (va_A ([wX cI cJ aX jX aL aS aW aR aO uX] : List va_W).flatten sz)) 0 0 (va_A ([wX cI cJ aX jX aL aS aW aR aO uX] : List va_W).flatten sz) := by
  refine Met.ofW (cc := cX6_lanes) (maxL := 3) (ret := (some .int)) (by decide) rfl ?_
  intro p e s m args below meth c s₁ B hml hv
  obtain ⟨rfl, hsz, hP, hK, hD0, hN⟩ := hv
  have hx := B.exec
  have hb := B.bytes
  have hr := B.returns
  have ht : ∀ w ∈ lw_good, w.before _ s = true := fun w h => atoms_spec (ws := wq yX6_lanes cX6_lanes 3 (some .int)) B.pre w (wq_mem h)
  have hown : s.vm.findClass RX6 = some m.cls := findClass_of_methodNamed B.named
  have hlocks := B.notSynchronized
  subst hsz
  have hD := hD0.self (sz := s.heap.size)
  generalize hAe : va_A ([wX cI cJ aX jX aL aS aW aR aO uX] : List va_W).flatten s.heap.size = A at hD ⊢
  have hA : ∀ q : Nat, s.heap.size ≤ q → A q := fun q h => by rw [← hAe]; exact Or.inr h
  have hS : va_S A s.heap s.heap [] := va_S.rf
  have hl := lv_entry ([.ref aX, .int p1]) (n := 3) (Nat.le_of_ble_eq_true rfl)
  rw [lg_entry_eq]
  generalize (lg_sl ([.ref aX, .int p1]) ++ List.replicate (3 - (lg_sl ([.ref aX, .int p1])).length) Slot.unset).toArray = ls at hl ⊢
  have hl : lv_has ls 3 [(0, .ref aX), (1, .int p1)] := hl
  generalize hQ : MQ below _ _ s _ _ _ = Q
  generalize hH : s.heap = H at hP ⊢
  have hS : va_S A s.heap H [] := by rw [← hH]; exact va_S.rf
  show W p l e ({ frames := 0, cells := 0, slots := 0, locals := 0 } : Room) s m ([.ref aX, .int p1] : List Value).toArray below meth c H [] 0 0 Q (F0 m 0 ls [])
  unfold f_X6_lanes at hm
  refine lv_iload_n hx hb dX6_lanes_0 rfl (lv_at hl 1 rfl) ?_
  refine lv_iconst (v := (1 : Int32)) hx hb dX6_lanes_1 (by decide) ?_
  obtain ⟨K17_1, eK17_1, hm⟩ := bnd_ex hm
  have J17_1 : ∀ (H : Heap) (locs : List Loc) (ls : Array Slot), K17_1 = some o → va_P (dC, dI) vwCl ([wX cI cJ aX jX aL aS aW aR aO uX] : List va_W).flatten H → va_D A ([wX cI cJ aX jX aL aS aW aR aO uX] : List va_W).flatten → va_S A s.heap H locs → lv_has ls 3 [(0, .ref aX), (1, .int p1)] → W p l e ({ frames := 0, cells := 0, slots := 0, locals := 0 } : Room) s m ([.ref aX, .int p1] : List Value).toArray below meth c H locs 0 0 Q (F0 m 17 ls []) := by
    intro H locs ls hm hP hD hS hl
    have hm := ap0 eK17_1 hm
    refine lv_aload_n hx hb dX6_lanes_17 rfl (lv_at hl 0 rfl) ?_
    refine va_get (D := (dC, dI)) (ci := 7) (v := .int (uX.1 9)) (C := RX6) (T := TX6) (N := 10) hx hb ht inX6 hown hK hP 0 rfl rfl 9 (by decide) (ht _ kw_448) (fun _ h9 => h9) rfl dX6_lanes_18 ?_
    refine lv_topi (fun x2 ex2 => ?_)
    have hm := bnd_nm ex2 hm
    refine lv_istore_n (lv' := [(2, .int x2), (0, .ref aX), (1, .int p1)]) hx hb dX6_lanes_21 rfl hl (by decide) rfl (fun ls hl => ?_)
    refine lv_aload_n hx hb dX6_lanes_22 rfl (lv_at hl 1 rfl) ?_
    refine lv_iload_n hx hb dX6_lanes_23 rfl (lv_at hl 2 rfl) ?_
    refine va_put (D := (dC, dI)) (ci := 7) (v := .int p1) (ty := .int) (C := RX6) (T := TX6) (N := 10) hx hb ht inX6 tyX6 tyX6_ok nmX6 hown hK hP hD hS 0 rfl rfl 9 (by decide) (ht _ kw_448) (fun _ h9 => h9) rfl (by decide +kernel) rfl rfl (Nat.le_of_ble_eq_true rfl) dX6_lanes_24 (fun H locs hP hD hS => ?_)
    obtain ⟨u3, eu3, hm⟩ := bnd_ex hm
    have hP : va_P (dC, dI) vwCl ([wX cI cJ aX jX aL aS aW aR aO u3] : List va_W).flatten H := by rw [eu3]; exact hP
    have hD : va_D A ([wX cI cJ aX jX aL aS aW aR aO u3] : List va_W).flatten := by rw [eu3]; exact hD
    refine lv_iload_n hx hb dX6_lanes_27 rfl (lv_at hl 0 rfl) ?_
    rw [← hQ]
    exact W.iret (v := x2) hx hb hr (fun t ht1 hW => ⟨⟨_, u3, rfl, hm, by rw [ht1]; exact hP, hD⟩, hS.F ht1⟩) hS.2.2 dX6_lanes_28
  refine lv_icmp_eq (tgt := 17) hx hb dX6_lanes_2 (by decide) (fun c4 => ?_) (fun c4 => ?_)
  · have hm := ite_t c4 hm
    exact J17_1 _ _ _ hm hP hD hS (lv_sub hl [0, 1] rfl)
  · have hm := ite_f c4 hm
    refine lv_iload_n hx hb dX6_lanes_5 rfl (lv_at hl 1 rfl) ?_
    refine lv_iconst (v := (2 : Int32)) hx hb dX6_lanes_6 (by decide) ?_
    refine lv_icmp_eq (tgt := 17) hx hb dX6_lanes_7 (by decide) (fun c5 => ?_) (fun c5 => ?_)
    · have hm := ite_t c5 hm
      exact J17_1 _ _ _ hm hP hD hS (lv_sub hl [0, 1] rfl)
    · have hm := ite_f c5 hm
      refine lv_iload_n hx hb dX6_lanes_10 rfl (lv_at hl 1 rfl) ?_
      refine lv_iconst (v := (4 : Int32)) hx hb dX6_lanes_11 (by decide) ?_
      refine lv_icmp_eq (tgt := 17) hx hb dX6_lanes_12 (by decide) (fun c6 => ?_) (fun c6 => ?_)
      · have hm := ite_t c6 hm
        exact J17_1 _ _ _ hm hP hD hS (lv_sub hl [0, 1] rfl)
      · have hm := ite_f c6 hm
        refine lv_iconst (v := (-1 : Int32)) hx hb dX6_lanes_15 (by decide) ?_
        rw [← hQ]
        exact W.iret (v := (-1 : Int32)) hx hb hr (fun t ht1 hW => ⟨⟨_, uX, rfl, hm, by rw [ht1]; exact hP, hD⟩, hS.F ht1⟩) hS.2.2 dX6_lanes_16

def f_X6_isWritable_L14 (uX : OS) (uS : OS) : Nat → Int32 → Option (Int32)
  | 0, _ => none
  | n14 + 1, x2 =>
    if (uX.1 7) ≤ x2 then (
    some (1 : Int32)) else (
    if (nI (uX.2.2.2 6)) ≤ x2 then (
    some (1 : Int32)) else (
    gdi x2 (uX.2.2.2 6) <|
    oC1 (f_X4_shareOf uS (uX.2.1 6 (x2).toNatClampNeg)) fun r6 =>
    if r6 = (0 : Int32) then (
    some (0 : Int32)) else (
    bnd (x2 + (1 : Int32)) fun x9 =>
    f_X6_isWritable_L14 uX uS n14 x9)))

def f_X6_isWritable (uX : OS) (uS : OS) : Option (Int32) :=
  if (uS.1 2) = (0 : Int32) then (
  some (0 : Int32)) else (
  f_X6_isWritable_L14 uX uS FU (0 : Int32))

set_option maxHeartbeats 4000000 in
set_option maxRecDepth 100000 in
theorem c_X6_isWritable (l : Launch) (dC : Nat → ClassId) (dI : Nat → Nat → Nat) (cI cJ : ClassId) (aX : Nat) (jX : Nat → Nat) (aS : Nat) (jS : Nat → Nat) (aL : Nat) (aW : Nat) (aR : Nat) (aO : Nat) (sz : Nat) (uX : OS) (uS : OS) (o : Int32) (hm : f_X6_isWritable uX uS = some o) : Met l yX6_isWritable (wq yX6_isWritable cX6_isWritable 2 (some .boolean)) ({ frames := 2, cells := 0, slots := 0, locals := 41 } : Room) (va_Pc [.ref aX] (pcW dC dI cI cJ sz ([wX cI cJ aX jX aL aS aW aR aO uX, wS cI cJ aS jS uS] : List va_W).flatten)) (va_Qi (S := Unit) (fun r u => some r = some o) (fun (u : Unit) t => va_P (dC, dI) vwCl ([wX cI cJ aX jX aL aS aW aR aO uX, wS cI cJ aS jS uS] : List va_W).flatten t.heap ∧ va_D (va_A ([wX cI cJ aX jX aL aS aW aR aO uX, wS cI cJ aS jS uS] : List va_W).flatten sz) ([wX cI cJ aX jX aL aS aW aR aO uX, wS cI cJ aS jS uS] : List va_W).flatten) (va_A ([wX cI cJ aX jX aL aS aW aR aO uX, wS cI cJ aS jS uS] : List va_W).flatten sz)) 0 0 (va_A ([wX cI cJ aX jX aL aS aW aR aO uX, wS cI cJ aS jS uS] : List va_W).flatten sz) := by
  refine Met.ofW (cc := cX6_isWritable) (maxL := 2) (ret := (some .boolean)) (by decide) rfl ?_
  intro p e s m args below meth c s₁ B hml hv
  obtain ⟨rfl, hsz, hP, hK, hD0, hN⟩ := hv
  have hx := B.exec
  have hb := B.bytes
  have hr := B.returns
  have ht : ∀ w ∈ lw_good, w.before _ s = true := fun w h => atoms_spec (ws := wq yX6_isWritable cX6_isWritable 2 (some .boolean)) B.pre w (wq_mem h)
  have hown : s.vm.findClass RX6 = some m.cls := findClass_of_methodNamed B.named
  have hlocks := B.notSynchronized
  subst hsz
  have hD := hD0.self (sz := s.heap.size)
  generalize hAe : va_A ([wX cI cJ aX jX aL aS aW aR aO uX, wS cI cJ aS jS uS] : List va_W).flatten s.heap.size = A at hD ⊢
  have hA : ∀ q : Nat, s.heap.size ≤ q → A q := fun q h => by rw [← hAe]; exact Or.inr h
  have hS : va_S A s.heap s.heap [] := va_S.rf
  have hl := lv_entry ([.ref aX]) (n := 2) (Nat.le_of_ble_eq_true rfl)
  rw [lg_entry_eq]
  generalize (lg_sl ([.ref aX]) ++ List.replicate (2 - (lg_sl ([.ref aX])).length) Slot.unset).toArray = ls at hl ⊢
  have hl : lv_has ls 2 [(0, .ref aX)] := hl
  generalize hQ : MQ below _ _ s _ _ _ = Q
  generalize hH : s.heap = H at hP ⊢
  have hS : va_S A s.heap H [] := by rw [← hH]; exact va_S.rf
  show W p l e ({ frames := 2, cells := 0, slots := 0, locals := 41 } : Room) s m ([.ref aX] : List Value).toArray below meth c H [] 0 0 Q (F0 m 0 ls [])
  unfold f_X6_isWritable at hm
  refine lv_aload_n hx hb dX6_isWritable_0 rfl (lv_at hl 0 rfl) ?_
  refine va_get (D := (dC, dI)) (ci := 7) (v := .ref aS) (C := RX6) (T := TX6) (N := 10) hx hb ht inX6 hown hK hP 0 rfl rfl 1 (by decide) (ht _ kw_432) (fun _ h9 => h9) rfl dX6_isWritable_1 ?_
  refine va_getN (D := (dC, dI)) (ci := 5) (v := .int (uS.1 2)) (C := RX4) (T := TX4) (N := 11) hx hb ht inX4 hown hK hP 3 rfl rfl 2 (by decide) (va_Nw.use rfl (hN _ kn_18)) (fun _ h9 => h9) rfl dX6_isWritable_4 ?_
  refine lv_if_ne (tgt := 12) hx hb dX6_isWritable_7 (by decide) (fun c1 => ?_) (fun c1 => ?_)
  · have hm := ite_f c1 hm
    refine lv_iconst (v := (0 : Int32)) hx hb dX6_isWritable_12 (by decide) ?_
    refine lv_istore_n (lv' := [(1, .int (0 : Int32)), (0, .ref aX)]) hx hb dX6_isWritable_13 rfl hl (by decide) rfl (fun ls hl => ?_)
    have LP14 : ∀ (n14 : Nat) (x2 : Int32) (H : Heap) (locs : List Loc) (ls : Array Slot), f_X6_isWritable_L14 uX uS n14 x2 = some o → va_P (dC, dI) vwCl ([wX cI cJ aX jX aL aS aW aR aO uX, wS cI cJ aS jS uS] : List va_W).flatten H → va_D A ([wX cI cJ aX jX aL aS aW aR aO uX, wS cI cJ aS jS uS] : List va_W).flatten → va_S A s.heap H locs → lv_has ls 2 [(0, .ref aX), (1, .int x2)] → W p l e ({ frames := 2, cells := 0, slots := 0, locals := 41 } : Room) s m ([.ref aX] : List Value).toArray below meth c H locs 0 0 Q (F0 m 14 ls []) := by
      intro n14
      induction n14 with
      | zero => intro x2 H locs ls hm; exact nomatch (show (none : Option _) = some _ from hm)
      | succ n14 ih14 =>
        intro x2 H locs ls hm hP hD hS hl
        unfold f_X6_isWritable_L14 at hm
        refine lv_iload_n hx hb dX6_isWritable_14 rfl (lv_at hl 1 rfl) ?_
        refine lv_aload_n hx hb dX6_isWritable_15 rfl (lv_at hl 0 rfl) ?_
        refine va_get (D := (dC, dI)) (ci := 7) (v := .int (uX.1 7)) (C := RX6) (T := TX6) (N := 10) hx hb ht inX6 hown hK hP 0 rfl rfl 7 (by decide) (ht _ kw_427) (fun _ h9 => h9) rfl dX6_isWritable_16 ?_
        refine lv_icmp_ge (tgt := 55) hx hb dX6_isWritable_19 (by decide) (fun c3 => ?_) (fun c3 => ?_)
        · have hm := ite_t c3 hm
          refine lv_iconst (v := (1 : Int32)) hx hb dX6_isWritable_55 (by decide) ?_
          rw [← hQ]
          exact W.zret (v := (1 : Int32)) hx hb hr rfl (fun t ht1 hW => ⟨⟨_, (), rfl, hm, by rw [ht1]; exact hP, hD⟩, hS.F ht1⟩) hS.2.2 dX6_isWritable_56
        · have hm := ite_f c3 hm
          refine lv_iload_n hx hb dX6_isWritable_22 rfl (lv_at hl 1 rfl) ?_
          refine lv_aload_n hx hb dX6_isWritable_23 rfl (lv_at hl 0 rfl) ?_
          refine va_get (D := (dC, dI)) (ci := 7) (v := .ref (jX 6)) (C := RX6) (T := TX6) (N := 10) hx hb ht inX6 hown hK hP 0 rfl rfl 6 (by decide) (ht _ kw_426) (fun _ h9 => h9) rfl dX6_isWritable_24 ?_
          refine va_alen (v := (nI (uX.2.2.2 6))) hx hb hK hP 2 0 rfl rfl rfl dX6_isWritable_27 ?_
          refine lv_icmp_ge (tgt := 55) hx hb dX6_isWritable_28 (by decide) (fun c4 => ?_) (fun c4 => ?_)
          · have hm := ite_t c4 hm
            refine lv_iconst (v := (1 : Int32)) hx hb dX6_isWritable_55 (by decide) ?_
            rw [← hQ]
            exact W.zret (v := (1 : Int32)) hx hb hr rfl (fun t ht1 hW => ⟨⟨_, (), rfl, hm, by rw [ht1]; exact hP, hD⟩, hS.F ht1⟩) hS.2.2 dX6_isWritable_56
          · have hm := ite_f c4 hm
            refine lv_aload_n hx hb dX6_isWritable_31 rfl (lv_at hl 0 rfl) ?_
            refine va_get (D := (dC, dI)) (ci := 7) (v := .ref aS) (C := RX6) (T := TX6) (N := 10) hx hb ht inX6 hown hK hP 0 rfl rfl 1 (by decide) (ht _ kw_432) (fun _ h9 => h9) rfl dX6_isWritable_32 ?_
            refine lv_aload_n hx hb dX6_isWritable_35 rfl (lv_at hl 0 rfl) ?_
            refine va_get (D := (dC, dI)) (ci := 7) (v := .ref (jX 6)) (C := RX6) (T := TX6) (N := 10) hx hb ht inX6 hown hK hP 0 rfl rfl 6 (by decide) (ht _ kw_426) (fun _ h9 => h9) rfl dX6_isWritable_36 ?_
            refine lv_iload_n hx hb dX6_isWritable_39 rfl (lv_at hl 1 rfl) ?_
            obtain ⟨g5, hm⟩ := gdi_of hm
            refine va_iald hx hb hK hP 2 0 rfl rfl g5 dX6_isWritable_40 ?_
            have hPc : va_P (dC, dI) vwCl ([wS cI cJ aS jS uS] : List va_W).flatten _ := hP.subF [1] rfl
            have hDc : va_D A ([wS cI cJ aS jS uS] : List va_W).flatten := hD.subF [1] (by decide) rfl
            have hFc := va_freeF (fc := ([wS cI cJ aS jS uS] : List va_W)) hD hS hA [1] rfl
            obtain ⟨r6o, e7, hm⟩ := oC1_of hm
            refine va_calli (va_runV (As := [.int (uX.2.1 6 (x2).toNatClampNeg)]) (rest := []) ⟨hx, hb, hml, hown, ht⟩ (c_X4_shareOf l dC dI cI cJ aS jS H.size uS (uX.2.1 6 (x2).toNatClampNeg) r6o e7) (cwV 1 ht (gdV kw_444 kw_287 kw_288 kw_199 kw_286) rfl rfl rfl ⟨rfl, nd_X4_shareOf⟩ ⟨Nat.le_of_ble_eq_true rfl, Nat.le_of_ble_eq_true rfl⟩) ⟨pcW_blind, va_recv hK hPc (ci := 5) (q0 := 0) rfl rfl, pcW_pre hPc hK hDc hN⟩ rfl rfl hl.1 rfl (lv_room (Nat.le_of_ble_eq_true rfl)) dX6_isWritable_41 ⟨Nat.zero_le _, Nat.zero_le _⟩) hS (fun q _ z => hFc q z) hFc (fun r6 uu t H1 locs ht1 hvm hw hB hz1 hk1 hS => ?_)
            obtain ⟨⟩ := uu
            obtain ⟨hP1, hD1⟩ := hB
            rw [ht1] at hP1
            obtain rfl : r6 = r6o := Option.some.inj hw
            obtain ⟨hP, hD⟩ := va_joinF (fr := ([wX cI cJ aX jX aL aS aW aR aO uX] : List va_W)) (f1 := ([wS cI cJ aS jS uS] : List va_W)) hP hD [1] [0] rfl rfl (by decide) (by decide) hk1 hFc hP1 hD1
            have hP : va_P (dC, dI) vwCl ([wX cI cJ aX jX aL aS aW aR aO uX, wS cI cJ aS jS uS] : List va_W).flatten H1 := hP
            have hD : va_D A ([wX cI cJ aX jX aL aS aW aR aO uX, wS cI cJ aS jS uS] : List va_W).flatten := hD
            generalize H1 = H at hP hS ⊢
            refine lv_if_ne (tgt := 49) hx hb dX6_isWritable_44 (by decide) (fun c8 => ?_) (fun c8 => ?_)
            · have hm := ite_f c8 hm
              obtain ⟨x9, ex9, hm⟩ := bnd_ex hm
              refine lv_iinc (v := x9) (lv' := [(1, .int x9), (0, .ref aX)]) hx hb dX6_isWritable_49 hl (k := 1) rfl (by rw [ex9]; exact congrArg _ (by decide)) (by decide) rfl (fun ls hl => ?_)
              refine lv_goto (tgt := 14) hx hb dX6_isWritable_52 (by decide) ?_
              exact ih14 x9 _ _ _ hm hP hD hS (lv_sub hl [1, 0] rfl)
            · have hm := ite_t c8 hm
              refine lv_iconst (v := (0 : Int32)) hx hb dX6_isWritable_47 (by decide) ?_
              rw [← hQ]
              exact W.zret (v := (0 : Int32)) hx hb hr rfl (fun t ht1 hW => ⟨⟨_, (), rfl, hm, by rw [ht1]; exact hP, hD⟩, hS.F ht1⟩) hS.2.2 dX6_isWritable_48
    exact LP14 FU (0 : Int32) _ _ _ hm hP hD hS (lv_sub hl [1, 0] rfl)
  · have hm := ite_t c1 hm
    refine lv_iconst (v := (0 : Int32)) hx hb dX6_isWritable_10 (by decide) ?_
    rw [← hQ]
    exact W.zret (v := (0 : Int32)) hx hb hr rfl (fun t ht1 hW => ⟨⟨_, (), rfl, hm, by rw [ht1]; exact hP, hD⟩, hS.F ht1⟩) hS.2.2 dX6_isWritable_11

def f_X6_write (uX : OS) (uS : OS) (uW : OS) (uP : OS) (uO : OS) : Option ((OS × OS × OS × OS × Int32) × Nat × Nat) :=
  oC1 (f_X6_isWritable uX uS) fun r1 =>
  if r1 = (0 : Int32) then (
  some ((uS, uW, uP, uO, (-2 : Int32)), 0, 0)) else (
  oA4 (f_X5_writeRow uS uW uP uO (mkA (uX.2.2.2 6) (uX.2.1 6)) (uX.1 7) (uX.1 8) (uX.1 9)) fun u4 u5 u6 u7 kc12 ks12 =>
  addc kc12 ks12 <|
  some ((u4, u5, u6, u7, (u7.1 1)), 0, 0))

set_option maxHeartbeats 4000000 in
set_option maxRecDepth 100000 in
theorem c_X6_write (l : Launch) (dC : Nat → ClassId) (dI : Nat → Nat → Nat) (cI cJ : ClassId) (aX : Nat) (jX : Nat → Nat) (aS : Nat) (jS : Nat → Nat) (aW : Nat) (jW : Nat → Nat) (aP : Nat) (jP : Nat → Nat) (aO : Nat) (jO : Nat → Nat) (aL : Nat) (aR : Nat) (sz : Nat) (uX : OS) (uS : OS) (uW : OS) (uP : OS) (uO : OS) (o : OS × OS × OS × OS × Int32) (mc ms : Nat) (hm : f_X6_write uX uS uW uP uO = some (o, mc, ms)) : Met l yX6_write (wq yX6_write cX6_write 1 (some .int)) ({ frames := 7, cells := mc, slots := ms, locals := 198 } : Room) (va_Pc [.ref aX] (pcW dC dI cI cJ sz ([wX cI cJ aX jX aL aS aW aR aO uX, wS cI cJ aS jS uS, wW cI cJ aW jW aP uW, wP cI cJ aP jP uP, wO cI cJ aO jO uO] : List va_W).flatten)) (va_Qi (S := OS × OS × OS × OS) (fun r u => some (u.1, u.2.1, u.2.2.1, u.2.2.2, r) = some o) (fun (u : OS × OS × OS × OS) t => ∃ hhS : Nat → Nat, ∃ hhP : Nat → Nat, ∃ hhO : Nat → Nat, va_P (dC, dI) vwCl ([wX cI cJ aX jX aL aS aW aR aO uX, wS cI cJ aS hhS u.1, wW cI cJ aW jW aP u.2.1, wP cI cJ aP hhP u.2.2.1, wO cI cJ aO hhO u.2.2.2] : List va_W).flatten t.heap ∧ va_D (va_A ([wX cI cJ aX jX aL aS aW aR aO uX, wS cI cJ aS jS uS, wW cI cJ aW jW aP uW, wP cI cJ aP jP uP, wO cI cJ aO jO uO] : List va_W).flatten sz) ([wX cI cJ aX jX aL aS aW aR aO uX, wS cI cJ aS hhS u.1, wW cI cJ aW jW aP u.2.1, wP cI cJ aP hhP u.2.2.1, wO cI cJ aO hhO u.2.2.2] : List va_W).flatten) (va_A ([wX cI cJ aX jX aL aS aW aR aO uX, wS cI cJ aS jS uS, wW cI cJ aW jW aP uW, wP cI cJ aP jP uP, wO cI cJ aO jO uO] : List va_W).flatten sz)) mc ms (va_A ([wX cI cJ aX jX aL aS aW aR aO uX, wS cI cJ aS jS uS, wW cI cJ aW jW aP uW, wP cI cJ aP jP uP, wO cI cJ aO jO uO] : List va_W).flatten sz) := by
  refine Met.ofW (cc := cX6_write) (maxL := 1) (ret := (some .int)) (by decide) rfl ?_
  intro p e s m args below meth c s₁ B hml hv
  obtain ⟨rfl, hsz, hP, hK, hD0, hN⟩ := hv
  have hx := B.exec
  have hb := B.bytes
  have hr := B.returns
  have ht : ∀ w ∈ lw_good, w.before _ s = true := fun w h => atoms_spec (ws := wq yX6_write cX6_write 1 (some .int)) B.pre w (wq_mem h)
  have hown : s.vm.findClass RX6 = some m.cls := findClass_of_methodNamed B.named
  have hlocks := B.notSynchronized
  subst hsz
  have hD := hD0.self (sz := s.heap.size)
  generalize hAe : va_A ([wX cI cJ aX jX aL aS aW aR aO uX, wS cI cJ aS jS uS, wW cI cJ aW jW aP uW, wP cI cJ aP jP uP, wO cI cJ aO jO uO] : List va_W).flatten s.heap.size = A at hD ⊢
  have hA : ∀ q : Nat, s.heap.size ≤ q → A q := fun q h => by rw [← hAe]; exact Or.inr h
  have hS : va_S A s.heap s.heap [] := va_S.rf
  have hl := lv_entry ([.ref aX]) (n := 1) (Nat.le_of_ble_eq_true rfl)
  rw [lg_entry_eq]
  generalize (lg_sl ([.ref aX]) ++ List.replicate (1 - (lg_sl ([.ref aX])).length) Slot.unset).toArray = ls at hl ⊢
  have hl : lv_has ls 1 [(0, .ref aX)] := hl
  generalize hQ : MQ below _ _ s _ _ _ = Q
  generalize hH : s.heap = H at hP ⊢
  have hS : va_S A s.heap H [] := by rw [← hH]; exact va_S.rf
  obtain ⟨ce, hce⟩ := ex_eq (0 : Nat)
  obtain ⟨sl, hsl⟩ := ex_eq (0 : Nat)
  obtain ⟨kc, hkc⟩ := ex_eq mc
  obtain ⟨ks, hks⟩ := ex_eq ms
  rw [← hkc, ← hks] at hm
  have hc1 : ce + kc = mc := by omega
  have hc2 : sl + ks = ms := by omega
  suffices hw : W p l e ({ frames := 7, cells := mc, slots := ms, locals := 198 } : Room) s m ([.ref aX] : List Value).toArray below meth c H [] ce sl Q (F0 m 0 ls []) by rw [hce, hsl] at hw; exact hw
  clear hce hsl hkc hks
  unfold f_X6_write at hm
  refine lv_aload_n hx hb dX6_write_0 rfl (lv_at hl 0 rfl) ?_
  have hPc : va_P (dC, dI) vwCl ([wX cI cJ aX jX aL aS aW aR aO uX, wS cI cJ aS jS uS] : List va_W).flatten _ := hP.subF [0, 1] rfl
  have hDc : va_D A ([wX cI cJ aX jX aL aS aW aR aO uX, wS cI cJ aS jS uS] : List va_W).flatten := hD.subF [0, 1] (by decide) rfl
  have hFc := va_freeF (fc := ([wX cI cJ aX jX aL aS aW aR aO uX, wS cI cJ aS jS uS] : List va_W)) hD hS hA [0, 1] rfl
  obtain ⟨r1o, e2, hm⟩ := oC1_of hm
  refine va_calli (va_runV (As := []) (rest := []) ⟨hx, hb, hml, hown, ht⟩ (c_X6_isWritable l dC dI cI cJ aX jX aS jS aL aW aR aO H.size uX uS r1o e2) (cwV 0 ht (gdV kw_454 kw_452 kw_453 kw_161 kw_451) rfl rfl rfl ⟨rfl, nd_X6_isWritable⟩ ⟨Nat.le_of_ble_eq_true rfl, Nat.le_of_ble_eq_true rfl⟩) ⟨pcW_blind, va_recv hK hPc (ci := 7) (q0 := 0) rfl rfl, pcW_pre hPc hK hDc hN⟩ rfl rfl hl.1 rfl (lv_room (Nat.le_of_ble_eq_true rfl)) dX6_write_1 ⟨cle0 hc1, cle0 hc2⟩) hS (fun q _ z => hFc q z) hFc (fun r1 uu t H1 locs ht1 hvm hw hB hz1 hk1 hS => ?_)
  obtain ⟨⟩ := uu
  obtain ⟨hP1, hD1⟩ := hB
  rw [ht1] at hP1
  obtain rfl : r1 = r1o := Option.some.inj hw
  obtain ⟨hP, hD⟩ := va_joinF (fr := ([wW cI cJ aW jW aP uW, wP cI cJ aP jP uP, wO cI cJ aO jO uO] : List va_W)) (f1 := ([wX cI cJ aX jX aL aS aW aR aO uX, wS cI cJ aS jS uS] : List va_W)) hP hD [0, 1] [2, 3, 4] rfl rfl (by decide) (by decide) hk1 hFc hP1 hD1
  have hP : va_P (dC, dI) vwCl ([wX cI cJ aX jX aL aS aW aR aO uX, wS cI cJ aS jS uS, wW cI cJ aW jW aP uW, wP cI cJ aP jP uP, wO cI cJ aO jO uO] : List va_W).flatten H1 := hP.subF [3, 4, 0, 1, 2] rfl
  have hD : va_D A ([wX cI cJ aX jX aL aS aW aR aO uX, wS cI cJ aS jS uS, wW cI cJ aW jW aP uW, wP cI cJ aP jP uP, wO cI cJ aO jO uO] : List va_W).flatten := hD.subF [3, 4, 0, 1, 2] (by decide) rfl
  generalize H1 = H at hP hS ⊢
  refine W.cs (Nat.add_zero _) (Nat.add_zero _) ?_
  refine lv_if_ne (tgt := 10) hx hb dX6_write_4 (by decide) (fun c3 => ?_) (fun c3 => ?_)
  · have hm := ite_f c3 hm
    refine lv_aload_n hx hb dX6_write_10 rfl (lv_at hl 0 rfl) ?_
    refine va_get (D := (dC, dI)) (ci := 7) (v := .ref aW) (C := RX6) (T := TX6) (N := 10) hx hb ht inX6 hown hK hP 0 rfl rfl 2 (by decide) (ht _ kw_449) (fun _ h9 => h9) rfl dX6_write_11 ?_
    refine lv_aload_n hx hb dX6_write_14 rfl (lv_at hl 0 rfl) ?_
    refine va_get (D := (dC, dI)) (ci := 7) (v := .ref (jX 6)) (C := RX6) (T := TX6) (N := 10) hx hb ht inX6 hown hK hP 0 rfl rfl 6 (by decide) (ht _ kw_426) (fun _ h9 => h9) rfl dX6_write_15 ?_
    refine lv_aload_n hx hb dX6_write_18 rfl (lv_at hl 0 rfl) ?_
    refine va_get (D := (dC, dI)) (ci := 7) (v := .int (uX.1 7)) (C := RX6) (T := TX6) (N := 10) hx hb ht inX6 hown hK hP 0 rfl rfl 7 (by decide) (ht _ kw_427) (fun _ h9 => h9) rfl dX6_write_19 ?_
    refine lv_aload_n hx hb dX6_write_22 rfl (lv_at hl 0 rfl) ?_
    refine va_get (D := (dC, dI)) (ci := 7) (v := .ref aS) (C := RX6) (T := TX6) (N := 10) hx hb ht inX6 hown hK hP 0 rfl rfl 1 (by decide) (ht _ kw_432) (fun _ h9 => h9) rfl dX6_write_23 ?_
    refine lv_aload_n hx hb dX6_write_26 rfl (lv_at hl 0 rfl) ?_
    refine va_get (D := (dC, dI)) (ci := 7) (v := .int (uX.1 8)) (C := RX6) (T := TX6) (N := 10) hx hb ht inX6 hown hK hP 0 rfl rfl 8 (by decide) (ht _ kw_447) (fun _ h9 => h9) rfl dX6_write_27 ?_
    refine lv_aload_n hx hb dX6_write_30 rfl (lv_at hl 0 rfl) ?_
    refine va_get (D := (dC, dI)) (ci := 7) (v := .int (uX.1 9)) (C := RX6) (T := TX6) (N := 10) hx hb ht inX6 hown hK hP 0 rfl rfl 9 (by decide) (ht _ kw_448) (fun _ h9 => h9) rfl dX6_write_31 ?_
    refine lv_aload_n hx hb dX6_write_34 rfl (lv_at hl 0 rfl) ?_
    refine va_get (D := (dC, dI)) (ci := 7) (v := .ref aO) (C := RX6) (T := TX6) (N := 10) hx hb ht inX6 hown hK hP 0 rfl rfl 4 (by decide) (ht _ kw_450) (fun _ h9 => h9) rfl dX6_write_35 ?_
    have hPc : va_P (dC, dI) vwCl ([wS cI cJ aS jS uS, wW cI cJ aW jW aP uW, wP cI cJ aP jP uP, wO cI cJ aO jO uO, wA cI cJ (fun _ => (jX 6)) (mkA (uX.2.2.2 6) (uX.2.1 6))] : List va_W).flatten _ := hP.sub [3, 4, 5, 6, 7, 8, 9, 10, 11, 12, 13, 14, 15, 16, 2] rfl
    have hDc : va_D A ([wS cI cJ aS jS uS, wW cI cJ aW jW aP uW, wP cI cJ aP jP uP, wO cI cJ aO jO uO, wA cI cJ (fun _ => (jX 6)) (mkA (uX.2.2.2 6) (uX.2.1 6))] : List va_W).flatten := hD.sub [3, 4, 5, 6, 7, 8, 9, 10, 11, 12, 13, 14, 15, 16, 2] (by decide) rfl
    have hFc := va_free (wc := ([wS cI cJ aS jS uS, wW cI cJ aW jW aP uW, wP cI cJ aP jP uP, wO cI cJ aO jO uO, wA cI cJ (fun _ => (jX 6)) (mkA (uX.2.2.2 6) (uX.2.1 6))] : List va_W).flatten) hD hS hA [3, 4, 5, 6, 7, 8, 9, 10, 11, 12, 13, 14, 15, 16, 2] rfl
    obtain ⟨u4o, u5o, u6o, u7o, kc12, ks12, e11, hm⟩ := oA4_of hm
    obtain ⟨kcq13, ksq13, hm, hkcq13, hksq13⟩ := addc_of hm
    refine va_callv (va_runV (As := [.ref (jX 6), .int (uX.1 7), .ref aS, .int (uX.1 8), .int (uX.1 9), .ref aO]) (rest := []) ⟨hx, hb, hml, hown, ht⟩ (c_X5_writeRow l dC dI cI cJ aS jS aW jW aP jP aO jO (fun _ => (jX 6)) H.size uS uW uP uO (mkA (uX.2.2.2 6) (uX.2.1 6)) (uX.1 7) (uX.1 8) (uX.1 9) (u4o, u5o, u6o, u7o) kc12 ks12 e11) (cwV 6 ht (gdV kw_458 kw_456 kw_457 kw_371 kw_455) rfl rfl rfl ⟨rfl, nd_X5_writeRow⟩ ⟨Nat.le_of_ble_eq_true rfl, Nat.le_of_ble_eq_true rfl⟩) ⟨pcW_blind, va_recv hK hP (ci := 6) (q0 := 11) rfl rfl, pcW_pre hPc hK hDc hN⟩ rfl rfl hl.1 rfl (lv_room (Nat.le_of_ble_eq_true rfl)) dX6_write_38 ⟨cle hc1 hkcq13, cle hc2 hksq13⟩) hS (fun q _ z => hFc q z) hFc (fun uu t H1 locs ht1 hvm hw hB hz1 hk1 hS => ?_)
    obtain ⟨u4, u5, u6, u7⟩ := uu
    obtain ⟨h8, h9, h10, hP1, hD1⟩ := hB
    rw [ht1] at hP1
    obtain ⟨q0, q1, q2, q3⟩ := inj4 hw
    subst q0
    subst q1
    subst q2
    subst q3
    obtain ⟨hP, hD⟩ := va_join (wr := [(wX cI cJ aX jX aL aS aW aR aO uX)[0], (wX cI cJ aX jX aL aS aW aR aO uX)[1]]) (w1 := ([wS cI cJ aS h8 u4, wW cI cJ aW jW aP u5, wP cI cJ aP h9 u6, wO cI cJ aO h10 u7, wA cI cJ (fun _ => (jX 6)) (mkA (uX.2.2.2 6) (uX.2.1 6))] : List va_W).flatten) hP hD [3, 4, 5, 6, 7, 8, 9, 10, 11, 12, 13, 14, 15, 16, 2] [0, 1] rfl rfl (by decide) (by decide) hk1 hFc hP1 hD1
    have hP : va_P (dC, dI) vwCl ([wX cI cJ aX jX aL aS aW aR aO uX, wS cI cJ aS h8 u4, wW cI cJ aW jW aP u5, wP cI cJ aP h9 u6, wO cI cJ aO h10 u7] : List va_W).flatten H1 := hP.sub [0, 1, 16, 2, 3, 4, 5, 6, 7, 8, 9, 10, 11, 12, 13, 14, 15] rfl
    have hD : va_D A ([wX cI cJ aX jX aL aS aW aR aO uX, wS cI cJ aS h8 u4, wW cI cJ aW jW aP u5, wP cI cJ aP h9 u6, wO cI cJ aO h10 u7] : List va_W).flatten := hD.sub [0, 1, 16, 2, 3, 4, 5, 6, 7, 8, 9, 10, 11, 12, 13, 14, 15] (by decide) rfl
    generalize H1 = H at hP hS ⊢
    have hc1 := cadd hc1 hkcq13
    have hc2 := cadd hc2 hksq13
    refine lv_aload_n hx hb dX6_write_41 rfl (lv_at hl 0 rfl) ?_
    refine va_get (D := (dC, dI)) (ci := 7) (v := .ref aO) (C := RX6) (T := TX6) (N := 10) hx hb ht inX6 hown hK hP 0 rfl rfl 4 (by decide) (ht _ kw_450) (fun _ h9 => h9) rfl dX6_write_42 ?_
    refine va_getN (D := (dC, dI)) (ci := 2) (v := .int (u7.1 1)) (C := RX1) (T := TX1) (N := 3) hx hb ht inX1 hown hK hP 15 rfl rfl 1 (by decide) (va_Nw.use rfl (hN _ kn_20)) (fun _ h9 => h9) rfl dX6_write_45 ?_
    obtain ⟨hmz, hz1, hz2⟩ := ret0 hm
    subst hz1
    subst hz2
    refine W.cs (cells' := mc) (slots' := ms) hc1 hc2 ?_
    rw [← hQ]
    exact W.iret (v := (u7.1 1)) hx hb hr (fun t ht1 hW => ⟨⟨_, (u4, u5, u6, u7), rfl, hmz, h8, h9, h10, by rw [ht1]; exact hP, hD⟩, hS.F ht1⟩) hS.2.2 dX6_write_48
  · have hm := ite_t c3 hm
    refine lv_bipush (v := (-2 : Int32)) hx hb dX6_write_7 (by decide) ?_
    obtain ⟨hmz, hz1, hz2⟩ := ret0 hm
    subst hz1
    subst hz2
    refine W.cs (cells' := mc) (slots' := ms) hc1 hc2 ?_
    rw [← hQ]
    exact W.iret (v := (-2 : Int32)) hx hb hr (fun t ht1 hW => ⟨⟨_, (uS, uW, uP, uO), rfl, hmz, jS, jP, jO, by rw [ht1]; exact hP, hD⟩, hS.F ht1⟩) hS.2.2 dX6_write_9

def f_X6_read (uX : OS) (uR : OS) (uZ : OS) (uO : OS) : Option ((OS × OS × Int32) × Nat × Nat) :=
  oA3 (f_X3_takeIn uR uZ uO) fun u1 u2 r5 kc7 ks7 =>
  addc kc7 ks7 <|
  some ((u1, u2, r5), 0, 0)

set_option maxHeartbeats 4000000 in
set_option maxRecDepth 100000 in
theorem c_X6_read (l : Launch) (dC : Nat → ClassId) (dI : Nat → Nat → Nat) (cI cJ : ClassId) (aX : Nat) (jX : Nat → Nat) (aR : Nat) (jR : Nat → Nat) (aZ : Nat) (jZ : Nat → Nat) (aO : Nat) (jO : Nat → Nat) (aL : Nat) (aS : Nat) (aW : Nat) (sz : Nat) (uX : OS) (uR : OS) (uZ : OS) (uO : OS) (o : OS × OS × Int32) (mc ms : Nat) (hm : f_X6_read uX uR uZ uO = some (o, mc, ms)) : Met l yX6_read (wq yX6_read cX6_read 1 (some .int)) ({ frames := 6, cells := mc, slots := ms, locals := 167 } : Room) (va_Pc [.ref aX] (pcW dC dI cI cJ sz ([wX cI cJ aX jX aL aS aW aR aO uX, wR cI cJ aR jR aZ uR, wS cI cJ aZ jZ uZ, wO cI cJ aO jO uO] : List va_W).flatten)) (va_Qi (S := OS × OS) (fun r u => some (u.1, u.2, r) = some o) (fun (u : OS × OS) t => ∃ hhR : Nat → Nat, ∃ hhZ : Nat → Nat, va_P (dC, dI) vwCl ([wX cI cJ aX jX aL aS aW aR aO uX, wR cI cJ aR hhR aZ u.1, wS cI cJ aZ hhZ u.2, wO cI cJ aO jO uO] : List va_W).flatten t.heap ∧ va_D (va_A ([wX cI cJ aX jX aL aS aW aR aO uX, wR cI cJ aR jR aZ uR, wS cI cJ aZ jZ uZ, wO cI cJ aO jO uO] : List va_W).flatten sz) ([wX cI cJ aX jX aL aS aW aR aO uX, wR cI cJ aR hhR aZ u.1, wS cI cJ aZ hhZ u.2, wO cI cJ aO jO uO] : List va_W).flatten) (va_A ([wX cI cJ aX jX aL aS aW aR aO uX, wR cI cJ aR jR aZ uR, wS cI cJ aZ jZ uZ, wO cI cJ aO jO uO] : List va_W).flatten sz)) mc ms (va_A ([wX cI cJ aX jX aL aS aW aR aO uX, wR cI cJ aR jR aZ uR, wS cI cJ aZ jZ uZ, wO cI cJ aO jO uO] : List va_W).flatten sz) := by
  refine Met.ofW (cc := cX6_read) (maxL := 1) (ret := (some .int)) (by decide) rfl ?_
  intro p e s m args below meth c s₁ B hml hv
  obtain ⟨rfl, hsz, hP, hK, hD0, hN⟩ := hv
  have hx := B.exec
  have hb := B.bytes
  have hr := B.returns
  have ht : ∀ w ∈ lw_good, w.before _ s = true := fun w h => atoms_spec (ws := wq yX6_read cX6_read 1 (some .int)) B.pre w (wq_mem h)
  have hown : s.vm.findClass RX6 = some m.cls := findClass_of_methodNamed B.named
  have hlocks := B.notSynchronized
  subst hsz
  have hD := hD0.self (sz := s.heap.size)
  generalize hAe : va_A ([wX cI cJ aX jX aL aS aW aR aO uX, wR cI cJ aR jR aZ uR, wS cI cJ aZ jZ uZ, wO cI cJ aO jO uO] : List va_W).flatten s.heap.size = A at hD ⊢
  have hA : ∀ q : Nat, s.heap.size ≤ q → A q := fun q h => by rw [← hAe]; exact Or.inr h
  have hS : va_S A s.heap s.heap [] := va_S.rf
  have hl := lv_entry ([.ref aX]) (n := 1) (Nat.le_of_ble_eq_true rfl)
  rw [lg_entry_eq]
  generalize (lg_sl ([.ref aX]) ++ List.replicate (1 - (lg_sl ([.ref aX])).length) Slot.unset).toArray = ls at hl ⊢
  have hl : lv_has ls 1 [(0, .ref aX)] := hl
  generalize hQ : MQ below _ _ s _ _ _ = Q
  generalize hH : s.heap = H at hP ⊢
  have hS : va_S A s.heap H [] := by rw [← hH]; exact va_S.rf
  obtain ⟨ce, hce⟩ := ex_eq (0 : Nat)
  obtain ⟨sl, hsl⟩ := ex_eq (0 : Nat)
  obtain ⟨kc, hkc⟩ := ex_eq mc
  obtain ⟨ks, hks⟩ := ex_eq ms
  rw [← hkc, ← hks] at hm
  have hc1 : ce + kc = mc := by omega
  have hc2 : sl + ks = ms := by omega
  suffices hw : W p l e ({ frames := 6, cells := mc, slots := ms, locals := 167 } : Room) s m ([.ref aX] : List Value).toArray below meth c H [] ce sl Q (F0 m 0 ls []) by rw [hce, hsl] at hw; exact hw
  clear hce hsl hkc hks
  unfold f_X6_read at hm
  refine lv_aload_n hx hb dX6_read_0 rfl (lv_at hl 0 rfl) ?_
  refine va_get (D := (dC, dI)) (ci := 7) (v := .ref aR) (C := RX6) (T := TX6) (N := 10) hx hb ht inX6 hown hK hP 0 rfl rfl 3 (by decide) (ht _ kw_459) (fun _ h9 => h9) rfl dX6_read_1 ?_
  refine lv_aload_n hx hb dX6_read_4 rfl (lv_at hl 0 rfl) ?_
  refine va_get (D := (dC, dI)) (ci := 7) (v := .ref aO) (C := RX6) (T := TX6) (N := 10) hx hb ht inX6 hown hK hP 0 rfl rfl 4 (by decide) (ht _ kw_450) (fun _ h9 => h9) rfl dX6_read_5 ?_
  have hPc : va_P (dC, dI) vwCl ([wR cI cJ aR jR aZ uR, wS cI cJ aZ jZ uZ, wO cI cJ aO jO uO] : List va_W).flatten _ := hP.subF [1, 2, 3] rfl
  have hDc : va_D A ([wR cI cJ aR jR aZ uR, wS cI cJ aZ jZ uZ, wO cI cJ aO jO uO] : List va_W).flatten := hD.subF [1, 2, 3] (by decide) rfl
  have hFc := va_freeF (fc := ([wR cI cJ aR jR aZ uR, wS cI cJ aZ jZ uZ, wO cI cJ aO jO uO] : List va_W)) hD hS hA [1, 2, 3] rfl
  obtain ⟨u1o, u2o, r5o, kc7, ks7, e6, hm⟩ := oA3_of hm
  obtain ⟨kcq8, ksq8, hm, hkcq8, hksq8⟩ := addc_of hm
  refine va_calli (va_runV (As := [.ref aO]) (rest := []) ⟨hx, hb, hml, hown, ht⟩ (c_X3_takeIn l dC dI cI cJ aR jR aZ jZ aO jO H.size uR uZ uO (u1o, u2o, r5o) kc7 ks7 e6) (cwV 1 ht (gdV kw_463 kw_461 kw_462 kw_205 kw_460) rfl rfl rfl ⟨rfl, nd_X3_takeIn⟩ ⟨Nat.le_of_ble_eq_true rfl, Nat.le_of_ble_eq_true rfl⟩) ⟨pcW_blind, va_recv hK hPc (ci := 4) (q0 := 0) rfl rfl, pcW_pre hPc hK hDc hN⟩ rfl rfl hl.1 rfl (lv_room (Nat.le_of_ble_eq_true rfl)) dX6_read_8 ⟨cle hc1 hkcq8, cle hc2 hksq8⟩) hS (fun q _ z => hFc q z) hFc (fun r5 uu t H1 locs ht1 hvm hw hB hz1 hk1 hS => ?_)
  obtain ⟨u1, u2⟩ := uu
  obtain ⟨h3, h4, hP1, hD1⟩ := hB
  rw [ht1] at hP1
  obtain ⟨q0, q1, q2⟩ := inj3 hw
  subst q0
  subst q1
  subst q2
  obtain ⟨hP, hD⟩ := va_joinF (fr := ([wX cI cJ aX jX aL aS aW aR aO uX] : List va_W)) (f1 := ([wR cI cJ aR h3 aZ u1, wS cI cJ aZ h4 u2, wO cI cJ aO jO uO] : List va_W)) hP hD [1, 2, 3] [0] rfl rfl (by decide) (by decide) hk1 hFc hP1 hD1
  have hP : va_P (dC, dI) vwCl ([wX cI cJ aX jX aL aS aW aR aO uX, wR cI cJ aR h3 aZ u1, wS cI cJ aZ h4 u2, wO cI cJ aO jO uO] : List va_W).flatten H1 := hP
  have hD : va_D A ([wX cI cJ aX jX aL aS aW aR aO uX, wR cI cJ aR h3 aZ u1, wS cI cJ aZ h4 u2, wO cI cJ aO jO uO] : List va_W).flatten := hD
  generalize H1 = H at hP hS ⊢
  have hc1 := cadd hc1 hkcq8
  have hc2 := cadd hc2 hksq8
  obtain ⟨hmz, hz1, hz2⟩ := ret0 hm
  subst hz1
  subst hz2
  refine W.cs (cells' := mc) (slots' := ms) hc1 hc2 ?_
  rw [← hQ]
  exact W.iret (v := r5) hx hb hr (fun t ht1 hW => ⟨⟨_, (u1, u2), rfl, hmz, h3, h4, by rw [ht1]; exact hP, hD⟩, hS.F ht1⟩) hS.2.2 dX6_read_11

def f_X6_rule (uX : OS) (uR : OS) : Option (Int32) :=
  some ((uR.1 4))

set_option maxHeartbeats 4000000 in
set_option maxRecDepth 100000 in
theorem c_X6_rule (l : Launch) (dC : Nat → ClassId) (dI : Nat → Nat → Nat) (cI cJ : ClassId) (aX : Nat) (jX : Nat → Nat) (aR : Nat) (jR : Nat → Nat) (aL : Nat) (aS : Nat) (aW : Nat) (aO : Nat) (aZ : Nat) (sz : Nat) (uX : OS) (uR : OS) (o : Int32) (hm : f_X6_rule uX uR = some o) : Met l yX6_rule (wq yX6_rule cX6_rule 1 (some .int)) ({ frames := 0, cells := 0, slots := 0, locals := 0 } : Room) (va_Pc [.ref aX] (pcW dC dI cI cJ sz ([wX cI cJ aX jX aL aS aW aR aO uX, wR cI cJ aR jR aZ uR] : List va_W).flatten)) (va_Qi (S := Unit) (fun r u => some r = some o) (fun (u : Unit) t => va_P (dC, dI) vwCl ([wX cI cJ aX jX aL aS aW aR aO uX, wR cI cJ aR jR aZ uR] : List va_W).flatten t.heap ∧ va_D (va_A ([wX cI cJ aX jX aL aS aW aR aO uX, wR cI cJ aR jR aZ uR] : List va_W).flatten sz) ([wX cI cJ aX jX aL aS aW aR aO uX, wR cI cJ aR jR aZ uR] : List va_W).flatten) (va_A ([wX cI cJ aX jX aL aS aW aR aO uX, wR cI cJ aR jR aZ uR] : List va_W).flatten sz)) 0 0 (va_A ([wX cI cJ aX jX aL aS aW aR aO uX, wR cI cJ aR jR aZ uR] : List va_W).flatten sz) := by
  refine Met.ofW (cc := cX6_rule) (maxL := 1) (ret := (some .int)) (by decide) rfl ?_
  intro p e s m args below meth c s₁ B hml hv
  obtain ⟨rfl, hsz, hP, hK, hD0, hN⟩ := hv
  have hx := B.exec
  have hb := B.bytes
  have hr := B.returns
  have ht : ∀ w ∈ lw_good, w.before _ s = true := fun w h => atoms_spec (ws := wq yX6_rule cX6_rule 1 (some .int)) B.pre w (wq_mem h)
  have hown : s.vm.findClass RX6 = some m.cls := findClass_of_methodNamed B.named
  have hlocks := B.notSynchronized
  subst hsz
  have hD := hD0.self (sz := s.heap.size)
  generalize hAe : va_A ([wX cI cJ aX jX aL aS aW aR aO uX, wR cI cJ aR jR aZ uR] : List va_W).flatten s.heap.size = A at hD ⊢
  have hA : ∀ q : Nat, s.heap.size ≤ q → A q := fun q h => by rw [← hAe]; exact Or.inr h
  have hS : va_S A s.heap s.heap [] := va_S.rf
  have hl := lv_entry ([.ref aX]) (n := 1) (Nat.le_of_ble_eq_true rfl)
  rw [lg_entry_eq]
  generalize (lg_sl ([.ref aX]) ++ List.replicate (1 - (lg_sl ([.ref aX])).length) Slot.unset).toArray = ls at hl ⊢
  have hl : lv_has ls 1 [(0, .ref aX)] := hl
  generalize hQ : MQ below _ _ s _ _ _ = Q
  generalize hH : s.heap = H at hP ⊢
  have hS : va_S A s.heap H [] := by rw [← hH]; exact va_S.rf
  show W p l e ({ frames := 0, cells := 0, slots := 0, locals := 0 } : Room) s m ([.ref aX] : List Value).toArray below meth c H [] 0 0 Q (F0 m 0 ls [])
  unfold f_X6_rule at hm
  refine lv_aload_n hx hb dX6_rule_0 rfl (lv_at hl 0 rfl) ?_
  refine va_get (D := (dC, dI)) (ci := 7) (v := .ref aR) (C := RX6) (T := TX6) (N := 10) hx hb ht inX6 hown hK hP 0 rfl rfl 3 (by decide) (ht _ kw_459) (fun _ h9 => h9) rfl dX6_rule_1 ?_
  refine va_getN (D := (dC, dI)) (ci := 4) (v := .int (uR.1 4)) (C := RX3) (T := TX3) (N := 12) hx hb ht inX3 hown hK hP 3 rfl rfl 4 (by decide) (va_Nw.use rfl (hN _ kn_21)) (fun _ h9 => h9) rfl dX6_rule_4 ?_
  rw [← hQ]
  exact W.iret (v := (uR.1 4)) hx hb hr (fun t ht1 hW => ⟨⟨_, (), rfl, hm, by rw [ht1]; exact hP, hD⟩, hS.F ht1⟩) hS.2.2 dX6_rule_7

def f_X6_sign (uX : OS) (uR : OS) (p1 : Int32) : Option (Int32) :=
  oC1 (f_X3_signAt uR p1) fun r1 =>
  some r1

set_option maxHeartbeats 4000000 in
set_option maxRecDepth 100000 in
theorem c_X6_sign (l : Launch) (dC : Nat → ClassId) (dI : Nat → Nat → Nat) (cI cJ : ClassId) (aX : Nat) (jX : Nat → Nat) (aR : Nat) (jR : Nat → Nat) (aL : Nat) (aS : Nat) (aW : Nat) (aO : Nat) (aZ : Nat) (sz : Nat) (uX : OS) (uR : OS) (p1 : Int32) (o : Int32) (hm : f_X6_sign uX uR p1 = some o) : Met l yX6_sign (wq yX6_sign cX6_sign 2 (some .int)) ({ frames := 1, cells := 0, slots := 0, locals := 21 } : Room) (va_Pc [.ref aX, .int p1] (pcW dC dI cI cJ sz ([wX cI cJ aX jX aL aS aW aR aO uX, wR cI cJ aR jR aZ uR] : List va_W).flatten)) (va_Qi (S := Unit) (fun r u => some r = some o) (fun (u : Unit) t => va_P (dC, dI) vwCl ([wX cI cJ aX jX aL aS aW aR aO uX, wR cI cJ aR jR aZ uR] : List va_W).flatten t.heap ∧ va_D (va_A ([wX cI cJ aX jX aL aS aW aR aO uX, wR cI cJ aR jR aZ uR] : List va_W).flatten sz) ([wX cI cJ aX jX aL aS aW aR aO uX, wR cI cJ aR jR aZ uR] : List va_W).flatten) (va_A ([wX cI cJ aX jX aL aS aW aR aO uX, wR cI cJ aR jR aZ uR] : List va_W).flatten sz)) 0 0 (va_A ([wX cI cJ aX jX aL aS aW aR aO uX, wR cI cJ aR jR aZ uR] : List va_W).flatten sz) := by
  refine Met.ofW (cc := cX6_sign) (maxL := 2) (ret := (some .int)) (by decide) rfl ?_
  intro p e s m args below meth c s₁ B hml hv
  obtain ⟨rfl, hsz, hP, hK, hD0, hN⟩ := hv
  have hx := B.exec
  have hb := B.bytes
  have hr := B.returns
  have ht : ∀ w ∈ lw_good, w.before _ s = true := fun w h => atoms_spec (ws := wq yX6_sign cX6_sign 2 (some .int)) B.pre w (wq_mem h)
  have hown : s.vm.findClass RX6 = some m.cls := findClass_of_methodNamed B.named
  have hlocks := B.notSynchronized
  subst hsz
  have hD := hD0.self (sz := s.heap.size)
  generalize hAe : va_A ([wX cI cJ aX jX aL aS aW aR aO uX, wR cI cJ aR jR aZ uR] : List va_W).flatten s.heap.size = A at hD ⊢
  have hA : ∀ q : Nat, s.heap.size ≤ q → A q := fun q h => by rw [← hAe]; exact Or.inr h
  have hS : va_S A s.heap s.heap [] := va_S.rf
  have hl := lv_entry ([.ref aX, .int p1]) (n := 2) (Nat.le_of_ble_eq_true rfl)
  rw [lg_entry_eq]
  generalize (lg_sl ([.ref aX, .int p1]) ++ List.replicate (2 - (lg_sl ([.ref aX, .int p1])).length) Slot.unset).toArray = ls at hl ⊢
  have hl : lv_has ls 2 [(0, .ref aX), (1, .int p1)] := hl
  generalize hQ : MQ below _ _ s _ _ _ = Q
  generalize hH : s.heap = H at hP ⊢
  have hS : va_S A s.heap H [] := by rw [← hH]; exact va_S.rf
  show W p l e ({ frames := 1, cells := 0, slots := 0, locals := 21 } : Room) s m ([.ref aX, .int p1] : List Value).toArray below meth c H [] 0 0 Q (F0 m 0 ls [])
  unfold f_X6_sign at hm
  refine lv_aload_n hx hb dX6_sign_0 rfl (lv_at hl 0 rfl) ?_
  refine va_get (D := (dC, dI)) (ci := 7) (v := .ref aR) (C := RX6) (T := TX6) (N := 10) hx hb ht inX6 hown hK hP 0 rfl rfl 3 (by decide) (ht _ kw_459) (fun _ h9 => h9) rfl dX6_sign_1 ?_
  refine lv_iload_n hx hb dX6_sign_4 rfl (lv_at hl 1 rfl) ?_
  have hPc : va_P (dC, dI) vwCl ([wR cI cJ aR jR aZ uR] : List va_W).flatten _ := hP.subF [1] rfl
  have hDc : va_D A ([wR cI cJ aR jR aZ uR] : List va_W).flatten := hD.subF [1] (by decide) rfl
  have hFc := va_freeF (fc := ([wR cI cJ aR jR aZ uR] : List va_W)) hD hS hA [1] rfl
  obtain ⟨r1o, e2, hm⟩ := oC1_of hm
  refine va_calli (va_runV (As := [.int p1]) (rest := []) ⟨hx, hb, hml, hown, ht⟩ (c_X3_signAt l dC dI cI cJ aR jR aZ H.size uR p1 r1o e2) (cwV 1 ht (gdV kw_467 kw_465 kw_466 kw_205 kw_464) rfl rfl rfl ⟨rfl, nd_X3_signAt⟩ ⟨Nat.le_of_ble_eq_true rfl, Nat.le_of_ble_eq_true rfl⟩) ⟨pcW_blind, va_recv hK hPc (ci := 4) (q0 := 0) rfl rfl, pcW_pre hPc hK hDc hN⟩ rfl rfl hl.1 rfl (lv_room (Nat.le_of_ble_eq_true rfl)) dX6_sign_5 ⟨Nat.zero_le _, Nat.zero_le _⟩) hS (fun q _ z => hFc q z) hFc (fun r1 uu t H1 locs ht1 hvm hw hB hz1 hk1 hS => ?_)
  obtain ⟨⟩ := uu
  obtain ⟨hP1, hD1⟩ := hB
  rw [ht1] at hP1
  obtain rfl : r1 = r1o := Option.some.inj hw
  obtain ⟨hP, hD⟩ := va_joinF (fr := ([wX cI cJ aX jX aL aS aW aR aO uX] : List va_W)) (f1 := ([wR cI cJ aR jR aZ uR] : List va_W)) hP hD [1] [0] rfl rfl (by decide) (by decide) hk1 hFc hP1 hD1
  have hP : va_P (dC, dI) vwCl ([wX cI cJ aX jX aL aS aW aR aO uX, wR cI cJ aR jR aZ uR] : List va_W).flatten H1 := hP
  have hD : va_D A ([wX cI cJ aX jX aL aS aW aR aO uX, wR cI cJ aR jR aZ uR] : List va_W).flatten := hD
  generalize H1 = H at hP hS ⊢
  rw [← hQ]
  exact W.iret (v := r1) hx hb hr (fun t ht1 hW => ⟨⟨_, (), rfl, hm, by rw [ht1]; exact hP, hD⟩, hS.F ht1⟩) hS.2.2 dX6_sign_8

def f_X6_spread (uX : OS) (uS : OS) (p1 : Int32) : Option ((OS × Int32) × Nat × Nat) :=
  if p1 < (0 : Int32) then (
  none) else (
  if p1 < (uS.1 1) then (
  if (uS.1 2) = (0 : Int32) then (
  some ((uS, (-2 : Int32)), 0, 0)) else (
  oA1 (f_X4_makeSpread uS) fun u4 kc7 ks7 =>
  addc kc7 ks7 <|
  oC1 (f_X4_signAt u4 p1) fun r9 =>
  some ((u4, r9), 0, 0))) else (
  none))

set_option maxHeartbeats 4000000 in
set_option maxRecDepth 100000 in
theorem c_X6_spread (l : Launch) (dC : Nat → ClassId) (dI : Nat → Nat → Nat) (cI cJ : ClassId) (aX : Nat) (jX : Nat → Nat) (aS : Nat) (jS : Nat → Nat) (aL : Nat) (aW : Nat) (aR : Nat) (aO : Nat) (sz : Nat) (uX : OS) (uS : OS) (p1 : Int32) (o : OS × Int32) (mc ms : Nat) (hm : f_X6_spread uX uS p1 = some (o, mc, ms)) : Met l yX6_spread (wq yX6_spread cX6_spread 2 (some .int)) ({ frames := 3, cells := mc, slots := ms, locals := 71 } : Room) (va_Pc [.ref aX, .int p1] (pcW dC dI cI cJ sz ([wX cI cJ aX jX aL aS aW aR aO uX, wS cI cJ aS jS uS] : List va_W).flatten)) (va_Qi (S := OS) (fun r u => some (u, r) = some o) (fun (u : OS) t => ∃ hhS : Nat → Nat, va_P (dC, dI) vwCl ([wX cI cJ aX jX aL aS aW aR aO uX, wS cI cJ aS hhS u] : List va_W).flatten t.heap ∧ va_D (va_A ([wX cI cJ aX jX aL aS aW aR aO uX, wS cI cJ aS jS uS] : List va_W).flatten sz) ([wX cI cJ aX jX aL aS aW aR aO uX, wS cI cJ aS hhS u] : List va_W).flatten) (va_A ([wX cI cJ aX jX aL aS aW aR aO uX, wS cI cJ aS jS uS] : List va_W).flatten sz)) mc ms (va_A ([wX cI cJ aX jX aL aS aW aR aO uX, wS cI cJ aS jS uS] : List va_W).flatten sz) := by
  refine Met.ofW (cc := cX6_spread) (maxL := 2) (ret := (some .int)) (by decide) rfl ?_
  intro p e s m args below meth c s₁ B hml hv
  obtain ⟨rfl, hsz, hP, hK, hD0, hN⟩ := hv
  have hx := B.exec
  have hb := B.bytes
  have hr := B.returns
  have ht : ∀ w ∈ lw_good, w.before _ s = true := fun w h => atoms_spec (ws := wq yX6_spread cX6_spread 2 (some .int)) B.pre w (wq_mem h)
  have hown : s.vm.findClass RX6 = some m.cls := findClass_of_methodNamed B.named
  have hlocks := B.notSynchronized
  subst hsz
  have hD := hD0.self (sz := s.heap.size)
  generalize hAe : va_A ([wX cI cJ aX jX aL aS aW aR aO uX, wS cI cJ aS jS uS] : List va_W).flatten s.heap.size = A at hD ⊢
  have hA : ∀ q : Nat, s.heap.size ≤ q → A q := fun q h => by rw [← hAe]; exact Or.inr h
  have hS : va_S A s.heap s.heap [] := va_S.rf
  have hl := lv_entry ([.ref aX, .int p1]) (n := 2) (Nat.le_of_ble_eq_true rfl)
  rw [lg_entry_eq]
  generalize (lg_sl ([.ref aX, .int p1]) ++ List.replicate (2 - (lg_sl ([.ref aX, .int p1])).length) Slot.unset).toArray = ls at hl ⊢
  have hl : lv_has ls 2 [(0, .ref aX), (1, .int p1)] := hl
  generalize hQ : MQ below _ _ s _ _ _ = Q
  generalize hH : s.heap = H at hP ⊢
  have hS : va_S A s.heap H [] := by rw [← hH]; exact va_S.rf
  obtain ⟨ce, hce⟩ := ex_eq (0 : Nat)
  obtain ⟨sl, hsl⟩ := ex_eq (0 : Nat)
  obtain ⟨kc, hkc⟩ := ex_eq mc
  obtain ⟨ks, hks⟩ := ex_eq ms
  rw [← hkc, ← hks] at hm
  have hc1 : ce + kc = mc := by omega
  have hc2 : sl + ks = ms := by omega
  suffices hw : W p l e ({ frames := 3, cells := mc, slots := ms, locals := 71 } : Room) s m ([.ref aX, .int p1] : List Value).toArray below meth c H [] ce sl Q (F0 m 0 ls []) by rw [hce, hsl] at hw; exact hw
  clear hce hsl hkc hks
  unfold f_X6_spread at hm
  refine lv_iload_n hx hb dX6_spread_0 rfl (lv_at hl 1 rfl) ?_
  refine lv_if_lt (tgt := 15) hx hb dX6_spread_1 (by decide) (fun c1 => ?_) (fun c1 => ?_)
  · have hm := ite_t c1 hm
    exact nomatch hm
  · have hm := ite_f c1 hm
    refine lv_iload_n hx hb dX6_spread_4 rfl (lv_at hl 1 rfl) ?_
    refine lv_aload_n hx hb dX6_spread_5 rfl (lv_at hl 0 rfl) ?_
    refine va_get (D := (dC, dI)) (ci := 7) (v := .ref aS) (C := RX6) (T := TX6) (N := 10) hx hb ht inX6 hown hK hP 0 rfl rfl 1 (by decide) (ht _ kw_432) (fun _ h9 => h9) rfl dX6_spread_6 ?_
    refine va_getN (D := (dC, dI)) (ci := 5) (v := .int (uS.1 1)) (C := RX4) (T := TX4) (N := 11) hx hb ht inX4 hown hK hP 3 rfl rfl 1 (by decide) (va_Nw.use rfl (hN _ kn_19)) (fun _ h9 => h9) rfl dX6_spread_9 ?_
    refine lv_icmp_lt (tgt := 25) hx hb dX6_spread_12 (by decide) (fun c2 => ?_) (fun c2 => ?_)
    · have hm := ite_t c2 hm
      refine lv_aload_n hx hb dX6_spread_25 rfl (lv_at hl 0 rfl) ?_
      refine va_get (D := (dC, dI)) (ci := 7) (v := .ref aS) (C := RX6) (T := TX6) (N := 10) hx hb ht inX6 hown hK hP 0 rfl rfl 1 (by decide) (ht _ kw_432) (fun _ h9 => h9) rfl dX6_spread_26 ?_
      refine va_getN (D := (dC, dI)) (ci := 5) (v := .int (uS.1 2)) (C := RX4) (T := TX4) (N := 11) hx hb ht inX4 hown hK hP 3 rfl rfl 2 (by decide) (va_Nw.use rfl (hN _ kn_18)) (fun _ h9 => h9) rfl dX6_spread_29 ?_
      refine lv_if_ne (tgt := 38) hx hb dX6_spread_32 (by decide) (fun c3 => ?_) (fun c3 => ?_)
      · have hm := ite_f c3 hm
        refine lv_aload_n hx hb dX6_spread_38 rfl (lv_at hl 0 rfl) ?_
        refine va_get (D := (dC, dI)) (ci := 7) (v := .ref aS) (C := RX6) (T := TX6) (N := 10) hx hb ht inX6 hown hK hP 0 rfl rfl 1 (by decide) (ht _ kw_432) (fun _ h9 => h9) rfl dX6_spread_39 ?_
        have hPc : va_P (dC, dI) vwCl ([wS cI cJ aS jS uS] : List va_W).flatten _ := hP.subF [1] rfl
        have hDc : va_D A ([wS cI cJ aS jS uS] : List va_W).flatten := hD.subF [1] (by decide) rfl
        have hFc := va_freeF (fc := ([wS cI cJ aS jS uS] : List va_W)) hD hS hA [1] rfl
        obtain ⟨u4o, kc7, ks7, e6, hm⟩ := oA1_of hm
        obtain ⟨kcq8, ksq8, hm, hkcq8, hksq8⟩ := addc_of hm
        refine va_callv (va_runV (As := []) (rest := []) ⟨hx, hb, hml, hown, ht⟩ (c_X4_makeSpread l dC dI cI cJ aS jS H.size uS u4o kc7 ks7 e6) (cwV 0 ht (gdV kw_468 kw_312 kw_313 kw_199 kw_311) rfl rfl rfl ⟨rfl, nd_X4_makeSpread⟩ ⟨Nat.le_of_ble_eq_true rfl, Nat.le_of_ble_eq_true rfl⟩) ⟨pcW_blind, va_recv hK hPc (ci := 5) (q0 := 0) rfl rfl, pcW_pre hPc hK hDc hN⟩ rfl rfl hl.1 rfl (lv_room (Nat.le_of_ble_eq_true rfl)) dX6_spread_42 ⟨cle hc1 hkcq8, cle hc2 hksq8⟩) hS (fun q _ z => hFc q z) hFc (fun uu t H1 locs ht1 hvm hw hB hz1 hk1 hS => ?_)
        obtain ⟨u4, rfl⟩ : ∃ z, z = uu := ⟨_, rfl⟩
        obtain ⟨h5, hP1, hD1⟩ := hB
        rw [ht1] at hP1
        obtain rfl : u4 = u4o := Option.some.inj hw
        obtain ⟨hP, hD⟩ := va_joinF (fr := ([wX cI cJ aX jX aL aS aW aR aO uX] : List va_W)) (f1 := ([wS cI cJ aS h5 u4] : List va_W)) hP hD [1] [0] rfl rfl (by decide) (by decide) hk1 hFc hP1 hD1
        have hP : va_P (dC, dI) vwCl ([wX cI cJ aX jX aL aS aW aR aO uX, wS cI cJ aS h5 u4] : List va_W).flatten H1 := hP
        have hD : va_D A ([wX cI cJ aX jX aL aS aW aR aO uX, wS cI cJ aS h5 u4] : List va_W).flatten := hD
        generalize H1 = H at hP hS ⊢
        have hc1 := cadd hc1 hkcq8
        have hc2 := cadd hc2 hksq8
        refine lv_aload_n hx hb dX6_spread_45 rfl (lv_at hl 0 rfl) ?_
        refine va_get (D := (dC, dI)) (ci := 7) (v := .ref aS) (C := RX6) (T := TX6) (N := 10) hx hb ht inX6 hown hK hP 0 rfl rfl 1 (by decide) (ht _ kw_432) (fun _ h9 => h9) rfl dX6_spread_46 ?_
        refine lv_iload_n hx hb dX6_spread_49 rfl (lv_at hl 1 rfl) ?_
        have hPc : va_P (dC, dI) vwCl ([wS cI cJ aS h5 u4] : List va_W).flatten _ := hP.subF [1] rfl
        have hDc : va_D A ([wS cI cJ aS h5 u4] : List va_W).flatten := hD.subF [1] (by decide) rfl
        have hFc := va_freeF (fc := ([wS cI cJ aS h5 u4] : List va_W)) hD hS hA [1] rfl
        obtain ⟨r9o, e10, hm⟩ := oC1_of hm
        refine va_calli (va_runV (As := [.int p1]) (rest := []) ⟨hx, hb, hml, hown, ht⟩ (c_X4_signAt l dC dI cI cJ aS h5 H.size u4 p1 r9o e10) (cwV 1 ht (gdV kw_469 kw_279 kw_280 kw_199 kw_278) rfl rfl rfl ⟨rfl, nd_X4_signAt⟩ ⟨Nat.le_of_ble_eq_true rfl, Nat.le_of_ble_eq_true rfl⟩) ⟨pcW_blind, va_recv hK hPc (ci := 5) (q0 := 0) rfl rfl, pcW_pre hPc hK hDc hN⟩ rfl rfl hl.1 rfl (lv_room (Nat.le_of_ble_eq_true rfl)) dX6_spread_50 ⟨cle0 hc1, cle0 hc2⟩) hS (fun q _ z => hFc q z) hFc (fun r9 uu t H1 locs ht1 hvm hw hB hz1 hk1 hS => ?_)
        obtain ⟨⟩ := uu
        obtain ⟨hP1, hD1⟩ := hB
        rw [ht1] at hP1
        obtain rfl : r9 = r9o := Option.some.inj hw
        obtain ⟨hP, hD⟩ := va_joinF (fr := ([wX cI cJ aX jX aL aS aW aR aO uX] : List va_W)) (f1 := ([wS cI cJ aS h5 u4] : List va_W)) hP hD [1] [0] rfl rfl (by decide) (by decide) hk1 hFc hP1 hD1
        have hP : va_P (dC, dI) vwCl ([wX cI cJ aX jX aL aS aW aR aO uX, wS cI cJ aS h5 u4] : List va_W).flatten H1 := hP
        have hD : va_D A ([wX cI cJ aX jX aL aS aW aR aO uX, wS cI cJ aS h5 u4] : List va_W).flatten := hD
        generalize H1 = H at hP hS ⊢
        refine W.cs (Nat.add_zero _) (Nat.add_zero _) ?_
        obtain ⟨hmz, hz1, hz2⟩ := ret0 hm
        subst hz1
        subst hz2
        refine W.cs (cells' := mc) (slots' := ms) hc1 hc2 ?_
        rw [← hQ]
        exact W.iret (v := r9) hx hb hr (fun t ht1 hW => ⟨⟨_, u4, rfl, hmz, h5, by rw [ht1]; exact hP, hD⟩, hS.F ht1⟩) hS.2.2 dX6_spread_53
      · have hm := ite_t c3 hm
        refine lv_bipush (v := (-2 : Int32)) hx hb dX6_spread_35 (by decide) ?_
        obtain ⟨hmz, hz1, hz2⟩ := ret0 hm
        subst hz1
        subst hz2
        refine W.cs (cells' := mc) (slots' := ms) hc1 hc2 ?_
        rw [← hQ]
        exact W.iret (v := (-2 : Int32)) hx hb hr (fun t ht1 hW => ⟨⟨_, uS, rfl, hmz, jS, by rw [ht1]; exact hP, hD⟩, hS.F ht1⟩) hS.2.2 dX6_spread_37
    · have hm := ite_f c2 hm
      exact nomatch hm

def f_X6_state (uX : OS) (uW : OS) (uR : OS) (p1 : Int32) (p2 : Int32) : Option (Int64) :=
  if (0 : Int32) ≤ p2 then (
  if p1 = (0 : Int32) then (
  if (uW.1 3) = (0 : Int32) then (
  some (-1 : Int64)) else (
  if (uW.1 2) ≤ p2 then (
  some (-1 : Int64)) else (
  gdi p2 4 <|
  some ((uW.2.2.1 0 (p2).toNatClampNeg))))) else (
  if p1 = (1 : Int32) then (
  if (uR.1 11) = (0 : Int32) then (
  some (-1 : Int64)) else (
  if (uR.1 9) ≤ p2 then (
  some (-1 : Int64)) else (
  gdi p2 4 <|
  some ((uR.2.2.1 1 (p2).toNatClampNeg))))) else (
  some (-1 : Int64)))) else (
  some (-1 : Int64))

set_option maxHeartbeats 4000000 in
set_option maxRecDepth 100000 in
theorem c_X6_state (l : Launch) (dC : Nat → ClassId) (dI : Nat → Nat → Nat) (cI cJ : ClassId) (aX : Nat) (jX : Nat → Nat) (aW : Nat) (jW : Nat → Nat) (aR : Nat) (jR : Nat → Nat) (aL : Nat) (aS : Nat) (aO : Nat) (aP : Nat) (aZ : Nat) (sz : Nat) (uX : OS) (uW : OS) (uR : OS) (p1 : Int32) (p2 : Int32) (o : Int64) (hm : f_X6_state uX uW uR p1 p2 = some o) : Met l yX6_state (wq yX6_state cX6_state 3 (some .long)) ({ frames := 0, cells := 0, slots := 0, locals := 0 } : Room) (va_Pc [.ref aX, .int p1, .int p2] (pcW dC dI cI cJ sz ([wX cI cJ aX jX aL aS aW aR aO uX, wW cI cJ aW jW aP uW, wR cI cJ aR jR aZ uR] : List va_W).flatten)) (va_Ql (S := Unit) (fun r u => some r = some o) (fun (u : Unit) t => va_P (dC, dI) vwCl ([wX cI cJ aX jX aL aS aW aR aO uX, wW cI cJ aW jW aP uW, wR cI cJ aR jR aZ uR] : List va_W).flatten t.heap ∧ va_D (va_A ([wX cI cJ aX jX aL aS aW aR aO uX, wW cI cJ aW jW aP uW, wR cI cJ aR jR aZ uR] : List va_W).flatten sz) ([wX cI cJ aX jX aL aS aW aR aO uX, wW cI cJ aW jW aP uW, wR cI cJ aR jR aZ uR] : List va_W).flatten) (va_A ([wX cI cJ aX jX aL aS aW aR aO uX, wW cI cJ aW jW aP uW, wR cI cJ aR jR aZ uR] : List va_W).flatten sz)) 0 0 (va_A ([wX cI cJ aX jX aL aS aW aR aO uX, wW cI cJ aW jW aP uW, wR cI cJ aR jR aZ uR] : List va_W).flatten sz) := by
  refine Met.ofW (cc := cX6_state) (maxL := 3) (ret := (some .long)) (by decide) rfl ?_
  intro p e s m args below meth c s₁ B hml hv
  obtain ⟨rfl, hsz, hP, hK, hD0, hN⟩ := hv
  have hx := B.exec
  have hb := B.bytes
  have hr := B.returns
  have ht : ∀ w ∈ lw_good, w.before _ s = true := fun w h => atoms_spec (ws := wq yX6_state cX6_state 3 (some .long)) B.pre w (wq_mem h)
  have hown : s.vm.findClass RX6 = some m.cls := findClass_of_methodNamed B.named
  have hlocks := B.notSynchronized
  subst hsz
  have hD := hD0.self (sz := s.heap.size)
  generalize hAe : va_A ([wX cI cJ aX jX aL aS aW aR aO uX, wW cI cJ aW jW aP uW, wR cI cJ aR jR aZ uR] : List va_W).flatten s.heap.size = A at hD ⊢
  have hA : ∀ q : Nat, s.heap.size ≤ q → A q := fun q h => by rw [← hAe]; exact Or.inr h
  have hS : va_S A s.heap s.heap [] := va_S.rf
  have hl := lv_entry ([.ref aX, .int p1, .int p2]) (n := 3) (Nat.le_of_ble_eq_true rfl)
  rw [lg_entry_eq]
  generalize (lg_sl ([.ref aX, .int p1, .int p2]) ++ List.replicate (3 - (lg_sl ([.ref aX, .int p1, .int p2])).length) Slot.unset).toArray = ls at hl ⊢
  have hl : lv_has ls 3 [(0, .ref aX), (1, .int p1), (2, .int p2)] := hl
  generalize hQ : MQ below _ _ s _ _ _ = Q
  generalize hH : s.heap = H at hP ⊢
  have hS : va_S A s.heap H [] := by rw [← hH]; exact va_S.rf
  show W p l e ({ frames := 0, cells := 0, slots := 0, locals := 0 } : Room) s m ([.ref aX, .int p1, .int p2] : List Value).toArray below meth c H [] 0 0 Q (F0 m 0 ls [])
  unfold f_X6_state at hm
  refine lv_iload_n hx hb dX6_state_0 rfl (lv_at hl 2 rfl) ?_
  refine lv_if_ge (tgt := 8) hx hb dX6_state_1 (by decide) (fun c1 => ?_) (fun c1 => ?_)
  · have hm := ite_t c1 hm
    refine lv_iload_n hx hb dX6_state_8 rfl (lv_at hl 1 rfl) ?_
    refine lv_if_ne (tgt := 49) hx hb dX6_state_9 (by decide) (fun c2 => ?_) (fun c2 => ?_)
    · have hm := ite_f c2 hm
      refine lv_iload_n hx hb dX6_state_49 rfl (lv_at hl 1 rfl) ?_
      refine lv_iconst (v := (1 : Int32)) hx hb dX6_state_50 (by decide) ?_
      refine lv_icmp_ne (tgt := 91) hx hb dX6_state_51 (by decide) (fun c3 => ?_) (fun c3 => ?_)
      · have hm := ite_f c3 hm
        refine lv_ldc2 (v := (-1 : Int64)) hx hb hown (ht _ kw_445) dX6_state_91 ?_
        rw [← hQ]
        exact W.lret (v := (-1 : Int64)) hx hb hr (fun t ht1 hW => ⟨⟨_, (), rfl, hm, by rw [ht1]; exact hP, hD⟩, hS.F ht1⟩) hS.2.2 dX6_state_94
      · have hm := ite_t c3 hm
        refine lv_aload_n hx hb dX6_state_54 rfl (lv_at hl 0 rfl) ?_
        refine va_get (D := (dC, dI)) (ci := 7) (v := .ref aR) (C := RX6) (T := TX6) (N := 10) hx hb ht inX6 hown hK hP 0 rfl rfl 3 (by decide) (ht _ kw_459) (fun _ h9 => h9) rfl dX6_state_55 ?_
        refine va_getN (D := (dC, dI)) (ci := 4) (v := .int (uR.1 11)) (C := RX3) (T := TX3) (N := 12) hx hb ht inX3 hown hK hP 5 rfl rfl 11 (by decide) (va_Nw.use rfl (hN _ kn_22)) (fun _ h9 => h9) rfl dX6_state_58 ?_
        refine lv_if_eq (tgt := 87) hx hb dX6_state_61 (by decide) (fun c4 => ?_) (fun c4 => ?_)
        · have hm := ite_t c4 hm
          refine lv_ldc2 (v := (-1 : Int64)) hx hb hown (ht _ kw_445) dX6_state_87 ?_
          rw [← hQ]
          exact W.lret (v := (-1 : Int64)) hx hb hr (fun t ht1 hW => ⟨⟨_, (), rfl, hm, by rw [ht1]; exact hP, hD⟩, hS.F ht1⟩) hS.2.2 dX6_state_90
        · have hm := ite_f c4 hm
          refine lv_iload_n hx hb dX6_state_64 rfl (lv_at hl 2 rfl) ?_
          refine lv_aload_n hx hb dX6_state_65 rfl (lv_at hl 0 rfl) ?_
          refine va_get (D := (dC, dI)) (ci := 7) (v := .ref aR) (C := RX6) (T := TX6) (N := 10) hx hb ht inX6 hown hK hP 0 rfl rfl 3 (by decide) (ht _ kw_459) (fun _ h9 => h9) rfl dX6_state_66 ?_
          refine va_getN (D := (dC, dI)) (ci := 4) (v := .int (uR.1 9)) (C := RX3) (T := TX3) (N := 12) hx hb ht inX3 hown hK hP 5 rfl rfl 9 (by decide) (va_Nw.use rfl (hN _ kn_23)) (fun _ h9 => h9) rfl dX6_state_69 ?_
          refine lv_icmp_ge (tgt := 87) hx hb dX6_state_72 (by decide) (fun c5 => ?_) (fun c5 => ?_)
          · have hm := ite_t c5 hm
            refine lv_ldc2 (v := (-1 : Int64)) hx hb hown (ht _ kw_445) dX6_state_87 ?_
            rw [← hQ]
            exact W.lret (v := (-1 : Int64)) hx hb hr (fun t ht1 hW => ⟨⟨_, (), rfl, hm, by rw [ht1]; exact hP, hD⟩, hS.F ht1⟩) hS.2.2 dX6_state_90
          · have hm := ite_f c5 hm
            refine lv_aload_n hx hb dX6_state_75 rfl (lv_at hl 0 rfl) ?_
            refine va_get (D := (dC, dI)) (ci := 7) (v := .ref aR) (C := RX6) (T := TX6) (N := 10) hx hb ht inX6 hown hK hP 0 rfl rfl 3 (by decide) (ht _ kw_459) (fun _ h9 => h9) rfl dX6_state_76 ?_
            refine va_getN (D := (dC, dI)) (ci := 4) (v := .ref (jR 1)) (C := RX3) (T := TX3) (N := 12) hx hb ht inX3 hown hK hP 5 rfl rfl 1 (by decide) (va_Nw.use rfl (hN _ kn_24)) (fun _ h9 => h9) rfl dX6_state_79 ?_
            refine lv_iload_n hx hb dX6_state_82 rfl (lv_at hl 2 rfl) ?_
            obtain ⟨g6, hm⟩ := gdi_of hm
            refine va_lald hx hb hK hP 6 1 rfl rfl g6 dX6_state_83 ?_
            refine lv_goto (tgt := 90) hx hb dX6_state_84 (by decide) ?_
            rw [← hQ]
            exact W.lret (v := (uR.2.2.1 1 (p2).toNatClampNeg)) hx hb hr (fun t ht1 hW => ⟨⟨_, (), rfl, hm, by rw [ht1]; exact hP, hD⟩, hS.F ht1⟩) hS.2.2 dX6_state_90
    · have hm := ite_t c2 hm
      refine lv_aload_n hx hb dX6_state_12 rfl (lv_at hl 0 rfl) ?_
      refine va_get (D := (dC, dI)) (ci := 7) (v := .ref aW) (C := RX6) (T := TX6) (N := 10) hx hb ht inX6 hown hK hP 0 rfl rfl 2 (by decide) (ht _ kw_449) (fun _ h9 => h9) rfl dX6_state_13 ?_
      refine va_getN (D := (dC, dI)) (ci := 6) (v := .int (uW.1 3)) (C := RX5) (T := TX5) (N := 4) hx hb ht inX5 hown hK hP 3 rfl rfl 3 (by decide) (va_Nw.use rfl (hN _ kn_25)) (fun _ h9 => h9) rfl dX6_state_16 ?_
      refine lv_if_eq (tgt := 45) hx hb dX6_state_19 (by decide) (fun c7 => ?_) (fun c7 => ?_)
      · have hm := ite_t c7 hm
        refine lv_ldc2 (v := (-1 : Int64)) hx hb hown (ht _ kw_445) dX6_state_45 ?_
        rw [← hQ]
        exact W.lret (v := (-1 : Int64)) hx hb hr (fun t ht1 hW => ⟨⟨_, (), rfl, hm, by rw [ht1]; exact hP, hD⟩, hS.F ht1⟩) hS.2.2 dX6_state_48
      · have hm := ite_f c7 hm
        refine lv_iload_n hx hb dX6_state_22 rfl (lv_at hl 2 rfl) ?_
        refine lv_aload_n hx hb dX6_state_23 rfl (lv_at hl 0 rfl) ?_
        refine va_get (D := (dC, dI)) (ci := 7) (v := .ref aW) (C := RX6) (T := TX6) (N := 10) hx hb ht inX6 hown hK hP 0 rfl rfl 2 (by decide) (ht _ kw_449) (fun _ h9 => h9) rfl dX6_state_24 ?_
        refine va_getN (D := (dC, dI)) (ci := 6) (v := .int (uW.1 2)) (C := RX5) (T := TX5) (N := 4) hx hb ht inX5 hown hK hP 3 rfl rfl 2 (by decide) (va_Nw.use rfl (hN _ kn_26)) (fun _ h9 => h9) rfl dX6_state_27 ?_
        refine lv_icmp_ge (tgt := 45) hx hb dX6_state_30 (by decide) (fun c8 => ?_) (fun c8 => ?_)
        · have hm := ite_t c8 hm
          refine lv_ldc2 (v := (-1 : Int64)) hx hb hown (ht _ kw_445) dX6_state_45 ?_
          rw [← hQ]
          exact W.lret (v := (-1 : Int64)) hx hb hr (fun t ht1 hW => ⟨⟨_, (), rfl, hm, by rw [ht1]; exact hP, hD⟩, hS.F ht1⟩) hS.2.2 dX6_state_48
        · have hm := ite_f c8 hm
          refine lv_aload_n hx hb dX6_state_33 rfl (lv_at hl 0 rfl) ?_
          refine va_get (D := (dC, dI)) (ci := 7) (v := .ref aW) (C := RX6) (T := TX6) (N := 10) hx hb ht inX6 hown hK hP 0 rfl rfl 2 (by decide) (ht _ kw_449) (fun _ h9 => h9) rfl dX6_state_34 ?_
          refine va_getN (D := (dC, dI)) (ci := 6) (v := .ref (jW 0)) (C := RX5) (T := TX5) (N := 4) hx hb ht inX5 hown hK hP 3 rfl rfl 0 (by decide) (va_Nw.use rfl (hN _ kn_27)) (fun _ h9 => h9) rfl dX6_state_37 ?_
          refine lv_iload_n hx hb dX6_state_40 rfl (lv_at hl 2 rfl) ?_
          obtain ⟨g9, hm⟩ := gdi_of hm
          refine va_lald hx hb hK hP 4 1 rfl rfl g9 dX6_state_41 ?_
          refine lv_goto (tgt := 48) hx hb dX6_state_42 (by decide) ?_
          rw [← hQ]
          exact W.lret (v := (uW.2.2.1 0 (p2).toNatClampNeg)) hx hb hr (fun t ht1 hW => ⟨⟨_, (), rfl, hm, by rw [ht1]; exact hP, hD⟩, hS.F ht1⟩) hS.2.2 dX6_state_48
  · have hm := ite_f c1 hm
    refine lv_ldc2 (v := (-1 : Int64)) hx hb hown (ht _ kw_445) dX6_state_4 ?_
    rw [← hQ]
    exact W.lret (v := (-1 : Int64)) hx hb hr (fun t ht1 hW => ⟨⟨_, (), rfl, hm, by rw [ht1]; exact hP, hD⟩, hS.F ht1⟩) hS.2.2 dX6_state_7

def f_X6_out (uX : OS) (uO : OS) (p1 : Int32) : Option (Int32) :=
  oC1 (f_X1_valueAt uO p1) fun r1 =>
  some r1

set_option maxHeartbeats 4000000 in
set_option maxRecDepth 100000 in
theorem c_X6_out (l : Launch) (dC : Nat → ClassId) (dI : Nat → Nat → Nat) (cI cJ : ClassId) (aX : Nat) (jX : Nat → Nat) (aO : Nat) (jO : Nat → Nat) (aL : Nat) (aS : Nat) (aW : Nat) (aR : Nat) (sz : Nat) (uX : OS) (uO : OS) (p1 : Int32) (o : Int32) (hm : f_X6_out uX uO p1 = some o) : Met l yX6_out (wq yX6_out cX6_out 2 (some .int)) ({ frames := 1, cells := 0, slots := 0, locals := 21 } : Room) (va_Pc [.ref aX, .int p1] (pcW dC dI cI cJ sz ([wX cI cJ aX jX aL aS aW aR aO uX, wO cI cJ aO jO uO] : List va_W).flatten)) (va_Qi (S := Unit) (fun r u => some r = some o) (fun (u : Unit) t => va_P (dC, dI) vwCl ([wX cI cJ aX jX aL aS aW aR aO uX, wO cI cJ aO jO uO] : List va_W).flatten t.heap ∧ va_D (va_A ([wX cI cJ aX jX aL aS aW aR aO uX, wO cI cJ aO jO uO] : List va_W).flatten sz) ([wX cI cJ aX jX aL aS aW aR aO uX, wO cI cJ aO jO uO] : List va_W).flatten) (va_A ([wX cI cJ aX jX aL aS aW aR aO uX, wO cI cJ aO jO uO] : List va_W).flatten sz)) 0 0 (va_A ([wX cI cJ aX jX aL aS aW aR aO uX, wO cI cJ aO jO uO] : List va_W).flatten sz) := by
  refine Met.ofW (cc := cX6_out) (maxL := 2) (ret := (some .int)) (by decide) rfl ?_
  intro p e s m args below meth c s₁ B hml hv
  obtain ⟨rfl, hsz, hP, hK, hD0, hN⟩ := hv
  have hx := B.exec
  have hb := B.bytes
  have hr := B.returns
  have ht : ∀ w ∈ lw_good, w.before _ s = true := fun w h => atoms_spec (ws := wq yX6_out cX6_out 2 (some .int)) B.pre w (wq_mem h)
  have hown : s.vm.findClass RX6 = some m.cls := findClass_of_methodNamed B.named
  have hlocks := B.notSynchronized
  subst hsz
  have hD := hD0.self (sz := s.heap.size)
  generalize hAe : va_A ([wX cI cJ aX jX aL aS aW aR aO uX, wO cI cJ aO jO uO] : List va_W).flatten s.heap.size = A at hD ⊢
  have hA : ∀ q : Nat, s.heap.size ≤ q → A q := fun q h => by rw [← hAe]; exact Or.inr h
  have hS : va_S A s.heap s.heap [] := va_S.rf
  have hl := lv_entry ([.ref aX, .int p1]) (n := 2) (Nat.le_of_ble_eq_true rfl)
  rw [lg_entry_eq]
  generalize (lg_sl ([.ref aX, .int p1]) ++ List.replicate (2 - (lg_sl ([.ref aX, .int p1])).length) Slot.unset).toArray = ls at hl ⊢
  have hl : lv_has ls 2 [(0, .ref aX), (1, .int p1)] := hl
  generalize hQ : MQ below _ _ s _ _ _ = Q
  generalize hH : s.heap = H at hP ⊢
  have hS : va_S A s.heap H [] := by rw [← hH]; exact va_S.rf
  show W p l e ({ frames := 1, cells := 0, slots := 0, locals := 21 } : Room) s m ([.ref aX, .int p1] : List Value).toArray below meth c H [] 0 0 Q (F0 m 0 ls [])
  unfold f_X6_out at hm
  refine lv_aload_n hx hb dX6_out_0 rfl (lv_at hl 0 rfl) ?_
  refine va_get (D := (dC, dI)) (ci := 7) (v := .ref aO) (C := RX6) (T := TX6) (N := 10) hx hb ht inX6 hown hK hP 0 rfl rfl 4 (by decide) (ht _ kw_450) (fun _ h9 => h9) rfl dX6_out_1 ?_
  refine lv_iload_n hx hb dX6_out_4 rfl (lv_at hl 1 rfl) ?_
  have hPc : va_P (dC, dI) vwCl ([wO cI cJ aO jO uO] : List va_W).flatten _ := hP.subF [1] rfl
  have hDc : va_D A ([wO cI cJ aO jO uO] : List va_W).flatten := hD.subF [1] (by decide) rfl
  have hFc := va_freeF (fc := ([wO cI cJ aO jO uO] : List va_W)) hD hS hA [1] rfl
  obtain ⟨r1o, e2, hm⟩ := oC1_of hm
  refine va_calli (va_runV (As := [.int p1]) (rest := []) ⟨hx, hb, hml, hown, ht⟩ (c_X1_valueAt l dC dI cI cJ aO jO H.size uO p1 r1o e2) (cwV 1 ht (gdV kw_473 kw_471 kw_472 kw_173 kw_470) rfl rfl rfl ⟨rfl, nd_X1_valueAt⟩ ⟨Nat.le_of_ble_eq_true rfl, Nat.le_of_ble_eq_true rfl⟩) ⟨pcW_blind, va_recv hK hPc (ci := 2) (q0 := 0) rfl rfl, pcW_pre hPc hK hDc hN⟩ rfl rfl hl.1 rfl (lv_room (Nat.le_of_ble_eq_true rfl)) dX6_out_5 ⟨Nat.zero_le _, Nat.zero_le _⟩) hS (fun q _ z => hFc q z) hFc (fun r1 uu t H1 locs ht1 hvm hw hB hz1 hk1 hS => ?_)
  obtain ⟨⟩ := uu
  obtain ⟨hP1, hD1⟩ := hB
  rw [ht1] at hP1
  obtain rfl : r1 = r1o := Option.some.inj hw
  obtain ⟨hP, hD⟩ := va_joinF (fr := ([wX cI cJ aX jX aL aS aW aR aO uX] : List va_W)) (f1 := ([wO cI cJ aO jO uO] : List va_W)) hP hD [1] [0] rfl rfl (by decide) (by decide) hk1 hFc hP1 hD1
  have hP : va_P (dC, dI) vwCl ([wX cI cJ aX jX aL aS aW aR aO uX, wO cI cJ aO jO uO] : List va_W).flatten H1 := hP
  have hD : va_D A ([wX cI cJ aX jX aL aS aW aR aO uX, wO cI cJ aO jO uO] : List va_W).flatten := hD
  generalize H1 = H at hP hS ⊢
  rw [← hQ]
  exact W.iret (v := r1) hx hb hr (fun t ht1 hW => ⟨⟨_, (), rfl, hm, by rw [ht1]; exact hP, hD⟩, hS.F ht1⟩) hS.2.2 dX6_out_8

def f_X6_spoil (uX : OS) (uO : OS) (p1 : Int32) (p2 : Int32) : Option (OS × Int32) :=
  if p2 < (1 : Int32) then (
  some (uO, (-1 : Int32))) else (
  if p2 ≤ (255 : Int32) then (
  oC2 (f_X1_change uO p1 p2) fun u3 r4 =>
  some (u3, r4)) else (
  some (uO, (-1 : Int32))))

set_option maxHeartbeats 4000000 in
set_option maxRecDepth 100000 in
theorem c_X6_spoil (l : Launch) (dC : Nat → ClassId) (dI : Nat → Nat → Nat) (cI cJ : ClassId) (aX : Nat) (jX : Nat → Nat) (aO : Nat) (jO : Nat → Nat) (aL : Nat) (aS : Nat) (aW : Nat) (aR : Nat) (sz : Nat) (uX : OS) (uO : OS) (p1 : Int32) (p2 : Int32) (o : OS × Int32) (hm : f_X6_spoil uX uO p1 p2 = some o) : Met l yX6_spoil (wq yX6_spoil cX6_spoil 3 (some .int)) ({ frames := 1, cells := 0, slots := 0, locals := 22 } : Room) (va_Pc [.ref aX, .int p1, .int p2] (pcW dC dI cI cJ sz ([wX cI cJ aX jX aL aS aW aR aO uX, wO cI cJ aO jO uO] : List va_W).flatten)) (va_Qi (S := OS) (fun r u => some (u, r) = some o) (fun (u : OS) t => va_P (dC, dI) vwCl ([wX cI cJ aX jX aL aS aW aR aO uX, wO cI cJ aO jO u] : List va_W).flatten t.heap ∧ va_D (va_A ([wX cI cJ aX jX aL aS aW aR aO uX, wO cI cJ aO jO uO] : List va_W).flatten sz) ([wX cI cJ aX jX aL aS aW aR aO uX, wO cI cJ aO jO u] : List va_W).flatten) (va_A ([wX cI cJ aX jX aL aS aW aR aO uX, wO cI cJ aO jO uO] : List va_W).flatten sz)) 0 0 (va_A ([wX cI cJ aX jX aL aS aW aR aO uX, wO cI cJ aO jO uO] : List va_W).flatten sz) := by
  refine Met.ofW (cc := cX6_spoil) (maxL := 3) (ret := (some .int)) (by decide) rfl ?_
  intro p e s m args below meth c s₁ B hml hv
  obtain ⟨rfl, hsz, hP, hK, hD0, hN⟩ := hv
  have hx := B.exec
  have hb := B.bytes
  have hr := B.returns
  have ht : ∀ w ∈ lw_good, w.before _ s = true := fun w h => atoms_spec (ws := wq yX6_spoil cX6_spoil 3 (some .int)) B.pre w (wq_mem h)
  have hown : s.vm.findClass RX6 = some m.cls := findClass_of_methodNamed B.named
  have hlocks := B.notSynchronized
  subst hsz
  have hD := hD0.self (sz := s.heap.size)
  generalize hAe : va_A ([wX cI cJ aX jX aL aS aW aR aO uX, wO cI cJ aO jO uO] : List va_W).flatten s.heap.size = A at hD ⊢
  have hA : ∀ q : Nat, s.heap.size ≤ q → A q := fun q h => by rw [← hAe]; exact Or.inr h
  have hS : va_S A s.heap s.heap [] := va_S.rf
  have hl := lv_entry ([.ref aX, .int p1, .int p2]) (n := 3) (Nat.le_of_ble_eq_true rfl)
  rw [lg_entry_eq]
  generalize (lg_sl ([.ref aX, .int p1, .int p2]) ++ List.replicate (3 - (lg_sl ([.ref aX, .int p1, .int p2])).length) Slot.unset).toArray = ls at hl ⊢
  have hl : lv_has ls 3 [(0, .ref aX), (1, .int p1), (2, .int p2)] := hl
  generalize hQ : MQ below _ _ s _ _ _ = Q
  generalize hH : s.heap = H at hP ⊢
  have hS : va_S A s.heap H [] := by rw [← hH]; exact va_S.rf
  show W p l e ({ frames := 1, cells := 0, slots := 0, locals := 22 } : Room) s m ([.ref aX, .int p1, .int p2] : List Value).toArray below meth c H [] 0 0 Q (F0 m 0 ls [])
  unfold f_X6_spoil at hm
  refine lv_iload_n hx hb dX6_spoil_0 rfl (lv_at hl 2 rfl) ?_
  refine lv_iconst (v := (1 : Int32)) hx hb dX6_spoil_1 (by decide) ?_
  refine lv_icmp_lt (tgt := 12) hx hb dX6_spoil_2 (by decide) (fun c1 => ?_) (fun c1 => ?_)
  · have hm := ite_t c1 hm
    refine lv_iconst (v := (-1 : Int32)) hx hb dX6_spoil_12 (by decide) ?_
    rw [← hQ]
    exact W.iret (v := (-1 : Int32)) hx hb hr (fun t ht1 hW => ⟨⟨_, uO, rfl, hm, by rw [ht1]; exact hP, hD⟩, hS.F ht1⟩) hS.2.2 dX6_spoil_13
  · have hm := ite_f c1 hm
    refine lv_iload_n hx hb dX6_spoil_5 rfl (lv_at hl 2 rfl) ?_
    refine lv_sipush (v := (255 : Int32)) hx hb dX6_spoil_6 (by decide) ?_
    refine lv_icmp_le (tgt := 14) hx hb dX6_spoil_9 (by decide) (fun c2 => ?_) (fun c2 => ?_)
    · have hm := ite_t c2 hm
      refine lv_aload_n hx hb dX6_spoil_14 rfl (lv_at hl 0 rfl) ?_
      refine va_get (D := (dC, dI)) (ci := 7) (v := .ref aO) (C := RX6) (T := TX6) (N := 10) hx hb ht inX6 hown hK hP 0 rfl rfl 4 (by decide) (ht _ kw_450) (fun _ h9 => h9) rfl dX6_spoil_15 ?_
      refine lv_iload_n hx hb dX6_spoil_18 rfl (lv_at hl 1 rfl) ?_
      refine lv_iload_n hx hb dX6_spoil_19 rfl (lv_at hl 2 rfl) ?_
      have hPc : va_P (dC, dI) vwCl ([wO cI cJ aO jO uO] : List va_W).flatten _ := hP.subF [1] rfl
      have hDc : va_D A ([wO cI cJ aO jO uO] : List va_W).flatten := hD.subF [1] (by decide) rfl
      have hFc := va_freeF (fc := ([wO cI cJ aO jO uO] : List va_W)) hD hS hA [1] rfl
      obtain ⟨u3o, r4o, e5, hm⟩ := oC2_of hm
      refine va_calli (va_runV (As := [.int p1, .int p2]) (rest := []) ⟨hx, hb, hml, hown, ht⟩ (c_X1_change l dC dI cI cJ aO jO H.size uO p1 p2 (u3o, r4o) e5) (cwV 2 ht (gdV kw_477 kw_475 kw_476 kw_173 kw_474) rfl rfl rfl ⟨rfl, nd_X1_change⟩ ⟨Nat.le_of_ble_eq_true rfl, Nat.le_of_ble_eq_true rfl⟩) ⟨pcW_blind, va_recv hK hPc (ci := 2) (q0 := 0) rfl rfl, pcW_pre hPc hK hDc hN⟩ rfl rfl hl.1 rfl (lv_room (Nat.le_of_ble_eq_true rfl)) dX6_spoil_20 ⟨Nat.zero_le _, Nat.zero_le _⟩) hS (fun q _ z => hFc q z) hFc (fun r4 uu t H1 locs ht1 hvm hw hB hz1 hk1 hS => ?_)
      obtain ⟨u3, rfl⟩ : ∃ z, z = uu := ⟨_, rfl⟩
      obtain ⟨hP1, hD1⟩ := hB
      rw [ht1] at hP1
      obtain ⟨q0, q1⟩ := inj2 hw
      subst q0
      subst q1
      obtain ⟨hP, hD⟩ := va_joinF (fr := ([wX cI cJ aX jX aL aS aW aR aO uX] : List va_W)) (f1 := ([wO cI cJ aO jO u3] : List va_W)) hP hD [1] [0] rfl rfl (by decide) (by decide) hk1 hFc hP1 hD1
      have hP : va_P (dC, dI) vwCl ([wX cI cJ aX jX aL aS aW aR aO uX, wO cI cJ aO jO u3] : List va_W).flatten H1 := hP
      have hD : va_D A ([wX cI cJ aX jX aL aS aW aR aO uX, wO cI cJ aO jO u3] : List va_W).flatten := hD
      generalize H1 = H at hP hS ⊢
      rw [← hQ]
      exact W.iret (v := r4) hx hb hr (fun t ht1 hW => ⟨⟨_, u3, rfl, hm, by rw [ht1]; exact hP, hD⟩, hS.F ht1⟩) hS.2.2 dX6_spoil_23
    · have hm := ite_f c2 hm
      refine lv_iconst (v := (-1 : Int32)) hx hb dX6_spoil_12 (by decide) ?_
      rw [← hQ]
      exact W.iret (v := (-1 : Int32)) hx hb hr (fun t ht1 hW => ⟨⟨_, uO, rfl, hm, by rw [ht1]; exact hP, hD⟩, hS.F ht1⟩) hS.2.2 dX6_spoil_13

def f_X6_cut (uX : OS) (uO : OS) (p1 : Int32) : Option (OS × Int32) :=
  if p1 < (0 : Int32) then (
  some (uO, (-1 : Int32))) else (
  if p1 ≤ (uO.1 1) then (
  bnd (sF uO 1 ((uO.1 1) - p1)) fun u3 =>
  some (u3, (u3.1 1))) else (
  some (uO, (-1 : Int32))))

set_option maxHeartbeats 4000000 in
set_option maxRecDepth 100000 in
theorem c_X6_cut (l : Launch) (dC : Nat → ClassId) (dI : Nat → Nat → Nat) (cI cJ : ClassId) (aX : Nat) (jX : Nat → Nat) (aO : Nat) (jO : Nat → Nat) (aL : Nat) (aS : Nat) (aW : Nat) (aR : Nat) (sz : Nat) (uX : OS) (uO : OS) (p1 : Int32) (o : OS × Int32) (hm : f_X6_cut uX uO p1 = some o) : Met l yX6_cut (wq yX6_cut cX6_cut 2 (some .int)) ({ frames := 0, cells := 0, slots := 0, locals := 0 } : Room) (va_Pc [.ref aX, .int p1] (pcW dC dI cI cJ sz ([wX cI cJ aX jX aL aS aW aR aO uX, wO cI cJ aO jO uO] : List va_W).flatten)) (va_Qi (S := OS) (fun r u => some (u, r) = some o) (fun (u : OS) t => va_P (dC, dI) vwCl ([wX cI cJ aX jX aL aS aW aR aO uX, wO cI cJ aO jO u] : List va_W).flatten t.heap ∧ va_D (va_A ([wX cI cJ aX jX aL aS aW aR aO uX, wO cI cJ aO jO uO] : List va_W).flatten sz) ([wX cI cJ aX jX aL aS aW aR aO uX, wO cI cJ aO jO u] : List va_W).flatten) (va_A ([wX cI cJ aX jX aL aS aW aR aO uX, wO cI cJ aO jO uO] : List va_W).flatten sz)) 0 0 (va_A ([wX cI cJ aX jX aL aS aW aR aO uX, wO cI cJ aO jO uO] : List va_W).flatten sz) := by
  refine Met.ofW (cc := cX6_cut) (maxL := 2) (ret := (some .int)) (by decide) rfl ?_
  intro p e s m args below meth c s₁ B hml hv
  obtain ⟨rfl, hsz, hP, hK, hD0, hN⟩ := hv
  have hx := B.exec
  have hb := B.bytes
  have hr := B.returns
  have ht : ∀ w ∈ lw_good, w.before _ s = true := fun w h => atoms_spec (ws := wq yX6_cut cX6_cut 2 (some .int)) B.pre w (wq_mem h)
  have hown : s.vm.findClass RX6 = some m.cls := findClass_of_methodNamed B.named
  have hlocks := B.notSynchronized
  subst hsz
  have hD := hD0.self (sz := s.heap.size)
  generalize hAe : va_A ([wX cI cJ aX jX aL aS aW aR aO uX, wO cI cJ aO jO uO] : List va_W).flatten s.heap.size = A at hD ⊢
  have hA : ∀ q : Nat, s.heap.size ≤ q → A q := fun q h => by rw [← hAe]; exact Or.inr h
  have hS : va_S A s.heap s.heap [] := va_S.rf
  have hl := lv_entry ([.ref aX, .int p1]) (n := 2) (Nat.le_of_ble_eq_true rfl)
  rw [lg_entry_eq]
  generalize (lg_sl ([.ref aX, .int p1]) ++ List.replicate (2 - (lg_sl ([.ref aX, .int p1])).length) Slot.unset).toArray = ls at hl ⊢
  have hl : lv_has ls 2 [(0, .ref aX), (1, .int p1)] := hl
  generalize hQ : MQ below _ _ s _ _ _ = Q
  generalize hH : s.heap = H at hP ⊢
  have hS : va_S A s.heap H [] := by rw [← hH]; exact va_S.rf
  show W p l e ({ frames := 0, cells := 0, slots := 0, locals := 0 } : Room) s m ([.ref aX, .int p1] : List Value).toArray below meth c H [] 0 0 Q (F0 m 0 ls [])
  unfold f_X6_cut at hm
  refine lv_iload_n hx hb dX6_cut_0 rfl (lv_at hl 1 rfl) ?_
  refine lv_if_lt (tgt := 15) hx hb dX6_cut_1 (by decide) (fun c1 => ?_) (fun c1 => ?_)
  · have hm := ite_t c1 hm
    refine lv_iconst (v := (-1 : Int32)) hx hb dX6_cut_15 (by decide) ?_
    rw [← hQ]
    exact W.iret (v := (-1 : Int32)) hx hb hr (fun t ht1 hW => ⟨⟨_, uO, rfl, hm, by rw [ht1]; exact hP, hD⟩, hS.F ht1⟩) hS.2.2 dX6_cut_16
  · have hm := ite_f c1 hm
    refine lv_iload_n hx hb dX6_cut_4 rfl (lv_at hl 1 rfl) ?_
    refine lv_aload_n hx hb dX6_cut_5 rfl (lv_at hl 0 rfl) ?_
    refine va_get (D := (dC, dI)) (ci := 7) (v := .ref aO) (C := RX6) (T := TX6) (N := 10) hx hb ht inX6 hown hK hP 0 rfl rfl 4 (by decide) (ht _ kw_450) (fun _ h9 => h9) rfl dX6_cut_6 ?_
    refine va_getN (D := (dC, dI)) (ci := 2) (v := .int (uO.1 1)) (C := RX1) (T := TX1) (N := 3) hx hb ht inX1 hown hK hP 3 rfl rfl 1 (by decide) (va_Nw.use rfl (hN _ kn_20)) (fun _ h9 => h9) rfl dX6_cut_9 ?_
    refine lv_icmp_le (tgt := 17) hx hb dX6_cut_12 (by decide) (fun c2 => ?_) (fun c2 => ?_)
    · have hm := ite_t c2 hm
      refine lv_aload_n hx hb dX6_cut_17 rfl (lv_at hl 0 rfl) ?_
      refine va_get (D := (dC, dI)) (ci := 7) (v := .ref aO) (C := RX6) (T := TX6) (N := 10) hx hb ht inX6 hown hK hP 0 rfl rfl 4 (by decide) (ht _ kw_450) (fun _ h9 => h9) rfl dX6_cut_18 ?_
      refine lv_dup hx hb dX6_cut_21 rfl ?_
      refine va_getN (D := (dC, dI)) (ci := 2) (v := .int (uO.1 1)) (C := RX1) (T := TX1) (N := 3) hx hb ht inX1 hown hK hP 3 rfl rfl 1 (by decide) (va_Nw.use rfl (hN _ kn_20)) (fun _ h9 => h9) rfl dX6_cut_22 ?_
      refine lv_iload_n hx hb dX6_cut_25 rfl (lv_at hl 1 rfl) ?_
      refine lv_isub hx hb dX6_cut_26 ?_
      refine va_putN (D := (dC, dI)) (ci := 2) (v := .int ((uO.1 1) - p1)) (ty := .int) (C := RX1) (T := TX1) (N := 3) hx hb ht inX1 tyX1 tyX1_ok nmX1 hown hK hP hD hS 3 rfl rfl 1 (by decide) (va_Nw.use rfl (hN _ kn_20)) (fun _ h9 => h9) rfl (by decide +kernel) rfl rfl (Nat.le_of_ble_eq_true rfl) dX6_cut_27 (fun H locs hP hD hS => ?_)
      obtain ⟨u3, eu3, hm⟩ := bnd_ex hm
      have hP : va_P (dC, dI) vwCl ([wX cI cJ aX jX aL aS aW aR aO uX, wO cI cJ aO jO u3] : List va_W).flatten H := by rw [eu3]; exact hP
      have hD : va_D A ([wX cI cJ aX jX aL aS aW aR aO uX, wO cI cJ aO jO u3] : List va_W).flatten := by rw [eu3]; exact hD
      refine lv_aload_n hx hb dX6_cut_30 rfl (lv_at hl 0 rfl) ?_
      refine va_get (D := (dC, dI)) (ci := 7) (v := .ref aO) (C := RX6) (T := TX6) (N := 10) hx hb ht inX6 hown hK hP 0 rfl rfl 4 (by decide) (ht _ kw_450) (fun _ h9 => h9) rfl dX6_cut_31 ?_
      refine va_getN (D := (dC, dI)) (ci := 2) (v := .int (u3.1 1)) (C := RX1) (T := TX1) (N := 3) hx hb ht inX1 hown hK hP 3 rfl rfl 1 (by decide) (va_Nw.use rfl (hN _ kn_20)) (fun _ h9 => h9) rfl dX6_cut_34 ?_
      rw [← hQ]
      exact W.iret (v := (u3.1 1)) hx hb hr (fun t ht1 hW => ⟨⟨_, u3, rfl, hm, by rw [ht1]; exact hP, hD⟩, hS.F ht1⟩) hS.2.2 dX6_cut_37
    · have hm := ite_f c2 hm
      refine lv_iconst (v := (-1 : Int32)) hx hb dX6_cut_15 (by decide) ?_
      rw [← hQ]
      exact W.iret (v := (-1 : Int32)) hx hb hr (fun t ht1 hW => ⟨⟨_, uO, rfl, hm, by rw [ht1]; exact hP, hD⟩, hS.F ht1⟩) hS.2.2 dX6_cut_16

def f_X6_octet (uX : OS) (uO : OS) (p1 : Int32) : Option ((OS × Int32) × Nat × Nat) :=
  oA2 (f_X1_append uO p1) fun u1 r3 kc5 ks5 =>
  addc kc5 ks5 <|
  if r3 = (0 : Int32) then (
  some ((u1, (-3 : Int32)), 0, 0)) else (
  some ((u1, (u1.1 1)), 0, 0))

set_option maxHeartbeats 4000000 in
set_option maxRecDepth 100000 in
theorem c_X6_octet (l : Launch) (dC : Nat → ClassId) (dI : Nat → Nat → Nat) (cI cJ : ClassId) (aX : Nat) (jX : Nat → Nat) (aO : Nat) (jO : Nat → Nat) (aL : Nat) (aS : Nat) (aW : Nat) (aR : Nat) (sz : Nat) (uX : OS) (uO : OS) (p1 : Int32) (o : OS × Int32) (mc ms : Nat) (hm : f_X6_octet uX uO p1 = some (o, mc, ms)) : Met l yX6_octet (wq yX6_octet cX6_octet 2 (some .int)) ({ frames := 4, cells := mc, slots := ms, locals := 123 } : Room) (va_Pc [.ref aX, .int p1] (pcW dC dI cI cJ sz ([wX cI cJ aX jX aL aS aW aR aO uX, wO cI cJ aO jO uO] : List va_W).flatten)) (va_Qi (S := OS) (fun r u => some (u, r) = some o) (fun (u : OS) t => ∃ hhO : Nat → Nat, va_P (dC, dI) vwCl ([wX cI cJ aX jX aL aS aW aR aO uX, wO cI cJ aO hhO u] : List va_W).flatten t.heap ∧ va_D (va_A ([wX cI cJ aX jX aL aS aW aR aO uX, wO cI cJ aO jO uO] : List va_W).flatten sz) ([wX cI cJ aX jX aL aS aW aR aO uX, wO cI cJ aO hhO u] : List va_W).flatten) (va_A ([wX cI cJ aX jX aL aS aW aR aO uX, wO cI cJ aO jO uO] : List va_W).flatten sz)) mc ms (va_A ([wX cI cJ aX jX aL aS aW aR aO uX, wO cI cJ aO jO uO] : List va_W).flatten sz) := by
  refine Met.ofW (cc := cX6_octet) (maxL := 2) (ret := (some .int)) (by decide) rfl ?_
  intro p e s m args below meth c s₁ B hml hv
  obtain ⟨rfl, hsz, hP, hK, hD0, hN⟩ := hv
  have hx := B.exec
  have hb := B.bytes
  have hr := B.returns
  have ht : ∀ w ∈ lw_good, w.before _ s = true := fun w h => atoms_spec (ws := wq yX6_octet cX6_octet 2 (some .int)) B.pre w (wq_mem h)
  have hown : s.vm.findClass RX6 = some m.cls := findClass_of_methodNamed B.named
  have hlocks := B.notSynchronized
  subst hsz
  have hD := hD0.self (sz := s.heap.size)
  generalize hAe : va_A ([wX cI cJ aX jX aL aS aW aR aO uX, wO cI cJ aO jO uO] : List va_W).flatten s.heap.size = A at hD ⊢
  have hA : ∀ q : Nat, s.heap.size ≤ q → A q := fun q h => by rw [← hAe]; exact Or.inr h
  have hS : va_S A s.heap s.heap [] := va_S.rf
  have hl := lv_entry ([.ref aX, .int p1]) (n := 2) (Nat.le_of_ble_eq_true rfl)
  rw [lg_entry_eq]
  generalize (lg_sl ([.ref aX, .int p1]) ++ List.replicate (2 - (lg_sl ([.ref aX, .int p1])).length) Slot.unset).toArray = ls at hl ⊢
  have hl : lv_has ls 2 [(0, .ref aX), (1, .int p1)] := hl
  generalize hQ : MQ below _ _ s _ _ _ = Q
  generalize hH : s.heap = H at hP ⊢
  have hS : va_S A s.heap H [] := by rw [← hH]; exact va_S.rf
  obtain ⟨ce, hce⟩ := ex_eq (0 : Nat)
  obtain ⟨sl, hsl⟩ := ex_eq (0 : Nat)
  obtain ⟨kc, hkc⟩ := ex_eq mc
  obtain ⟨ks, hks⟩ := ex_eq ms
  rw [← hkc, ← hks] at hm
  have hc1 : ce + kc = mc := by omega
  have hc2 : sl + ks = ms := by omega
  suffices hw : W p l e ({ frames := 4, cells := mc, slots := ms, locals := 123 } : Room) s m ([.ref aX, .int p1] : List Value).toArray below meth c H [] ce sl Q (F0 m 0 ls []) by rw [hce, hsl] at hw; exact hw
  clear hce hsl hkc hks
  unfold f_X6_octet at hm
  refine lv_aload_n hx hb dX6_octet_0 rfl (lv_at hl 0 rfl) ?_
  refine va_get (D := (dC, dI)) (ci := 7) (v := .ref aO) (C := RX6) (T := TX6) (N := 10) hx hb ht inX6 hown hK hP 0 rfl rfl 4 (by decide) (ht _ kw_450) (fun _ h9 => h9) rfl dX6_octet_1 ?_
  refine lv_iload_n hx hb dX6_octet_4 rfl (lv_at hl 1 rfl) ?_
  have hPc : va_P (dC, dI) vwCl ([wO cI cJ aO jO uO] : List va_W).flatten _ := hP.subF [1] rfl
  have hDc : va_D A ([wO cI cJ aO jO uO] : List va_W).flatten := hD.subF [1] (by decide) rfl
  have hFc := va_freeF (fc := ([wO cI cJ aO jO uO] : List va_W)) hD hS hA [1] rfl
  obtain ⟨u1o, r3o, kc5, ks5, e4, hm⟩ := oA2_of hm
  obtain ⟨kcq6, ksq6, hm, hkcq6, hksq6⟩ := addc_of hm
  refine va_calli (va_runV (As := [.int p1]) (rest := []) ⟨hx, hb, hml, hown, ht⟩ (c_X1_append l dC dI cI cJ aO jO H.size uO p1 (u1o, r3o) kc5 ks5 e4) (cwV 1 ht (gdV kw_478 kw_174 kw_175 kw_173 kw_172) rfl rfl rfl ⟨rfl, nd_X1_append⟩ ⟨Nat.le_of_ble_eq_true rfl, Nat.le_of_ble_eq_true rfl⟩) ⟨pcW_blind, va_recv hK hPc (ci := 2) (q0 := 0) rfl rfl, pcW_pre hPc hK hDc hN⟩ rfl rfl hl.1 rfl (lv_room (Nat.le_of_ble_eq_true rfl)) dX6_octet_5 ⟨cle hc1 hkcq6, cle hc2 hksq6⟩) hS (fun q _ z => hFc q z) hFc (fun r3 uu t H1 locs ht1 hvm hw hB hz1 hk1 hS => ?_)
  obtain ⟨u1, rfl⟩ : ∃ z, z = uu := ⟨_, rfl⟩
  obtain ⟨h2, hP1, hD1⟩ := hB
  rw [ht1] at hP1
  obtain ⟨q0, q1⟩ := inj2 hw
  subst q0
  subst q1
  obtain ⟨hP, hD⟩ := va_joinF (fr := ([wX cI cJ aX jX aL aS aW aR aO uX] : List va_W)) (f1 := ([wO cI cJ aO h2 u1] : List va_W)) hP hD [1] [0] rfl rfl (by decide) (by decide) hk1 hFc hP1 hD1
  have hP : va_P (dC, dI) vwCl ([wX cI cJ aX jX aL aS aW aR aO uX, wO cI cJ aO h2 u1] : List va_W).flatten H1 := hP
  have hD : va_D A ([wX cI cJ aX jX aL aS aW aR aO uX, wO cI cJ aO h2 u1] : List va_W).flatten := hD
  generalize H1 = H at hP hS ⊢
  have hc1 := cadd hc1 hkcq6
  have hc2 := cadd hc2 hksq6
  refine lv_if_eq (tgt := 21) hx hb dX6_octet_8 (by decide) (fun c7 => ?_) (fun c7 => ?_)
  · have hm := ite_t c7 hm
    refine lv_bipush (v := (-3 : Int32)) hx hb dX6_octet_21 (by decide) ?_
    obtain ⟨hmz, hz1, hz2⟩ := ret0 hm
    subst hz1
    subst hz2
    refine W.cs (cells' := mc) (slots' := ms) hc1 hc2 ?_
    rw [← hQ]
    exact W.iret (v := (-3 : Int32)) hx hb hr (fun t ht1 hW => ⟨⟨_, u1, rfl, hmz, h2, by rw [ht1]; exact hP, hD⟩, hS.F ht1⟩) hS.2.2 dX6_octet_23
  · have hm := ite_f c7 hm
    refine lv_aload_n hx hb dX6_octet_11 rfl (lv_at hl 0 rfl) ?_
    refine va_get (D := (dC, dI)) (ci := 7) (v := .ref aO) (C := RX6) (T := TX6) (N := 10) hx hb ht inX6 hown hK hP 0 rfl rfl 4 (by decide) (ht _ kw_450) (fun _ h9 => h9) rfl dX6_octet_12 ?_
    refine va_getN (D := (dC, dI)) (ci := 2) (v := .int (u1.1 1)) (C := RX1) (T := TX1) (N := 3) hx hb ht inX1 hown hK hP 3 rfl rfl 1 (by decide) (va_Nw.use rfl (hN _ kn_20)) (fun _ h9 => h9) rfl dX6_octet_15 ?_
    refine lv_goto (tgt := 23) hx hb dX6_octet_18 (by decide) ?_
    obtain ⟨hmz, hz1, hz2⟩ := ret0 hm
    subst hz1
    subst hz2
    refine W.cs (cells' := mc) (slots' := ms) hc1 hc2 ?_
    rw [← hQ]
    exact W.iret (v := (u1.1 1)) hx hb hr (fun t ht1 hW => ⟨⟨_, u1, rfl, hmz, h2, by rw [ht1]; exact hP, hD⟩, hS.F ht1⟩) hS.2.2 dX6_octet_23

def f_X6_readIsRow_L2 (uX : OS) (uR : OS) : Nat → Int32 → Option (Int32)
  | 0, _ => none
  | n2 + 1, x1 =>
    if (uX.1 7) ≤ x1 then (
    some (1 : Int32)) else (
    if (nI (uX.2.2.2 6)) ≤ x1 then (
    some (1 : Int32)) else (
    oC1 (f_X3_signAt uR x1) fun r4 =>
    gdi x1 (uX.2.2.2 6) <|
    if r4 = (uX.2.1 6 (x1).toNatClampNeg) then (
    bnd (x1 + (1 : Int32)) fun x8 =>
    f_X6_readIsRow_L2 uX uR n2 x8) else (
    some (0 : Int32))))

def f_X6_readIsRow (uX : OS) (uR : OS) : Option (Int32) :=
  f_X6_readIsRow_L2 uX uR FU (0 : Int32)

set_option maxHeartbeats 4000000 in
set_option maxRecDepth 100000 in
theorem c_X6_readIsRow (l : Launch) (dC : Nat → ClassId) (dI : Nat → Nat → Nat) (cI cJ : ClassId) (aX : Nat) (jX : Nat → Nat) (aR : Nat) (jR : Nat → Nat) (aL : Nat) (aS : Nat) (aW : Nat) (aO : Nat) (aZ : Nat) (sz : Nat) (uX : OS) (uR : OS) (o : Int32) (hm : f_X6_readIsRow uX uR = some o) : Met l yX6_readIsRow (wq yX6_readIsRow cX6_readIsRow 2 (some .boolean)) ({ frames := 1, cells := 0, slots := 0, locals := 21 } : Room) (va_Pc [.ref aX] (pcW dC dI cI cJ sz ([wX cI cJ aX jX aL aS aW aR aO uX, wR cI cJ aR jR aZ uR] : List va_W).flatten)) (va_Qi (S := Unit) (fun r u => some r = some o) (fun (u : Unit) t => va_P (dC, dI) vwCl ([wX cI cJ aX jX aL aS aW aR aO uX, wR cI cJ aR jR aZ uR] : List va_W).flatten t.heap ∧ va_D (va_A ([wX cI cJ aX jX aL aS aW aR aO uX, wR cI cJ aR jR aZ uR] : List va_W).flatten sz) ([wX cI cJ aX jX aL aS aW aR aO uX, wR cI cJ aR jR aZ uR] : List va_W).flatten) (va_A ([wX cI cJ aX jX aL aS aW aR aO uX, wR cI cJ aR jR aZ uR] : List va_W).flatten sz)) 0 0 (va_A ([wX cI cJ aX jX aL aS aW aR aO uX, wR cI cJ aR jR aZ uR] : List va_W).flatten sz) := by
  refine Met.ofW (cc := cX6_readIsRow) (maxL := 2) (ret := (some .boolean)) (by decide) rfl ?_
  intro p e s m args below meth c s₁ B hml hv
  obtain ⟨rfl, hsz, hP, hK, hD0, hN⟩ := hv
  have hx := B.exec
  have hb := B.bytes
  have hr := B.returns
  have ht : ∀ w ∈ lw_good, w.before _ s = true := fun w h => atoms_spec (ws := wq yX6_readIsRow cX6_readIsRow 2 (some .boolean)) B.pre w (wq_mem h)
  have hown : s.vm.findClass RX6 = some m.cls := findClass_of_methodNamed B.named
  have hlocks := B.notSynchronized
  subst hsz
  have hD := hD0.self (sz := s.heap.size)
  generalize hAe : va_A ([wX cI cJ aX jX aL aS aW aR aO uX, wR cI cJ aR jR aZ uR] : List va_W).flatten s.heap.size = A at hD ⊢
  have hA : ∀ q : Nat, s.heap.size ≤ q → A q := fun q h => by rw [← hAe]; exact Or.inr h
  have hS : va_S A s.heap s.heap [] := va_S.rf
  have hl := lv_entry ([.ref aX]) (n := 2) (Nat.le_of_ble_eq_true rfl)
  rw [lg_entry_eq]
  generalize (lg_sl ([.ref aX]) ++ List.replicate (2 - (lg_sl ([.ref aX])).length) Slot.unset).toArray = ls at hl ⊢
  have hl : lv_has ls 2 [(0, .ref aX)] := hl
  generalize hQ : MQ below _ _ s _ _ _ = Q
  generalize hH : s.heap = H at hP ⊢
  have hS : va_S A s.heap H [] := by rw [← hH]; exact va_S.rf
  show W p l e ({ frames := 1, cells := 0, slots := 0, locals := 21 } : Room) s m ([.ref aX] : List Value).toArray below meth c H [] 0 0 Q (F0 m 0 ls [])
  unfold f_X6_readIsRow at hm
  refine lv_iconst (v := (0 : Int32)) hx hb dX6_readIsRow_0 (by decide) ?_
  refine lv_istore_n (lv' := [(1, .int (0 : Int32)), (0, .ref aX)]) hx hb dX6_readIsRow_1 rfl hl (by decide) rfl (fun ls hl => ?_)
  have LP2 : ∀ (n2 : Nat) (x1 : Int32) (H : Heap) (locs : List Loc) (ls : Array Slot), f_X6_readIsRow_L2 uX uR n2 x1 = some o → va_P (dC, dI) vwCl ([wX cI cJ aX jX aL aS aW aR aO uX, wR cI cJ aR jR aZ uR] : List va_W).flatten H → va_D A ([wX cI cJ aX jX aL aS aW aR aO uX, wR cI cJ aR jR aZ uR] : List va_W).flatten → va_S A s.heap H locs → lv_has ls 2 [(0, .ref aX), (1, .int x1)] → W p l e ({ frames := 1, cells := 0, slots := 0, locals := 21 } : Room) s m ([.ref aX] : List Value).toArray below meth c H locs 0 0 Q (F0 m 2 ls []) := by
    intro n2
    induction n2 with
    | zero => intro x1 H locs ls hm; exact nomatch (show (none : Option _) = some _ from hm)
    | succ n2 ih2 =>
      intro x1 H locs ls hm hP hD hS hl
      unfold f_X6_readIsRow_L2 at hm
      refine lv_iload_n hx hb dX6_readIsRow_2 rfl (lv_at hl 1 rfl) ?_
      refine lv_aload_n hx hb dX6_readIsRow_3 rfl (lv_at hl 0 rfl) ?_
      refine va_get (D := (dC, dI)) (ci := 7) (v := .int (uX.1 7)) (C := RX6) (T := TX6) (N := 10) hx hb ht inX6 hown hK hP 0 rfl rfl 7 (by decide) (ht _ kw_427) (fun _ h9 => h9) rfl dX6_readIsRow_4 ?_
      refine lv_icmp_ge (tgt := 44) hx hb dX6_readIsRow_7 (by decide) (fun c2 => ?_) (fun c2 => ?_)
      · have hm := ite_t c2 hm
        refine lv_iconst (v := (1 : Int32)) hx hb dX6_readIsRow_44 (by decide) ?_
        rw [← hQ]
        exact W.zret (v := (1 : Int32)) hx hb hr rfl (fun t ht1 hW => ⟨⟨_, (), rfl, hm, by rw [ht1]; exact hP, hD⟩, hS.F ht1⟩) hS.2.2 dX6_readIsRow_45
      · have hm := ite_f c2 hm
        refine lv_iload_n hx hb dX6_readIsRow_10 rfl (lv_at hl 1 rfl) ?_
        refine lv_aload_n hx hb dX6_readIsRow_11 rfl (lv_at hl 0 rfl) ?_
        refine va_get (D := (dC, dI)) (ci := 7) (v := .ref (jX 6)) (C := RX6) (T := TX6) (N := 10) hx hb ht inX6 hown hK hP 0 rfl rfl 6 (by decide) (ht _ kw_426) (fun _ h9 => h9) rfl dX6_readIsRow_12 ?_
        refine va_alen (v := (nI (uX.2.2.2 6))) hx hb hK hP 2 0 rfl rfl rfl dX6_readIsRow_15 ?_
        refine lv_icmp_ge (tgt := 44) hx hb dX6_readIsRow_16 (by decide) (fun c3 => ?_) (fun c3 => ?_)
        · have hm := ite_t c3 hm
          refine lv_iconst (v := (1 : Int32)) hx hb dX6_readIsRow_44 (by decide) ?_
          rw [← hQ]
          exact W.zret (v := (1 : Int32)) hx hb hr rfl (fun t ht1 hW => ⟨⟨_, (), rfl, hm, by rw [ht1]; exact hP, hD⟩, hS.F ht1⟩) hS.2.2 dX6_readIsRow_45
        · have hm := ite_f c3 hm
          refine lv_aload_n hx hb dX6_readIsRow_19 rfl (lv_at hl 0 rfl) ?_
          refine va_get (D := (dC, dI)) (ci := 7) (v := .ref aR) (C := RX6) (T := TX6) (N := 10) hx hb ht inX6 hown hK hP 0 rfl rfl 3 (by decide) (ht _ kw_459) (fun _ h9 => h9) rfl dX6_readIsRow_20 ?_
          refine lv_iload_n hx hb dX6_readIsRow_23 rfl (lv_at hl 1 rfl) ?_
          have hPc : va_P (dC, dI) vwCl ([wR cI cJ aR jR aZ uR] : List va_W).flatten _ := hP.subF [1] rfl
          have hDc : va_D A ([wR cI cJ aR jR aZ uR] : List va_W).flatten := hD.subF [1] (by decide) rfl
          have hFc := va_freeF (fc := ([wR cI cJ aR jR aZ uR] : List va_W)) hD hS hA [1] rfl
          obtain ⟨r4o, e5, hm⟩ := oC1_of hm
          refine va_calli (va_runV (As := [.int x1]) (rest := []) ⟨hx, hb, hml, hown, ht⟩ (c_X3_signAt l dC dI cI cJ aR jR aZ H.size uR x1 r4o e5) (cwV 1 ht (gdV kw_467 kw_465 kw_466 kw_205 kw_464) rfl rfl rfl ⟨rfl, nd_X3_signAt⟩ ⟨Nat.le_of_ble_eq_true rfl, Nat.le_of_ble_eq_true rfl⟩) ⟨pcW_blind, va_recv hK hPc (ci := 4) (q0 := 0) rfl rfl, pcW_pre hPc hK hDc hN⟩ rfl rfl hl.1 rfl (lv_room (Nat.le_of_ble_eq_true rfl)) dX6_readIsRow_24 ⟨Nat.zero_le _, Nat.zero_le _⟩) hS (fun q _ z => hFc q z) hFc (fun r4 uu t H1 locs ht1 hvm hw hB hz1 hk1 hS => ?_)
          obtain ⟨⟩ := uu
          obtain ⟨hP1, hD1⟩ := hB
          rw [ht1] at hP1
          obtain rfl : r4 = r4o := Option.some.inj hw
          obtain ⟨hP, hD⟩ := va_joinF (fr := ([wX cI cJ aX jX aL aS aW aR aO uX] : List va_W)) (f1 := ([wR cI cJ aR jR aZ uR] : List va_W)) hP hD [1] [0] rfl rfl (by decide) (by decide) hk1 hFc hP1 hD1
          have hP : va_P (dC, dI) vwCl ([wX cI cJ aX jX aL aS aW aR aO uX, wR cI cJ aR jR aZ uR] : List va_W).flatten H1 := hP
          have hD : va_D A ([wX cI cJ aX jX aL aS aW aR aO uX, wR cI cJ aR jR aZ uR] : List va_W).flatten := hD
          generalize H1 = H at hP hS ⊢
          refine lv_aload_n hx hb dX6_readIsRow_27 rfl (lv_at hl 0 rfl) ?_
          refine va_get (D := (dC, dI)) (ci := 7) (v := .ref (jX 6)) (C := RX6) (T := TX6) (N := 10) hx hb ht inX6 hown hK hP 0 rfl rfl 6 (by decide) (ht _ kw_426) (fun _ h9 => h9) rfl dX6_readIsRow_28 ?_
          refine lv_iload_n hx hb dX6_readIsRow_31 rfl (lv_at hl 1 rfl) ?_
          obtain ⟨g6, hm⟩ := gdi_of hm
          refine va_iald hx hb hK hP 2 0 rfl rfl g6 dX6_readIsRow_32 ?_
          refine lv_icmp_eq (tgt := 38) hx hb dX6_readIsRow_33 (by decide) (fun c7 => ?_) (fun c7 => ?_)
          · have hm := ite_t c7 hm
            obtain ⟨x8, ex8, hm⟩ := bnd_ex hm
            refine lv_iinc (v := x8) (lv' := [(1, .int x8), (0, .ref aX)]) hx hb dX6_readIsRow_38 hl (k := 1) rfl (by rw [ex8]; exact congrArg _ (by decide)) (by decide) rfl (fun ls hl => ?_)
            refine lv_goto (tgt := 2) hx hb dX6_readIsRow_41 (by decide) ?_
            exact ih2 x8 _ _ _ hm hP hD hS (lv_sub hl [1, 0] rfl)
          · have hm := ite_f c7 hm
            refine lv_iconst (v := (0 : Int32)) hx hb dX6_readIsRow_36 (by decide) ?_
            rw [← hQ]
            exact W.zret (v := (0 : Int32)) hx hb hr rfl (fun t ht1 hW => ⟨⟨_, (), rfl, hm, by rw [ht1]; exact hP, hD⟩, hS.F ht1⟩) hS.2.2 dX6_readIsRow_37
  exact LP2 FU (0 : Int32) _ _ _ hm hP hD hS (lv_sub hl [1, 0] rfl)

def f_X6_agree_L14 (uX : OS) : Nat → (Int32 → Int32 → OS → OS → OS → OS → OS → OS → Option ((OS × OS × OS × OS × OS × OS × Int32) × Nat × Nat)) → Int32 → Int32 → OS → OS → OS → OS → OS → OS → Option ((OS × OS × OS × OS × OS × OS × Int32) × Nat × Nat)
  | 0, _, _, _, _, _, _, _, _, _ => none
  | n14 + 1, K82_30, x9, x10, u11, u12, u13, u14, u15, u16 =>
    if (3 : Int32) < x9 then (
    K82_30 x10 x9 u11 u12 u13 u14 u15 u16) else (
    oA4 (f_X5_writeRow u11 u12 u13 u16 (mkA (uX.2.2.2 6) (uX.2.1 6)) (uX.1 7) x9 (uX.1 9)) fun u32 u33 u34 u35 kc40 ks40 =>
    addc kc40 ks40 <|
    oA3 (f_X3_takeIn u14 u15 u35) fun u42 u43 r46 kc48 ks48 =>
    addc kc48 ks48 <|
    if r46 = (uX.1 7) then (
    oC1 (f_X6_readIsRow uX u42) fun r52 =>
    if r52 = (0 : Int32) then (
    bnd (x9 + (1 : Int32)) fun x56 =>
    f_X6_agree_L14 uX n14 K82_30 x56 (0 : Int32) u32 u33 u34 u42 u43 u35) else (
    bnd (x9 + (1 : Int32)) fun x55 =>
    f_X6_agree_L14 uX n14 K82_30 x55 x10 u32 u33 u34 u42 u43 u35)) else (
    bnd (x9 + (1 : Int32)) fun x51 =>
    f_X6_agree_L14 uX n14 K82_30 x51 (0 : Int32) u32 u33 u34 u42 u43 u35))

def f_X6_agree (uX : OS) (uS : OS) (uW : OS) (uP : OS) (uR : OS) (uZ : OS) (uO : OS) : Option ((OS × OS × OS × OS × OS × OS × Int32) × Nat × Nat) :=
  oC1 (f_X6_isWritable uX uS) fun r1 =>
  if r1 = (0 : Int32) then (
  some ((uS, uW, uP, uR, uZ, uO, (-2 : Int32)), 0, 0)) else (
  bnd (fun (x22 : Int32) (x23 : Int32) (u24 : OS) (u25 : OS) (u26 : OS) (u27 : OS) (u28 : OS) (u29 : OS) =>
  some ((u24, u25, u26, u27, u28, u29, x22), 0, 0)) fun K82_30 =>
  f_X6_agree_L14 uX FU K82_30 (0 : Int32) (1 : Int32) uS uW uP uR uZ uO)

set_option maxHeartbeats 4000000 in
set_option maxRecDepth 100000 in
theorem c_X6_agree (l : Launch) (dC : Nat → ClassId) (dI : Nat → Nat → Nat) (cI cJ : ClassId) (aX : Nat) (jX : Nat → Nat) (aS : Nat) (jS : Nat → Nat) (aW : Nat) (jW : Nat → Nat) (aP : Nat) (jP : Nat → Nat) (aR : Nat) (jR : Nat → Nat) (aZ : Nat) (jZ : Nat → Nat) (aO : Nat) (jO : Nat → Nat) (aL : Nat) (sz : Nat) (uX : OS) (uS : OS) (uW : OS) (uP : OS) (uR : OS) (uZ : OS) (uO : OS) (o : OS × OS × OS × OS × OS × OS × Int32) (mc ms : Nat) (hm : f_X6_agree uX uS uW uP uR uZ uO = some (o, mc, ms)) : Met l yX6_agree (wq yX6_agree cX6_agree 4 (some .int)) ({ frames := 7, cells := mc, slots := ms, locals := 198 } : Room) (va_Pc [.ref aX] (pcW dC dI cI cJ sz ([wX cI cJ aX jX aL aS aW aR aO uX, wS cI cJ aS jS uS, wW cI cJ aW jW aP uW, wP cI cJ aP jP uP, wR cI cJ aR jR aZ uR, wS cI cJ aZ jZ uZ, wO cI cJ aO jO uO] : List va_W).flatten)) (va_Qi (S := OS × OS × OS × OS × OS × OS) (fun r u => some (u.1, u.2.1, u.2.2.1, u.2.2.2.1, u.2.2.2.2.1, u.2.2.2.2.2, r) = some o) (fun (u : OS × OS × OS × OS × OS × OS) t => ∃ hhS : Nat → Nat, ∃ hhP : Nat → Nat, ∃ hhR : Nat → Nat, ∃ hhZ : Nat → Nat, ∃ hhO : Nat → Nat, va_P (dC, dI) vwCl ([wX cI cJ aX jX aL aS aW aR aO uX, wS cI cJ aS hhS u.1, wW cI cJ aW jW aP u.2.1, wP cI cJ aP hhP u.2.2.1, wR cI cJ aR hhR aZ u.2.2.2.1, wS cI cJ aZ hhZ u.2.2.2.2.1, wO cI cJ aO hhO u.2.2.2.2.2] : List va_W).flatten t.heap ∧ va_D (va_A ([wX cI cJ aX jX aL aS aW aR aO uX, wS cI cJ aS jS uS, wW cI cJ aW jW aP uW, wP cI cJ aP jP uP, wR cI cJ aR jR aZ uR, wS cI cJ aZ jZ uZ, wO cI cJ aO jO uO] : List va_W).flatten sz) ([wX cI cJ aX jX aL aS aW aR aO uX, wS cI cJ aS hhS u.1, wW cI cJ aW jW aP u.2.1, wP cI cJ aP hhP u.2.2.1, wR cI cJ aR hhR aZ u.2.2.2.1, wS cI cJ aZ hhZ u.2.2.2.2.1, wO cI cJ aO hhO u.2.2.2.2.2] : List va_W).flatten) (va_A ([wX cI cJ aX jX aL aS aW aR aO uX, wS cI cJ aS jS uS, wW cI cJ aW jW aP uW, wP cI cJ aP jP uP, wR cI cJ aR jR aZ uR, wS cI cJ aZ jZ uZ, wO cI cJ aO jO uO] : List va_W).flatten sz)) mc ms (va_A ([wX cI cJ aX jX aL aS aW aR aO uX, wS cI cJ aS jS uS, wW cI cJ aW jW aP uW, wP cI cJ aP jP uP, wR cI cJ aR jR aZ uR, wS cI cJ aZ jZ uZ, wO cI cJ aO jO uO] : List va_W).flatten sz) := by
  refine Met.ofW (cc := cX6_agree) (maxL := 4) (ret := (some .int)) (by decide) rfl ?_
  intro p e s m args below meth c s₁ B hml hv
  obtain ⟨rfl, hsz, hP, hK, hD0, hN⟩ := hv
  have hx := B.exec
  have hb := B.bytes
  have hr := B.returns
  have ht : ∀ w ∈ lw_good, w.before _ s = true := fun w h => atoms_spec (ws := wq yX6_agree cX6_agree 4 (some .int)) B.pre w (wq_mem h)
  have hown : s.vm.findClass RX6 = some m.cls := findClass_of_methodNamed B.named
  have hlocks := B.notSynchronized
  subst hsz
  have hD := hD0.self (sz := s.heap.size)
  generalize hAe : va_A ([wX cI cJ aX jX aL aS aW aR aO uX, wS cI cJ aS jS uS, wW cI cJ aW jW aP uW, wP cI cJ aP jP uP, wR cI cJ aR jR aZ uR, wS cI cJ aZ jZ uZ, wO cI cJ aO jO uO] : List va_W).flatten s.heap.size = A at hD ⊢
  have hA : ∀ q : Nat, s.heap.size ≤ q → A q := fun q h => by rw [← hAe]; exact Or.inr h
  have hS : va_S A s.heap s.heap [] := va_S.rf
  have hl := lv_entry ([.ref aX]) (n := 4) (Nat.le_of_ble_eq_true rfl)
  rw [lg_entry_eq]
  generalize (lg_sl ([.ref aX]) ++ List.replicate (4 - (lg_sl ([.ref aX])).length) Slot.unset).toArray = ls at hl ⊢
  have hl : lv_has ls 4 [(0, .ref aX)] := hl
  generalize hQ : MQ below _ _ s _ _ _ = Q
  generalize hH : s.heap = H at hP ⊢
  have hS : va_S A s.heap H [] := by rw [← hH]; exact va_S.rf
  obtain ⟨ce, hce⟩ := ex_eq (0 : Nat)
  obtain ⟨sl, hsl⟩ := ex_eq (0 : Nat)
  obtain ⟨kc, hkc⟩ := ex_eq mc
  obtain ⟨ks, hks⟩ := ex_eq ms
  rw [← hkc, ← hks] at hm
  have hc1 : ce + kc = mc := by omega
  have hc2 : sl + ks = ms := by omega
  suffices hw : W p l e ({ frames := 7, cells := mc, slots := ms, locals := 198 } : Room) s m ([.ref aX] : List Value).toArray below meth c H [] ce sl Q (F0 m 0 ls []) by rw [hce, hsl] at hw; exact hw
  clear hce hsl hkc hks
  unfold f_X6_agree at hm
  refine lv_aload_n hx hb dX6_agree_0 rfl (lv_at hl 0 rfl) ?_
  have hPc : va_P (dC, dI) vwCl ([wX cI cJ aX jX aL aS aW aR aO uX, wS cI cJ aS jS uS] : List va_W).flatten _ := hP.subF [0, 1] rfl
  have hDc : va_D A ([wX cI cJ aX jX aL aS aW aR aO uX, wS cI cJ aS jS uS] : List va_W).flatten := hD.subF [0, 1] (by decide) rfl
  have hFc := va_freeF (fc := ([wX cI cJ aX jX aL aS aW aR aO uX, wS cI cJ aS jS uS] : List va_W)) hD hS hA [0, 1] rfl
  obtain ⟨r1o, e2, hm⟩ := oC1_of hm
  refine va_calli (va_runV (As := []) (rest := []) ⟨hx, hb, hml, hown, ht⟩ (c_X6_isWritable l dC dI cI cJ aX jX aS jS aL aW aR aO H.size uX uS r1o e2) (cwV 0 ht (gdV kw_454 kw_452 kw_453 kw_161 kw_451) rfl rfl rfl ⟨rfl, nd_X6_isWritable⟩ ⟨Nat.le_of_ble_eq_true rfl, Nat.le_of_ble_eq_true rfl⟩) ⟨pcW_blind, va_recv hK hPc (ci := 7) (q0 := 0) rfl rfl, pcW_pre hPc hK hDc hN⟩ rfl rfl hl.1 rfl (lv_room (Nat.le_of_ble_eq_true rfl)) dX6_agree_1 ⟨cle0 hc1, cle0 hc2⟩) hS (fun q _ z => hFc q z) hFc (fun r1 uu t H1 locs ht1 hvm hw hB hz1 hk1 hS => ?_)
  obtain ⟨⟩ := uu
  obtain ⟨hP1, hD1⟩ := hB
  rw [ht1] at hP1
  obtain rfl : r1 = r1o := Option.some.inj hw
  obtain ⟨hP, hD⟩ := va_joinF (fr := ([wW cI cJ aW jW aP uW, wP cI cJ aP jP uP, wR cI cJ aR jR aZ uR, wS cI cJ aZ jZ uZ, wO cI cJ aO jO uO] : List va_W)) (f1 := ([wX cI cJ aX jX aL aS aW aR aO uX, wS cI cJ aS jS uS] : List va_W)) hP hD [0, 1] [2, 3, 4, 5, 6] rfl rfl (by decide) (by decide) hk1 hFc hP1 hD1
  have hP : va_P (dC, dI) vwCl ([wX cI cJ aX jX aL aS aW aR aO uX, wS cI cJ aS jS uS, wW cI cJ aW jW aP uW, wP cI cJ aP jP uP, wR cI cJ aR jR aZ uR, wS cI cJ aZ jZ uZ, wO cI cJ aO jO uO] : List va_W).flatten H1 := hP.subF [5, 6, 0, 1, 2, 3, 4] rfl
  have hD : va_D A ([wX cI cJ aX jX aL aS aW aR aO uX, wS cI cJ aS jS uS, wW cI cJ aW jW aP uW, wP cI cJ aP jP uP, wR cI cJ aR jR aZ uR, wS cI cJ aZ jZ uZ, wO cI cJ aO jO uO] : List va_W).flatten := hD.subF [5, 6, 0, 1, 2, 3, 4] (by decide) rfl
  generalize H1 = H at hP hS ⊢
  refine W.cs (Nat.add_zero _) (Nat.add_zero _) ?_
  refine lv_if_ne (tgt := 10) hx hb dX6_agree_4 (by decide) (fun c3 => ?_) (fun c3 => ?_)
  · have hm := ite_f c3 hm
    refine lv_iconst (v := (1 : Int32)) hx hb dX6_agree_10 (by decide) ?_
    refine lv_istore_n (lv' := [(1, .int (1 : Int32)), (0, .ref aX)]) hx hb dX6_agree_11 rfl hl (by decide) rfl (fun ls hl => ?_)
    refine lv_iconst (v := (0 : Int32)) hx hb dX6_agree_12 (by decide) ?_
    refine lv_istore_n (lv' := [(2, .int (0 : Int32)), (1, .int (1 : Int32)), (0, .ref aX)]) hx hb dX6_agree_13 rfl hl (by decide) rfl (fun ls hl => ?_)
    obtain ⟨K82_30, eK82_30, hm⟩ := bnd_ex hm
    have X82_30 : ∀ (x22 : Int32) (x23 : Int32) (u24 : OS) (u25 : OS) (u26 : OS) (u27 : OS) (u28 : OS) (u29 : OS) (hg17 : Nat → Nat) (hg18 : Nat → Nat) (hg19 : Nat → Nat) (hg20 : Nat → Nat) (hg21 : Nat → Nat) (ce sl kc ks : Nat) (H : Heap) (locs : List Loc) (ls : Array Slot), K82_30 x22 x23 u24 u25 u26 u27 u28 u29 = some (o, kc, ks) → ce + kc = mc → sl + ks = ms → va_P (dC, dI) vwCl ([wX cI cJ aX jX aL aS aW aR aO uX, wS cI cJ aS hg17 u24, wW cI cJ aW jW aP u25, wP cI cJ aP hg18 u26, wR cI cJ aR hg19 aZ u27, wS cI cJ aZ hg20 u28, wO cI cJ aO hg21 u29] : List va_W).flatten H → va_D A ([wX cI cJ aX jX aL aS aW aR aO uX, wS cI cJ aS hg17 u24, wW cI cJ aW jW aP u25, wP cI cJ aP hg18 u26, wR cI cJ aR hg19 aZ u27, wS cI cJ aZ hg20 u28, wO cI cJ aO hg21 u29] : List va_W).flatten → va_S A s.heap H locs → lv_has ls 4 [(0, .ref aX), (1, .int x22), (2, .int x23)] → W p l e ({ frames := 7, cells := mc, slots := ms, locals := 198 } : Room) s m ([.ref aX] : List Value).toArray below meth c H locs ce sl Q (F0 m 82 ls []) := by
      intro x22 x23 u24 u25 u26 u27 u28 u29 hg17 hg18 hg19 hg20 hg21 ce sl kc ks H locs ls hm hc1 hc2 hP hD hS hl
      have hm := ap8 eK82_30 hm
      refine lv_iload_n hx hb dX6_agree_82 rfl (lv_at hl 1 rfl) ?_
      obtain ⟨hmz, hz1, hz2⟩ := ret0 hm
      subst hz1
      subst hz2
      refine W.cs (cells' := mc) (slots' := ms) hc1 hc2 ?_
      rw [← hQ]
      exact W.iret (v := x22) hx hb hr (fun t ht1 hW => ⟨⟨_, (u24, u25, u26, u27, u28, u29), rfl, hmz, hg17, hg18, hg19, hg20, hg21, by rw [ht1]; exact hP, hD⟩, hS.F ht1⟩) hS.2.2 dX6_agree_83
    have LP14 : ∀ (n14 : Nat) (x9 : Int32) (x10 : Int32) (u11 : OS) (u12 : OS) (u13 : OS) (u14 : OS) (u15 : OS) (u16 : OS) (hg4 : Nat → Nat) (hg5 : Nat → Nat) (hg6 : Nat → Nat) (hg7 : Nat → Nat) (hg8 : Nat → Nat) (ce sl kc ks : Nat) (H : Heap) (locs : List Loc) (ls : Array Slot), f_X6_agree_L14 uX n14 K82_30 x9 x10 u11 u12 u13 u14 u15 u16 = some (o, kc, ks) → ce + kc = mc → sl + ks = ms → va_P (dC, dI) vwCl ([wX cI cJ aX jX aL aS aW aR aO uX, wS cI cJ aS hg4 u11, wW cI cJ aW jW aP u12, wP cI cJ aP hg5 u13, wR cI cJ aR hg6 aZ u14, wS cI cJ aZ hg7 u15, wO cI cJ aO hg8 u16] : List va_W).flatten H → va_D A ([wX cI cJ aX jX aL aS aW aR aO uX, wS cI cJ aS hg4 u11, wW cI cJ aW jW aP u12, wP cI cJ aP hg5 u13, wR cI cJ aR hg6 aZ u14, wS cI cJ aZ hg7 u15, wO cI cJ aO hg8 u16] : List va_W).flatten → va_S A s.heap H locs → lv_has ls 4 [(0, .ref aX), (1, .int x10), (2, .int x9)] → W p l e ({ frames := 7, cells := mc, slots := ms, locals := 198 } : Room) s m ([.ref aX] : List Value).toArray below meth c H locs ce sl Q (F0 m 14 ls []) := by
      intro n14
      induction n14 with
      | zero => intro x9 x10 u11 u12 u13 u14 u15 u16 hg4 hg5 hg6 hg7 hg8 ce sl kc ks H locs ls hm; exact nomatch (show (none : Option _) = some _ from hm)
      | succ n14 ih14 =>
        intro x9 x10 u11 u12 u13 u14 u15 u16 hg4 hg5 hg6 hg7 hg8 ce sl kc ks H locs ls hm hc1 hc2 hP hD hS hl
        unfold f_X6_agree_L14 at hm
        refine lv_iload_n hx hb dX6_agree_14 rfl (lv_at hl 2 rfl) ?_
        refine lv_iconst (v := (3 : Int32)) hx hb dX6_agree_15 (by decide) ?_
        refine lv_icmp_gt (tgt := 82) hx hb dX6_agree_16 (by decide) (fun c31 => ?_) (fun c31 => ?_)
        · have hm := ite_t c31 hm
          exact X82_30 x10 x9 u11 u12 u13 u14 u15 u16 hg4 hg5 hg6 hg7 hg8 _ _ _ _ _ _ _ hm hc1 hc2 hP hD hS (lv_sub hl [0, 1, 2] rfl)
        · have hm := ite_f c31 hm
          refine lv_aload_n hx hb dX6_agree_19 rfl (lv_at hl 0 rfl) ?_
          refine va_get (D := (dC, dI)) (ci := 7) (v := .ref aW) (C := RX6) (T := TX6) (N := 10) hx hb ht inX6 hown hK hP 0 rfl rfl 2 (by decide) (ht _ kw_449) (fun _ h9 => h9) rfl dX6_agree_20 ?_
          refine lv_aload_n hx hb dX6_agree_23 rfl (lv_at hl 0 rfl) ?_
          refine va_get (D := (dC, dI)) (ci := 7) (v := .ref (jX 6)) (C := RX6) (T := TX6) (N := 10) hx hb ht inX6 hown hK hP 0 rfl rfl 6 (by decide) (ht _ kw_426) (fun _ h9 => h9) rfl dX6_agree_24 ?_
          refine lv_aload_n hx hb dX6_agree_27 rfl (lv_at hl 0 rfl) ?_
          refine va_get (D := (dC, dI)) (ci := 7) (v := .int (uX.1 7)) (C := RX6) (T := TX6) (N := 10) hx hb ht inX6 hown hK hP 0 rfl rfl 7 (by decide) (ht _ kw_427) (fun _ h9 => h9) rfl dX6_agree_28 ?_
          refine lv_aload_n hx hb dX6_agree_31 rfl (lv_at hl 0 rfl) ?_
          refine va_get (D := (dC, dI)) (ci := 7) (v := .ref aS) (C := RX6) (T := TX6) (N := 10) hx hb ht inX6 hown hK hP 0 rfl rfl 1 (by decide) (ht _ kw_432) (fun _ h9 => h9) rfl dX6_agree_32 ?_
          refine lv_iload_n hx hb dX6_agree_35 rfl (lv_at hl 2 rfl) ?_
          refine lv_aload_n hx hb dX6_agree_36 rfl (lv_at hl 0 rfl) ?_
          refine va_get (D := (dC, dI)) (ci := 7) (v := .int (uX.1 9)) (C := RX6) (T := TX6) (N := 10) hx hb ht inX6 hown hK hP 0 rfl rfl 9 (by decide) (ht _ kw_448) (fun _ h9 => h9) rfl dX6_agree_37 ?_
          refine lv_aload_n hx hb dX6_agree_40 rfl (lv_at hl 0 rfl) ?_
          refine va_get (D := (dC, dI)) (ci := 7) (v := .ref aO) (C := RX6) (T := TX6) (N := 10) hx hb ht inX6 hown hK hP 0 rfl rfl 4 (by decide) (ht _ kw_450) (fun _ h9 => h9) rfl dX6_agree_41 ?_
          have hPc : va_P (dC, dI) vwCl ([wS cI cJ aS hg4 u11, wW cI cJ aW jW aP u12, wP cI cJ aP hg5 u13, wO cI cJ aO hg8 u16, wA cI cJ (fun _ => (jX 6)) (mkA (uX.2.2.2 6) (uX.2.1 6))] : List va_W).flatten _ := hP.sub [3, 4, 5, 6, 7, 8, 9, 10, 11, 12, 13, 14, 26, 27, 2] rfl
          have hDc : va_D A ([wS cI cJ aS hg4 u11, wW cI cJ aW jW aP u12, wP cI cJ aP hg5 u13, wO cI cJ aO hg8 u16, wA cI cJ (fun _ => (jX 6)) (mkA (uX.2.2.2 6) (uX.2.1 6))] : List va_W).flatten := hD.sub [3, 4, 5, 6, 7, 8, 9, 10, 11, 12, 13, 14, 26, 27, 2] (by decide) rfl
          have hFc := va_free (wc := ([wS cI cJ aS hg4 u11, wW cI cJ aW jW aP u12, wP cI cJ aP hg5 u13, wO cI cJ aO hg8 u16, wA cI cJ (fun _ => (jX 6)) (mkA (uX.2.2.2 6) (uX.2.1 6))] : List va_W).flatten) hD hS hA [3, 4, 5, 6, 7, 8, 9, 10, 11, 12, 13, 14, 26, 27, 2] rfl
          obtain ⟨u32o, u33o, u34o, u35o, kc40, ks40, e39, hm⟩ := oA4_of hm
          obtain ⟨kcq41, ksq41, hm, hkcq41, hksq41⟩ := addc_of hm
          refine va_callv (va_runV (As := [.ref (jX 6), .int (uX.1 7), .ref aS, .int x9, .int (uX.1 9), .ref aO]) (rest := []) ⟨hx, hb, hml, hown, ht⟩ (c_X5_writeRow l dC dI cI cJ aS hg4 aW jW aP hg5 aO hg8 (fun _ => (jX 6)) H.size u11 u12 u13 u16 (mkA (uX.2.2.2 6) (uX.2.1 6)) (uX.1 7) x9 (uX.1 9) (u32o, u33o, u34o, u35o) kc40 ks40 e39) (cwV 6 ht (gdV kw_458 kw_456 kw_457 kw_371 kw_455) rfl rfl rfl ⟨rfl, nd_X5_writeRow⟩ ⟨Nat.le_of_ble_eq_true rfl, Nat.le_of_ble_eq_true rfl⟩) ⟨pcW_blind, va_recv hK hP (ci := 6) (q0 := 11) rfl rfl, pcW_pre hPc hK hDc hN⟩ rfl rfl hl.1 rfl (lv_room (Nat.le_of_ble_eq_true rfl)) dX6_agree_44 ⟨cle hc1 hkcq41, cle hc2 hksq41⟩) hS (fun q _ z => hFc q z) hFc (fun uu t H1 locs ht1 hvm hw hB hz1 hk1 hS => ?_)
          obtain ⟨u32, u33, u34, u35⟩ := uu
          obtain ⟨h36, h37, h38, hP1, hD1⟩ := hB
          rw [ht1] at hP1
          obtain ⟨q0, q1, q2, q3⟩ := inj4 hw
          subst q0
          subst q1
          subst q2
          subst q3
          obtain ⟨hP, hD⟩ := va_join (wr := [(wX cI cJ aX jX aL aS aW aR aO uX)[0], (wX cI cJ aX jX aL aS aW aR aO uX)[1], (wR cI cJ aR hg6 aZ u14)[0], (wR cI cJ aR hg6 aZ u14)[1], (wR cI cJ aR hg6 aZ u14)[2], (wS cI cJ aZ hg7 u15)[0], (wS cI cJ aZ hg7 u15)[1], (wS cI cJ aZ hg7 u15)[2], (wS cI cJ aZ hg7 u15)[3], (wS cI cJ aZ hg7 u15)[4], (wS cI cJ aZ hg7 u15)[5], (wS cI cJ aZ hg7 u15)[6], (wS cI cJ aZ hg7 u15)[7]]) (w1 := ([wS cI cJ aS h36 u32, wW cI cJ aW jW aP u33, wP cI cJ aP h37 u34, wO cI cJ aO h38 u35, wA cI cJ (fun _ => (jX 6)) (mkA (uX.2.2.2 6) (uX.2.1 6))] : List va_W).flatten) hP hD [3, 4, 5, 6, 7, 8, 9, 10, 11, 12, 13, 14, 26, 27, 2] [0, 1, 15, 16, 17, 18, 19, 20, 21, 22, 23, 24, 25] rfl rfl (by decide) (by decide) hk1 hFc hP1 hD1
          have hP : va_P (dC, dI) vwCl ([wX cI cJ aX jX aL aS aW aR aO uX, wS cI cJ aS h36 u32, wW cI cJ aW jW aP u33, wP cI cJ aP h37 u34, wR cI cJ aR hg6 aZ u14, wS cI cJ aZ hg7 u15, wO cI cJ aO h38 u35] : List va_W).flatten H1 := hP.sub [0, 1, 27, 13, 14, 15, 16, 17, 18, 19, 20, 21, 22, 23, 24, 2, 3, 4, 5, 6, 7, 8, 9, 10, 11, 12, 25, 26] rfl
          have hD : va_D A ([wX cI cJ aX jX aL aS aW aR aO uX, wS cI cJ aS h36 u32, wW cI cJ aW jW aP u33, wP cI cJ aP h37 u34, wR cI cJ aR hg6 aZ u14, wS cI cJ aZ hg7 u15, wO cI cJ aO h38 u35] : List va_W).flatten := hD.sub [0, 1, 27, 13, 14, 15, 16, 17, 18, 19, 20, 21, 22, 23, 24, 2, 3, 4, 5, 6, 7, 8, 9, 10, 11, 12, 25, 26] (by decide) rfl
          generalize H1 = H at hP hS ⊢
          have hc1 := cadd hc1 hkcq41
          have hc2 := cadd hc2 hksq41
          refine lv_aload_n hx hb dX6_agree_47 rfl (lv_at hl 0 rfl) ?_
          refine va_get (D := (dC, dI)) (ci := 7) (v := .ref aR) (C := RX6) (T := TX6) (N := 10) hx hb ht inX6 hown hK hP 0 rfl rfl 3 (by decide) (ht _ kw_459) (fun _ h9 => h9) rfl dX6_agree_48 ?_
          refine lv_aload_n hx hb dX6_agree_51 rfl (lv_at hl 0 rfl) ?_
          refine va_get (D := (dC, dI)) (ci := 7) (v := .ref aO) (C := RX6) (T := TX6) (N := 10) hx hb ht inX6 hown hK hP 0 rfl rfl 4 (by decide) (ht _ kw_450) (fun _ h9 => h9) rfl dX6_agree_52 ?_
          have hPc : va_P (dC, dI) vwCl ([wR cI cJ aR hg6 aZ u14, wS cI cJ aZ hg7 u15, wO cI cJ aO h38 u35] : List va_W).flatten _ := hP.subF [4, 5, 6] rfl
          have hDc : va_D A ([wR cI cJ aR hg6 aZ u14, wS cI cJ aZ hg7 u15, wO cI cJ aO h38 u35] : List va_W).flatten := hD.subF [4, 5, 6] (by decide) rfl
          have hFc := va_freeF (fc := ([wR cI cJ aR hg6 aZ u14, wS cI cJ aZ hg7 u15, wO cI cJ aO h38 u35] : List va_W)) hD hS hA [4, 5, 6] rfl
          obtain ⟨u42o, u43o, r46o, kc48, ks48, e47, hm⟩ := oA3_of hm
          obtain ⟨kcq49, ksq49, hm, hkcq49, hksq49⟩ := addc_of hm
          refine va_calli (va_runV (As := [.ref aO]) (rest := []) ⟨hx, hb, hml, hown, ht⟩ (c_X3_takeIn l dC dI cI cJ aR hg6 aZ hg7 aO h38 H.size u14 u15 u35 (u42o, u43o, r46o) kc48 ks48 e47) (cwV 1 ht (gdV kw_463 kw_461 kw_462 kw_205 kw_460) rfl rfl rfl ⟨rfl, nd_X3_takeIn⟩ ⟨Nat.le_of_ble_eq_true rfl, Nat.le_of_ble_eq_true rfl⟩) ⟨pcW_blind, va_recv hK hPc (ci := 4) (q0 := 0) rfl rfl, pcW_pre hPc hK hDc hN⟩ rfl rfl hl.1 rfl (lv_room (Nat.le_of_ble_eq_true rfl)) dX6_agree_55 ⟨cle hc1 hkcq49, cle hc2 hksq49⟩) hS (fun q _ z => hFc q z) hFc (fun r46 uu t H1 locs ht1 hvm hw hB hz1 hk1 hS => ?_)
          obtain ⟨u42, u43⟩ := uu
          obtain ⟨h44, h45, hP1, hD1⟩ := hB
          rw [ht1] at hP1
          obtain ⟨q0, q1, q2⟩ := inj3 hw
          subst q0
          subst q1
          subst q2
          obtain ⟨hP, hD⟩ := va_joinF (fr := ([wX cI cJ aX jX aL aS aW aR aO uX, wS cI cJ aS h36 u32, wW cI cJ aW jW aP u33, wP cI cJ aP h37 u34] : List va_W)) (f1 := ([wR cI cJ aR h44 aZ u42, wS cI cJ aZ h45 u43, wO cI cJ aO h38 u35] : List va_W)) hP hD [4, 5, 6] [0, 1, 2, 3] rfl rfl (by decide) (by decide) hk1 hFc hP1 hD1
          have hP : va_P (dC, dI) vwCl ([wX cI cJ aX jX aL aS aW aR aO uX, wS cI cJ aS h36 u32, wW cI cJ aW jW aP u33, wP cI cJ aP h37 u34, wR cI cJ aR h44 aZ u42, wS cI cJ aZ h45 u43, wO cI cJ aO h38 u35] : List va_W).flatten H1 := hP
          have hD : va_D A ([wX cI cJ aX jX aL aS aW aR aO uX, wS cI cJ aS h36 u32, wW cI cJ aW jW aP u33, wP cI cJ aP h37 u34, wR cI cJ aR h44 aZ u42, wS cI cJ aZ h45 u43, wO cI cJ aO h38 u35] : List va_W).flatten := hD
          generalize H1 = H at hP hS ⊢
          have hc1 := cadd hc1 hkcq49
          have hc2 := cadd hc2 hksq49
          refine lv_istore_n (lv' := [(3, .int r46), (0, .ref aX), (1, .int x10), (2, .int x9)]) hx hb dX6_agree_58 rfl hl (by decide) rfl (fun ls hl => ?_)
          refine lv_iload_n hx hb dX6_agree_59 rfl (lv_at hl 0 rfl) ?_
          refine lv_aload_n hx hb dX6_agree_60 rfl (lv_at hl 1 rfl) ?_
          refine va_get (D := (dC, dI)) (ci := 7) (v := .int (uX.1 7)) (C := RX6) (T := TX6) (N := 10) hx hb ht inX6 hown hK hP 0 rfl rfl 7 (by decide) (ht _ kw_427) (fun _ h9 => h9) rfl dX6_agree_61 ?_
          refine lv_icmp_ne (tgt := 74) hx hb dX6_agree_64 (by decide) (fun c50 => ?_) (fun c50 => ?_)
          · have hm := ite_f c50 hm
            refine lv_iconst (v := (0 : Int32)) hx hb dX6_agree_74 (by decide) ?_
            refine lv_istore_n (lv' := [(1, .int (0 : Int32)), (3, .int r46), (0, .ref aX), (2, .int x9)]) hx hb dX6_agree_75 rfl hl (by decide) rfl (fun ls hl => ?_)
            obtain ⟨x51, ex51, hm⟩ := bnd_ex hm
            refine lv_iinc (v := x51) (lv' := [(2, .int x51), (1, .int (0 : Int32)), (3, .int r46), (0, .ref aX)]) hx hb dX6_agree_76 hl (k := 3) rfl (by rw [ex51]; exact congrArg _ (by decide)) (by decide) rfl (fun ls hl => ?_)
            refine lv_goto (tgt := 14) hx hb dX6_agree_79 (by decide) ?_
            exact ih14 x51 (0 : Int32) u32 u33 u34 u42 u43 u35 h36 h37 h44 h45 h38 _ _ _ _ _ _ _ hm hc1 hc2 hP hD hS (lv_sub hl [3, 1, 0] rfl)
          · have hm := ite_t c50 hm
            refine lv_aload_n hx hb dX6_agree_67 rfl (lv_at hl 1 rfl) ?_
            have hPc : va_P (dC, dI) vwCl ([wX cI cJ aX jX aL aS aW aR aO uX, wR cI cJ aR h44 aZ u42] : List va_W).flatten _ := hP.subF [0, 4] rfl
            have hDc : va_D A ([wX cI cJ aX jX aL aS aW aR aO uX, wR cI cJ aR h44 aZ u42] : List va_W).flatten := hD.subF [0, 4] (by decide) rfl
            have hFc := va_freeF (fc := ([wX cI cJ aX jX aL aS aW aR aO uX, wR cI cJ aR h44 aZ u42] : List va_W)) hD hS hA [0, 4] rfl
            obtain ⟨r52o, e53, hm⟩ := oC1_of hm
            refine va_calli (va_runV (As := []) (rest := []) ⟨hx, hb, hml, hown, ht⟩ (c_X6_readIsRow l dC dI cI cJ aX jX aR h44 aL aS aW aO aZ H.size uX u42 r52o e53) (cwV 0 ht (gdV kw_482 kw_480 kw_481 kw_161 kw_479) rfl rfl rfl ⟨rfl, nd_X6_readIsRow⟩ ⟨Nat.le_of_ble_eq_true rfl, Nat.le_of_ble_eq_true rfl⟩) ⟨pcW_blind, va_recv hK hPc (ci := 7) (q0 := 0) rfl rfl, pcW_pre hPc hK hDc hN⟩ rfl rfl hl.1 rfl (lv_room (Nat.le_of_ble_eq_true rfl)) dX6_agree_68 ⟨cle0 hc1, cle0 hc2⟩) hS (fun q _ z => hFc q z) hFc (fun r52 uu t H1 locs ht1 hvm hw hB hz1 hk1 hS => ?_)
            obtain ⟨⟩ := uu
            obtain ⟨hP1, hD1⟩ := hB
            rw [ht1] at hP1
            obtain rfl : r52 = r52o := Option.some.inj hw
            obtain ⟨hP, hD⟩ := va_joinF (fr := ([wS cI cJ aS h36 u32, wW cI cJ aW jW aP u33, wP cI cJ aP h37 u34, wS cI cJ aZ h45 u43, wO cI cJ aO h38 u35] : List va_W)) (f1 := ([wX cI cJ aX jX aL aS aW aR aO uX, wR cI cJ aR h44 aZ u42] : List va_W)) hP hD [0, 4] [1, 2, 3, 5, 6] rfl rfl (by decide) (by decide) hk1 hFc hP1 hD1
            have hP : va_P (dC, dI) vwCl ([wX cI cJ aX jX aL aS aW aR aO uX, wS cI cJ aS h36 u32, wW cI cJ aW jW aP u33, wP cI cJ aP h37 u34, wR cI cJ aR h44 aZ u42, wS cI cJ aZ h45 u43, wO cI cJ aO h38 u35] : List va_W).flatten H1 := hP.subF [5, 0, 1, 2, 6, 3, 4] rfl
            have hD : va_D A ([wX cI cJ aX jX aL aS aW aR aO uX, wS cI cJ aS h36 u32, wW cI cJ aW jW aP u33, wP cI cJ aP h37 u34, wR cI cJ aR h44 aZ u42, wS cI cJ aZ h45 u43, wO cI cJ aO h38 u35] : List va_W).flatten := hD.subF [5, 0, 1, 2, 6, 3, 4] (by decide) rfl
            generalize H1 = H at hP hS ⊢
            refine W.cs (Nat.add_zero _) (Nat.add_zero _) ?_
            refine lv_if_ne (tgt := 76) hx hb dX6_agree_71 (by decide) (fun c54 => ?_) (fun c54 => ?_)
            · have hm := ite_f c54 hm
              obtain ⟨x55, ex55, hm⟩ := bnd_ex hm
              refine lv_iinc (v := x55) (lv' := [(2, .int x55), (3, .int r46), (0, .ref aX), (1, .int x10)]) hx hb dX6_agree_76 hl (k := 3) rfl (by rw [ex55]; exact congrArg _ (by decide)) (by decide) rfl (fun ls hl => ?_)
              refine lv_goto (tgt := 14) hx hb dX6_agree_79 (by decide) ?_
              exact ih14 x55 x10 u32 u33 u34 u42 u43 u35 h36 h37 h44 h45 h38 _ _ _ _ _ _ _ hm hc1 hc2 hP hD hS (lv_sub hl [2, 3, 0] rfl)
            · have hm := ite_t c54 hm
              refine lv_iconst (v := (0 : Int32)) hx hb dX6_agree_74 (by decide) ?_
              refine lv_istore_n (lv' := [(1, .int (0 : Int32)), (3, .int r46), (0, .ref aX), (2, .int x9)]) hx hb dX6_agree_75 rfl hl (by decide) rfl (fun ls hl => ?_)
              obtain ⟨x56, ex56, hm⟩ := bnd_ex hm
              refine lv_iinc (v := x56) (lv' := [(2, .int x56), (1, .int (0 : Int32)), (3, .int r46), (0, .ref aX)]) hx hb dX6_agree_76 hl (k := 3) rfl (by rw [ex56]; exact congrArg _ (by decide)) (by decide) rfl (fun ls hl => ?_)
              refine lv_goto (tgt := 14) hx hb dX6_agree_79 (by decide) ?_
              exact ih14 x56 (0 : Int32) u32 u33 u34 u42 u43 u35 h36 h37 h44 h45 h38 _ _ _ _ _ _ _ hm hc1 hc2 hP hD hS (lv_sub hl [3, 1, 0] rfl)
    exact LP14 FU (0 : Int32) (1 : Int32) uS uW uP uR uZ uO jS jP jR jZ jO _ _ _ _ _ _ _ hm hc1 hc2 hP hD hS (lv_sub hl [2, 1, 0] rfl)
  · have hm := ite_t c3 hm
    refine lv_bipush (v := (-2 : Int32)) hx hb dX6_agree_7 (by decide) ?_
    obtain ⟨hmz, hz1, hz2⟩ := ret0 hm
    subst hz1
    subst hz2
    refine W.cs (cells' := mc) (slots' := ms) hc1 hc2 ?_
    rw [← hQ]
    exact W.iret (v := (-2 : Int32)) hx hb hr (fun t ht1 hW => ⟨⟨_, (uS, uW, uP, uR, uZ, uO), rfl, hmz, jS, jP, jR, jZ, jO, by rw [ht1]; exact hP, hD⟩, hS.F ht1⟩) hS.2.2 dX6_agree_9

def f_X6_told (uX : OS) (uS : OS) (uR : OS) (uO : OS) (p1 : Int32) : Option (Int32) :=
  if p1 = (0 : Int32) then (
  some ((uS.1 0))) else (
  if p1 = (1 : Int32) then (
  some ((uX.1 7))) else (
  if p1 = (2 : Int32) then (
  some ((uO.1 1))) else (
  if p1 = (3 : Int32) then (
  some ((uR.1 3))) else (
  if p1 = (4 : Int32) then (
  some ((uX.1 8))) else (
  if p1 = (5 : Int32) then (
  some ((uX.1 9))) else (
  if p1 = (6 : Int32) then (
  if (uS.1 2) = (0 : Int32) then (
  some (0 : Int32)) else (
  some (1 : Int32))) else (
  some (-1 : Int32))))))))

set_option maxHeartbeats 4000000 in
set_option maxRecDepth 100000 in
theorem c_X6_told (l : Launch) (dC : Nat → ClassId) (dI : Nat → Nat → Nat) (cI cJ : ClassId) (aX : Nat) (jX : Nat → Nat) (aS : Nat) (jS : Nat → Nat) (aR : Nat) (jR : Nat → Nat) (aO : Nat) (jO : Nat → Nat) (aL : Nat) (aW : Nat) (aZ : Nat) (sz : Nat) (uX : OS) (uS : OS) (uR : OS) (uO : OS) (p1 : Int32) (o : Int32) (hm : f_X6_told uX uS uR uO p1 = some o) : Met l yX6_told (wq yX6_told cX6_told 2 (some .int)) ({ frames := 0, cells := 0, slots := 0, locals := 0 } : Room) (va_Pc [.ref aX, .int p1] (pcW dC dI cI cJ sz ([wX cI cJ aX jX aL aS aW aR aO uX, wS cI cJ aS jS uS, wR cI cJ aR jR aZ uR, wO cI cJ aO jO uO] : List va_W).flatten)) (va_Qi (S := Unit) (fun r u => some r = some o) (fun (u : Unit) t => va_P (dC, dI) vwCl ([wX cI cJ aX jX aL aS aW aR aO uX, wS cI cJ aS jS uS, wR cI cJ aR jR aZ uR, wO cI cJ aO jO uO] : List va_W).flatten t.heap ∧ va_D (va_A ([wX cI cJ aX jX aL aS aW aR aO uX, wS cI cJ aS jS uS, wR cI cJ aR jR aZ uR, wO cI cJ aO jO uO] : List va_W).flatten sz) ([wX cI cJ aX jX aL aS aW aR aO uX, wS cI cJ aS jS uS, wR cI cJ aR jR aZ uR, wO cI cJ aO jO uO] : List va_W).flatten) (va_A ([wX cI cJ aX jX aL aS aW aR aO uX, wS cI cJ aS jS uS, wR cI cJ aR jR aZ uR, wO cI cJ aO jO uO] : List va_W).flatten sz)) 0 0 (va_A ([wX cI cJ aX jX aL aS aW aR aO uX, wS cI cJ aS jS uS, wR cI cJ aR jR aZ uR, wO cI cJ aO jO uO] : List va_W).flatten sz) := by
  refine Met.ofW (cc := cX6_told) (maxL := 2) (ret := (some .int)) (by decide) rfl ?_
  intro p e s m args below meth c s₁ B hml hv
  obtain ⟨rfl, hsz, hP, hK, hD0, hN⟩ := hv
  have hx := B.exec
  have hb := B.bytes
  have hr := B.returns
  have ht : ∀ w ∈ lw_good, w.before _ s = true := fun w h => atoms_spec (ws := wq yX6_told cX6_told 2 (some .int)) B.pre w (wq_mem h)
  have hown : s.vm.findClass RX6 = some m.cls := findClass_of_methodNamed B.named
  have hlocks := B.notSynchronized
  subst hsz
  have hD := hD0.self (sz := s.heap.size)
  generalize hAe : va_A ([wX cI cJ aX jX aL aS aW aR aO uX, wS cI cJ aS jS uS, wR cI cJ aR jR aZ uR, wO cI cJ aO jO uO] : List va_W).flatten s.heap.size = A at hD ⊢
  have hA : ∀ q : Nat, s.heap.size ≤ q → A q := fun q h => by rw [← hAe]; exact Or.inr h
  have hS : va_S A s.heap s.heap [] := va_S.rf
  have hl := lv_entry ([.ref aX, .int p1]) (n := 2) (Nat.le_of_ble_eq_true rfl)
  rw [lg_entry_eq]
  generalize (lg_sl ([.ref aX, .int p1]) ++ List.replicate (2 - (lg_sl ([.ref aX, .int p1])).length) Slot.unset).toArray = ls at hl ⊢
  have hl : lv_has ls 2 [(0, .ref aX), (1, .int p1)] := hl
  generalize hQ : MQ below _ _ s _ _ _ = Q
  generalize hH : s.heap = H at hP ⊢
  have hS : va_S A s.heap H [] := by rw [← hH]; exact va_S.rf
  show W p l e ({ frames := 0, cells := 0, slots := 0, locals := 0 } : Room) s m ([.ref aX, .int p1] : List Value).toArray below meth c H [] 0 0 Q (F0 m 0 ls [])
  unfold f_X6_told at hm
  refine lv_iload_n hx hb dX6_told_0 rfl (lv_at hl 1 rfl) ?_
  by_cases c2 : p1 = (0 : Int32)
  · have hm := ite_t c2 hm
    refine lv_tableIn (tgt := 44) hx hb dX6_told_1 (by rw [c2]; decide) (by rw [c2]; decide) (by rw [c2]; rfl) (by decide) ?_
    refine lv_aload_n hx hb dX6_told_44 rfl (lv_at hl 0 rfl) ?_
    refine va_get (D := (dC, dI)) (ci := 7) (v := .ref aS) (C := RX6) (T := TX6) (N := 10) hx hb ht inX6 hown hK hP 0 rfl rfl 1 (by decide) (ht _ kw_432) (fun _ h9 => h9) rfl dX6_told_45 ?_
    refine va_getN (D := (dC, dI)) (ci := 5) (v := .int (uS.1 0)) (C := RX4) (T := TX4) (N := 11) hx hb ht inX4 hown hK hP 3 rfl rfl 0 (by decide) (va_Nw.use rfl (hN _ kn_28)) (fun _ h9 => h9) rfl dX6_told_48 ?_
    rw [← hQ]
    exact W.iret (v := (uS.1 0)) hx hb hr (fun t ht1 hW => ⟨⟨_, (), rfl, hm, by rw [ht1]; exact hP, hD⟩, hS.F ht1⟩) hS.2.2 dX6_told_51
  · have hm := ite_f c2 hm
    by_cases c3 : p1 = (1 : Int32)
    · have hm := ite_t c3 hm
      refine lv_tableIn (tgt := 52) hx hb dX6_told_1 (by rw [c3]; decide) (by rw [c3]; decide) (by rw [c3]; rfl) (by decide) ?_
      refine lv_aload_n hx hb dX6_told_52 rfl (lv_at hl 0 rfl) ?_
      refine va_get (D := (dC, dI)) (ci := 7) (v := .int (uX.1 7)) (C := RX6) (T := TX6) (N := 10) hx hb ht inX6 hown hK hP 0 rfl rfl 7 (by decide) (ht _ kw_427) (fun _ h9 => h9) rfl dX6_told_53 ?_
      rw [← hQ]
      exact W.iret (v := (uX.1 7)) hx hb hr (fun t ht1 hW => ⟨⟨_, (), rfl, hm, by rw [ht1]; exact hP, hD⟩, hS.F ht1⟩) hS.2.2 dX6_told_56
    · have hm := ite_f c3 hm
      by_cases c4 : p1 = (2 : Int32)
      · have hm := ite_t c4 hm
        refine lv_tableIn (tgt := 57) hx hb dX6_told_1 (by rw [c4]; decide) (by rw [c4]; decide) (by rw [c4]; rfl) (by decide) ?_
        refine lv_aload_n hx hb dX6_told_57 rfl (lv_at hl 0 rfl) ?_
        refine va_get (D := (dC, dI)) (ci := 7) (v := .ref aO) (C := RX6) (T := TX6) (N := 10) hx hb ht inX6 hown hK hP 0 rfl rfl 4 (by decide) (ht _ kw_450) (fun _ h9 => h9) rfl dX6_told_58 ?_
        refine va_getN (D := (dC, dI)) (ci := 2) (v := .int (uO.1 1)) (C := RX1) (T := TX1) (N := 3) hx hb ht inX1 hown hK hP 14 rfl rfl 1 (by decide) (va_Nw.use rfl (hN _ kn_20)) (fun _ h9 => h9) rfl dX6_told_61 ?_
        rw [← hQ]
        exact W.iret (v := (uO.1 1)) hx hb hr (fun t ht1 hW => ⟨⟨_, (), rfl, hm, by rw [ht1]; exact hP, hD⟩, hS.F ht1⟩) hS.2.2 dX6_told_64
      · have hm := ite_f c4 hm
        by_cases c5 : p1 = (3 : Int32)
        · have hm := ite_t c5 hm
          refine lv_tableIn (tgt := 65) hx hb dX6_told_1 (by rw [c5]; decide) (by rw [c5]; decide) (by rw [c5]; rfl) (by decide) ?_
          refine lv_aload_n hx hb dX6_told_65 rfl (lv_at hl 0 rfl) ?_
          refine va_get (D := (dC, dI)) (ci := 7) (v := .ref aR) (C := RX6) (T := TX6) (N := 10) hx hb ht inX6 hown hK hP 0 rfl rfl 3 (by decide) (ht _ kw_459) (fun _ h9 => h9) rfl dX6_told_66 ?_
          refine va_getN (D := (dC, dI)) (ci := 4) (v := .int (uR.1 3)) (C := RX3) (T := TX3) (N := 12) hx hb ht inX3 hown hK hP 11 rfl rfl 3 (by decide) (va_Nw.use rfl (hN _ kn_29)) (fun _ h9 => h9) rfl dX6_told_69 ?_
          rw [← hQ]
          exact W.iret (v := (uR.1 3)) hx hb hr (fun t ht1 hW => ⟨⟨_, (), rfl, hm, by rw [ht1]; exact hP, hD⟩, hS.F ht1⟩) hS.2.2 dX6_told_72
        · have hm := ite_f c5 hm
          by_cases c6 : p1 = (4 : Int32)
          · have hm := ite_t c6 hm
            refine lv_tableIn (tgt := 73) hx hb dX6_told_1 (by rw [c6]; decide) (by rw [c6]; decide) (by rw [c6]; rfl) (by decide) ?_
            refine lv_aload_n hx hb dX6_told_73 rfl (lv_at hl 0 rfl) ?_
            refine va_get (D := (dC, dI)) (ci := 7) (v := .int (uX.1 8)) (C := RX6) (T := TX6) (N := 10) hx hb ht inX6 hown hK hP 0 rfl rfl 8 (by decide) (ht _ kw_447) (fun _ h9 => h9) rfl dX6_told_74 ?_
            rw [← hQ]
            exact W.iret (v := (uX.1 8)) hx hb hr (fun t ht1 hW => ⟨⟨_, (), rfl, hm, by rw [ht1]; exact hP, hD⟩, hS.F ht1⟩) hS.2.2 dX6_told_77
          · have hm := ite_f c6 hm
            by_cases c7 : p1 = (5 : Int32)
            · have hm := ite_t c7 hm
              refine lv_tableIn (tgt := 78) hx hb dX6_told_1 (by rw [c7]; decide) (by rw [c7]; decide) (by rw [c7]; rfl) (by decide) ?_
              refine lv_aload_n hx hb dX6_told_78 rfl (lv_at hl 0 rfl) ?_
              refine va_get (D := (dC, dI)) (ci := 7) (v := .int (uX.1 9)) (C := RX6) (T := TX6) (N := 10) hx hb ht inX6 hown hK hP 0 rfl rfl 9 (by decide) (ht _ kw_448) (fun _ h9 => h9) rfl dX6_told_79 ?_
              rw [← hQ]
              exact W.iret (v := (uX.1 9)) hx hb hr (fun t ht1 hW => ⟨⟨_, (), rfl, hm, by rw [ht1]; exact hP, hD⟩, hS.F ht1⟩) hS.2.2 dX6_told_82
            · have hm := ite_f c7 hm
              by_cases c8 : p1 = (6 : Int32)
              · have hm := ite_t c8 hm
                refine lv_tableIn (tgt := 83) hx hb dX6_told_1 (by rw [c8]; decide) (by rw [c8]; decide) (by rw [c8]; rfl) (by decide) ?_
                refine lv_aload_n hx hb dX6_told_83 rfl (lv_at hl 0 rfl) ?_
                refine va_get (D := (dC, dI)) (ci := 7) (v := .ref aS) (C := RX6) (T := TX6) (N := 10) hx hb ht inX6 hown hK hP 0 rfl rfl 1 (by decide) (ht _ kw_432) (fun _ h9 => h9) rfl dX6_told_84 ?_
                refine va_getN (D := (dC, dI)) (ci := 5) (v := .int (uS.1 2)) (C := RX4) (T := TX4) (N := 11) hx hb ht inX4 hown hK hP 3 rfl rfl 2 (by decide) (va_Nw.use rfl (hN _ kn_18)) (fun _ h9 => h9) rfl dX6_told_87 ?_
                refine lv_if_eq (tgt := 97) hx hb dX6_told_90 (by decide) (fun c1 => ?_) (fun c1 => ?_)
                · have hm := ite_t c1 hm
                  refine lv_iconst (v := (0 : Int32)) hx hb dX6_told_97 (by decide) ?_
                  rw [← hQ]
                  exact W.iret (v := (0 : Int32)) hx hb hr (fun t ht1 hW => ⟨⟨_, (), rfl, hm, by rw [ht1]; exact hP, hD⟩, hS.F ht1⟩) hS.2.2 dX6_told_98
                · have hm := ite_f c1 hm
                  refine lv_iconst (v := (1 : Int32)) hx hb dX6_told_93 (by decide) ?_
                  refine lv_goto (tgt := 98) hx hb dX6_told_94 (by decide) ?_
                  rw [← hQ]
                  exact W.iret (v := (1 : Int32)) hx hb hr (fun t ht1 hW => ⟨⟨_, (), rfl, hm, by rw [ht1]; exact hP, hD⟩, hS.F ht1⟩) hS.2.2 dX6_told_98
              · have hm := ite_f c8 hm
                refine lv_tableOut (tgt := 99) hx hb dX6_told_1 (sw_out 7 (by decide) (fun j hj => by rcases (show j = 0 ∨ j = 1 ∨ j = 2 ∨ j = 3 ∨ j = 4 ∨ j = 5 ∨ j = 6 by omega) with rfl | rfl | rfl | rfl | rfl | rfl | rfl; all_goals (first | exact c2 | exact c3 | exact c4 | exact c5 | exact c6 | exact c7 | exact c8))) (by decide) ?_
                refine lv_iconst (v := (-1 : Int32)) hx hb dX6_told_99 (by decide) ?_
                rw [← hQ]
                exact W.iret (v := (-1 : Int32)) hx hb hr (fun t ht1 hW => ⟨⟨_, (), rfl, hm, by rw [ht1]; exact hP, hD⟩, hS.F ht1⟩) hS.2.2 dX6_told_100

def f_X3_takeIn (uR : OS) (uZ : OS) (uO : OS) : Option ((OS × OS × Int32) × Nat × Nat) :=
  bnd (sF uR 3 (0 : Int32)) fun u1 =>
  bnd (sF u1 4 (0 : Int32)) fun u2 =>
  bnd (sF u2 5 (0 : Int32)) fun u3 =>
  bnd (sF u3 7 (0 : Int32)) fun u4 =>
  bnd (sF u4 11 (0 : Int32)) fun u5 =>
  oC2 (f_X3_takeHead u5 uZ uO) fun u6 u7 =>
  bnd (fun (u11 : OS) (u12 : OS) =>
  bnd (fun (u16 : OS) =>
  bnd (fun (u20 : OS) (u21 : OS) =>
  bnd (fun (u25 : OS) =>
  if (u25.1 4) = (0 : Int32) then (
  some ((u25, u21, (u25.1 3)), 0, 0)) else (
  some ((u25, u21, ((-10 : Int32) - (u25.1 5))), 0, 0))) fun K78_26 =>
  if (u20.1 4) = (0 : Int32) then (
  oC1 (f_X3_judgeEnd u20 u21 uO) fun u29 =>
  K78_26 u29) else (
  K78_26 u20)) fun K66_22 =>
  if (u16.1 4) = (0 : Int32) then (
  oA2 (f_X3_takeRow u16 u12 uO) fun u32 u33 kc37 ks37 =>
  addc kc37 ks37 <|
  K66_22 u32 u33) else (
  K66_22 u16 u12)) fun K54_17 =>
  if (u11.1 4) = (0 : Int32) then (
  oC1 (f_X3_takeStates u11 u12 uO) fun u40 =>
  K54_17 u40) else (
  K54_17 u11)) fun K42_13 =>
  if (u6.1 4) = (0 : Int32) then (
  oC2 (f_X3_takeTable u6 u7 uO) fun u43 u44 =>
  K42_13 u43 u44) else (
  K42_13 u6 u7)

set_option maxHeartbeats 4000000 in
set_option maxRecDepth 100000 in
theorem c_X3_takeIn (l : Launch) (dC : Nat → ClassId) (dI : Nat → Nat → Nat) (cI cJ : ClassId) (aR : Nat) (jR : Nat → Nat) (aZ : Nat) (jZ : Nat → Nat) (aO : Nat) (jO : Nat → Nat) (sz : Nat) (uR : OS) (uZ : OS) (uO : OS) (o : OS × OS × Int32) (mc ms : Nat) (hm : f_X3_takeIn uR uZ uO = some (o, mc, ms)) : Met l yX3_takeIn (wq yX3_takeIn cX3_takeIn 2 (some .int)) ({ frames := 5, cells := mc, slots := ms, locals := 146 } : Room) (va_Pc [.ref aR, .ref aO] (pcW dC dI cI cJ sz ([wR cI cJ aR jR aZ uR, wS cI cJ aZ jZ uZ, wO cI cJ aO jO uO] : List va_W).flatten)) (va_Qi (S := OS × OS) (fun r u => some (u.1, u.2, r) = some o) (fun (u : OS × OS) t => ∃ hhR : Nat → Nat, ∃ hhZ : Nat → Nat, va_P (dC, dI) vwCl ([wR cI cJ aR hhR aZ u.1, wS cI cJ aZ hhZ u.2, wO cI cJ aO jO uO] : List va_W).flatten t.heap ∧ va_D (va_A ([wR cI cJ aR jR aZ uR, wS cI cJ aZ jZ uZ, wO cI cJ aO jO uO] : List va_W).flatten sz) ([wR cI cJ aR hhR aZ u.1, wS cI cJ aZ hhZ u.2, wO cI cJ aO jO uO] : List va_W).flatten) (va_A ([wR cI cJ aR jR aZ uR, wS cI cJ aZ jZ uZ, wO cI cJ aO jO uO] : List va_W).flatten sz)) mc ms (va_A ([wR cI cJ aR jR aZ uR, wS cI cJ aZ jZ uZ, wO cI cJ aO jO uO] : List va_W).flatten sz) := by
  refine Met.ofW (cc := cX3_takeIn) (maxL := 2) (ret := (some .int)) (by decide) rfl ?_
  intro p e s m args below meth c s₁ B hml hv
  obtain ⟨rfl, hsz, hP, hK, hD0, hN⟩ := hv
  have hx := B.exec
  have hb := B.bytes
  have hr := B.returns
  have ht : ∀ w ∈ lw_good, w.before _ s = true := fun w h => atoms_spec (ws := wq yX3_takeIn cX3_takeIn 2 (some .int)) B.pre w (wq_mem h)
  have hown : s.vm.findClass RX3 = some m.cls := findClass_of_methodNamed B.named
  have hlocks := B.notSynchronized
  subst hsz
  have hD := hD0.self (sz := s.heap.size)
  generalize hAe : va_A ([wR cI cJ aR jR aZ uR, wS cI cJ aZ jZ uZ, wO cI cJ aO jO uO] : List va_W).flatten s.heap.size = A at hD ⊢
  have hA : ∀ q : Nat, s.heap.size ≤ q → A q := fun q h => by rw [← hAe]; exact Or.inr h
  have hS : va_S A s.heap s.heap [] := va_S.rf
  have hl := lv_entry ([.ref aR, .ref aO]) (n := 2) (Nat.le_of_ble_eq_true rfl)
  rw [lg_entry_eq]
  generalize (lg_sl ([.ref aR, .ref aO]) ++ List.replicate (2 - (lg_sl ([.ref aR, .ref aO])).length) Slot.unset).toArray = ls at hl ⊢
  have hl : lv_has ls 2 [(0, .ref aR), (1, .ref aO)] := hl
  generalize hQ : MQ below _ _ s _ _ _ = Q
  generalize hH : s.heap = H at hP ⊢
  have hS : va_S A s.heap H [] := by rw [← hH]; exact va_S.rf
  obtain ⟨ce, hce⟩ := ex_eq (0 : Nat)
  obtain ⟨sl, hsl⟩ := ex_eq (0 : Nat)
  obtain ⟨kc, hkc⟩ := ex_eq mc
  obtain ⟨ks, hks⟩ := ex_eq ms
  rw [← hkc, ← hks] at hm
  have hc1 : ce + kc = mc := by omega
  have hc2 : sl + ks = ms := by omega
  suffices hw : W p l e ({ frames := 5, cells := mc, slots := ms, locals := 146 } : Room) s m ([.ref aR, .ref aO] : List Value).toArray below meth c H [] ce sl Q (F0 m 0 ls []) by rw [hce, hsl] at hw; exact hw
  clear hce hsl hkc hks
  unfold f_X3_takeIn at hm
  refine lv_aload_n hx hb dX3_takeIn_0 rfl (lv_at hl 0 rfl) ?_
  refine lv_iconst (v := (0 : Int32)) hx hb dX3_takeIn_1 (by decide) ?_
  refine va_put (D := (dC, dI)) (ci := 4) (v := .int (0 : Int32)) (ty := .int) (C := RX3) (T := TX3) (N := 12) hx hb ht inX3 tyX3 tyX3_ok nmX3 hown hK hP hD hS 0 rfl rfl 3 (by decide) (ht _ kw_180) (fun _ h9 => h9) rfl (by decide +kernel) rfl rfl (Nat.le_of_ble_eq_true rfl) dX3_takeIn_2 (fun H locs hP hD hS => ?_)
  obtain ⟨u1, eu1, hm⟩ := bnd_ex hm
  have hP : va_P (dC, dI) vwCl ([wR cI cJ aR jR aZ u1, wS cI cJ aZ jZ uZ, wO cI cJ aO jO uO] : List va_W).flatten H := by rw [eu1]; exact hP
  have hD : va_D A ([wR cI cJ aR jR aZ u1, wS cI cJ aZ jZ uZ, wO cI cJ aO jO uO] : List va_W).flatten := by rw [eu1]; exact hD
  refine lv_aload_n hx hb dX3_takeIn_5 rfl (lv_at hl 0 rfl) ?_
  refine lv_iconst (v := (0 : Int32)) hx hb dX3_takeIn_6 (by decide) ?_
  refine va_put (D := (dC, dI)) (ci := 4) (v := .int (0 : Int32)) (ty := .int) (C := RX3) (T := TX3) (N := 12) hx hb ht inX3 tyX3 tyX3_ok nmX3 hown hK hP hD hS 0 rfl rfl 4 (by decide) (ht _ kw_181) (fun _ h9 => h9) rfl (by decide +kernel) rfl rfl (Nat.le_of_ble_eq_true rfl) dX3_takeIn_7 (fun H locs hP hD hS => ?_)
  obtain ⟨u2, eu2, hm⟩ := bnd_ex hm
  have hP : va_P (dC, dI) vwCl ([wR cI cJ aR jR aZ u2, wS cI cJ aZ jZ uZ, wO cI cJ aO jO uO] : List va_W).flatten H := by rw [eu2]; exact hP
  have hD : va_D A ([wR cI cJ aR jR aZ u2, wS cI cJ aZ jZ uZ, wO cI cJ aO jO uO] : List va_W).flatten := by rw [eu2]; exact hD
  refine lv_aload_n hx hb dX3_takeIn_10 rfl (lv_at hl 0 rfl) ?_
  refine lv_iconst (v := (0 : Int32)) hx hb dX3_takeIn_11 (by decide) ?_
  refine va_put (D := (dC, dI)) (ci := 4) (v := .int (0 : Int32)) (ty := .int) (C := RX3) (T := TX3) (N := 12) hx hb ht inX3 tyX3 tyX3_ok nmX3 hown hK hP hD hS 0 rfl rfl 5 (by decide) (ht _ kw_182) (fun _ h9 => h9) rfl (by decide +kernel) rfl rfl (Nat.le_of_ble_eq_true rfl) dX3_takeIn_12 (fun H locs hP hD hS => ?_)
  obtain ⟨u3, eu3, hm⟩ := bnd_ex hm
  have hP : va_P (dC, dI) vwCl ([wR cI cJ aR jR aZ u3, wS cI cJ aZ jZ uZ, wO cI cJ aO jO uO] : List va_W).flatten H := by rw [eu3]; exact hP
  have hD : va_D A ([wR cI cJ aR jR aZ u3, wS cI cJ aZ jZ uZ, wO cI cJ aO jO uO] : List va_W).flatten := by rw [eu3]; exact hD
  refine lv_aload_n hx hb dX3_takeIn_15 rfl (lv_at hl 0 rfl) ?_
  refine lv_iconst (v := (0 : Int32)) hx hb dX3_takeIn_16 (by decide) ?_
  refine va_put (D := (dC, dI)) (ci := 4) (v := .int (0 : Int32)) (ty := .int) (C := RX3) (T := TX3) (N := 12) hx hb ht inX3 tyX3 tyX3_ok nmX3 hown hK hP hD hS 0 rfl rfl 7 (by decide) (ht _ kw_183) (fun _ h9 => h9) rfl (by decide +kernel) rfl rfl (Nat.le_of_ble_eq_true rfl) dX3_takeIn_17 (fun H locs hP hD hS => ?_)
  obtain ⟨u4, eu4, hm⟩ := bnd_ex hm
  have hP : va_P (dC, dI) vwCl ([wR cI cJ aR jR aZ u4, wS cI cJ aZ jZ uZ, wO cI cJ aO jO uO] : List va_W).flatten H := by rw [eu4]; exact hP
  have hD : va_D A ([wR cI cJ aR jR aZ u4, wS cI cJ aZ jZ uZ, wO cI cJ aO jO uO] : List va_W).flatten := by rw [eu4]; exact hD
  refine lv_aload_n hx hb dX3_takeIn_20 rfl (lv_at hl 0 rfl) ?_
  refine lv_iconst (v := (0 : Int32)) hx hb dX3_takeIn_21 (by decide) ?_
  refine va_put (D := (dC, dI)) (ci := 4) (v := .int (0 : Int32)) (ty := .boolean) (C := RX3) (T := TX3) (N := 12) hx hb ht inX3 tyX3 tyX3_ok nmX3 hown hK hP hD hS 0 rfl rfl 11 (by decide) (ht _ kw_184) (fun _ h9 => h9) rfl (by decide +kernel) rfl rfl (Nat.le_of_ble_eq_true rfl) dX3_takeIn_22 (fun H locs hP hD hS => ?_)
  obtain ⟨u5, eu5, hm⟩ := bnd_ex hm
  have hP : va_P (dC, dI) vwCl ([wR cI cJ aR jR aZ u5, wS cI cJ aZ jZ uZ, wO cI cJ aO jO uO] : List va_W).flatten H := by rw [eu5]; exact hP
  have hD : va_D A ([wR cI cJ aR jR aZ u5, wS cI cJ aZ jZ uZ, wO cI cJ aO jO uO] : List va_W).flatten := by rw [eu5]; exact hD
  refine lv_aload_n hx hb dX3_takeIn_25 rfl (lv_at hl 0 rfl) ?_
  refine lv_aload_n hx hb dX3_takeIn_26 rfl (lv_at hl 1 rfl) ?_
  have hPc : va_P (dC, dI) vwCl ([wR cI cJ aR jR aZ u5, wS cI cJ aZ jZ uZ, wO cI cJ aO jO uO] : List va_W).flatten _ := hP
  have hDc : va_D A ([wR cI cJ aR jR aZ u5, wS cI cJ aZ jZ uZ, wO cI cJ aO jO uO] : List va_W).flatten := hD
  have hFc := va_freeF (fc := ([wR cI cJ aR jR aZ u5, wS cI cJ aZ jZ uZ, wO cI cJ aO jO uO] : List va_W)) hD hS hA [0, 1, 2] rfl
  obtain ⟨u6o, u7o, e8, hm⟩ := oC2_of hm
  refine va_callv (va_runV (As := [.ref aO]) (rest := []) ⟨hx, hb, hml, hown, ht⟩ (c_X3_takeHead l dC dI cI cJ aR jR aZ jZ aO jO H.size u5 uZ uO (u6o, u7o) e8) (cwV 1 ht (gdV kw_318 kw_316 kw_317 kw_205 kw_315) rfl rfl rfl ⟨rfl, nd_X3_takeHead⟩ ⟨Nat.le_of_ble_eq_true rfl, Nat.le_of_ble_eq_true rfl⟩) ⟨pcW_blind, va_recv hK hPc (ci := 4) (q0 := 0) rfl rfl, pcW_pre hPc hK hDc hN⟩ rfl rfl hl.1 rfl (lv_room (Nat.le_of_ble_eq_true rfl)) dX3_takeIn_27 ⟨cle0 hc1, cle0 hc2⟩) hS (fun q _ z => hFc q z) hFc (fun uu t H1 locs ht1 hvm hw hB hz1 hk1 hS => ?_)
  obtain ⟨u6, u7⟩ := uu
  obtain ⟨hP1, hD1⟩ := hB
  rw [ht1] at hP1
  obtain ⟨q0, q1⟩ := inj2 hw
  subst q0
  subst q1
  have hP : va_P (dC, dI) vwCl ([wR cI cJ aR jR aZ u6, wS cI cJ aZ jZ u7, wO cI cJ aO jO uO] : List va_W).flatten H1 := hP1
  have hD : va_D A ([wR cI cJ aR jR aZ u6, wS cI cJ aZ jZ u7, wO cI cJ aO jO uO] : List va_W).flatten := hD1.weaken (fun _ q _ z => hFc q.1 z)
  generalize H1 = H at hP hS ⊢
  refine W.cs (Nat.add_zero _) (Nat.add_zero _) ?_
  refine lv_aload_n hx hb dX3_takeIn_30 rfl (lv_at hl 0 rfl) ?_
  refine va_get (D := (dC, dI)) (ci := 4) (v := .int (u6.1 4)) (C := RX3) (T := TX3) (N := 12) hx hb ht inX3 hown hK hP 0 rfl rfl 4 (by decide) (ht _ kw_181) (fun _ h9 => h9) rfl dX3_takeIn_31 ?_
  obtain ⟨K42_13, eK42_13, hm⟩ := bnd_ex hm
  have J42_13 : ∀ (u11 : OS) (u12 : OS) (hg9 : Nat → Nat) (hg10 : Nat → Nat) (ce sl kc ks : Nat) (H : Heap) (locs : List Loc) (ls : Array Slot), K42_13 u11 u12 = some (o, kc, ks) → ce + kc = mc → sl + ks = ms → va_P (dC, dI) vwCl ([wR cI cJ aR hg9 aZ u11, wS cI cJ aZ hg10 u12, wO cI cJ aO jO uO] : List va_W).flatten H → va_D A ([wR cI cJ aR hg9 aZ u11, wS cI cJ aZ hg10 u12, wO cI cJ aO jO uO] : List va_W).flatten → va_S A s.heap H locs → lv_has ls 2 [(0, .ref aR), (1, .ref aO)] → W p l e ({ frames := 5, cells := mc, slots := ms, locals := 146 } : Room) s m ([.ref aR, .ref aO] : List Value).toArray below meth c H locs ce sl Q (F0 m 42 ls []) := by
    intro u11 u12 hg9 hg10 ce sl kc ks H locs ls hm hc1 hc2 hP hD hS hl
    have hm := ap2 eK42_13 hm
    refine lv_aload_n hx hb dX3_takeIn_42 rfl (lv_at hl 0 rfl) ?_
    refine va_get (D := (dC, dI)) (ci := 4) (v := .int (u11.1 4)) (C := RX3) (T := TX3) (N := 12) hx hb ht inX3 hown hK hP 0 rfl rfl 4 (by decide) (ht _ kw_181) (fun _ h9 => h9) rfl dX3_takeIn_43 ?_
    obtain ⟨K54_17, eK54_17, hm⟩ := bnd_ex hm
    have J54_17 : ∀ (u16 : OS) (hg14 : Nat → Nat) (hg15 : Nat → Nat) (ce sl kc ks : Nat) (H : Heap) (locs : List Loc) (ls : Array Slot), K54_17 u16 = some (o, kc, ks) → ce + kc = mc → sl + ks = ms → va_P (dC, dI) vwCl ([wR cI cJ aR hg14 aZ u16, wS cI cJ aZ hg15 u12, wO cI cJ aO jO uO] : List va_W).flatten H → va_D A ([wR cI cJ aR hg14 aZ u16, wS cI cJ aZ hg15 u12, wO cI cJ aO jO uO] : List va_W).flatten → va_S A s.heap H locs → lv_has ls 2 [(0, .ref aR), (1, .ref aO)] → W p l e ({ frames := 5, cells := mc, slots := ms, locals := 146 } : Room) s m ([.ref aR, .ref aO] : List Value).toArray below meth c H locs ce sl Q (F0 m 54 ls []) := by
      intro u16 hg14 hg15 ce sl kc ks H locs ls hm hc1 hc2 hP hD hS hl
      have hm := ap1 eK54_17 hm
      refine lv_aload_n hx hb dX3_takeIn_54 rfl (lv_at hl 0 rfl) ?_
      refine va_get (D := (dC, dI)) (ci := 4) (v := .int (u16.1 4)) (C := RX3) (T := TX3) (N := 12) hx hb ht inX3 hown hK hP 0 rfl rfl 4 (by decide) (ht _ kw_181) (fun _ h9 => h9) rfl dX3_takeIn_55 ?_
      obtain ⟨K66_22, eK66_22, hm⟩ := bnd_ex hm
      have J66_22 : ∀ (u20 : OS) (u21 : OS) (hg18 : Nat → Nat) (hg19 : Nat → Nat) (ce sl kc ks : Nat) (H : Heap) (locs : List Loc) (ls : Array Slot), K66_22 u20 u21 = some (o, kc, ks) → ce + kc = mc → sl + ks = ms → va_P (dC, dI) vwCl ([wR cI cJ aR hg18 aZ u20, wS cI cJ aZ hg19 u21, wO cI cJ aO jO uO] : List va_W).flatten H → va_D A ([wR cI cJ aR hg18 aZ u20, wS cI cJ aZ hg19 u21, wO cI cJ aO jO uO] : List va_W).flatten → va_S A s.heap H locs → lv_has ls 2 [(0, .ref aR), (1, .ref aO)] → W p l e ({ frames := 5, cells := mc, slots := ms, locals := 146 } : Room) s m ([.ref aR, .ref aO] : List Value).toArray below meth c H locs ce sl Q (F0 m 66 ls []) := by
        intro u20 u21 hg18 hg19 ce sl kc ks H locs ls hm hc1 hc2 hP hD hS hl
        have hm := ap2 eK66_22 hm
        refine lv_aload_n hx hb dX3_takeIn_66 rfl (lv_at hl 0 rfl) ?_
        refine va_get (D := (dC, dI)) (ci := 4) (v := .int (u20.1 4)) (C := RX3) (T := TX3) (N := 12) hx hb ht inX3 hown hK hP 0 rfl rfl 4 (by decide) (ht _ kw_181) (fun _ h9 => h9) rfl dX3_takeIn_67 ?_
        obtain ⟨K78_26, eK78_26, hm⟩ := bnd_ex hm
        have J78_26 : ∀ (u25 : OS) (hg23 : Nat → Nat) (hg24 : Nat → Nat) (ce sl kc ks : Nat) (H : Heap) (locs : List Loc) (ls : Array Slot), K78_26 u25 = some (o, kc, ks) → ce + kc = mc → sl + ks = ms → va_P (dC, dI) vwCl ([wR cI cJ aR hg23 aZ u25, wS cI cJ aZ hg24 u21, wO cI cJ aO jO uO] : List va_W).flatten H → va_D A ([wR cI cJ aR hg23 aZ u25, wS cI cJ aZ hg24 u21, wO cI cJ aO jO uO] : List va_W).flatten → va_S A s.heap H locs → lv_has ls 2 [(0, .ref aR), (1, .ref aO)] → W p l e ({ frames := 5, cells := mc, slots := ms, locals := 146 } : Room) s m ([.ref aR, .ref aO] : List Value).toArray below meth c H locs ce sl Q (F0 m 78 ls []) := by
          intro u25 hg23 hg24 ce sl kc ks H locs ls hm hc1 hc2 hP hD hS hl
          have hm := ap1 eK78_26 hm
          refine lv_aload_n hx hb dX3_takeIn_78 rfl (lv_at hl 0 rfl) ?_
          refine va_get (D := (dC, dI)) (ci := 4) (v := .int (u25.1 4)) (C := RX3) (T := TX3) (N := 12) hx hb ht inX3 hown hK hP 0 rfl rfl 4 (by decide) (ht _ kw_181) (fun _ h9 => h9) rfl dX3_takeIn_79 ?_
          refine lv_if_ne (tgt := 92) hx hb dX3_takeIn_82 (by decide) (fun c27 => ?_) (fun c27 => ?_)
          · have hm := ite_f c27 hm
            refine lv_bipush (v := (-10 : Int32)) hx hb dX3_takeIn_92 (by decide) ?_
            refine lv_aload_n hx hb dX3_takeIn_94 rfl (lv_at hl 0 rfl) ?_
            refine va_get (D := (dC, dI)) (ci := 4) (v := .int (u25.1 5)) (C := RX3) (T := TX3) (N := 12) hx hb ht inX3 hown hK hP 0 rfl rfl 5 (by decide) (ht _ kw_182) (fun _ h9 => h9) rfl dX3_takeIn_95 ?_
            refine lv_isub hx hb dX3_takeIn_98 ?_
            obtain ⟨hmz, hz1, hz2⟩ := ret0 hm
            subst hz1
            subst hz2
            refine W.cs (cells' := mc) (slots' := ms) hc1 hc2 ?_
            rw [← hQ]
            exact W.iret (v := ((-10 : Int32) - (u25.1 5))) hx hb hr (fun t ht1 hW => ⟨⟨_, (u25, u21), rfl, hmz, hg23, hg24, by rw [ht1]; exact hP, hD⟩, hS.F ht1⟩) hS.2.2 dX3_takeIn_99
          · have hm := ite_t c27 hm
            refine lv_aload_n hx hb dX3_takeIn_85 rfl (lv_at hl 0 rfl) ?_
            refine va_get (D := (dC, dI)) (ci := 4) (v := .int (u25.1 3)) (C := RX3) (T := TX3) (N := 12) hx hb ht inX3 hown hK hP 0 rfl rfl 3 (by decide) (ht _ kw_180) (fun _ h9 => h9) rfl dX3_takeIn_86 ?_
            refine lv_goto (tgt := 99) hx hb dX3_takeIn_89 (by decide) ?_
            obtain ⟨hmz, hz1, hz2⟩ := ret0 hm
            subst hz1
            subst hz2
            refine W.cs (cells' := mc) (slots' := ms) hc1 hc2 ?_
            rw [← hQ]
            exact W.iret (v := (u25.1 3)) hx hb hr (fun t ht1 hW => ⟨⟨_, (u25, u21), rfl, hmz, hg23, hg24, by rw [ht1]; exact hP, hD⟩, hS.F ht1⟩) hS.2.2 dX3_takeIn_99
        refine lv_if_ne (tgt := 78) hx hb dX3_takeIn_70 (by decide) (fun c28 => ?_) (fun c28 => ?_)
        · have hm := ite_f c28 hm
          exact J78_26 u20 hg18 hg19 _ _ _ _ _ _ _ hm hc1 hc2 hP hD hS (lv_sub hl [0, 1] rfl)
        · have hm := ite_t c28 hm
          refine lv_aload_n hx hb dX3_takeIn_73 rfl (lv_at hl 0 rfl) ?_
          refine lv_aload_n hx hb dX3_takeIn_74 rfl (lv_at hl 1 rfl) ?_
          have hPc : va_P (dC, dI) vwCl ([wR cI cJ aR hg18 aZ u20, wS cI cJ aZ hg19 u21, wO cI cJ aO jO uO] : List va_W).flatten _ := hP
          have hDc : va_D A ([wR cI cJ aR hg18 aZ u20, wS cI cJ aZ hg19 u21, wO cI cJ aO jO uO] : List va_W).flatten := hD
          have hFc := va_freeF (fc := ([wR cI cJ aR hg18 aZ u20, wS cI cJ aZ hg19 u21, wO cI cJ aO jO uO] : List va_W)) hD hS hA [0, 1, 2] rfl
          obtain ⟨u29o, e30, hm⟩ := oC1_of hm
          refine va_callv (va_runV (As := [.ref aO]) (rest := []) ⟨hx, hb, hml, hown, ht⟩ (c_X3_judgeEnd l dC dI cI cJ aR hg18 aZ hg19 aO jO H.size u20 u21 uO u29o e30) (cwV 1 ht (gdV kw_322 kw_320 kw_321 kw_205 kw_319) rfl rfl rfl ⟨rfl, nd_X3_judgeEnd⟩ ⟨Nat.le_of_ble_eq_true rfl, Nat.le_of_ble_eq_true rfl⟩) ⟨pcW_blind, va_recv hK hPc (ci := 4) (q0 := 0) rfl rfl, pcW_pre hPc hK hDc hN⟩ rfl rfl hl.1 rfl (lv_room (Nat.le_of_ble_eq_true rfl)) dX3_takeIn_75 ⟨cle0 hc1, cle0 hc2⟩) hS (fun q _ z => hFc q z) hFc (fun uu t H1 locs ht1 hvm hw hB hz1 hk1 hS => ?_)
          obtain ⟨u29, rfl⟩ : ∃ z, z = uu := ⟨_, rfl⟩
          obtain ⟨hP1, hD1⟩ := hB
          rw [ht1] at hP1
          obtain rfl : u29 = u29o := Option.some.inj hw
          have hP : va_P (dC, dI) vwCl ([wR cI cJ aR hg18 aZ u29, wS cI cJ aZ hg19 u21, wO cI cJ aO jO uO] : List va_W).flatten H1 := hP1
          have hD : va_D A ([wR cI cJ aR hg18 aZ u29, wS cI cJ aZ hg19 u21, wO cI cJ aO jO uO] : List va_W).flatten := hD1.weaken (fun _ q _ z => hFc q.1 z)
          generalize H1 = H at hP hS ⊢
          refine W.cs (Nat.add_zero _) (Nat.add_zero _) ?_
          exact J78_26 u29 hg18 hg19 _ _ _ _ _ _ _ hm hc1 hc2 hP hD hS (lv_sub hl [0, 1] rfl)
      refine lv_if_ne (tgt := 66) hx hb dX3_takeIn_58 (by decide) (fun c31 => ?_) (fun c31 => ?_)
      · have hm := ite_f c31 hm
        exact J66_22 u16 u12 hg14 hg15 _ _ _ _ _ _ _ hm hc1 hc2 hP hD hS (lv_sub hl [0, 1] rfl)
      · have hm := ite_t c31 hm
        refine lv_aload_n hx hb dX3_takeIn_61 rfl (lv_at hl 0 rfl) ?_
        refine lv_aload_n hx hb dX3_takeIn_62 rfl (lv_at hl 1 rfl) ?_
        have hPc : va_P (dC, dI) vwCl ([wR cI cJ aR hg14 aZ u16, wS cI cJ aZ hg15 u12, wO cI cJ aO jO uO] : List va_W).flatten _ := hP
        have hDc : va_D A ([wR cI cJ aR hg14 aZ u16, wS cI cJ aZ hg15 u12, wO cI cJ aO jO uO] : List va_W).flatten := hD
        have hFc := va_freeF (fc := ([wR cI cJ aR hg14 aZ u16, wS cI cJ aZ hg15 u12, wO cI cJ aO jO uO] : List va_W)) hD hS hA [0, 1, 2] rfl
        obtain ⟨u32o, u33o, kc37, ks37, e36, hm⟩ := oA2_of hm
        obtain ⟨kcq38, ksq38, hm, hkcq38, hksq38⟩ := addc_of hm
        refine va_callv (va_runV (As := [.ref aO]) (rest := []) ⟨hx, hb, hml, hown, ht⟩ (c_X3_takeRow l dC dI cI cJ aR hg14 aZ hg15 aO jO H.size u16 u12 uO (u32o, u33o) kc37 ks37 e36) (cwV 1 ht (gdV kw_326 kw_324 kw_325 kw_205 kw_323) rfl rfl rfl ⟨rfl, nd_X3_takeRow⟩ ⟨Nat.le_of_ble_eq_true rfl, Nat.le_of_ble_eq_true rfl⟩) ⟨pcW_blind, va_recv hK hPc (ci := 4) (q0 := 0) rfl rfl, pcW_pre hPc hK hDc hN⟩ rfl rfl hl.1 rfl (lv_room (Nat.le_of_ble_eq_true rfl)) dX3_takeIn_63 ⟨cle hc1 hkcq38, cle hc2 hksq38⟩) hS (fun q _ z => hFc q z) hFc (fun uu t H1 locs ht1 hvm hw hB hz1 hk1 hS => ?_)
        obtain ⟨u32, u33⟩ := uu
        obtain ⟨h34, h35, hP1, hD1⟩ := hB
        rw [ht1] at hP1
        obtain ⟨q0, q1⟩ := inj2 hw
        subst q0
        subst q1
        have hP : va_P (dC, dI) vwCl ([wR cI cJ aR h34 aZ u32, wS cI cJ aZ h35 u33, wO cI cJ aO jO uO] : List va_W).flatten H1 := hP1
        have hD : va_D A ([wR cI cJ aR h34 aZ u32, wS cI cJ aZ h35 u33, wO cI cJ aO jO uO] : List va_W).flatten := hD1.weaken (fun _ q _ z => hFc q.1 z)
        generalize H1 = H at hP hS ⊢
        have hc1 := cadd hc1 hkcq38
        have hc2 := cadd hc2 hksq38
        exact J66_22 u32 u33 h34 h35 _ _ _ _ _ _ _ hm hc1 hc2 hP hD hS (lv_sub hl [0, 1] rfl)
    refine lv_if_ne (tgt := 54) hx hb dX3_takeIn_46 (by decide) (fun c39 => ?_) (fun c39 => ?_)
    · have hm := ite_f c39 hm
      exact J54_17 u11 hg9 hg10 _ _ _ _ _ _ _ hm hc1 hc2 hP hD hS (lv_sub hl [0, 1] rfl)
    · have hm := ite_t c39 hm
      refine lv_aload_n hx hb dX3_takeIn_49 rfl (lv_at hl 0 rfl) ?_
      refine lv_aload_n hx hb dX3_takeIn_50 rfl (lv_at hl 1 rfl) ?_
      have hPc : va_P (dC, dI) vwCl ([wR cI cJ aR hg9 aZ u11, wS cI cJ aZ hg10 u12, wO cI cJ aO jO uO] : List va_W).flatten _ := hP
      have hDc : va_D A ([wR cI cJ aR hg9 aZ u11, wS cI cJ aZ hg10 u12, wO cI cJ aO jO uO] : List va_W).flatten := hD
      have hFc := va_freeF (fc := ([wR cI cJ aR hg9 aZ u11, wS cI cJ aZ hg10 u12, wO cI cJ aO jO uO] : List va_W)) hD hS hA [0, 1, 2] rfl
      obtain ⟨u40o, e41, hm⟩ := oC1_of hm
      refine va_callv (va_runV (As := [.ref aO]) (rest := []) ⟨hx, hb, hml, hown, ht⟩ (c_X3_takeStates l dC dI cI cJ aR hg9 aZ hg10 aO jO H.size u11 u12 uO u40o e41) (cwV 1 ht (gdV kw_330 kw_328 kw_329 kw_205 kw_327) rfl rfl rfl ⟨rfl, nd_X3_takeStates⟩ ⟨Nat.le_of_ble_eq_true rfl, Nat.le_of_ble_eq_true rfl⟩) ⟨pcW_blind, va_recv hK hPc (ci := 4) (q0 := 0) rfl rfl, pcW_pre hPc hK hDc hN⟩ rfl rfl hl.1 rfl (lv_room (Nat.le_of_ble_eq_true rfl)) dX3_takeIn_51 ⟨cle0 hc1, cle0 hc2⟩) hS (fun q _ z => hFc q z) hFc (fun uu t H1 locs ht1 hvm hw hB hz1 hk1 hS => ?_)
      obtain ⟨u40, rfl⟩ : ∃ z, z = uu := ⟨_, rfl⟩
      obtain ⟨hP1, hD1⟩ := hB
      rw [ht1] at hP1
      obtain rfl : u40 = u40o := Option.some.inj hw
      have hP : va_P (dC, dI) vwCl ([wR cI cJ aR hg9 aZ u40, wS cI cJ aZ hg10 u12, wO cI cJ aO jO uO] : List va_W).flatten H1 := hP1
      have hD : va_D A ([wR cI cJ aR hg9 aZ u40, wS cI cJ aZ hg10 u12, wO cI cJ aO jO uO] : List va_W).flatten := hD1.weaken (fun _ q _ z => hFc q.1 z)
      generalize H1 = H at hP hS ⊢
      refine W.cs (Nat.add_zero _) (Nat.add_zero _) ?_
      exact J54_17 u40 hg9 hg10 _ _ _ _ _ _ _ hm hc1 hc2 hP hD hS (lv_sub hl [0, 1] rfl)
  refine lv_if_ne (tgt := 42) hx hb dX3_takeIn_34 (by decide) (fun c42 => ?_) (fun c42 => ?_)
  · have hm := ite_f c42 hm
    exact J42_13 u6 u7 jR jZ _ _ _ _ _ _ _ hm hc1 hc2 hP hD hS (lv_sub hl [0, 1] rfl)
  · have hm := ite_t c42 hm
    refine lv_aload_n hx hb dX3_takeIn_37 rfl (lv_at hl 0 rfl) ?_
    refine lv_aload_n hx hb dX3_takeIn_38 rfl (lv_at hl 1 rfl) ?_
    have hPc : va_P (dC, dI) vwCl ([wR cI cJ aR jR aZ u6, wS cI cJ aZ jZ u7, wO cI cJ aO jO uO] : List va_W).flatten _ := hP
    have hDc : va_D A ([wR cI cJ aR jR aZ u6, wS cI cJ aZ jZ u7, wO cI cJ aO jO uO] : List va_W).flatten := hD
    have hFc := va_freeF (fc := ([wR cI cJ aR jR aZ u6, wS cI cJ aZ jZ u7, wO cI cJ aO jO uO] : List va_W)) hD hS hA [0, 1, 2] rfl
    obtain ⟨u43o, u44o, e45, hm⟩ := oC2_of hm
    refine va_callv (va_runV (As := [.ref aO]) (rest := []) ⟨hx, hb, hml, hown, ht⟩ (c_X3_takeTable l dC dI cI cJ aR jR aZ jZ aO jO H.size u6 u7 uO (u43o, u44o) e45) (cwV 1 ht (gdV kw_334 kw_332 kw_333 kw_205 kw_331) rfl rfl rfl ⟨rfl, nd_X3_takeTable⟩ ⟨Nat.le_of_ble_eq_true rfl, Nat.le_of_ble_eq_true rfl⟩) ⟨pcW_blind, va_recv hK hPc (ci := 4) (q0 := 0) rfl rfl, pcW_pre hPc hK hDc hN⟩ rfl rfl hl.1 rfl (lv_room (Nat.le_of_ble_eq_true rfl)) dX3_takeIn_39 ⟨cle0 hc1, cle0 hc2⟩) hS (fun q _ z => hFc q z) hFc (fun uu t H1 locs ht1 hvm hw hB hz1 hk1 hS => ?_)
    obtain ⟨u43, u44⟩ := uu
    obtain ⟨hP1, hD1⟩ := hB
    rw [ht1] at hP1
    obtain ⟨q0, q1⟩ := inj2 hw
    subst q0
    subst q1
    have hP : va_P (dC, dI) vwCl ([wR cI cJ aR jR aZ u43, wS cI cJ aZ jZ u44, wO cI cJ aO jO uO] : List va_W).flatten H1 := hP1
    have hD : va_D A ([wR cI cJ aR jR aZ u43, wS cI cJ aZ jZ u44, wO cI cJ aO jO uO] : List va_W).flatten := hD1.weaken (fun _ q _ z => hFc q.1 z)
    generalize H1 = H at hP hS ⊢
    refine W.cs (Nat.add_zero _) (Nat.add_zero _) ?_
    exact J42_13 u43 u44 jR jZ _ _ _ _ _ _ _ hm hc1 hc2 hP hD hS (lv_sub hl [0, 1] rfl)

def f_X3_signAt (uR : OS) (p1 : Int32) : Option (Int32) :=
  if p1 < (0 : Int32) then (
  some (-1 : Int32)) else (
  if (uR.1 3) ≤ p1 then (
  some (-1 : Int32)) else (
  if (nI (uR.2.2.2 2)) ≤ p1 then (
  some (-1 : Int32)) else (
  gdi p1 (uR.2.2.2 2) <|
  some ((uR.2.1 2 (p1).toNatClampNeg)))))

set_option maxHeartbeats 4000000 in
set_option maxRecDepth 100000 in
theorem c_X3_signAt (l : Launch) (dC : Nat → ClassId) (dI : Nat → Nat → Nat) (cI cJ : ClassId) (aR : Nat) (jR : Nat → Nat) (aZ : Nat) (sz : Nat) (uR : OS) (p1 : Int32) (o : Int32) (hm : f_X3_signAt uR p1 = some o) : Met l yX3_signAt (wq yX3_signAt cX3_signAt 2 (some .int)) ({ frames := 0, cells := 0, slots := 0, locals := 0 } : Room) (va_Pc [.ref aR, .int p1] (pcW dC dI cI cJ sz ([wR cI cJ aR jR aZ uR] : List va_W).flatten)) (va_Qi (S := Unit) (fun r u => some r = some o) (fun (u : Unit) t => va_P (dC, dI) vwCl ([wR cI cJ aR jR aZ uR] : List va_W).flatten t.heap ∧ va_D (va_A ([wR cI cJ aR jR aZ uR] : List va_W).flatten sz) ([wR cI cJ aR jR aZ uR] : List va_W).flatten) (va_A ([wR cI cJ aR jR aZ uR] : List va_W).flatten sz)) 0 0 (va_A ([wR cI cJ aR jR aZ uR] : List va_W).flatten sz) := by
  refine Met.ofW (cc := cX3_signAt) (maxL := 2) (ret := (some .int)) (by decide) rfl ?_
  intro p e s m args below meth c s₁ B hml hv
  obtain ⟨rfl, hsz, hP, hK, hD0, hN⟩ := hv
  have hx := B.exec
  have hb := B.bytes
  have hr := B.returns
  have ht : ∀ w ∈ lw_good, w.before _ s = true := fun w h => atoms_spec (ws := wq yX3_signAt cX3_signAt 2 (some .int)) B.pre w (wq_mem h)
  have hown : s.vm.findClass RX3 = some m.cls := findClass_of_methodNamed B.named
  have hlocks := B.notSynchronized
  subst hsz
  have hD := hD0.self (sz := s.heap.size)
  generalize hAe : va_A ([wR cI cJ aR jR aZ uR] : List va_W).flatten s.heap.size = A at hD ⊢
  have hA : ∀ q : Nat, s.heap.size ≤ q → A q := fun q h => by rw [← hAe]; exact Or.inr h
  have hS : va_S A s.heap s.heap [] := va_S.rf
  have hl := lv_entry ([.ref aR, .int p1]) (n := 2) (Nat.le_of_ble_eq_true rfl)
  rw [lg_entry_eq]
  generalize (lg_sl ([.ref aR, .int p1]) ++ List.replicate (2 - (lg_sl ([.ref aR, .int p1])).length) Slot.unset).toArray = ls at hl ⊢
  have hl : lv_has ls 2 [(0, .ref aR), (1, .int p1)] := hl
  generalize hQ : MQ below _ _ s _ _ _ = Q
  generalize hH : s.heap = H at hP ⊢
  have hS : va_S A s.heap H [] := by rw [← hH]; exact va_S.rf
  show W p l e ({ frames := 0, cells := 0, slots := 0, locals := 0 } : Room) s m ([.ref aR, .int p1] : List Value).toArray below meth c H [] 0 0 Q (F0 m 0 ls [])
  unfold f_X3_signAt at hm
  refine lv_iload_n hx hb dX3_signAt_0 rfl (lv_at hl 1 rfl) ?_
  refine lv_if_lt (tgt := 30) hx hb dX3_signAt_1 (by decide) (fun c1 => ?_) (fun c1 => ?_)
  · have hm := ite_t c1 hm
    refine lv_iconst (v := (-1 : Int32)) hx hb dX3_signAt_30 (by decide) ?_
    rw [← hQ]
    exact W.iret (v := (-1 : Int32)) hx hb hr (fun t ht1 hW => ⟨⟨_, (), rfl, hm, by rw [ht1]; exact hP, hD⟩, hS.F ht1⟩) hS.2.2 dX3_signAt_31
  · have hm := ite_f c1 hm
    refine lv_iload_n hx hb dX3_signAt_4 rfl (lv_at hl 1 rfl) ?_
    refine lv_aload_n hx hb dX3_signAt_5 rfl (lv_at hl 0 rfl) ?_
    refine va_get (D := (dC, dI)) (ci := 4) (v := .int (uR.1 3)) (C := RX3) (T := TX3) (N := 12) hx hb ht inX3 hown hK hP 0 rfl rfl 3 (by decide) (ht _ kw_180) (fun _ h9 => h9) rfl dX3_signAt_6 ?_
    refine lv_icmp_ge (tgt := 30) hx hb dX3_signAt_9 (by decide) (fun c2 => ?_) (fun c2 => ?_)
    · have hm := ite_t c2 hm
      refine lv_iconst (v := (-1 : Int32)) hx hb dX3_signAt_30 (by decide) ?_
      rw [← hQ]
      exact W.iret (v := (-1 : Int32)) hx hb hr (fun t ht1 hW => ⟨⟨_, (), rfl, hm, by rw [ht1]; exact hP, hD⟩, hS.F ht1⟩) hS.2.2 dX3_signAt_31
    · have hm := ite_f c2 hm
      refine lv_iload_n hx hb dX3_signAt_12 rfl (lv_at hl 1 rfl) ?_
      refine lv_aload_n hx hb dX3_signAt_13 rfl (lv_at hl 0 rfl) ?_
      refine va_get (D := (dC, dI)) (ci := 4) (v := .ref (jR 2)) (C := RX3) (T := TX3) (N := 12) hx hb ht inX3 hown hK hP 0 rfl rfl 2 (by decide) (ht _ kw_302) (fun _ h9 => h9) rfl dX3_signAt_14 ?_
      refine va_alen (v := (nI (uR.2.2.2 2))) hx hb hK hP 2 0 rfl rfl rfl dX3_signAt_17 ?_
      refine lv_icmp_ge (tgt := 30) hx hb dX3_signAt_18 (by decide) (fun c3 => ?_) (fun c3 => ?_)
      · have hm := ite_t c3 hm
        refine lv_iconst (v := (-1 : Int32)) hx hb dX3_signAt_30 (by decide) ?_
        rw [← hQ]
        exact W.iret (v := (-1 : Int32)) hx hb hr (fun t ht1 hW => ⟨⟨_, (), rfl, hm, by rw [ht1]; exact hP, hD⟩, hS.F ht1⟩) hS.2.2 dX3_signAt_31
      · have hm := ite_f c3 hm
        refine lv_aload_n hx hb dX3_signAt_21 rfl (lv_at hl 0 rfl) ?_
        refine va_get (D := (dC, dI)) (ci := 4) (v := .ref (jR 2)) (C := RX3) (T := TX3) (N := 12) hx hb ht inX3 hown hK hP 0 rfl rfl 2 (by decide) (ht _ kw_302) (fun _ h9 => h9) rfl dX3_signAt_22 ?_
        refine lv_iload_n hx hb dX3_signAt_25 rfl (lv_at hl 1 rfl) ?_
        obtain ⟨g4, hm⟩ := gdi_of hm
        refine va_iald hx hb hK hP 2 0 rfl rfl g4 dX3_signAt_26 ?_
        refine lv_goto (tgt := 31) hx hb dX3_signAt_27 (by decide) ?_
        rw [← hQ]
        exact W.iret (v := (uR.2.1 2 (p1).toNatClampNeg)) hx hb hr (fun t ht1 hW => ⟨⟨_, (), rfl, hm, by rw [ht1]; exact hP, hD⟩, hS.F ht1⟩) hS.2.2 dX3_signAt_31

def f_X4_howMany_L4 (uS : OS) : Nat → (Int32 → Int32 → Option (Int32)) → Int32 → Int32 → Option (Int32)
  | 0, _, _, _ => none
  | n4 + 1, K33_5, x1, x2 =>
    if (32 : Int32) ≤ x1 then (
    K33_5 x2 x1) else (
    gdi x1 32 <|
    if (uS.2.1 3 (x1).toNatClampNeg) ≤ (0 : Int32) then (
    bnd (x2 + (0 : Int32)) fun x9 =>
    bnd (x1 + (1 : Int32)) fun x10 =>
    f_X4_howMany_L4 uS n4 K33_5 x10 x9) else (
    bnd (x2 + (1 : Int32)) fun x11 =>
    bnd (x1 + (1 : Int32)) fun x12 =>
    f_X4_howMany_L4 uS n4 K33_5 x12 x11))

def f_X4_howMany (uS : OS) : Option (Int32) :=
  bnd (fun (x3 : Int32) (x4 : Int32) =>
  some x3) fun K33_5 =>
  f_X4_howMany_L4 uS FU K33_5 (0 : Int32) (0 : Int32)

set_option maxHeartbeats 4000000 in
set_option maxRecDepth 100000 in
theorem c_X4_howMany (l : Launch) (dC : Nat → ClassId) (dI : Nat → Nat → Nat) (cI cJ : ClassId) (aS : Nat) (jS : Nat → Nat) (sz : Nat) (uS : OS) (o : Int32) (hm : f_X4_howMany uS = some o) : Met l yX4_howMany (wq yX4_howMany cX4_howMany 3 (some .int)) ({ frames := 0, cells := 0, slots := 0, locals := 0 } : Room) (va_Pc [.ref aS] (pcW dC dI cI cJ sz ([wS cI cJ aS jS uS] : List va_W).flatten)) (va_Qi (S := Unit) (fun r u => some r = some o) (fun (u : Unit) t => va_P (dC, dI) vwCl ([wS cI cJ aS jS uS] : List va_W).flatten t.heap ∧ va_D (va_A ([wS cI cJ aS jS uS] : List va_W).flatten sz) ([wS cI cJ aS jS uS] : List va_W).flatten) (va_A ([wS cI cJ aS jS uS] : List va_W).flatten sz)) 0 0 (va_A ([wS cI cJ aS jS uS] : List va_W).flatten sz) := by
  refine Met.ofW (cc := cX4_howMany) (maxL := 3) (ret := (some .int)) (by decide) rfl ?_
  intro p e s m args below meth c s₁ B hml hv
  obtain ⟨rfl, hsz, hP, hK, hD0, hN⟩ := hv
  have hx := B.exec
  have hb := B.bytes
  have hr := B.returns
  have ht : ∀ w ∈ lw_good, w.before _ s = true := fun w h => atoms_spec (ws := wq yX4_howMany cX4_howMany 3 (some .int)) B.pre w (wq_mem h)
  have hown : s.vm.findClass RX4 = some m.cls := findClass_of_methodNamed B.named
  have hlocks := B.notSynchronized
  subst hsz
  have hD := hD0.self (sz := s.heap.size)
  generalize hAe : va_A ([wS cI cJ aS jS uS] : List va_W).flatten s.heap.size = A at hD ⊢
  have hA : ∀ q : Nat, s.heap.size ≤ q → A q := fun q h => by rw [← hAe]; exact Or.inr h
  have hS : va_S A s.heap s.heap [] := va_S.rf
  have hl := lv_entry ([.ref aS]) (n := 3) (Nat.le_of_ble_eq_true rfl)
  rw [lg_entry_eq]
  generalize (lg_sl ([.ref aS]) ++ List.replicate (3 - (lg_sl ([.ref aS])).length) Slot.unset).toArray = ls at hl ⊢
  have hl : lv_has ls 3 [(0, .ref aS)] := hl
  generalize hQ : MQ below _ _ s _ _ _ = Q
  generalize hH : s.heap = H at hP ⊢
  have hS : va_S A s.heap H [] := by rw [← hH]; exact va_S.rf
  show W p l e ({ frames := 0, cells := 0, slots := 0, locals := 0 } : Room) s m ([.ref aS] : List Value).toArray below meth c H [] 0 0 Q (F0 m 0 ls [])
  unfold f_X4_howMany at hm
  refine lv_iconst (v := (0 : Int32)) hx hb dX4_howMany_0 (by decide) ?_
  refine lv_istore_n (lv' := [(1, .int (0 : Int32)), (0, .ref aS)]) hx hb dX4_howMany_1 rfl hl (by decide) rfl (fun ls hl => ?_)
  refine lv_iconst (v := (0 : Int32)) hx hb dX4_howMany_2 (by decide) ?_
  refine lv_istore_n (lv' := [(2, .int (0 : Int32)), (1, .int (0 : Int32)), (0, .ref aS)]) hx hb dX4_howMany_3 rfl hl (by decide) rfl (fun ls hl => ?_)
  obtain ⟨K33_5, eK33_5, hm⟩ := bnd_ex hm
  have X33_5 : ∀ (x3 : Int32) (x4 : Int32) (H : Heap) (locs : List Loc) (ls : Array Slot), K33_5 x3 x4 = some o → va_P (dC, dI) vwCl ([wS cI cJ aS jS uS] : List va_W).flatten H → va_D A ([wS cI cJ aS jS uS] : List va_W).flatten → va_S A s.heap H locs → lv_has ls 3 [(0, .ref aS), (1, .int x3), (2, .int x4)] → W p l e ({ frames := 0, cells := 0, slots := 0, locals := 0 } : Room) s m ([.ref aS] : List Value).toArray below meth c H locs 0 0 Q (F0 m 33 ls []) := by
    intro x3 x4 H locs ls hm hP hD hS hl
    have hm := ap2 eK33_5 hm
    refine lv_iload_n hx hb dX4_howMany_33 rfl (lv_at hl 1 rfl) ?_
    rw [← hQ]
    exact W.iret (v := x3) hx hb hr (fun t ht1 hW => ⟨⟨_, (), rfl, hm, by rw [ht1]; exact hP, hD⟩, hS.F ht1⟩) hS.2.2 dX4_howMany_34
  have LP4 : ∀ (n4 : Nat) (x1 : Int32) (x2 : Int32) (H : Heap) (locs : List Loc) (ls : Array Slot), f_X4_howMany_L4 uS n4 K33_5 x1 x2 = some o → va_P (dC, dI) vwCl ([wS cI cJ aS jS uS] : List va_W).flatten H → va_D A ([wS cI cJ aS jS uS] : List va_W).flatten → va_S A s.heap H locs → lv_has ls 3 [(0, .ref aS), (1, .int x2), (2, .int x1)] → W p l e ({ frames := 0, cells := 0, slots := 0, locals := 0 } : Room) s m ([.ref aS] : List Value).toArray below meth c H locs 0 0 Q (F0 m 4 ls []) := by
    intro n4
    induction n4 with
    | zero => intro x1 x2 H locs ls hm; exact nomatch (show (none : Option _) = some _ from hm)
    | succ n4 ih4 =>
      intro x1 x2 H locs ls hm hP hD hS hl
      unfold f_X4_howMany_L4 at hm
      refine lv_iload_n hx hb dX4_howMany_4 rfl (lv_at hl 2 rfl) ?_
      refine lv_bipush (v := (32 : Int32)) hx hb dX4_howMany_5 (by decide) ?_
      refine lv_icmp_ge (tgt := 33) hx hb dX4_howMany_7 (by decide) (fun c6 => ?_) (fun c6 => ?_)
      · have hm := ite_t c6 hm
        exact X33_5 x2 x1 _ _ _ hm hP hD hS (lv_sub hl [0, 1, 2] rfl)
      · have hm := ite_f c6 hm
        refine lv_iload_n hx hb dX4_howMany_10 rfl (lv_at hl 1 rfl) ?_
        refine lv_aload_n hx hb dX4_howMany_11 rfl (lv_at hl 0 rfl) ?_
        refine va_get (D := (dC, dI)) (ci := 5) (v := .ref (jS 3)) (C := RX4) (T := TX4) (N := 11) hx hb ht inX4 hown hK hP 0 rfl rfl 3 (by decide) (ht _ kw_189) (fun _ h9 => h9) rfl dX4_howMany_12 ?_
        refine lv_iload_n hx hb dX4_howMany_15 rfl (lv_at hl 2 rfl) ?_
        obtain ⟨g7, hm⟩ := gdi_of hm
        refine va_iald hx hb hK hP 1 0 rfl rfl g7 dX4_howMany_16 ?_
        refine lv_if_le (tgt := 24) hx hb dX4_howMany_17 (by decide) (fun c8 => ?_) (fun c8 => ?_)
        · have hm := ite_t c8 hm
          refine lv_iconst (v := (0 : Int32)) hx hb dX4_howMany_24 (by decide) ?_
          refine lv_iadd hx hb dX4_howMany_25 ?_
          refine lv_topi (fun x9 ex9 => ?_)
          have hm := bnd_nm ex9 hm
          refine lv_istore_n (lv' := [(1, .int x9), (0, .ref aS), (2, .int x1)]) hx hb dX4_howMany_26 rfl hl (by decide) rfl (fun ls hl => ?_)
          obtain ⟨x10, ex10, hm⟩ := bnd_ex hm
          refine lv_iinc (v := x10) (lv' := [(2, .int x10), (1, .int x9), (0, .ref aS)]) hx hb dX4_howMany_27 hl (k := 2) rfl (by rw [ex10]; exact congrArg _ (by decide)) (by decide) rfl (fun ls hl => ?_)
          refine lv_goto (tgt := 4) hx hb dX4_howMany_30 (by decide) ?_
          exact ih4 x10 x9 _ _ _ hm hP hD hS (lv_sub hl [2, 1, 0] rfl)
        · have hm := ite_f c8 hm
          refine lv_iconst (v := (1 : Int32)) hx hb dX4_howMany_20 (by decide) ?_
          refine lv_goto (tgt := 25) hx hb dX4_howMany_21 (by decide) ?_
          refine lv_iadd hx hb dX4_howMany_25 ?_
          refine lv_topi (fun x11 ex11 => ?_)
          have hm := bnd_nm ex11 hm
          refine lv_istore_n (lv' := [(1, .int x11), (0, .ref aS), (2, .int x1)]) hx hb dX4_howMany_26 rfl hl (by decide) rfl (fun ls hl => ?_)
          obtain ⟨x12, ex12, hm⟩ := bnd_ex hm
          refine lv_iinc (v := x12) (lv' := [(2, .int x12), (1, .int x11), (0, .ref aS)]) hx hb dX4_howMany_27 hl (k := 2) rfl (by rw [ex12]; exact congrArg _ (by decide)) (by decide) rfl (fun ls hl => ?_)
          refine lv_goto (tgt := 4) hx hb dX4_howMany_30 (by decide) ?_
          exact ih4 x12 x11 _ _ _ hm hP hD hS (lv_sub hl [2, 1, 0] rfl)
  exact LP4 FU (0 : Int32) (0 : Int32) _ _ _ hm hP hD hS (lv_sub hl [2, 1, 0] rfl)

def f_X4_gainOf (uL : OS) (uS : OS) (p1 : Int32) (p2 : Int32) : Option (OS × Int64) :=
  if p2 ≤ (0 : Int32) then (
  some (uL, (0 : Int64))) else (
  gdi p1 32 <|
  if (uS.2.1 3 (p1).toNatClampNeg) < (uS.1 1) then (
  gdi p1 32 <|
  oC2 (f_X0_of uL ((uS.2.1 3 (p1).toNatClampNeg) + (1 : Int32))) fun u5 r6 =>
  gdi p1 32 <|
  oC2 (f_X0_of u5 (uS.2.1 3 (p1).toNatClampNeg)) fun u9 r10 =>
  some (u9, ((p2).toInt64 * (r6 - r10)))) else (
  some (uL, (0 : Int64))))

set_option maxHeartbeats 4000000 in
set_option maxRecDepth 100000 in
theorem c_X4_gainOf (l : Launch) (dC : Nat → ClassId) (dI : Nat → Nat → Nat) (cI cJ : ClassId) (aL : Nat) (jL : Nat → Nat) (aS : Nat) (jS : Nat → Nat) (sz : Nat) (uL : OS) (uS : OS) (p1 : Int32) (p2 : Int32) (o : OS × Int64) (hm : f_X4_gainOf uL uS p1 p2 = some o) : Met l yX4_gainOf (wq yX4_gainOf cX4_gainOf 4 (some .long)) ({ frames := 3, cells := 0, slots := 0, locals := 70 } : Room) (va_Pc [.ref aS, .int p1, .int p2, .ref aL] (pcW dC dI cI cJ sz ([wL cI cJ aL jL uL, wS cI cJ aS jS uS] : List va_W).flatten)) (va_Ql (S := OS) (fun r u => some (u, r) = some o) (fun (u : OS) t => va_P (dC, dI) vwCl ([wL cI cJ aL jL u, wS cI cJ aS jS uS] : List va_W).flatten t.heap ∧ va_D (va_A ([wL cI cJ aL jL uL, wS cI cJ aS jS uS] : List va_W).flatten sz) ([wL cI cJ aL jL u, wS cI cJ aS jS uS] : List va_W).flatten) (va_A ([wL cI cJ aL jL uL, wS cI cJ aS jS uS] : List va_W).flatten sz)) 0 0 (va_A ([wL cI cJ aL jL uL, wS cI cJ aS jS uS] : List va_W).flatten sz) := by
  refine Met.ofW (cc := cX4_gainOf) (maxL := 4) (ret := (some .long)) (by decide) rfl ?_
  intro p e s m args below meth c s₁ B hml hv
  obtain ⟨rfl, hsz, hP, hK, hD0, hN⟩ := hv
  have hx := B.exec
  have hb := B.bytes
  have hr := B.returns
  have ht : ∀ w ∈ lw_good, w.before _ s = true := fun w h => atoms_spec (ws := wq yX4_gainOf cX4_gainOf 4 (some .long)) B.pre w (wq_mem h)
  have hown : s.vm.findClass RX4 = some m.cls := findClass_of_methodNamed B.named
  have hlocks := B.notSynchronized
  subst hsz
  have hD := hD0.self (sz := s.heap.size)
  generalize hAe : va_A ([wL cI cJ aL jL uL, wS cI cJ aS jS uS] : List va_W).flatten s.heap.size = A at hD ⊢
  have hA : ∀ q : Nat, s.heap.size ≤ q → A q := fun q h => by rw [← hAe]; exact Or.inr h
  have hS : va_S A s.heap s.heap [] := va_S.rf
  have hl := lv_entry ([.ref aS, .int p1, .int p2, .ref aL]) (n := 4) (Nat.le_of_ble_eq_true rfl)
  rw [lg_entry_eq]
  generalize (lg_sl ([.ref aS, .int p1, .int p2, .ref aL]) ++ List.replicate (4 - (lg_sl ([.ref aS, .int p1, .int p2, .ref aL])).length) Slot.unset).toArray = ls at hl ⊢
  have hl : lv_has ls 4 [(0, .ref aS), (1, .int p1), (2, .int p2), (3, .ref aL)] := hl
  generalize hQ : MQ below _ _ s _ _ _ = Q
  generalize hH : s.heap = H at hP ⊢
  have hS : va_S A s.heap H [] := by rw [← hH]; exact va_S.rf
  show W p l e ({ frames := 3, cells := 0, slots := 0, locals := 70 } : Room) s m ([.ref aS, .int p1, .int p2, .ref aL] : List Value).toArray below meth c H [] 0 0 Q (F0 m 0 ls [])
  unfold f_X4_gainOf at hm
  refine lv_iload_n hx hb dX4_gainOf_0 rfl (lv_at hl 2 rfl) ?_
  refine lv_if_le (tgt := 17) hx hb dX4_gainOf_1 (by decide) (fun c1 => ?_) (fun c1 => ?_)
  · have hm := ite_t c1 hm
    refine lv_lconst (v := (0 : Int64)) hx hb dX4_gainOf_17 (by decide) ?_
    rw [← hQ]
    exact W.lret (v := (0 : Int64)) hx hb hr (fun t ht1 hW => ⟨⟨_, uL, rfl, hm, by rw [ht1]; exact hP, hD⟩, hS.F ht1⟩) hS.2.2 dX4_gainOf_18
  · have hm := ite_f c1 hm
    refine lv_aload_n hx hb dX4_gainOf_4 rfl (lv_at hl 0 rfl) ?_
    refine va_get (D := (dC, dI)) (ci := 5) (v := .ref (jS 3)) (C := RX4) (T := TX4) (N := 11) hx hb ht inX4 hown hK hP 2 rfl rfl 3 (by decide) (ht _ kw_189) (fun _ h9 => h9) rfl dX4_gainOf_5 ?_
    refine lv_iload_n hx hb dX4_gainOf_8 rfl (lv_at hl 1 rfl) ?_
    obtain ⟨g2, hm⟩ := gdi_of hm
    refine va_iald hx hb hK hP 3 0 rfl rfl g2 dX4_gainOf_9 ?_
    refine lv_aload_n hx hb dX4_gainOf_10 rfl (lv_at hl 0 rfl) ?_
    refine va_get (D := (dC, dI)) (ci := 5) (v := .int (uS.1 1)) (C := RX4) (T := TX4) (N := 11) hx hb ht inX4 hown hK hP 2 rfl rfl 1 (by decide) (ht _ kw_197) (fun _ h9 => h9) rfl dX4_gainOf_11 ?_
    refine lv_icmp_lt (tgt := 19) hx hb dX4_gainOf_14 (by decide) (fun c3 => ?_) (fun c3 => ?_)
    · have hm := ite_t c3 hm
      refine lv_iload_n hx hb dX4_gainOf_19 rfl (lv_at hl 2 rfl) ?_
      refine lv_i2l hx hb dX4_gainOf_20 rfl ?_
      refine lv_aload_n hx hb dX4_gainOf_21 rfl (lv_at hl 3 rfl) ?_
      refine lv_aload_n hx hb dX4_gainOf_22 rfl (lv_at hl 0 rfl) ?_
      refine va_get (D := (dC, dI)) (ci := 5) (v := .ref (jS 3)) (C := RX4) (T := TX4) (N := 11) hx hb ht inX4 hown hK hP 2 rfl rfl 3 (by decide) (ht _ kw_189) (fun _ h9 => h9) rfl dX4_gainOf_23 ?_
      refine lv_iload_n hx hb dX4_gainOf_26 rfl (lv_at hl 1 rfl) ?_
      obtain ⟨g4, hm⟩ := gdi_of hm
      refine va_iald hx hb hK hP 3 0 rfl rfl g4 dX4_gainOf_27 ?_
      refine lv_iconst (v := (1 : Int32)) hx hb dX4_gainOf_28 (by decide) ?_
      refine lv_iadd hx hb dX4_gainOf_29 ?_
      have hPc : va_P (dC, dI) vwCl ([wL cI cJ aL jL uL] : List va_W).flatten _ := hP.subF [0] rfl
      have hDc : va_D A ([wL cI cJ aL jL uL] : List va_W).flatten := hD.subF [0] (by decide) rfl
      have hFc := va_freeF (fc := ([wL cI cJ aL jL uL] : List va_W)) hD hS hA [0] rfl
      obtain ⟨u5o, r6o, e7, hm⟩ := oC2_of hm
      refine va_calll (va_runV (As := [.int ((uS.2.1 3 (p1).toNatClampNeg) + (1 : Int32))]) (rest := [.long (p2).toInt64]) ⟨hx, hb, hml, hown, ht⟩ (c_X0_of l dC dI cI cJ aL jL H.size uL ((uS.2.1 3 (p1).toNatClampNeg) + (1 : Int32)) (u5o, r6o) e7) (cwV 1 ht (gdV kw_339 kw_337 kw_338 kw_164 kw_336) rfl rfl rfl ⟨rfl, nd_X0_of⟩ ⟨Nat.le_of_ble_eq_true rfl, Nat.le_of_ble_eq_true rfl⟩) ⟨pcW_blind, va_recv hK hPc (ci := 1) (q0 := 0) rfl rfl, pcW_pre hPc hK hDc hN⟩ rfl rfl hl.1 rfl (lv_room (Nat.le_of_ble_eq_true rfl)) dX4_gainOf_30 ⟨Nat.zero_le _, Nat.zero_le _⟩) hS (fun q _ z => hFc q z) hFc (fun r6 uu t H1 locs ht1 hvm hw hB hz1 hk1 hS => ?_)
      obtain ⟨u5, rfl⟩ : ∃ z, z = uu := ⟨_, rfl⟩
      obtain ⟨hP1, hD1⟩ := hB
      rw [ht1] at hP1
      obtain ⟨q0, q1⟩ := inj2 hw
      subst q0
      subst q1
      obtain ⟨hP, hD⟩ := va_joinF (fr := ([wS cI cJ aS jS uS] : List va_W)) (f1 := ([wL cI cJ aL jL u5] : List va_W)) hP hD [0] [1] rfl rfl (by decide) (by decide) hk1 hFc hP1 hD1
      have hP : va_P (dC, dI) vwCl ([wL cI cJ aL jL u5, wS cI cJ aS jS uS] : List va_W).flatten H1 := hP.subF [1, 0] rfl
      have hD : va_D A ([wL cI cJ aL jL u5, wS cI cJ aS jS uS] : List va_W).flatten := hD.subF [1, 0] (by decide) rfl
      generalize H1 = H at hP hS ⊢
      refine lv_aload_n hx hb dX4_gainOf_33 rfl (lv_at hl 3 rfl) ?_
      refine lv_aload_n hx hb dX4_gainOf_34 rfl (lv_at hl 0 rfl) ?_
      refine va_get (D := (dC, dI)) (ci := 5) (v := .ref (jS 3)) (C := RX4) (T := TX4) (N := 11) hx hb ht inX4 hown hK hP 2 rfl rfl 3 (by decide) (ht _ kw_189) (fun _ h9 => h9) rfl dX4_gainOf_35 ?_
      refine lv_iload_n hx hb dX4_gainOf_38 rfl (lv_at hl 1 rfl) ?_
      obtain ⟨g8, hm⟩ := gdi_of hm
      refine va_iald hx hb hK hP 3 0 rfl rfl g8 dX4_gainOf_39 ?_
      have hPc : va_P (dC, dI) vwCl ([wL cI cJ aL jL u5] : List va_W).flatten _ := hP.subF [0] rfl
      have hDc : va_D A ([wL cI cJ aL jL u5] : List va_W).flatten := hD.subF [0] (by decide) rfl
      have hFc := va_freeF (fc := ([wL cI cJ aL jL u5] : List va_W)) hD hS hA [0] rfl
      obtain ⟨u9o, r10o, e11, hm⟩ := oC2_of hm
      refine va_calll (va_runV (As := [.int (uS.2.1 3 (p1).toNatClampNeg)]) (rest := [.long r6, .long (p2).toInt64]) ⟨hx, hb, hml, hown, ht⟩ (c_X0_of l dC dI cI cJ aL jL H.size u5 (uS.2.1 3 (p1).toNatClampNeg) (u9o, r10o) e11) (cwV 1 ht (gdV kw_339 kw_337 kw_338 kw_164 kw_336) rfl rfl rfl ⟨rfl, nd_X0_of⟩ ⟨Nat.le_of_ble_eq_true rfl, Nat.le_of_ble_eq_true rfl⟩) ⟨pcW_blind, va_recv hK hPc (ci := 1) (q0 := 0) rfl rfl, pcW_pre hPc hK hDc hN⟩ rfl rfl hl.1 rfl (lv_room (Nat.le_of_ble_eq_true rfl)) dX4_gainOf_40 ⟨Nat.zero_le _, Nat.zero_le _⟩) hS (fun q _ z => hFc q z) hFc (fun r10 uu t H1 locs ht1 hvm hw hB hz1 hk1 hS => ?_)
      obtain ⟨u9, rfl⟩ : ∃ z, z = uu := ⟨_, rfl⟩
      obtain ⟨hP1, hD1⟩ := hB
      rw [ht1] at hP1
      obtain ⟨q0, q1⟩ := inj2 hw
      subst q0
      subst q1
      obtain ⟨hP, hD⟩ := va_joinF (fr := ([wS cI cJ aS jS uS] : List va_W)) (f1 := ([wL cI cJ aL jL u9] : List va_W)) hP hD [0] [1] rfl rfl (by decide) (by decide) hk1 hFc hP1 hD1
      have hP : va_P (dC, dI) vwCl ([wL cI cJ aL jL u9, wS cI cJ aS jS uS] : List va_W).flatten H1 := hP.subF [1, 0] rfl
      have hD : va_D A ([wL cI cJ aL jL u9, wS cI cJ aS jS uS] : List va_W).flatten := hD.subF [1, 0] (by decide) rfl
      generalize H1 = H at hP hS ⊢
      refine lv_lsub hx hb dX4_gainOf_43 ?_
      refine lv_lmul hx hb dX4_gainOf_44 ?_
      rw [← hQ]
      exact W.lret (v := ((p2).toInt64 * (r6 - r10))) hx hb hr (fun t ht1 hW => ⟨⟨_, u9, rfl, hm, by rw [ht1]; exact hP, hD⟩, hS.F ht1⟩) hS.2.2 dX4_gainOf_45
    · have hm := ite_f c3 hm
      refine lv_lconst (v := (0 : Int64)) hx hb dX4_gainOf_17 (by decide) ?_
      rw [← hQ]
      exact W.lret (v := (0 : Int64)) hx hb hr (fun t ht1 hW => ⟨⟨_, uL, rfl, hm, by rw [ht1]; exact hP, hD⟩, hS.F ht1⟩) hS.2.2 dX4_gainOf_18

def f_X4_greatestGain_L4 (uS : OS) : Nat → (Int32 → Int32 → Option (Int32)) → Int32 → Int32 → Option (Int32)
  | 0, _, _, _ => none
  | n4 + 1, K34_5, x1, x2 =>
    if (32 : Int32) ≤ x1 then (
    K34_5 x2 x1) else (
    gdi x1 32 <|
    gdi x2 32 <|
    if (uS.2.2.1 5 (x1).toNatClampNeg) ≤ (uS.2.2.1 5 (x2).toNatClampNeg) then (
    bnd (x1 + (1 : Int32)) fun x10 =>
    f_X4_greatestGain_L4 uS n4 K34_5 x10 x2) else (
    bnd (x1 + (1 : Int32)) fun x11 =>
    f_X4_greatestGain_L4 uS n4 K34_5 x11 x1))

def f_X4_greatestGain (uS : OS) : Option (Int32) :=
  bnd (fun (x3 : Int32) (x4 : Int32) =>
  some x3) fun K34_5 =>
  f_X4_greatestGain_L4 uS FU K34_5 (1 : Int32) (0 : Int32)

set_option maxHeartbeats 4000000 in
set_option maxRecDepth 100000 in
theorem c_X4_greatestGain (l : Launch) (dC : Nat → ClassId) (dI : Nat → Nat → Nat) (cI cJ : ClassId) (aS : Nat) (jS : Nat → Nat) (sz : Nat) (uS : OS) (o : Int32) (hm : f_X4_greatestGain uS = some o) : Met l yX4_greatestGain (wq yX4_greatestGain cX4_greatestGain 3 (some .int)) ({ frames := 0, cells := 0, slots := 0, locals := 0 } : Room) (va_Pc [.ref aS] (pcW dC dI cI cJ sz ([wS cI cJ aS jS uS] : List va_W).flatten)) (va_Qi (S := Unit) (fun r u => some r = some o) (fun (u : Unit) t => va_P (dC, dI) vwCl ([wS cI cJ aS jS uS] : List va_W).flatten t.heap ∧ va_D (va_A ([wS cI cJ aS jS uS] : List va_W).flatten sz) ([wS cI cJ aS jS uS] : List va_W).flatten) (va_A ([wS cI cJ aS jS uS] : List va_W).flatten sz)) 0 0 (va_A ([wS cI cJ aS jS uS] : List va_W).flatten sz) := by
  refine Met.ofW (cc := cX4_greatestGain) (maxL := 3) (ret := (some .int)) (by decide) rfl ?_
  intro p e s m args below meth c s₁ B hml hv
  obtain ⟨rfl, hsz, hP, hK, hD0, hN⟩ := hv
  have hx := B.exec
  have hb := B.bytes
  have hr := B.returns
  have ht : ∀ w ∈ lw_good, w.before _ s = true := fun w h => atoms_spec (ws := wq yX4_greatestGain cX4_greatestGain 3 (some .int)) B.pre w (wq_mem h)
  have hown : s.vm.findClass RX4 = some m.cls := findClass_of_methodNamed B.named
  have hlocks := B.notSynchronized
  subst hsz
  have hD := hD0.self (sz := s.heap.size)
  generalize hAe : va_A ([wS cI cJ aS jS uS] : List va_W).flatten s.heap.size = A at hD ⊢
  have hA : ∀ q : Nat, s.heap.size ≤ q → A q := fun q h => by rw [← hAe]; exact Or.inr h
  have hS : va_S A s.heap s.heap [] := va_S.rf
  have hl := lv_entry ([.ref aS]) (n := 3) (Nat.le_of_ble_eq_true rfl)
  rw [lg_entry_eq]
  generalize (lg_sl ([.ref aS]) ++ List.replicate (3 - (lg_sl ([.ref aS])).length) Slot.unset).toArray = ls at hl ⊢
  have hl : lv_has ls 3 [(0, .ref aS)] := hl
  generalize hQ : MQ below _ _ s _ _ _ = Q
  generalize hH : s.heap = H at hP ⊢
  have hS : va_S A s.heap H [] := by rw [← hH]; exact va_S.rf
  show W p l e ({ frames := 0, cells := 0, slots := 0, locals := 0 } : Room) s m ([.ref aS] : List Value).toArray below meth c H [] 0 0 Q (F0 m 0 ls [])
  unfold f_X4_greatestGain at hm
  refine lv_iconst (v := (0 : Int32)) hx hb dX4_greatestGain_0 (by decide) ?_
  refine lv_istore_n (lv' := [(1, .int (0 : Int32)), (0, .ref aS)]) hx hb dX4_greatestGain_1 rfl hl (by decide) rfl (fun ls hl => ?_)
  refine lv_iconst (v := (1 : Int32)) hx hb dX4_greatestGain_2 (by decide) ?_
  refine lv_istore_n (lv' := [(2, .int (1 : Int32)), (1, .int (0 : Int32)), (0, .ref aS)]) hx hb dX4_greatestGain_3 rfl hl (by decide) rfl (fun ls hl => ?_)
  obtain ⟨K34_5, eK34_5, hm⟩ := bnd_ex hm
  have X34_5 : ∀ (x3 : Int32) (x4 : Int32) (H : Heap) (locs : List Loc) (ls : Array Slot), K34_5 x3 x4 = some o → va_P (dC, dI) vwCl ([wS cI cJ aS jS uS] : List va_W).flatten H → va_D A ([wS cI cJ aS jS uS] : List va_W).flatten → va_S A s.heap H locs → lv_has ls 3 [(0, .ref aS), (1, .int x3), (2, .int x4)] → W p l e ({ frames := 0, cells := 0, slots := 0, locals := 0 } : Room) s m ([.ref aS] : List Value).toArray below meth c H locs 0 0 Q (F0 m 34 ls []) := by
    intro x3 x4 H locs ls hm hP hD hS hl
    have hm := ap2 eK34_5 hm
    refine lv_iload_n hx hb dX4_greatestGain_34 rfl (lv_at hl 1 rfl) ?_
    rw [← hQ]
    exact W.iret (v := x3) hx hb hr (fun t ht1 hW => ⟨⟨_, (), rfl, hm, by rw [ht1]; exact hP, hD⟩, hS.F ht1⟩) hS.2.2 dX4_greatestGain_35
  have LP4 : ∀ (n4 : Nat) (x1 : Int32) (x2 : Int32) (H : Heap) (locs : List Loc) (ls : Array Slot), f_X4_greatestGain_L4 uS n4 K34_5 x1 x2 = some o → va_P (dC, dI) vwCl ([wS cI cJ aS jS uS] : List va_W).flatten H → va_D A ([wS cI cJ aS jS uS] : List va_W).flatten → va_S A s.heap H locs → lv_has ls 3 [(0, .ref aS), (1, .int x2), (2, .int x1)] → W p l e ({ frames := 0, cells := 0, slots := 0, locals := 0 } : Room) s m ([.ref aS] : List Value).toArray below meth c H locs 0 0 Q (F0 m 4 ls []) := by
    intro n4
    induction n4 with
    | zero => intro x1 x2 H locs ls hm; exact nomatch (show (none : Option _) = some _ from hm)
    | succ n4 ih4 =>
      intro x1 x2 H locs ls hm hP hD hS hl
      unfold f_X4_greatestGain_L4 at hm
      refine lv_iload_n hx hb dX4_greatestGain_4 rfl (lv_at hl 2 rfl) ?_
      refine lv_bipush (v := (32 : Int32)) hx hb dX4_greatestGain_5 (by decide) ?_
      refine lv_icmp_ge (tgt := 34) hx hb dX4_greatestGain_7 (by decide) (fun c6 => ?_) (fun c6 => ?_)
      · have hm := ite_t c6 hm
        exact X34_5 x2 x1 _ _ _ hm hP hD hS (lv_sub hl [0, 1, 2] rfl)
      · have hm := ite_f c6 hm
        refine lv_aload_n hx hb dX4_greatestGain_10 rfl (lv_at hl 0 rfl) ?_
        refine va_get (D := (dC, dI)) (ci := 5) (v := .ref (jS 5)) (C := RX4) (T := TX4) (N := 11) hx hb ht inX4 hown hK hP 0 rfl rfl 5 (by decide) (ht _ kw_335) (fun _ h9 => h9) rfl dX4_greatestGain_11 ?_
        refine lv_iload_n hx hb dX4_greatestGain_14 rfl (lv_at hl 2 rfl) ?_
        obtain ⟨g7, hm⟩ := gdi_of hm
        refine va_lald hx hb hK hP 3 1 rfl rfl g7 dX4_greatestGain_15 ?_
        refine lv_aload_n hx hb dX4_greatestGain_16 rfl (lv_at hl 0 rfl) ?_
        refine va_get (D := (dC, dI)) (ci := 5) (v := .ref (jS 5)) (C := RX4) (T := TX4) (N := 11) hx hb ht inX4 hown hK hP 0 rfl rfl 5 (by decide) (ht _ kw_335) (fun _ h9 => h9) rfl dX4_greatestGain_17 ?_
        refine lv_iload_n hx hb dX4_greatestGain_20 rfl (lv_at hl 1 rfl) ?_
        obtain ⟨g8, hm⟩ := gdi_of hm
        refine va_lald hx hb hK hP 3 1 rfl rfl g8 dX4_greatestGain_21 ?_
        refine W.lcmp hx hb dX4_greatestGain_22 ?_
        refine lv_if_le (tgt := 28) hx hb dX4_greatestGain_23 (by decide) (fun c9 => ?_) (fun c9 => ?_)
        · have c9 := lgc_le.mp c9
          have hm := ite_t c9 hm
          obtain ⟨x10, ex10, hm⟩ := bnd_ex hm
          refine lv_iinc (v := x10) (lv' := [(2, .int x10), (0, .ref aS), (1, .int x2)]) hx hb dX4_greatestGain_28 hl (k := 2) rfl (by rw [ex10]; exact congrArg _ (by decide)) (by decide) rfl (fun ls hl => ?_)
          refine lv_goto (tgt := 4) hx hb dX4_greatestGain_31 (by decide) ?_
          exact ih4 x10 x2 _ _ _ hm hP hD hS (lv_sub hl [1, 2, 0] rfl)
        · have c9 := mt lgc_le.mpr c9
          have hm := ite_f c9 hm
          refine lv_iload_n hx hb dX4_greatestGain_26 rfl (lv_at hl 2 rfl) ?_
          refine lv_istore_n (lv' := [(1, .int x1), (0, .ref aS), (2, .int x1)]) hx hb dX4_greatestGain_27 rfl hl (by decide) rfl (fun ls hl => ?_)
          obtain ⟨x11, ex11, hm⟩ := bnd_ex hm
          refine lv_iinc (v := x11) (lv' := [(2, .int x11), (1, .int x1), (0, .ref aS)]) hx hb dX4_greatestGain_28 hl (k := 2) rfl (by rw [ex11]; exact congrArg _ (by decide)) (by decide) rfl (fun ls hl => ?_)
          refine lv_goto (tgt := 4) hx hb dX4_greatestGain_31 (by decide) ?_
          exact ih4 x11 x1 _ _ _ hm hP hD hS (lv_sub hl [2, 1, 0] rfl)
  exact LP4 FU (1 : Int32) (0 : Int32) _ _ _ hm hP hD hS (lv_sub hl [2, 1, 0] rfl)

def f_X4_makeOf_L84 (uA : OS) : Nat → (Int32 → OS → OS → Option (OS × OS)) → Int32 → OS → OS → Option (OS × OS)
  | 0, _, _, _, _ => none
  | n84 + 1, K145_19, x13, u14, u15 =>
    if (u14.1 1) ≤ x13 then (
    K145_19 x13 u14 u15) else (
    oC1 (f_X4_greatestGain u14) fun r23 =>
    gdi r23 32 <|
    gdi r23 32 <|
    bnd (sA u14 3 r23 ((u14.2.1 3 (r23).toNatClampNeg) + (1 : Int32))) fun u27 =>
    if (nI (uA.2.2.2 0)) ≤ r23 then (
    oC2 (f_X4_gainOf u15 u27 r23 (0 : Int32)) fun u29 r30 =>
    gdi r23 32 <|
    bnd (sL u27 5 r23 r30) fun u33 =>
    bnd (x13 + (1 : Int32)) fun x34 =>
    f_X4_makeOf_L84 uA n84 K145_19 x34 u33 u29) else (
    gdi r23 (uA.2.2.2 0) <|
    oC2 (f_X4_gainOf u15 u27 r23 (uA.2.1 0 (r23).toNatClampNeg)) fun u36 r37 =>
    gdi r23 32 <|
    bnd (sL u27 5 r23 r37) fun u40 =>
    bnd (x13 + (1 : Int32)) fun x41 =>
    f_X4_makeOf_L84 uA n84 K145_19 x41 u40 u36))

def f_X4_makeOf_L9 (uA : OS) : Nat → (Int32 → Int32 → OS → OS → Option (OS × OS)) → Int32 → Int32 → OS → OS → Option (OS × OS)
  | 0, _, _, _, _, _ => none
  | n9 + 1, K76_11, x3, x4, u5, u6 =>
    if (32 : Int32) ≤ x3 then (
    K76_11 x4 x3 u5 u6) else (
    if (nI (uA.2.2.2 0)) ≤ x3 then (
    K76_11 x4 x3 u5 u6) else (
    gdi x3 (uA.2.2.2 0) <|
    bnd (fun (x45 : Int32) =>
    gdi x3 32 <|
    bnd (sA u5 3 x3 x45) fun u48 =>
    gdi x3 (uA.2.2.2 0) <|
    oC2 (f_X4_gainOf u6 u48 x3 (uA.2.1 0 (x3).toNatClampNeg)) fun u50 r51 =>
    gdi x3 32 <|
    bnd (sL u48 5 x3 r51) fun u54 =>
    gdi x3 32 <|
    bnd (x4 + (u54.2.1 3 (x3).toNatClampNeg)) fun x56 =>
    bnd (x3 + (1 : Int32)) fun x57 =>
    f_X4_makeOf_L9 uA n9 K76_11 x57 x56 u54 u50) fun K41_46 =>
    if (uA.2.1 0 (x3).toNatClampNeg) ≤ (0 : Int32) then (
    K41_46 (0 : Int32)) else (
    K41_46 (1 : Int32))))

def f_X4_makeOf (uL : OS) (uS : OS) (uA : OS) : Option (OS × OS) :=
  oC1 (f_X4_forget uS) fun u1 =>
  bnd (fun (x7 : Int32) (x8 : Int32) (u9 : OS) (u10 : OS) =>
  if x7 = (0 : Int32) then (
  some (u10, u9)) else (
  bnd (fun (x16 : Int32) (u17 : OS) (u18 : OS) =>
  oC1 (f_X4_finish u17) fun u20 =>
  some (u18, u20)) fun K145_19 =>
  f_X4_makeOf_L84 uA FU K145_19 x7 u9 u10)) fun K76_11 =>
  f_X4_makeOf_L9 uA FU K76_11 (0 : Int32) (0 : Int32) u1 uL

set_option maxHeartbeats 4000000 in
set_option maxRecDepth 100000 in
theorem c_X4_makeOf (l : Launch) (dC : Nat → ClassId) (dI : Nat → Nat → Nat) (cI cJ : ClassId) (aL : Nat) (jL : Nat → Nat) (aS : Nat) (jS : Nat → Nat) (jA : Nat → Nat) (sz : Nat) (uL : OS) (uS : OS) (uA : OS) (o : OS × OS) (hm : f_X4_makeOf uL uS uA = some o) : Met l yX4_makeOf (wq yX4_makeOf cX4_makeOf 6 none) ({ frames := 4, cells := 0, slots := 0, locals := 93 } : Room) (va_Pc [.ref aS, .ref (jA 0), .ref aL] (pcW dC dI cI cJ sz ([wL cI cJ aL jL uL, wS cI cJ aS jS uS, wA cI cJ jA uA] : List va_W).flatten)) (va_Qv (S := OS × OS) (fun u => some (u.1, u.2) = some o) (fun (u : OS × OS) t => va_P (dC, dI) vwCl ([wL cI cJ aL jL u.1, wS cI cJ aS jS u.2, wA cI cJ jA uA] : List va_W).flatten t.heap ∧ va_D (va_A ([wL cI cJ aL jL uL, wS cI cJ aS jS uS, wA cI cJ jA uA] : List va_W).flatten sz) ([wL cI cJ aL jL u.1, wS cI cJ aS jS u.2, wA cI cJ jA uA] : List va_W).flatten) (va_A ([wL cI cJ aL jL uL, wS cI cJ aS jS uS, wA cI cJ jA uA] : List va_W).flatten sz)) 0 0 (va_A ([wL cI cJ aL jL uL, wS cI cJ aS jS uS, wA cI cJ jA uA] : List va_W).flatten sz) := by
  refine Met.ofW (cc := cX4_makeOf) (maxL := 6) (ret := none) (by decide) rfl ?_
  intro p e s m args below meth c s₁ B hml hv
  obtain ⟨rfl, hsz, hP, hK, hD0, hN⟩ := hv
  have hx := B.exec
  have hb := B.bytes
  have hr := B.returns
  have ht : ∀ w ∈ lw_good, w.before _ s = true := fun w h => atoms_spec (ws := wq yX4_makeOf cX4_makeOf 6 none) B.pre w (wq_mem h)
  have hown : s.vm.findClass RX4 = some m.cls := findClass_of_methodNamed B.named
  have hlocks := B.notSynchronized
  subst hsz
  have hD := hD0.self (sz := s.heap.size)
  generalize hAe : va_A ([wL cI cJ aL jL uL, wS cI cJ aS jS uS, wA cI cJ jA uA] : List va_W).flatten s.heap.size = A at hD ⊢
  have hA : ∀ q : Nat, s.heap.size ≤ q → A q := fun q h => by rw [← hAe]; exact Or.inr h
  have hS : va_S A s.heap s.heap [] := va_S.rf
  have hl := lv_entry ([.ref aS, .ref (jA 0), .ref aL]) (n := 6) (Nat.le_of_ble_eq_true rfl)
  rw [lg_entry_eq]
  generalize (lg_sl ([.ref aS, .ref (jA 0), .ref aL]) ++ List.replicate (6 - (lg_sl ([.ref aS, .ref (jA 0), .ref aL])).length) Slot.unset).toArray = ls at hl ⊢
  have hl : lv_has ls 6 [(0, .ref aS), (1, .ref (jA 0)), (2, .ref aL)] := hl
  generalize hQ : MQ below _ _ s _ _ _ = Q
  generalize hH : s.heap = H at hP ⊢
  have hS : va_S A s.heap H [] := by rw [← hH]; exact va_S.rf
  show W p l e ({ frames := 4, cells := 0, slots := 0, locals := 93 } : Room) s m ([.ref aS, .ref (jA 0), .ref aL] : List Value).toArray below meth c H [] 0 0 Q (F0 m 0 ls [])
  unfold f_X4_makeOf at hm
  refine lv_aload_n hx hb dX4_makeOf_0 rfl (lv_at hl 0 rfl) ?_
  have hPc : va_P (dC, dI) vwCl ([wS cI cJ aS jS uS] : List va_W).flatten _ := hP.subF [1] rfl
  have hDc : va_D A ([wS cI cJ aS jS uS] : List va_W).flatten := hD.subF [1] (by decide) rfl
  have hFc := va_freeF (fc := ([wS cI cJ aS jS uS] : List va_W)) hD hS hA [1] rfl
  obtain ⟨u1o, e2, hm⟩ := oC1_of hm
  refine va_callv (va_runV (As := []) (rest := []) ⟨hx, hb, hml, hown, ht⟩ (c_X4_forget l dC dI cI cJ aS jS H.size uS u1o e2) (cwV 0 ht (gdV kw_202 kw_200 kw_201 kw_199 kw_198) rfl rfl rfl ⟨rfl, nd_X4_forget⟩ ⟨Nat.le_of_ble_eq_true rfl, Nat.le_of_ble_eq_true rfl⟩) ⟨pcW_blind, va_recv hK hPc (ci := 5) (q0 := 0) rfl rfl, pcW_pre hPc hK hDc hN⟩ rfl rfl hl.1 rfl (lv_room (Nat.le_of_ble_eq_true rfl)) dX4_makeOf_1 ⟨Nat.zero_le _, Nat.zero_le _⟩) hS (fun q _ z => hFc q z) hFc (fun uu t H1 locs ht1 hvm hw hB hz1 hk1 hS => ?_)
  obtain ⟨u1, rfl⟩ : ∃ z, z = uu := ⟨_, rfl⟩
  obtain ⟨hP1, hD1⟩ := hB
  rw [ht1] at hP1
  obtain rfl : u1 = u1o := Option.some.inj hw
  obtain ⟨hP, hD⟩ := va_joinF (fr := ([wL cI cJ aL jL uL, wA cI cJ jA uA] : List va_W)) (f1 := ([wS cI cJ aS jS u1] : List va_W)) hP hD [1] [0, 2] rfl rfl (by decide) (by decide) hk1 hFc hP1 hD1
  have hP : va_P (dC, dI) vwCl ([wL cI cJ aL jL uL, wS cI cJ aS jS u1, wA cI cJ jA uA] : List va_W).flatten H1 := hP.subF [0, 2, 1] rfl
  have hD : va_D A ([wL cI cJ aL jL uL, wS cI cJ aS jS u1, wA cI cJ jA uA] : List va_W).flatten := hD.subF [0, 2, 1] (by decide) rfl
  generalize H1 = H at hP hS ⊢
  refine lv_iconst (v := (0 : Int32)) hx hb dX4_makeOf_4 (by decide) ?_
  refine lv_istore_n (lv' := [(3, .int (0 : Int32)), (0, .ref aS), (1, .ref (jA 0)), (2, .ref aL)]) hx hb dX4_makeOf_5 rfl hl (by decide) rfl (fun ls hl => ?_)
  refine lv_iconst (v := (0 : Int32)) hx hb dX4_makeOf_6 (by decide) ?_
  refine lv_istore (lv' := [(4, .int (0 : Int32)), (3, .int (0 : Int32)), (0, .ref aS), (1, .ref (jA 0)), (2, .ref aL)]) hx hb dX4_makeOf_7 hl (by decide) rfl (fun ls hl => ?_)
  obtain ⟨K76_11, eK76_11, hm⟩ := bnd_ex hm
  have X76_11 : ∀ (x7 : Int32) (x8 : Int32) (u9 : OS) (u10 : OS) (H : Heap) (locs : List Loc) (ls : Array Slot), K76_11 x7 x8 u9 u10 = some o → va_P (dC, dI) vwCl ([wL cI cJ aL jL u10, wS cI cJ aS jS u9, wA cI cJ jA uA] : List va_W).flatten H → va_D A ([wL cI cJ aL jL u10, wS cI cJ aS jS u9, wA cI cJ jA uA] : List va_W).flatten → va_S A s.heap H locs → lv_has ls 6 [(0, .ref aS), (1, .ref (jA 0)), (2, .ref aL), (3, .int x7), (4, .int x8)] → W p l e ({ frames := 4, cells := 0, slots := 0, locals := 93 } : Room) s m ([.ref aS, .ref (jA 0), .ref aL] : List Value).toArray below meth c H locs 0 0 Q (F0 m 76 ls []) := by
    intro x7 x8 u9 u10 H locs ls hm hP hD hS hl
    have hm := ap4 eK76_11 hm
    refine lv_iload_n hx hb dX4_makeOf_76 rfl (lv_at hl 3 rfl) ?_
    refine lv_if_ne (tgt := 81) hx hb dX4_makeOf_77 (by decide) (fun c12 => ?_) (fun c12 => ?_)
    · have hm := ite_f c12 hm
      refine lv_iload_n hx hb dX4_makeOf_81 rfl (lv_at hl 3 rfl) ?_
      refine lv_istore (lv' := [(4, .int x7), (0, .ref aS), (1, .ref (jA 0)), (2, .ref aL), (3, .int x7)]) hx hb dX4_makeOf_82 hl (by decide) rfl (fun ls hl => ?_)
      obtain ⟨K145_19, eK145_19, hm⟩ := bnd_ex hm
      have X145_19 : ∀ (x16 : Int32) (u17 : OS) (u18 : OS) (H : Heap) (locs : List Loc) (ls : Array Slot), K145_19 x16 u17 u18 = some o → va_P (dC, dI) vwCl ([wL cI cJ aL jL u18, wS cI cJ aS jS u17, wA cI cJ jA uA] : List va_W).flatten H → va_D A ([wL cI cJ aL jL u18, wS cI cJ aS jS u17, wA cI cJ jA uA] : List va_W).flatten → va_S A s.heap H locs → lv_has ls 6 [(0, .ref aS), (1, .ref (jA 0)), (2, .ref aL), (3, .int x7), (4, .int x16)] → W p l e ({ frames := 4, cells := 0, slots := 0, locals := 93 } : Room) s m ([.ref aS, .ref (jA 0), .ref aL] : List Value).toArray below meth c H locs 0 0 Q (F0 m 145 ls []) := by
        intro x16 u17 u18 H locs ls hm hP hD hS hl
        have hm := ap3 eK145_19 hm
        refine lv_aload_n hx hb dX4_makeOf_145 rfl (lv_at hl 0 rfl) ?_
        have hPc : va_P (dC, dI) vwCl ([wS cI cJ aS jS u17] : List va_W).flatten _ := hP.subF [1] rfl
        have hDc : va_D A ([wS cI cJ aS jS u17] : List va_W).flatten := hD.subF [1] (by decide) rfl
        have hFc := va_freeF (fc := ([wS cI cJ aS jS u17] : List va_W)) hD hS hA [1] rfl
        obtain ⟨u20o, e21, hm⟩ := oC1_of hm
        refine va_callv (va_runV (As := []) (rest := []) ⟨hx, hb, hml, hown, ht⟩ (c_X4_finish l dC dI cI cJ aS jS H.size u17 u20o e21) (cwV 0 ht (gdV kw_340 kw_222 kw_223 kw_199 kw_221) rfl rfl rfl ⟨rfl, nd_X4_finish⟩ ⟨Nat.le_of_ble_eq_true rfl, Nat.le_of_ble_eq_true rfl⟩) ⟨pcW_blind, va_recv hK hPc (ci := 5) (q0 := 0) rfl rfl, pcW_pre hPc hK hDc hN⟩ rfl rfl hl.1 rfl (lv_room (Nat.le_of_ble_eq_true rfl)) dX4_makeOf_146 ⟨Nat.zero_le _, Nat.zero_le _⟩) hS (fun q _ z => hFc q z) hFc (fun uu t H1 locs ht1 hvm hw hB hz1 hk1 hS => ?_)
        obtain ⟨u20, rfl⟩ : ∃ z, z = uu := ⟨_, rfl⟩
        obtain ⟨hP1, hD1⟩ := hB
        rw [ht1] at hP1
        obtain rfl : u20 = u20o := Option.some.inj hw
        obtain ⟨hP, hD⟩ := va_joinF (fr := ([wL cI cJ aL jL u18, wA cI cJ jA uA] : List va_W)) (f1 := ([wS cI cJ aS jS u20] : List va_W)) hP hD [1] [0, 2] rfl rfl (by decide) (by decide) hk1 hFc hP1 hD1
        have hP : va_P (dC, dI) vwCl ([wL cI cJ aL jL u18, wS cI cJ aS jS u20, wA cI cJ jA uA] : List va_W).flatten H1 := hP.subF [0, 2, 1] rfl
        have hD : va_D A ([wL cI cJ aL jL u18, wS cI cJ aS jS u20, wA cI cJ jA uA] : List va_W).flatten := hD.subF [0, 2, 1] (by decide) rfl
        generalize H1 = H at hP hS ⊢
        rw [← hQ]
        exact W.vret hx hb hr (fun t ht1 hW => ⟨⟨(u18, u20), rfl, hm, by rw [ht1]; exact hP, hD⟩, hS.F ht1⟩) hS.2.2 dX4_makeOf_149
      have LP84 : ∀ (n84 : Nat) (x13 : Int32) (u14 : OS) (u15 : OS) (H : Heap) (locs : List Loc) (ls : Array Slot), f_X4_makeOf_L84 uA n84 K145_19 x13 u14 u15 = some o → va_P (dC, dI) vwCl ([wL cI cJ aL jL u15, wS cI cJ aS jS u14, wA cI cJ jA uA] : List va_W).flatten H → va_D A ([wL cI cJ aL jL u15, wS cI cJ aS jS u14, wA cI cJ jA uA] : List va_W).flatten → va_S A s.heap H locs → lv_has ls 6 [(0, .ref aS), (1, .ref (jA 0)), (2, .ref aL), (3, .int x7), (4, .int x13)] → W p l e ({ frames := 4, cells := 0, slots := 0, locals := 93 } : Room) s m ([.ref aS, .ref (jA 0), .ref aL] : List Value).toArray below meth c H locs 0 0 Q (F0 m 84 ls []) := by
        intro n84
        induction n84 with
        | zero => intro x13 u14 u15 H locs ls hm; exact nomatch (show (none : Option _) = some _ from hm)
        | succ n84 ih84 =>
          intro x13 u14 u15 H locs ls hm hP hD hS hl
          unfold f_X4_makeOf_L84 at hm
          refine lv_iload hx hb dX4_makeOf_84 (lv_at hl 4 rfl) ?_
          refine lv_aload_n hx hb dX4_makeOf_86 rfl (lv_at hl 0 rfl) ?_
          refine va_get (D := (dC, dI)) (ci := 5) (v := .int (u14.1 1)) (C := RX4) (T := TX4) (N := 11) hx hb ht inX4 hown hK hP 2 rfl rfl 1 (by decide) (ht _ kw_197) (fun _ h9 => h9) rfl dX4_makeOf_87 ?_
          refine lv_icmp_ge (tgt := 145) hx hb dX4_makeOf_90 (by decide) (fun c22 => ?_) (fun c22 => ?_)
          · have hm := ite_t c22 hm
            exact X145_19 x13 u14 u15 _ _ _ hm hP hD hS (lv_sub hl [0, 1, 2, 3, 4] rfl)
          · have hm := ite_f c22 hm
            refine lv_aload_n hx hb dX4_makeOf_93 rfl (lv_at hl 0 rfl) ?_
            have hPc : va_P (dC, dI) vwCl ([wS cI cJ aS jS u14] : List va_W).flatten _ := hP.subF [1] rfl
            have hDc : va_D A ([wS cI cJ aS jS u14] : List va_W).flatten := hD.subF [1] (by decide) rfl
            have hFc := va_freeF (fc := ([wS cI cJ aS jS u14] : List va_W)) hD hS hA [1] rfl
            obtain ⟨r23o, e24, hm⟩ := oC1_of hm
            refine va_calli (va_runV (As := []) (rest := []) ⟨hx, hb, hml, hown, ht⟩ (c_X4_greatestGain l dC dI cI cJ aS jS H.size u14 r23o e24) (cwV 0 ht (gdV kw_344 kw_342 kw_343 kw_199 kw_341) rfl rfl rfl ⟨rfl, nd_X4_greatestGain⟩ ⟨Nat.le_of_ble_eq_true rfl, Nat.le_of_ble_eq_true rfl⟩) ⟨pcW_blind, va_recv hK hPc (ci := 5) (q0 := 0) rfl rfl, pcW_pre hPc hK hDc hN⟩ rfl rfl hl.1 rfl (lv_room (Nat.le_of_ble_eq_true rfl)) dX4_makeOf_94 ⟨Nat.zero_le _, Nat.zero_le _⟩) hS (fun q _ z => hFc q z) hFc (fun r23 uu t H1 locs ht1 hvm hw hB hz1 hk1 hS => ?_)
            obtain ⟨⟩ := uu
            obtain ⟨hP1, hD1⟩ := hB
            rw [ht1] at hP1
            obtain rfl : r23 = r23o := Option.some.inj hw
            obtain ⟨hP, hD⟩ := va_joinF (fr := ([wL cI cJ aL jL u15, wA cI cJ jA uA] : List va_W)) (f1 := ([wS cI cJ aS jS u14] : List va_W)) hP hD [1] [0, 2] rfl rfl (by decide) (by decide) hk1 hFc hP1 hD1
            have hP : va_P (dC, dI) vwCl ([wL cI cJ aL jL u15, wS cI cJ aS jS u14, wA cI cJ jA uA] : List va_W).flatten H1 := hP.subF [0, 2, 1] rfl
            have hD : va_D A ([wL cI cJ aL jL u15, wS cI cJ aS jS u14, wA cI cJ jA uA] : List va_W).flatten := hD.subF [0, 2, 1] (by decide) rfl
            generalize H1 = H at hP hS ⊢
            refine lv_istore (lv' := [(5, .int r23), (0, .ref aS), (1, .ref (jA 0)), (2, .ref aL), (3, .int x7), (4, .int x13)]) hx hb dX4_makeOf_97 hl (by decide) rfl (fun ls hl => ?_)
            refine lv_aload_n hx hb dX4_makeOf_99 rfl (lv_at hl 1 rfl) ?_
            refine va_get (D := (dC, dI)) (ci := 5) (v := .ref (jS 3)) (C := RX4) (T := TX4) (N := 11) hx hb ht inX4 hown hK hP 2 rfl rfl 3 (by decide) (ht _ kw_189) (fun _ h9 => h9) rfl dX4_makeOf_100 ?_
            refine lv_iload hx hb dX4_makeOf_103 (lv_at hl 0 rfl) ?_
            refine lv_dup2_11 hx hb dX4_makeOf_105 rfl rfl ?_
            obtain ⟨g25, hm⟩ := gdi_of hm
            refine va_iald hx hb hK hP 3 0 rfl rfl g25 dX4_makeOf_106 ?_
            refine lv_iconst (v := (1 : Int32)) hx hb dX4_makeOf_107 (by decide) ?_
            refine lv_iadd hx hb dX4_makeOf_108 ?_
            obtain ⟨g26, hm⟩ := gdi_of hm
            refine va_iast hx hb hK hP hD hS 3 0 rfl rfl g26 dX4_makeOf_109 (fun H locs hP hD hS => ?_)
            obtain ⟨u27, eu27, hm⟩ := bnd_ex hm
            have hP : va_P (dC, dI) vwCl ([wL cI cJ aL jL u15, wS cI cJ aS jS u27, wA cI cJ jA uA] : List va_W).flatten H := by rw [eu27]; exact hP
            have hD : va_D A ([wL cI cJ aL jL u15, wS cI cJ aS jS u27, wA cI cJ jA uA] : List va_W).flatten := by rw [eu27]; exact hD
            refine lv_aload_n hx hb dX4_makeOf_110 rfl (lv_at hl 1 rfl) ?_
            refine va_get (D := (dC, dI)) (ci := 5) (v := .ref (jS 5)) (C := RX4) (T := TX4) (N := 11) hx hb ht inX4 hown hK hP 2 rfl rfl 5 (by decide) (ht _ kw_335) (fun _ h9 => h9) rfl dX4_makeOf_111 ?_
            refine lv_iload hx hb dX4_makeOf_114 (lv_at hl 0 rfl) ?_
            refine lv_aload_n hx hb dX4_makeOf_116 rfl (lv_at hl 1 rfl) ?_
            refine lv_iload hx hb dX4_makeOf_117 (lv_at hl 0 rfl) ?_
            refine lv_iload hx hb dX4_makeOf_119 (lv_at hl 0 rfl) ?_
            refine lv_aload_n hx hb dX4_makeOf_121 rfl (lv_at hl 2 rfl) ?_
            refine va_alen (v := (nI (uA.2.2.2 0))) hx hb hK hP 10 0 rfl rfl rfl dX4_makeOf_122 ?_
            refine lv_icmp_ge (tgt := 133) hx hb dX4_makeOf_123 (by decide) (fun c28 => ?_) (fun c28 => ?_)
            · have hm := ite_t c28 hm
              refine lv_iconst (v := (0 : Int32)) hx hb dX4_makeOf_133 (by decide) ?_
              refine lv_aload_n hx hb dX4_makeOf_134 rfl (lv_at hl 3 rfl) ?_
              have hPc : va_P (dC, dI) vwCl ([wL cI cJ aL jL u15, wS cI cJ aS jS u27] : List va_W).flatten _ := hP.subF [0, 1] rfl
              have hDc : va_D A ([wL cI cJ aL jL u15, wS cI cJ aS jS u27] : List va_W).flatten := hD.subF [0, 1] (by decide) rfl
              have hFc := va_freeF (fc := ([wL cI cJ aL jL u15, wS cI cJ aS jS u27] : List va_W)) hD hS hA [0, 1] rfl
              obtain ⟨u29o, r30o, e31, hm⟩ := oC2_of hm
              refine va_calll (va_runV (As := [.int r23, .int (0 : Int32), .ref aL]) (rest := [.int r23, .ref (jS 5)]) ⟨hx, hb, hml, hown, ht⟩ (c_X4_gainOf l dC dI cI cJ aL jL aS jS H.size u15 u27 r23 (0 : Int32) (u29o, r30o) e31) (cwV 3 ht (gdV kw_348 kw_346 kw_347 kw_199 kw_345) rfl rfl rfl ⟨rfl, nd_X4_gainOf⟩ ⟨Nat.le_of_ble_eq_true rfl, Nat.le_of_ble_eq_true rfl⟩) ⟨pcW_blind, va_recv hK hP (ci := 5) (q0 := 2) rfl rfl, pcW_pre hPc hK hDc hN⟩ rfl rfl hl.1 rfl (lv_room (Nat.le_of_ble_eq_true rfl)) dX4_makeOf_135 ⟨Nat.zero_le _, Nat.zero_le _⟩) hS (fun q _ z => hFc q z) hFc (fun r30 uu t H1 locs ht1 hvm hw hB hz1 hk1 hS => ?_)
              obtain ⟨u29, rfl⟩ : ∃ z, z = uu := ⟨_, rfl⟩
              obtain ⟨hP1, hD1⟩ := hB
              rw [ht1] at hP1
              obtain ⟨q0, q1⟩ := inj2 hw
              subst q0
              subst q1
              obtain ⟨hP, hD⟩ := va_joinF (fr := ([wA cI cJ jA uA] : List va_W)) (f1 := ([wL cI cJ aL jL u29, wS cI cJ aS jS u27] : List va_W)) hP hD [0, 1] [2] rfl rfl (by decide) (by decide) hk1 hFc hP1 hD1
              have hP : va_P (dC, dI) vwCl ([wL cI cJ aL jL u29, wS cI cJ aS jS u27, wA cI cJ jA uA] : List va_W).flatten H1 := hP.subF [1, 2, 0] rfl
              have hD : va_D A ([wL cI cJ aL jL u29, wS cI cJ aS jS u27, wA cI cJ jA uA] : List va_W).flatten := hD.subF [1, 2, 0] (by decide) rfl
              generalize H1 = H at hP hS ⊢
              obtain ⟨g32, hm⟩ := gdi_of hm
              refine va_last hx hb hK hP hD hS 5 1 rfl rfl g32 dX4_makeOf_138 (fun H locs hP hD hS => ?_)
              obtain ⟨u33, eu33, hm⟩ := bnd_ex hm
              have hP : va_P (dC, dI) vwCl ([wL cI cJ aL jL u29, wS cI cJ aS jS u33, wA cI cJ jA uA] : List va_W).flatten H := by rw [eu33]; exact hP
              have hD : va_D A ([wL cI cJ aL jL u29, wS cI cJ aS jS u33, wA cI cJ jA uA] : List va_W).flatten := by rw [eu33]; exact hD
              obtain ⟨x34, ex34, hm⟩ := bnd_ex hm
              refine lv_iinc (v := x34) (lv' := [(4, .int x34), (5, .int r23), (0, .ref aS), (1, .ref (jA 0)), (2, .ref aL), (3, .int x7)]) hx hb dX4_makeOf_139 hl (k := 5) rfl (by rw [ex34]; exact congrArg _ (by decide)) (by decide) rfl (fun ls hl => ?_)
              refine lv_goto (tgt := 84) hx hb dX4_makeOf_142 (by decide) ?_
              exact ih84 x34 u33 u29 _ _ _ hm hP hD hS (lv_sub hl [2, 3, 4, 5, 0] rfl)
            · have hm := ite_f c28 hm
              refine lv_aload_n hx hb dX4_makeOf_126 rfl (lv_at hl 2 rfl) ?_
              refine lv_iload hx hb dX4_makeOf_127 (lv_at hl 0 rfl) ?_
              obtain ⟨g35, hm⟩ := gdi_of hm
              refine va_iald hx hb hK hP 10 0 rfl rfl g35 dX4_makeOf_129 ?_
              refine lv_goto (tgt := 134) hx hb dX4_makeOf_130 (by decide) ?_
              refine lv_aload_n hx hb dX4_makeOf_134 rfl (lv_at hl 3 rfl) ?_
              have hPc : va_P (dC, dI) vwCl ([wL cI cJ aL jL u15, wS cI cJ aS jS u27] : List va_W).flatten _ := hP.subF [0, 1] rfl
              have hDc : va_D A ([wL cI cJ aL jL u15, wS cI cJ aS jS u27] : List va_W).flatten := hD.subF [0, 1] (by decide) rfl
              have hFc := va_freeF (fc := ([wL cI cJ aL jL u15, wS cI cJ aS jS u27] : List va_W)) hD hS hA [0, 1] rfl
              obtain ⟨u36o, r37o, e38, hm⟩ := oC2_of hm
              refine va_calll (va_runV (As := [.int r23, .int (uA.2.1 0 (r23).toNatClampNeg), .ref aL]) (rest := [.int r23, .ref (jS 5)]) ⟨hx, hb, hml, hown, ht⟩ (c_X4_gainOf l dC dI cI cJ aL jL aS jS H.size u15 u27 r23 (uA.2.1 0 (r23).toNatClampNeg) (u36o, r37o) e38) (cwV 3 ht (gdV kw_348 kw_346 kw_347 kw_199 kw_345) rfl rfl rfl ⟨rfl, nd_X4_gainOf⟩ ⟨Nat.le_of_ble_eq_true rfl, Nat.le_of_ble_eq_true rfl⟩) ⟨pcW_blind, va_recv hK hP (ci := 5) (q0 := 2) rfl rfl, pcW_pre hPc hK hDc hN⟩ rfl rfl hl.1 rfl (lv_room (Nat.le_of_ble_eq_true rfl)) dX4_makeOf_135 ⟨Nat.zero_le _, Nat.zero_le _⟩) hS (fun q _ z => hFc q z) hFc (fun r37 uu t H1 locs ht1 hvm hw hB hz1 hk1 hS => ?_)
              obtain ⟨u36, rfl⟩ : ∃ z, z = uu := ⟨_, rfl⟩
              obtain ⟨hP1, hD1⟩ := hB
              rw [ht1] at hP1
              obtain ⟨q0, q1⟩ := inj2 hw
              subst q0
              subst q1
              obtain ⟨hP, hD⟩ := va_joinF (fr := ([wA cI cJ jA uA] : List va_W)) (f1 := ([wL cI cJ aL jL u36, wS cI cJ aS jS u27] : List va_W)) hP hD [0, 1] [2] rfl rfl (by decide) (by decide) hk1 hFc hP1 hD1
              have hP : va_P (dC, dI) vwCl ([wL cI cJ aL jL u36, wS cI cJ aS jS u27, wA cI cJ jA uA] : List va_W).flatten H1 := hP.subF [1, 2, 0] rfl
              have hD : va_D A ([wL cI cJ aL jL u36, wS cI cJ aS jS u27, wA cI cJ jA uA] : List va_W).flatten := hD.subF [1, 2, 0] (by decide) rfl
              generalize H1 = H at hP hS ⊢
              obtain ⟨g39, hm⟩ := gdi_of hm
              refine va_last hx hb hK hP hD hS 5 1 rfl rfl g39 dX4_makeOf_138 (fun H locs hP hD hS => ?_)
              obtain ⟨u40, eu40, hm⟩ := bnd_ex hm
              have hP : va_P (dC, dI) vwCl ([wL cI cJ aL jL u36, wS cI cJ aS jS u40, wA cI cJ jA uA] : List va_W).flatten H := by rw [eu40]; exact hP
              have hD : va_D A ([wL cI cJ aL jL u36, wS cI cJ aS jS u40, wA cI cJ jA uA] : List va_W).flatten := by rw [eu40]; exact hD
              obtain ⟨x41, ex41, hm⟩ := bnd_ex hm
              refine lv_iinc (v := x41) (lv' := [(4, .int x41), (5, .int r23), (0, .ref aS), (1, .ref (jA 0)), (2, .ref aL), (3, .int x7)]) hx hb dX4_makeOf_139 hl (k := 5) rfl (by rw [ex41]; exact congrArg _ (by decide)) (by decide) rfl (fun ls hl => ?_)
              refine lv_goto (tgt := 84) hx hb dX4_makeOf_142 (by decide) ?_
              exact ih84 x41 u40 u36 _ _ _ hm hP hD hS (lv_sub hl [2, 3, 4, 5, 0] rfl)
      exact LP84 FU x7 u9 u10 _ _ _ hm hP hD hS (lv_sub hl [1, 2, 3, 4, 0] rfl)
    · have hm := ite_t c12 hm
      rw [← hQ]
      exact W.vret hx hb hr (fun t ht1 hW => ⟨⟨(u10, u9), rfl, hm, by rw [ht1]; exact hP, hD⟩, hS.F ht1⟩) hS.2.2 dX4_makeOf_80
  have LP9 : ∀ (n9 : Nat) (x3 : Int32) (x4 : Int32) (u5 : OS) (u6 : OS) (H : Heap) (locs : List Loc) (ls : Array Slot), f_X4_makeOf_L9 uA n9 K76_11 x3 x4 u5 u6 = some o → va_P (dC, dI) vwCl ([wL cI cJ aL jL u6, wS cI cJ aS jS u5, wA cI cJ jA uA] : List va_W).flatten H → va_D A ([wL cI cJ aL jL u6, wS cI cJ aS jS u5, wA cI cJ jA uA] : List va_W).flatten → va_S A s.heap H locs → lv_has ls 6 [(0, .ref aS), (1, .ref (jA 0)), (2, .ref aL), (3, .int x4), (4, .int x3)] → W p l e ({ frames := 4, cells := 0, slots := 0, locals := 93 } : Room) s m ([.ref aS, .ref (jA 0), .ref aL] : List Value).toArray below meth c H locs 0 0 Q (F0 m 9 ls []) := by
    intro n9
    induction n9 with
    | zero => intro x3 x4 u5 u6 H locs ls hm; exact nomatch (show (none : Option _) = some _ from hm)
    | succ n9 ih9 =>
      intro x3 x4 u5 u6 H locs ls hm hP hD hS hl
      unfold f_X4_makeOf_L9 at hm
      refine lv_iload hx hb dX4_makeOf_9 (lv_at hl 4 rfl) ?_
      refine lv_bipush (v := (32 : Int32)) hx hb dX4_makeOf_11 (by decide) ?_
      refine lv_icmp_ge (tgt := 76) hx hb dX4_makeOf_13 (by decide) (fun c42 => ?_) (fun c42 => ?_)
      · have hm := ite_t c42 hm
        exact X76_11 x4 x3 u5 u6 _ _ _ hm hP hD hS (lv_sub hl [0, 1, 2, 3, 4] rfl)
      · have hm := ite_f c42 hm
        refine lv_iload hx hb dX4_makeOf_16 (lv_at hl 4 rfl) ?_
        refine lv_aload_n hx hb dX4_makeOf_18 rfl (lv_at hl 1 rfl) ?_
        refine va_alen (v := (nI (uA.2.2.2 0))) hx hb hK hP 10 0 rfl rfl rfl dX4_makeOf_19 ?_
        refine lv_icmp_ge (tgt := 76) hx hb dX4_makeOf_20 (by decide) (fun c43 => ?_) (fun c43 => ?_)
        · have hm := ite_t c43 hm
          exact X76_11 x4 x3 u5 u6 _ _ _ hm hP hD hS (lv_sub hl [0, 1, 2, 3, 4] rfl)
        · have hm := ite_f c43 hm
          refine lv_aload_n hx hb dX4_makeOf_23 rfl (lv_at hl 0 rfl) ?_
          refine va_get (D := (dC, dI)) (ci := 5) (v := .ref (jS 3)) (C := RX4) (T := TX4) (N := 11) hx hb ht inX4 hown hK hP 2 rfl rfl 3 (by decide) (ht _ kw_189) (fun _ h9 => h9) rfl dX4_makeOf_24 ?_
          refine lv_iload hx hb dX4_makeOf_27 (lv_at hl 4 rfl) ?_
          refine lv_aload_n hx hb dX4_makeOf_29 rfl (lv_at hl 1 rfl) ?_
          refine lv_iload hx hb dX4_makeOf_30 (lv_at hl 4 rfl) ?_
          obtain ⟨g44, hm⟩ := gdi_of hm
          refine va_iald hx hb hK hP 10 0 rfl rfl g44 dX4_makeOf_32 ?_
          obtain ⟨K41_46, eK41_46, hm⟩ := bnd_ex hm
          have J41_46 : ∀ (x45 : Int32) (H : Heap) (locs : List Loc) (ls : Array Slot), K41_46 x45 = some o → va_P (dC, dI) vwCl ([wL cI cJ aL jL u6, wS cI cJ aS jS u5, wA cI cJ jA uA] : List va_W).flatten H → va_D A ([wL cI cJ aL jL u6, wS cI cJ aS jS u5, wA cI cJ jA uA] : List va_W).flatten → va_S A s.heap H locs → lv_has ls 6 [(0, .ref aS), (1, .ref (jA 0)), (2, .ref aL), (3, .int x4), (4, .int x3)] → W p l e ({ frames := 4, cells := 0, slots := 0, locals := 93 } : Room) s m ([.ref aS, .ref (jA 0), .ref aL] : List Value).toArray below meth c H locs 0 0 Q (F0 m 41 ls [.int x45, .int x3, .ref (jS 3)]) := by
            intro x45 H locs ls hm hP hD hS hl
            have hm := ap1 eK41_46 hm
            obtain ⟨g47, hm⟩ := gdi_of hm
            refine va_iast hx hb hK hP hD hS 3 0 rfl rfl g47 dX4_makeOf_41 (fun H locs hP hD hS => ?_)
            obtain ⟨u48, eu48, hm⟩ := bnd_ex hm
            have hP : va_P (dC, dI) vwCl ([wL cI cJ aL jL u6, wS cI cJ aS jS u48, wA cI cJ jA uA] : List va_W).flatten H := by rw [eu48]; exact hP
            have hD : va_D A ([wL cI cJ aL jL u6, wS cI cJ aS jS u48, wA cI cJ jA uA] : List va_W).flatten := by rw [eu48]; exact hD
            refine lv_aload_n hx hb dX4_makeOf_42 rfl (lv_at hl 0 rfl) ?_
            refine va_get (D := (dC, dI)) (ci := 5) (v := .ref (jS 5)) (C := RX4) (T := TX4) (N := 11) hx hb ht inX4 hown hK hP 2 rfl rfl 5 (by decide) (ht _ kw_335) (fun _ h9 => h9) rfl dX4_makeOf_43 ?_
            refine lv_iload hx hb dX4_makeOf_46 (lv_at hl 4 rfl) ?_
            refine lv_aload_n hx hb dX4_makeOf_48 rfl (lv_at hl 0 rfl) ?_
            refine lv_iload hx hb dX4_makeOf_49 (lv_at hl 4 rfl) ?_
            refine lv_aload_n hx hb dX4_makeOf_51 rfl (lv_at hl 1 rfl) ?_
            refine lv_iload hx hb dX4_makeOf_52 (lv_at hl 4 rfl) ?_
            obtain ⟨g49, hm⟩ := gdi_of hm
            refine va_iald hx hb hK hP 10 0 rfl rfl g49 dX4_makeOf_54 ?_
            refine lv_aload_n hx hb dX4_makeOf_55 rfl (lv_at hl 2 rfl) ?_
            have hPc : va_P (dC, dI) vwCl ([wL cI cJ aL jL u6, wS cI cJ aS jS u48] : List va_W).flatten _ := hP.subF [0, 1] rfl
            have hDc : va_D A ([wL cI cJ aL jL u6, wS cI cJ aS jS u48] : List va_W).flatten := hD.subF [0, 1] (by decide) rfl
            have hFc := va_freeF (fc := ([wL cI cJ aL jL u6, wS cI cJ aS jS u48] : List va_W)) hD hS hA [0, 1] rfl
            obtain ⟨u50o, r51o, e52, hm⟩ := oC2_of hm
            refine va_calll (va_runV (As := [.int x3, .int (uA.2.1 0 (x3).toNatClampNeg), .ref aL]) (rest := [.int x3, .ref (jS 5)]) ⟨hx, hb, hml, hown, ht⟩ (c_X4_gainOf l dC dI cI cJ aL jL aS jS H.size u6 u48 x3 (uA.2.1 0 (x3).toNatClampNeg) (u50o, r51o) e52) (cwV 3 ht (gdV kw_348 kw_346 kw_347 kw_199 kw_345) rfl rfl rfl ⟨rfl, nd_X4_gainOf⟩ ⟨Nat.le_of_ble_eq_true rfl, Nat.le_of_ble_eq_true rfl⟩) ⟨pcW_blind, va_recv hK hP (ci := 5) (q0 := 2) rfl rfl, pcW_pre hPc hK hDc hN⟩ rfl rfl hl.1 rfl (lv_room (Nat.le_of_ble_eq_true rfl)) dX4_makeOf_56 ⟨Nat.zero_le _, Nat.zero_le _⟩) hS (fun q _ z => hFc q z) hFc (fun r51 uu t H1 locs ht1 hvm hw hB hz1 hk1 hS => ?_)
            obtain ⟨u50, rfl⟩ : ∃ z, z = uu := ⟨_, rfl⟩
            obtain ⟨hP1, hD1⟩ := hB
            rw [ht1] at hP1
            obtain ⟨q0, q1⟩ := inj2 hw
            subst q0
            subst q1
            obtain ⟨hP, hD⟩ := va_joinF (fr := ([wA cI cJ jA uA] : List va_W)) (f1 := ([wL cI cJ aL jL u50, wS cI cJ aS jS u48] : List va_W)) hP hD [0, 1] [2] rfl rfl (by decide) (by decide) hk1 hFc hP1 hD1
            have hP : va_P (dC, dI) vwCl ([wL cI cJ aL jL u50, wS cI cJ aS jS u48, wA cI cJ jA uA] : List va_W).flatten H1 := hP.subF [1, 2, 0] rfl
            have hD : va_D A ([wL cI cJ aL jL u50, wS cI cJ aS jS u48, wA cI cJ jA uA] : List va_W).flatten := hD.subF [1, 2, 0] (by decide) rfl
            generalize H1 = H at hP hS ⊢
            obtain ⟨g53, hm⟩ := gdi_of hm
            refine va_last hx hb hK hP hD hS 5 1 rfl rfl g53 dX4_makeOf_59 (fun H locs hP hD hS => ?_)
            obtain ⟨u54, eu54, hm⟩ := bnd_ex hm
            have hP : va_P (dC, dI) vwCl ([wL cI cJ aL jL u50, wS cI cJ aS jS u54, wA cI cJ jA uA] : List va_W).flatten H := by rw [eu54]; exact hP
            have hD : va_D A ([wL cI cJ aL jL u50, wS cI cJ aS jS u54, wA cI cJ jA uA] : List va_W).flatten := by rw [eu54]; exact hD
            refine lv_iload_n hx hb dX4_makeOf_60 rfl (lv_at hl 3 rfl) ?_
            refine lv_aload_n hx hb dX4_makeOf_61 rfl (lv_at hl 0 rfl) ?_
            refine va_get (D := (dC, dI)) (ci := 5) (v := .ref (jS 3)) (C := RX4) (T := TX4) (N := 11) hx hb ht inX4 hown hK hP 2 rfl rfl 3 (by decide) (ht _ kw_189) (fun _ h9 => h9) rfl dX4_makeOf_62 ?_
            refine lv_iload hx hb dX4_makeOf_65 (lv_at hl 4 rfl) ?_
            obtain ⟨g55, hm⟩ := gdi_of hm
            refine va_iald hx hb hK hP 3 0 rfl rfl g55 dX4_makeOf_67 ?_
            refine lv_iadd hx hb dX4_makeOf_68 ?_
            refine lv_topi (fun x56 ex56 => ?_)
            have hm := bnd_nm ex56 hm
            refine lv_istore_n (lv' := [(3, .int x56), (0, .ref aS), (1, .ref (jA 0)), (2, .ref aL), (4, .int x3)]) hx hb dX4_makeOf_69 rfl hl (by decide) rfl (fun ls hl => ?_)
            obtain ⟨x57, ex57, hm⟩ := bnd_ex hm
            refine lv_iinc (v := x57) (lv' := [(4, .int x57), (3, .int x56), (0, .ref aS), (1, .ref (jA 0)), (2, .ref aL)]) hx hb dX4_makeOf_70 hl (k := 4) rfl (by rw [ex57]; exact congrArg _ (by decide)) (by decide) rfl (fun ls hl => ?_)
            refine lv_goto (tgt := 9) hx hb dX4_makeOf_73 (by decide) ?_
            exact ih9 x57 x56 u54 u50 _ _ _ hm hP hD hS (lv_sub hl [2, 3, 4, 1, 0] rfl)
          refine lv_if_le (tgt := 40) hx hb dX4_makeOf_33 (by decide) (fun c58 => ?_) (fun c58 => ?_)
          · have hm := ite_t c58 hm
            refine lv_iconst (v := (0 : Int32)) hx hb dX4_makeOf_40 (by decide) ?_
            exact J41_46 (0 : Int32) _ _ _ hm hP hD hS (lv_sub hl [0, 1, 2, 3, 4] rfl)
          · have hm := ite_f c58 hm
            refine lv_iconst (v := (1 : Int32)) hx hb dX4_makeOf_36 (by decide) ?_
            refine lv_goto (tgt := 41) hx hb dX4_makeOf_37 (by decide) ?_
            exact J41_46 (1 : Int32) _ _ _ hm hP hD hS (lv_sub hl [0, 1, 2, 3, 4] rfl)
  exact LP9 FU (0 : Int32) (0 : Int32) u1 uL _ _ _ hm hP hD hS (lv_sub hl [2, 3, 4, 1, 0] rfl)

def f_X4_placeOf (uS : OS) (p1 : Int32) (p2 : Int32) : Option (Int32) :=
  oC1 (f_X4_fromOf uS p1) fun r1 =>
  oC1 (f_X4_shareOf uS p1) fun r3 =>
  bnd ((r1 + p2) - r3) fun x5 =>
  if x5 < (0 : Int32) then (
  some (0 : Int32)) else (
  if (uS.1 1) ≤ x5 then (
  some (0 : Int32)) else (
  if (nI (uS.2.2.2 10)) ≤ x5 then (
  some (0 : Int32)) else (
  gdi x5 (uS.2.2.2 10) <|
  some ((uS.2.1 10 (x5).toNatClampNeg)))))

set_option maxHeartbeats 4000000 in
set_option maxRecDepth 100000 in
theorem c_X4_placeOf (l : Launch) (dC : Nat → ClassId) (dI : Nat → Nat → Nat) (cI cJ : ClassId) (aS : Nat) (jS : Nat → Nat) (sz : Nat) (uS : OS) (p1 : Int32) (p2 : Int32) (o : Int32) (hm : f_X4_placeOf uS p1 p2 = some o) : Met l yX4_placeOf (wq yX4_placeOf cX4_placeOf 4 (some .int)) ({ frames := 2, cells := 0, slots := 0, locals := 41 } : Room) (va_Pc [.ref aS, .int p1, .int p2] (pcW dC dI cI cJ sz ([wS cI cJ aS jS uS] : List va_W).flatten)) (va_Qi (S := Unit) (fun r u => some r = some o) (fun (u : Unit) t => va_P (dC, dI) vwCl ([wS cI cJ aS jS uS] : List va_W).flatten t.heap ∧ va_D (va_A ([wS cI cJ aS jS uS] : List va_W).flatten sz) ([wS cI cJ aS jS uS] : List va_W).flatten) (va_A ([wS cI cJ aS jS uS] : List va_W).flatten sz)) 0 0 (va_A ([wS cI cJ aS jS uS] : List va_W).flatten sz) := by
  refine Met.ofW (cc := cX4_placeOf) (maxL := 4) (ret := (some .int)) (by decide) rfl ?_
  intro p e s m args below meth c s₁ B hml hv
  obtain ⟨rfl, hsz, hP, hK, hD0, hN⟩ := hv
  have hx := B.exec
  have hb := B.bytes
  have hr := B.returns
  have ht : ∀ w ∈ lw_good, w.before _ s = true := fun w h => atoms_spec (ws := wq yX4_placeOf cX4_placeOf 4 (some .int)) B.pre w (wq_mem h)
  have hown : s.vm.findClass RX4 = some m.cls := findClass_of_methodNamed B.named
  have hlocks := B.notSynchronized
  subst hsz
  have hD := hD0.self (sz := s.heap.size)
  generalize hAe : va_A ([wS cI cJ aS jS uS] : List va_W).flatten s.heap.size = A at hD ⊢
  have hA : ∀ q : Nat, s.heap.size ≤ q → A q := fun q h => by rw [← hAe]; exact Or.inr h
  have hS : va_S A s.heap s.heap [] := va_S.rf
  have hl := lv_entry ([.ref aS, .int p1, .int p2]) (n := 4) (Nat.le_of_ble_eq_true rfl)
  rw [lg_entry_eq]
  generalize (lg_sl ([.ref aS, .int p1, .int p2]) ++ List.replicate (4 - (lg_sl ([.ref aS, .int p1, .int p2])).length) Slot.unset).toArray = ls at hl ⊢
  have hl : lv_has ls 4 [(0, .ref aS), (1, .int p1), (2, .int p2)] := hl
  generalize hQ : MQ below _ _ s _ _ _ = Q
  generalize hH : s.heap = H at hP ⊢
  have hS : va_S A s.heap H [] := by rw [← hH]; exact va_S.rf
  show W p l e ({ frames := 2, cells := 0, slots := 0, locals := 41 } : Room) s m ([.ref aS, .int p1, .int p2] : List Value).toArray below meth c H [] 0 0 Q (F0 m 0 ls [])
  unfold f_X4_placeOf at hm
  refine lv_aload_n hx hb dX4_placeOf_0 rfl (lv_at hl 0 rfl) ?_
  refine lv_iload_n hx hb dX4_placeOf_1 rfl (lv_at hl 1 rfl) ?_
  have hPc : va_P (dC, dI) vwCl ([wS cI cJ aS jS uS] : List va_W).flatten _ := hP
  have hDc : va_D A ([wS cI cJ aS jS uS] : List va_W).flatten := hD
  have hFc := va_freeF (fc := ([wS cI cJ aS jS uS] : List va_W)) hD hS hA [0] rfl
  obtain ⟨r1o, e2, hm⟩ := oC1_of hm
  refine va_calli (va_runV (As := [.int p1]) (rest := []) ⟨hx, hb, hml, hown, ht⟩ (c_X4_fromOf l dC dI cI cJ aS jS H.size uS p1 r1o e2) (cwV 1 ht (gdV kw_349 kw_291 kw_292 kw_199 kw_290) rfl rfl rfl ⟨rfl, nd_X4_fromOf⟩ ⟨Nat.le_of_ble_eq_true rfl, Nat.le_of_ble_eq_true rfl⟩) ⟨pcW_blind, va_recv hK hPc (ci := 5) (q0 := 0) rfl rfl, pcW_pre hPc hK hDc hN⟩ rfl rfl hl.1 rfl (lv_room (Nat.le_of_ble_eq_true rfl)) dX4_placeOf_2 ⟨Nat.zero_le _, Nat.zero_le _⟩) hS (fun q _ z => hFc q z) hFc (fun r1 uu t H1 locs ht1 hvm hw hB hz1 hk1 hS => ?_)
  obtain ⟨⟩ := uu
  obtain ⟨hP1, hD1⟩ := hB
  rw [ht1] at hP1
  obtain rfl : r1 = r1o := Option.some.inj hw
  have hP : va_P (dC, dI) vwCl ([wS cI cJ aS jS uS] : List va_W).flatten H1 := hP1
  have hD : va_D A ([wS cI cJ aS jS uS] : List va_W).flatten := hD1.weaken (fun _ q _ z => hFc q.1 z)
  generalize H1 = H at hP hS ⊢
  refine lv_iload_n hx hb dX4_placeOf_5 rfl (lv_at hl 2 rfl) ?_
  refine lv_iadd hx hb dX4_placeOf_6 ?_
  refine lv_aload_n hx hb dX4_placeOf_7 rfl (lv_at hl 0 rfl) ?_
  refine lv_iload_n hx hb dX4_placeOf_8 rfl (lv_at hl 1 rfl) ?_
  have hPc : va_P (dC, dI) vwCl ([wS cI cJ aS jS uS] : List va_W).flatten _ := hP
  have hDc : va_D A ([wS cI cJ aS jS uS] : List va_W).flatten := hD
  have hFc := va_freeF (fc := ([wS cI cJ aS jS uS] : List va_W)) hD hS hA [0] rfl
  obtain ⟨r3o, e4, hm⟩ := oC1_of hm
  refine va_calli (va_runV (As := [.int p1]) (rest := [.int (r1 + p2)]) ⟨hx, hb, hml, hown, ht⟩ (c_X4_shareOf l dC dI cI cJ aS jS H.size uS p1 r3o e4) (cwV 1 ht (gdV kw_350 kw_287 kw_288 kw_199 kw_286) rfl rfl rfl ⟨rfl, nd_X4_shareOf⟩ ⟨Nat.le_of_ble_eq_true rfl, Nat.le_of_ble_eq_true rfl⟩) ⟨pcW_blind, va_recv hK hPc (ci := 5) (q0 := 0) rfl rfl, pcW_pre hPc hK hDc hN⟩ rfl rfl hl.1 rfl (lv_room (Nat.le_of_ble_eq_true rfl)) dX4_placeOf_9 ⟨Nat.zero_le _, Nat.zero_le _⟩) hS (fun q _ z => hFc q z) hFc (fun r3 uu t H1 locs ht1 hvm hw hB hz1 hk1 hS => ?_)
  obtain ⟨⟩ := uu
  obtain ⟨hP1, hD1⟩ := hB
  rw [ht1] at hP1
  obtain rfl : r3 = r3o := Option.some.inj hw
  have hP : va_P (dC, dI) vwCl ([wS cI cJ aS jS uS] : List va_W).flatten H1 := hP1
  have hD : va_D A ([wS cI cJ aS jS uS] : List va_W).flatten := hD1.weaken (fun _ q _ z => hFc q.1 z)
  generalize H1 = H at hP hS ⊢
  refine lv_isub hx hb dX4_placeOf_12 ?_
  refine lv_topi (fun x5 ex5 => ?_)
  have hm := bnd_nm ex5 hm
  refine lv_istore_n (lv' := [(3, .int x5), (0, .ref aS), (1, .int p1), (2, .int p2)]) hx hb dX4_placeOf_13 rfl hl (by decide) rfl (fun ls hl => ?_)
  refine lv_iload_n hx hb dX4_placeOf_14 rfl (lv_at hl 0 rfl) ?_
  refine lv_if_lt (tgt := 44) hx hb dX4_placeOf_15 (by decide) (fun c6 => ?_) (fun c6 => ?_)
  · have hm := ite_t c6 hm
    refine lv_iconst (v := (0 : Int32)) hx hb dX4_placeOf_44 (by decide) ?_
    rw [← hQ]
    exact W.iret (v := (0 : Int32)) hx hb hr (fun t ht1 hW => ⟨⟨_, (), rfl, hm, by rw [ht1]; exact hP, hD⟩, hS.F ht1⟩) hS.2.2 dX4_placeOf_45
  · have hm := ite_f c6 hm
    refine lv_iload_n hx hb dX4_placeOf_18 rfl (lv_at hl 0 rfl) ?_
    refine lv_aload_n hx hb dX4_placeOf_19 rfl (lv_at hl 1 rfl) ?_
    refine va_get (D := (dC, dI)) (ci := 5) (v := .int (uS.1 1)) (C := RX4) (T := TX4) (N := 11) hx hb ht inX4 hown hK hP 0 rfl rfl 1 (by decide) (ht _ kw_197) (fun _ h9 => h9) rfl dX4_placeOf_20 ?_
    refine lv_icmp_ge (tgt := 44) hx hb dX4_placeOf_23 (by decide) (fun c7 => ?_) (fun c7 => ?_)
    · have hm := ite_t c7 hm
      refine lv_iconst (v := (0 : Int32)) hx hb dX4_placeOf_44 (by decide) ?_
      rw [← hQ]
      exact W.iret (v := (0 : Int32)) hx hb hr (fun t ht1 hW => ⟨⟨_, (), rfl, hm, by rw [ht1]; exact hP, hD⟩, hS.F ht1⟩) hS.2.2 dX4_placeOf_45
    · have hm := ite_f c7 hm
      refine lv_iload_n hx hb dX4_placeOf_26 rfl (lv_at hl 0 rfl) ?_
      refine lv_aload_n hx hb dX4_placeOf_27 rfl (lv_at hl 1 rfl) ?_
      refine va_get (D := (dC, dI)) (ci := 5) (v := .ref (jS 10)) (C := RX4) (T := TX4) (N := 11) hx hb ht inX4 hown hK hP 0 rfl rfl 10 (by decide) (ht _ kw_247) (fun _ h9 => h9) rfl dX4_placeOf_28 ?_
      refine va_alen (v := (nI (uS.2.2.2 10))) hx hb hK hP 7 0 rfl rfl rfl dX4_placeOf_31 ?_
      refine lv_icmp_ge (tgt := 44) hx hb dX4_placeOf_32 (by decide) (fun c8 => ?_) (fun c8 => ?_)
      · have hm := ite_t c8 hm
        refine lv_iconst (v := (0 : Int32)) hx hb dX4_placeOf_44 (by decide) ?_
        rw [← hQ]
        exact W.iret (v := (0 : Int32)) hx hb hr (fun t ht1 hW => ⟨⟨_, (), rfl, hm, by rw [ht1]; exact hP, hD⟩, hS.F ht1⟩) hS.2.2 dX4_placeOf_45
      · have hm := ite_f c8 hm
        refine lv_aload_n hx hb dX4_placeOf_35 rfl (lv_at hl 1 rfl) ?_
        refine va_get (D := (dC, dI)) (ci := 5) (v := .ref (jS 10)) (C := RX4) (T := TX4) (N := 11) hx hb ht inX4 hown hK hP 0 rfl rfl 10 (by decide) (ht _ kw_247) (fun _ h9 => h9) rfl dX4_placeOf_36 ?_
        refine lv_iload_n hx hb dX4_placeOf_39 rfl (lv_at hl 0 rfl) ?_
        obtain ⟨g9, hm⟩ := gdi_of hm
        refine va_iald hx hb hK hP 7 0 rfl rfl g9 dX4_placeOf_40 ?_
        refine lv_goto (tgt := 45) hx hb dX4_placeOf_41 (by decide) ?_
        rw [← hQ]
        exact W.iret (v := (uS.2.1 10 (x5).toNatClampNeg)) hx hb hr (fun t ht1 hW => ⟨⟨_, (), rfl, hm, by rw [ht1]; exact hP, hD⟩, hS.F ht1⟩) hS.2.2 dX4_placeOf_45

def f_X5_putByTable_L19 (r3 : Int32) : Nat → (Int32 → Int32 → OS → Option (OS × OS)) → Int32 → Int32 → OS → Option (OS × OS)
  | 0, _, _, _, _ => none
  | n19 + 1, K56_11, x5, x6, u7 =>
    if (12 : Int32) < x5 then (
    K56_11 x6 x5 u7) else (
    if x6 < ((2 : Int32) * r3) then (
    K56_11 x6 x5 u7) else (
    oC1 (f_X2_pushBit u7 x6) fun u18 =>
    bnd (x6 / (2 : Int32)) fun x20 =>
    bnd (x5 + (1 : Int32)) fun x21 =>
    f_X5_putByTable_L19 r3 n19 K56_11 x21 x20 u18))

def f_X5_putByTable (uS : OS) (uW : OS) (uP : OS) (p1 : Int32) (p2 : Int32) : Option (OS × OS) :=
  gdi p1 4 <|
  bnd ((uW.2.2.1 0 (p1).toNatClampNeg)).toInt32 fun x2 =>
  oC1 (f_X4_shareOf uS p2) fun r3 =>
  bnd (fun (x8 : Int32) (x9 : Int32) (u10 : OS) =>
  oC1 (f_X4_placeOf uS p2 x8) fun r12 =>
  gdi p1 4 <|
  bnd (sL uW 0 p1 (((uS.1 1) + r12)).toInt64) fun u15 =>
  some (u15, u10)) fun K56_11 =>
  f_X5_putByTable_L19 r3 FU K56_11 (0 : Int32) x2 uP

set_option maxHeartbeats 4000000 in
set_option maxRecDepth 100000 in
theorem c_X5_putByTable (l : Launch) (dC : Nat → ClassId) (dI : Nat → Nat → Nat) (cI cJ : ClassId) (aS : Nat) (jS : Nat → Nat) (aW : Nat) (jW : Nat → Nat) (aP : Nat) (jP : Nat → Nat) (sz : Nat) (uS : OS) (uW : OS) (uP : OS) (p1 : Int32) (p2 : Int32) (o : OS × OS) (hm : f_X5_putByTable uS uW uP p1 p2 = some o) : Met l yX5_putByTable (wq yX5_putByTable cX5_putByTable 7 none) ({ frames := 3, cells := 0, slots := 0, locals := 64 } : Room) (va_Pc [.ref aW, .int p1, .int p2, .ref aS] (pcW dC dI cI cJ sz ([wS cI cJ aS jS uS, wW cI cJ aW jW aP uW, wP cI cJ aP jP uP] : List va_W).flatten)) (va_Qv (S := OS × OS) (fun u => some (u.1, u.2) = some o) (fun (u : OS × OS) t => va_P (dC, dI) vwCl ([wS cI cJ aS jS uS, wW cI cJ aW jW aP u.1, wP cI cJ aP jP u.2] : List va_W).flatten t.heap ∧ va_D (va_A ([wS cI cJ aS jS uS, wW cI cJ aW jW aP uW, wP cI cJ aP jP uP] : List va_W).flatten sz) ([wS cI cJ aS jS uS, wW cI cJ aW jW aP u.1, wP cI cJ aP jP u.2] : List va_W).flatten) (va_A ([wS cI cJ aS jS uS, wW cI cJ aW jW aP uW, wP cI cJ aP jP uP] : List va_W).flatten sz)) 0 0 (va_A ([wS cI cJ aS jS uS, wW cI cJ aW jW aP uW, wP cI cJ aP jP uP] : List va_W).flatten sz) := by
  refine Met.ofW (cc := cX5_putByTable) (maxL := 7) (ret := none) (by decide) rfl ?_
  intro p e s m args below meth c s₁ B hml hv
  obtain ⟨rfl, hsz, hP, hK, hD0, hN⟩ := hv
  have hx := B.exec
  have hb := B.bytes
  have hr := B.returns
  have ht : ∀ w ∈ lw_good, w.before _ s = true := fun w h => atoms_spec (ws := wq yX5_putByTable cX5_putByTable 7 none) B.pre w (wq_mem h)
  have hown : s.vm.findClass RX5 = some m.cls := findClass_of_methodNamed B.named
  have hlocks := B.notSynchronized
  subst hsz
  have hD := hD0.self (sz := s.heap.size)
  generalize hAe : va_A ([wS cI cJ aS jS uS, wW cI cJ aW jW aP uW, wP cI cJ aP jP uP] : List va_W).flatten s.heap.size = A at hD ⊢
  have hA : ∀ q : Nat, s.heap.size ≤ q → A q := fun q h => by rw [← hAe]; exact Or.inr h
  have hS : va_S A s.heap s.heap [] := va_S.rf
  have hl := lv_entry ([.ref aW, .int p1, .int p2, .ref aS]) (n := 7) (Nat.le_of_ble_eq_true rfl)
  rw [lg_entry_eq]
  generalize (lg_sl ([.ref aW, .int p1, .int p2, .ref aS]) ++ List.replicate (7 - (lg_sl ([.ref aW, .int p1, .int p2, .ref aS])).length) Slot.unset).toArray = ls at hl ⊢
  have hl : lv_has ls 7 [(0, .ref aW), (1, .int p1), (2, .int p2), (3, .ref aS)] := hl
  generalize hQ : MQ below _ _ s _ _ _ = Q
  generalize hH : s.heap = H at hP ⊢
  have hS : va_S A s.heap H [] := by rw [← hH]; exact va_S.rf
  show W p l e ({ frames := 3, cells := 0, slots := 0, locals := 64 } : Room) s m ([.ref aW, .int p1, .int p2, .ref aS] : List Value).toArray below meth c H [] 0 0 Q (F0 m 0 ls [])
  unfold f_X5_putByTable at hm
  refine lv_aload_n hx hb dX5_putByTable_0 rfl (lv_at hl 0 rfl) ?_
  refine va_get (D := (dC, dI)) (ci := 6) (v := .ref (jW 0)) (C := RX5) (T := TX5) (N := 4) hx hb ht inX5 hown hK hP 8 rfl rfl 0 (by decide) (ht _ kw_354) (fun _ h9 => h9) rfl dX5_putByTable_1 ?_
  refine lv_iload_n hx hb dX5_putByTable_4 rfl (lv_at hl 1 rfl) ?_
  obtain ⟨g1, hm⟩ := gdi_of hm
  refine va_lald hx hb hK hP 9 1 rfl rfl g1 dX5_putByTable_5 ?_
  refine lv_l2i hx hb dX5_putByTable_6 rfl ?_
  refine lv_topi (fun x2 ex2 => ?_)
  have hm := bnd_nm ex2 hm
  refine lv_istore (lv' := [(4, .int x2), (0, .ref aW), (1, .int p1), (2, .int p2), (3, .ref aS)]) hx hb dX5_putByTable_7 hl (by decide) rfl (fun ls hl => ?_)
  refine lv_aload_n hx hb dX5_putByTable_9 rfl (lv_at hl 4 rfl) ?_
  refine lv_iload_n hx hb dX5_putByTable_10 rfl (lv_at hl 3 rfl) ?_
  have hPc : va_P (dC, dI) vwCl ([wS cI cJ aS jS uS] : List va_W).flatten _ := hP.subF [0] rfl
  have hDc : va_D A ([wS cI cJ aS jS uS] : List va_W).flatten := hD.subF [0] (by decide) rfl
  have hFc := va_freeF (fc := ([wS cI cJ aS jS uS] : List va_W)) hD hS hA [0] rfl
  obtain ⟨r3o, e4, hm⟩ := oC1_of hm
  refine va_calli (va_runV (As := [.int p2]) (rest := []) ⟨hx, hb, hml, hown, ht⟩ (c_X4_shareOf l dC dI cI cJ aS jS H.size uS p2 r3o e4) (cwV 1 ht (gdV kw_355 kw_287 kw_288 kw_199 kw_286) rfl rfl rfl ⟨rfl, nd_X4_shareOf⟩ ⟨Nat.le_of_ble_eq_true rfl, Nat.le_of_ble_eq_true rfl⟩) ⟨pcW_blind, va_recv hK hPc (ci := 5) (q0 := 0) rfl rfl, pcW_pre hPc hK hDc hN⟩ rfl rfl hl.1 rfl (lv_room (Nat.le_of_ble_eq_true rfl)) dX5_putByTable_11 ⟨Nat.zero_le _, Nat.zero_le _⟩) hS (fun q _ z => hFc q z) hFc (fun r3 uu t H1 locs ht1 hvm hw hB hz1 hk1 hS => ?_)
  obtain ⟨⟩ := uu
  obtain ⟨hP1, hD1⟩ := hB
  rw [ht1] at hP1
  obtain rfl : r3 = r3o := Option.some.inj hw
  obtain ⟨hP, hD⟩ := va_joinF (fr := ([wW cI cJ aW jW aP uW, wP cI cJ aP jP uP] : List va_W)) (f1 := ([wS cI cJ aS jS uS] : List va_W)) hP hD [0] [1, 2] rfl rfl (by decide) (by decide) hk1 hFc hP1 hD1
  have hP : va_P (dC, dI) vwCl ([wS cI cJ aS jS uS, wW cI cJ aW jW aP uW, wP cI cJ aP jP uP] : List va_W).flatten H1 := hP.subF [2, 0, 1] rfl
  have hD : va_D A ([wS cI cJ aS jS uS, wW cI cJ aW jW aP uW, wP cI cJ aP jP uP] : List va_W).flatten := hD.subF [2, 0, 1] (by decide) rfl
  generalize H1 = H at hP hS ⊢
  refine lv_istore (lv' := [(5, .int r3), (4, .int x2), (0, .ref aW), (1, .int p1), (2, .int p2), (3, .ref aS)]) hx hb dX5_putByTable_14 hl (by decide) rfl (fun ls hl => ?_)
  refine lv_iconst (v := (0 : Int32)) hx hb dX5_putByTable_16 (by decide) ?_
  refine lv_istore (lv' := [(6, .int (0 : Int32)), (5, .int r3), (4, .int x2), (0, .ref aW), (1, .int p1), (2, .int p2), (3, .ref aS)]) hx hb dX5_putByTable_17 hl (by decide) rfl (fun ls hl => ?_)
  obtain ⟨K56_11, eK56_11, hm⟩ := bnd_ex hm
  have X56_11 : ∀ (x8 : Int32) (x9 : Int32) (u10 : OS) (H : Heap) (locs : List Loc) (ls : Array Slot), K56_11 x8 x9 u10 = some o → va_P (dC, dI) vwCl ([wS cI cJ aS jS uS, wW cI cJ aW jW aP uW, wP cI cJ aP jP u10] : List va_W).flatten H → va_D A ([wS cI cJ aS jS uS, wW cI cJ aW jW aP uW, wP cI cJ aP jP u10] : List va_W).flatten → va_S A s.heap H locs → lv_has ls 7 [(0, .ref aW), (1, .int p1), (2, .int p2), (3, .ref aS), (4, .int x8), (5, .int r3), (6, .int x9)] → W p l e ({ frames := 3, cells := 0, slots := 0, locals := 64 } : Room) s m ([.ref aW, .int p1, .int p2, .ref aS] : List Value).toArray below meth c H locs 0 0 Q (F0 m 56 ls []) := by
    intro x8 x9 u10 H locs ls hm hP hD hS hl
    have hm := ap3 eK56_11 hm
    refine lv_aload_n hx hb dX5_putByTable_56 rfl (lv_at hl 0 rfl) ?_
    refine va_get (D := (dC, dI)) (ci := 6) (v := .ref (jW 0)) (C := RX5) (T := TX5) (N := 4) hx hb ht inX5 hown hK hP 8 rfl rfl 0 (by decide) (ht _ kw_354) (fun _ h9 => h9) rfl dX5_putByTable_57 ?_
    refine lv_iload_n hx hb dX5_putByTable_60 rfl (lv_at hl 1 rfl) ?_
    refine lv_aload_n hx hb dX5_putByTable_61 rfl (lv_at hl 3 rfl) ?_
    refine va_getN (D := (dC, dI)) (ci := 5) (v := .int (uS.1 1)) (C := RX4) (T := TX4) (N := 11) hx hb ht inX4 hown hK hP 0 rfl rfl 1 (by decide) (va_Nw.use rfl (hN _ kn_13)) (fun _ h9 => h9) rfl dX5_putByTable_62 ?_
    refine lv_aload_n hx hb dX5_putByTable_65 rfl (lv_at hl 3 rfl) ?_
    refine lv_iload_n hx hb dX5_putByTable_66 rfl (lv_at hl 2 rfl) ?_
    refine lv_iload hx hb dX5_putByTable_67 (lv_at hl 4 rfl) ?_
    have hPc : va_P (dC, dI) vwCl ([wS cI cJ aS jS uS] : List va_W).flatten _ := hP.subF [0] rfl
    have hDc : va_D A ([wS cI cJ aS jS uS] : List va_W).flatten := hD.subF [0] (by decide) rfl
    have hFc := va_freeF (fc := ([wS cI cJ aS jS uS] : List va_W)) hD hS hA [0] rfl
    obtain ⟨r12o, e13, hm⟩ := oC1_of hm
    refine va_calli (va_runV (As := [.int p2, .int x8]) (rest := [.int (uS.1 1), .int p1, .ref (jW 0)]) ⟨hx, hb, hml, hown, ht⟩ (c_X4_placeOf l dC dI cI cJ aS jS H.size uS p2 x8 r12o e13) (cwV 2 ht (gdV kw_359 kw_357 kw_358 kw_199 kw_356) rfl rfl rfl ⟨rfl, nd_X4_placeOf⟩ ⟨Nat.le_of_ble_eq_true rfl, Nat.le_of_ble_eq_true rfl⟩) ⟨pcW_blind, va_recv hK hPc (ci := 5) (q0 := 0) rfl rfl, pcW_pre hPc hK hDc hN⟩ rfl rfl hl.1 rfl (lv_room (Nat.le_of_ble_eq_true rfl)) dX5_putByTable_69 ⟨Nat.zero_le _, Nat.zero_le _⟩) hS (fun q _ z => hFc q z) hFc (fun r12 uu t H1 locs ht1 hvm hw hB hz1 hk1 hS => ?_)
    obtain ⟨⟩ := uu
    obtain ⟨hP1, hD1⟩ := hB
    rw [ht1] at hP1
    obtain rfl : r12 = r12o := Option.some.inj hw
    obtain ⟨hP, hD⟩ := va_joinF (fr := ([wW cI cJ aW jW aP uW, wP cI cJ aP jP u10] : List va_W)) (f1 := ([wS cI cJ aS jS uS] : List va_W)) hP hD [0] [1, 2] rfl rfl (by decide) (by decide) hk1 hFc hP1 hD1
    have hP : va_P (dC, dI) vwCl ([wS cI cJ aS jS uS, wW cI cJ aW jW aP uW, wP cI cJ aP jP u10] : List va_W).flatten H1 := hP.subF [2, 0, 1] rfl
    have hD : va_D A ([wS cI cJ aS jS uS, wW cI cJ aW jW aP uW, wP cI cJ aP jP u10] : List va_W).flatten := hD.subF [2, 0, 1] (by decide) rfl
    generalize H1 = H at hP hS ⊢
    refine lv_iadd hx hb dX5_putByTable_72 ?_
    refine lv_i2l hx hb dX5_putByTable_73 rfl ?_
    obtain ⟨g14, hm⟩ := gdi_of hm
    refine va_last hx hb hK hP hD hS 9 1 rfl rfl g14 dX5_putByTable_74 (fun H locs hP hD hS => ?_)
    obtain ⟨u15, eu15, hm⟩ := bnd_ex hm
    have hP : va_P (dC, dI) vwCl ([wS cI cJ aS jS uS, wW cI cJ aW jW aP u15, wP cI cJ aP jP u10] : List va_W).flatten H := by rw [eu15]; exact hP
    have hD : va_D A ([wS cI cJ aS jS uS, wW cI cJ aW jW aP u15, wP cI cJ aP jP u10] : List va_W).flatten := by rw [eu15]; exact hD
    rw [← hQ]
    exact W.vret hx hb hr (fun t ht1 hW => ⟨⟨(u15, u10), rfl, hm, by rw [ht1]; exact hP, hD⟩, hS.F ht1⟩) hS.2.2 dX5_putByTable_75
  have LP19 : ∀ (n19 : Nat) (x5 : Int32) (x6 : Int32) (u7 : OS) (H : Heap) (locs : List Loc) (ls : Array Slot), f_X5_putByTable_L19 r3 n19 K56_11 x5 x6 u7 = some o → va_P (dC, dI) vwCl ([wS cI cJ aS jS uS, wW cI cJ aW jW aP uW, wP cI cJ aP jP u7] : List va_W).flatten H → va_D A ([wS cI cJ aS jS uS, wW cI cJ aW jW aP uW, wP cI cJ aP jP u7] : List va_W).flatten → va_S A s.heap H locs → lv_has ls 7 [(0, .ref aW), (1, .int p1), (2, .int p2), (3, .ref aS), (4, .int x6), (5, .int r3), (6, .int x5)] → W p l e ({ frames := 3, cells := 0, slots := 0, locals := 64 } : Room) s m ([.ref aW, .int p1, .int p2, .ref aS] : List Value).toArray below meth c H locs 0 0 Q (F0 m 19 ls []) := by
    intro n19
    induction n19 with
    | zero => intro x5 x6 u7 H locs ls hm; exact nomatch (show (none : Option _) = some _ from hm)
    | succ n19 ih19 =>
      intro x5 x6 u7 H locs ls hm hP hD hS hl
      unfold f_X5_putByTable_L19 at hm
      refine lv_iload hx hb dX5_putByTable_19 (lv_at hl 6 rfl) ?_
      refine lv_bipush (v := (12 : Int32)) hx hb dX5_putByTable_21 (by decide) ?_
      refine lv_icmp_gt (tgt := 56) hx hb dX5_putByTable_23 (by decide) (fun c16 => ?_) (fun c16 => ?_)
      · have hm := ite_t c16 hm
        exact X56_11 x6 x5 u7 _ _ _ hm hP hD hS (lv_sub hl [0, 1, 2, 3, 4, 5, 6] rfl)
      · have hm := ite_f c16 hm
        refine lv_iload hx hb dX5_putByTable_26 (lv_at hl 4 rfl) ?_
        refine lv_iconst (v := (2 : Int32)) hx hb dX5_putByTable_28 (by decide) ?_
        refine lv_iload hx hb dX5_putByTable_29 (lv_at hl 5 rfl) ?_
        refine lv_imul hx hb dX5_putByTable_31 ?_
        refine lv_icmp_lt (tgt := 56) hx hb dX5_putByTable_32 (by decide) (fun c17 => ?_) (fun c17 => ?_)
        · have hm := ite_t c17 hm
          exact X56_11 x6 x5 u7 _ _ _ hm hP hD hS (lv_sub hl [0, 1, 2, 3, 4, 5, 6] rfl)
        · have hm := ite_f c17 hm
          refine lv_aload_n hx hb dX5_putByTable_35 rfl (lv_at hl 0 rfl) ?_
          refine va_get (D := (dC, dI)) (ci := 6) (v := .ref aP) (C := RX5) (T := TX5) (N := 4) hx hb ht inX5 hown hK hP 8 rfl rfl 1 (by decide) (ht _ kw_353) (fun _ h9 => h9) rfl dX5_putByTable_36 ?_
          refine lv_iload hx hb dX5_putByTable_39 (lv_at hl 4 rfl) ?_
          have hPc : va_P (dC, dI) vwCl ([wP cI cJ aP jP u7] : List va_W).flatten _ := hP.subF [2] rfl
          have hDc : va_D A ([wP cI cJ aP jP u7] : List va_W).flatten := hD.subF [2] (by decide) rfl
          have hFc := va_freeF (fc := ([wP cI cJ aP jP u7] : List va_W)) hD hS hA [2] rfl
          obtain ⟨u18o, e19, hm⟩ := oC1_of hm
          refine va_callv (va_runV (As := [.int x6]) (rest := []) ⟨hx, hb, hml, hown, ht⟩ (c_X2_pushBit l dC dI cI cJ aP jP H.size u7 x6 u18o e19) (cwV 1 ht (gdV kw_364 kw_362 kw_363 kw_361 kw_360) rfl rfl rfl ⟨rfl, nd_X2_pushBit⟩ ⟨Nat.le_of_ble_eq_true rfl, Nat.le_of_ble_eq_true rfl⟩) ⟨pcW_blind, va_recv hK hPc (ci := 3) (q0 := 0) rfl rfl, pcW_pre hPc hK hDc hN⟩ rfl rfl hl.1 rfl (lv_room (Nat.le_of_ble_eq_true rfl)) dX5_putByTable_41 ⟨Nat.zero_le _, Nat.zero_le _⟩) hS (fun q _ z => hFc q z) hFc (fun uu t H1 locs ht1 hvm hw hB hz1 hk1 hS => ?_)
          obtain ⟨u18, rfl⟩ : ∃ z, z = uu := ⟨_, rfl⟩
          obtain ⟨hP1, hD1⟩ := hB
          rw [ht1] at hP1
          obtain rfl : u18 = u18o := Option.some.inj hw
          obtain ⟨hP, hD⟩ := va_joinF (fr := ([wS cI cJ aS jS uS, wW cI cJ aW jW aP uW] : List va_W)) (f1 := ([wP cI cJ aP jP u18] : List va_W)) hP hD [2] [0, 1] rfl rfl (by decide) (by decide) hk1 hFc hP1 hD1
          have hP : va_P (dC, dI) vwCl ([wS cI cJ aS jS uS, wW cI cJ aW jW aP uW, wP cI cJ aP jP u18] : List va_W).flatten H1 := hP
          have hD : va_D A ([wS cI cJ aS jS uS, wW cI cJ aW jW aP uW, wP cI cJ aP jP u18] : List va_W).flatten := hD
          generalize H1 = H at hP hS ⊢
          refine lv_iload hx hb dX5_putByTable_44 (lv_at hl 4 rfl) ?_
          refine lv_iconst (v := (2 : Int32)) hx hb dX5_putByTable_46 (by decide) ?_
          refine lv_idiv hx hb dX5_putByTable_47 (by decide) ?_
          refine lv_topi (fun x20 ex20 => ?_)
          have hm := bnd_nm ex20 hm
          refine lv_istore (lv' := [(4, .int x20), (0, .ref aW), (1, .int p1), (2, .int p2), (3, .ref aS), (5, .int r3), (6, .int x5)]) hx hb dX5_putByTable_48 hl (by decide) rfl (fun ls hl => ?_)
          obtain ⟨x21, ex21, hm⟩ := bnd_ex hm
          refine lv_iinc (v := x21) (lv' := [(6, .int x21), (4, .int x20), (0, .ref aW), (1, .int p1), (2, .int p2), (3, .ref aS), (5, .int r3)]) hx hb dX5_putByTable_50 hl (k := 6) rfl (by rw [ex21]; exact congrArg _ (by decide)) (by decide) rfl (fun ls hl => ?_)
          refine lv_goto (tgt := 19) hx hb dX5_putByTable_53 (by decide) ?_
          exact ih19 x21 x20 u18 _ _ _ hm hP hD hS (lv_sub hl [2, 3, 4, 5, 1, 6, 0] rfl)
  exact LP19 FU (0 : Int32) x2 uP _ _ _ hm hP hD hS (lv_sub hl [3, 4, 5, 6, 2, 1, 0] rfl)

def f_X5_widen_L77 (x3 : Int32) : Nat → (Int64 → Int32 → OS → Option (OS × OS)) → Int32 → Int64 → OS → Option (OS × OS)
  | 0, _, _, _, _ => none
  | n77 + 1, K107_29, x23, y24, u25 =>
    if x3 ≤ x23 then (
    K107_29 y24 x23 u25) else (
    oC1 (f_X2_pushOctet u25 (y24).toInt32) fun u32 =>
    bnd (y24 >>> (((8 : Int32)).toInt64 &&& (63 : Int64))) fun y34 =>
    bnd (x23 + (1 : Int32)) fun x35 =>
    f_X5_widen_L77 x3 n77 K107_29 x35 y34 u32)

def f_X5_widen_L60 (x3 : Int32) (y7 : Int64) : Nat → (Int64 → Int32 → OS → Option (OS × OS)) → Int32 → Int64 → OS → Option (OS × OS)
  | 0, _, _, _, _ => none
  | n60 + 1, K113_16, x10, y11, u12 =>
    if (2 : Int32) ≤ x10 then (
    K113_16 y11 x10 u12) else (
    if y11 < y7 then (
    K113_16 y11 x10 u12) else (
    bnd (fun (y26 : Int64) (x27 : Int32) (u28 : OS) =>
    bnd (x10 + (1 : Int32)) fun x30 =>
    f_X5_widen_L60 x3 y7 n60 K113_16 x30 y26 u28) fun K107_29 =>
    f_X5_widen_L77 x3 FU K107_29 (0 : Int32) y11 u12))

def f_X5_widen (uW : OS) (uP : OS) (p1 : Int32) (p2 : Int32) (p3 : Int32) (p4 : Int32) (p5 : Int32) : Option (OS × OS) :=
  if p2 ≤ (0 : Int32) then (
  some (uW, uP)) else (
  if p2 < ((1 : Int32) <<< (p4 &&& (31 : Int32))) then (
  bnd (fun (x3 : Int32) =>
  bnd (fun (x5 : Int32) =>
  bnd (((1 : Int64) <<< (((x5 - p4)).toInt64 &&& (63 : Int64))) * (p2).toInt64) fun y7 =>
  gdi p1 4 <|
  bnd (uW.2.2.1 0 (p1).toNatClampNeg) fun y9 =>
  bnd (fun (y13 : Int64) (x14 : Int32) (u15 : OS) =>
  gdzl (p2).toInt64 <|
  gdzl (p2).toInt64 <|
  gdi p1 4 <|
  bnd (sL uW 0 p1 ((((y13 / (p2).toInt64) <<< ((p4).toInt64 &&& (63 : Int64))) + (y13 - y13 / (p2).toInt64 * (p2).toInt64)) + (p3).toInt64)) fun u20 =>
  some (u20, u15)) fun K113_16 =>
  f_X5_widen_L60 x3 y7 FU K113_16 (0 : Int32) y9 uP) fun K40_6 =>
  if p5 = (1 : Int32) then (
  K40_6 (63 : Int32)) else (
  K40_6 (31 : Int32))) fun K24_4 =>
  if p5 = (1 : Int32) then (
  K24_4 (4 : Int32)) else (
  K24_4 (1 : Int32))) else (
  some (uW, uP)))

set_option maxHeartbeats 4000000 in
set_option maxRecDepth 100000 in
theorem c_X5_widen (l : Launch) (dC : Nat → ClassId) (dI : Nat → Nat → Nat) (cI cJ : ClassId) (aW : Nat) (jW : Nat → Nat) (aP : Nat) (jP : Nat → Nat) (sz : Nat) (uW : OS) (uP : OS) (p1 : Int32) (p2 : Int32) (p3 : Int32) (p4 : Int32) (p5 : Int32) (o : OS × OS) (hm : f_X5_widen uW uP p1 p2 p3 p4 p5 = some o) : Met l yX5_widen (wq yX5_widen cX5_widen 13 none) ({ frames := 1, cells := 0, slots := 0, locals := 22 } : Room) (va_Pc [.ref aW, .int p1, .int p2, .int p3, .int p4, .int p5] (pcW dC dI cI cJ sz ([wW cI cJ aW jW aP uW, wP cI cJ aP jP uP] : List va_W).flatten)) (va_Qv (S := OS × OS) (fun u => some (u.1, u.2) = some o) (fun (u : OS × OS) t => va_P (dC, dI) vwCl ([wW cI cJ aW jW aP u.1, wP cI cJ aP jP u.2] : List va_W).flatten t.heap ∧ va_D (va_A ([wW cI cJ aW jW aP uW, wP cI cJ aP jP uP] : List va_W).flatten sz) ([wW cI cJ aW jW aP u.1, wP cI cJ aP jP u.2] : List va_W).flatten) (va_A ([wW cI cJ aW jW aP uW, wP cI cJ aP jP uP] : List va_W).flatten sz)) 0 0 (va_A ([wW cI cJ aW jW aP uW, wP cI cJ aP jP uP] : List va_W).flatten sz) := by
  refine Met.ofW (cc := cX5_widen) (maxL := 13) (ret := none) (by decide) rfl ?_
  intro p e s m args below meth c s₁ B hml hv
  obtain ⟨rfl, hsz, hP, hK, hD0, hN⟩ := hv
  have hx := B.exec
  have hb := B.bytes
  have hr := B.returns
  have ht : ∀ w ∈ lw_good, w.before _ s = true := fun w h => atoms_spec (ws := wq yX5_widen cX5_widen 13 none) B.pre w (wq_mem h)
  have hown : s.vm.findClass RX5 = some m.cls := findClass_of_methodNamed B.named
  have hlocks := B.notSynchronized
  subst hsz
  have hD := hD0.self (sz := s.heap.size)
  generalize hAe : va_A ([wW cI cJ aW jW aP uW, wP cI cJ aP jP uP] : List va_W).flatten s.heap.size = A at hD ⊢
  have hA : ∀ q : Nat, s.heap.size ≤ q → A q := fun q h => by rw [← hAe]; exact Or.inr h
  have hS : va_S A s.heap s.heap [] := va_S.rf
  have hl := lv_entry ([.ref aW, .int p1, .int p2, .int p3, .int p4, .int p5]) (n := 13) (Nat.le_of_ble_eq_true rfl)
  rw [lg_entry_eq]
  generalize (lg_sl ([.ref aW, .int p1, .int p2, .int p3, .int p4, .int p5]) ++ List.replicate (13 - (lg_sl ([.ref aW, .int p1, .int p2, .int p3, .int p4, .int p5])).length) Slot.unset).toArray = ls at hl ⊢
  have hl : lv_has ls 13 [(0, .ref aW), (1, .int p1), (2, .int p2), (3, .int p3), (4, .int p4), (5, .int p5)] := hl
  generalize hQ : MQ below _ _ s _ _ _ = Q
  generalize hH : s.heap = H at hP ⊢
  have hS : va_S A s.heap H [] := by rw [← hH]; exact va_S.rf
  show W p l e ({ frames := 1, cells := 0, slots := 0, locals := 22 } : Room) s m ([.ref aW, .int p1, .int p2, .int p3, .int p4, .int p5] : List Value).toArray below meth c H [] 0 0 Q (F0 m 0 ls [])
  unfold f_X5_widen at hm
  refine lv_iload_n hx hb dX5_widen_0 rfl (lv_at hl 2 rfl) ?_
  refine lv_if_le (tgt := 12) hx hb dX5_widen_1 (by decide) (fun c1 => ?_) (fun c1 => ?_)
  · have hm := ite_t c1 hm
    rw [← hQ]
    exact W.vret hx hb hr (fun t ht1 hW => ⟨⟨(uW, uP), rfl, hm, by rw [ht1]; exact hP, hD⟩, hS.F ht1⟩) hS.2.2 dX5_widen_12
  · have hm := ite_f c1 hm
    refine lv_iload_n hx hb dX5_widen_4 rfl (lv_at hl 2 rfl) ?_
    refine lv_iconst (v := (1 : Int32)) hx hb dX5_widen_5 (by decide) ?_
    refine lv_iload hx hb dX5_widen_6 (lv_at hl 4 rfl) ?_
    refine lv_ishl hx hb dX5_widen_8 ?_
    refine lv_icmp_lt (tgt := 13) hx hb dX5_widen_9 (by decide) (fun c2 => ?_) (fun c2 => ?_)
    · have hm := ite_t c2 hm
      refine lv_iload hx hb dX5_widen_13 (lv_at hl 5 rfl) ?_
      refine lv_iconst (v := (1 : Int32)) hx hb dX5_widen_15 (by decide) ?_
      obtain ⟨K24_4, eK24_4, hm⟩ := bnd_ex hm
      have J24_4 : ∀ (x3 : Int32) (H : Heap) (locs : List Loc) (ls : Array Slot), K24_4 x3 = some o → va_P (dC, dI) vwCl ([wW cI cJ aW jW aP uW, wP cI cJ aP jP uP] : List va_W).flatten H → va_D A ([wW cI cJ aW jW aP uW, wP cI cJ aP jP uP] : List va_W).flatten → va_S A s.heap H locs → lv_has ls 13 [(0, .ref aW), (1, .int p1), (2, .int p2), (3, .int p3), (4, .int p4), (5, .int p5)] → W p l e ({ frames := 1, cells := 0, slots := 0, locals := 22 } : Room) s m ([.ref aW, .int p1, .int p2, .int p3, .int p4, .int p5] : List Value).toArray below meth c H locs 0 0 Q (F0 m 24 ls [.int x3]) := by
        intro x3 H locs ls hm hP hD hS hl
        have hm := ap1 eK24_4 hm
        refine lv_istore (lv' := [(6, .int x3), (0, .ref aW), (1, .int p1), (2, .int p2), (3, .int p3), (4, .int p4), (5, .int p5)]) hx hb dX5_widen_24 hl (by decide) rfl (fun ls hl => ?_)
        refine lv_lconst (v := (1 : Int64)) hx hb dX5_widen_26 (by decide) ?_
        refine lv_iload hx hb dX5_widen_27 (lv_at hl 6 rfl) ?_
        refine lv_iconst (v := (1 : Int32)) hx hb dX5_widen_29 (by decide) ?_
        obtain ⟨K40_6, eK40_6, hm⟩ := bnd_ex hm
        have J40_6 : ∀ (x5 : Int32) (H : Heap) (locs : List Loc) (ls : Array Slot), K40_6 x5 = some o → va_P (dC, dI) vwCl ([wW cI cJ aW jW aP uW, wP cI cJ aP jP uP] : List va_W).flatten H → va_D A ([wW cI cJ aW jW aP uW, wP cI cJ aP jP uP] : List va_W).flatten → va_S A s.heap H locs → lv_has ls 13 [(0, .ref aW), (1, .int p1), (2, .int p2), (3, .int p3), (4, .int p4), (5, .int p5), (6, .int x3)] → W p l e ({ frames := 1, cells := 0, slots := 0, locals := 22 } : Room) s m ([.ref aW, .int p1, .int p2, .int p3, .int p4, .int p5] : List Value).toArray below meth c H locs 0 0 Q (F0 m 40 ls [.int x5, .long (1 : Int64)]) := by
          intro x5 H locs ls hm hP hD hS hl
          have hm := ap1 eK40_6 hm
          refine lv_iload hx hb dX5_widen_40 (lv_at hl 4 rfl) ?_
          refine lv_isub hx hb dX5_widen_42 ?_
          refine lv_lshl hx hb dX5_widen_43 rfl ?_
          refine lv_iload_n hx hb dX5_widen_44 rfl (lv_at hl 2 rfl) ?_
          refine lv_i2l hx hb dX5_widen_45 rfl ?_
          refine lv_lmul hx hb dX5_widen_46 ?_
          refine lv_topl (fun y7 ey7 => ?_)
          have hm := bnd_nm ey7 hm
          refine lv_lstore (lv' := [(7, .long y7), (0, .ref aW), (1, .int p1), (2, .int p2), (3, .int p3), (4, .int p4), (5, .int p5), (6, .int x3)]) hx hb dX5_widen_47 hl (by decide) rfl (fun ls hl => ?_)
          refine lv_aload_n hx hb dX5_widen_49 rfl (lv_at hl 1 rfl) ?_
          refine va_get (D := (dC, dI)) (ci := 6) (v := .ref (jW 0)) (C := RX5) (T := TX5) (N := 4) hx hb ht inX5 hown hK hP 0 rfl rfl 0 (by decide) (ht _ kw_354) (fun _ h9 => h9) rfl dX5_widen_50 ?_
          refine lv_iload_n hx hb dX5_widen_53 rfl (lv_at hl 2 rfl) ?_
          obtain ⟨g8, hm⟩ := gdi_of hm
          refine va_lald hx hb hK hP 1 1 rfl rfl g8 dX5_widen_54 ?_
          refine lv_topl (fun y9 ey9 => ?_)
          have hm := bnd_nm ey9 hm
          refine lv_lstore (lv' := [(9, .long y9), (7, .long y7), (0, .ref aW), (1, .int p1), (2, .int p2), (3, .int p3), (4, .int p4), (5, .int p5), (6, .int x3)]) hx hb dX5_widen_55 hl (by decide) rfl (fun ls hl => ?_)
          refine lv_iconst (v := (0 : Int32)) hx hb dX5_widen_57 (by decide) ?_
          refine lv_istore (lv' := [(11, .int (0 : Int32)), (9, .long y9), (7, .long y7), (0, .ref aW), (1, .int p1), (2, .int p2), (3, .int p3), (4, .int p4), (5, .int p5), (6, .int x3)]) hx hb dX5_widen_58 hl (by decide) rfl (fun ls hl => ?_)
          obtain ⟨K113_16, eK113_16, hm⟩ := bnd_ex hm
          have X113_16 : ∀ (y13 : Int64) (x14 : Int32) (u15 : OS) (H : Heap) (locs : List Loc) (ls : Array Slot), K113_16 y13 x14 u15 = some o → va_P (dC, dI) vwCl ([wW cI cJ aW jW aP uW, wP cI cJ aP jP u15] : List va_W).flatten H → va_D A ([wW cI cJ aW jW aP uW, wP cI cJ aP jP u15] : List va_W).flatten → va_S A s.heap H locs → lv_has ls 13 [(0, .ref aW), (1, .int p1), (2, .int p2), (3, .int p3), (4, .int p4), (5, .int p5), (6, .int x3), (7, .long y7), (9, .long y13), (11, .int x14)] → W p l e ({ frames := 1, cells := 0, slots := 0, locals := 22 } : Room) s m ([.ref aW, .int p1, .int p2, .int p3, .int p4, .int p5] : List Value).toArray below meth c H locs 0 0 Q (F0 m 113 ls []) := by
            intro y13 x14 u15 H locs ls hm hP hD hS hl
            have hm := ap3 eK113_16 hm
            refine lv_aload_n hx hb dX5_widen_113 rfl (lv_at hl 0 rfl) ?_
            refine va_get (D := (dC, dI)) (ci := 6) (v := .ref (jW 0)) (C := RX5) (T := TX5) (N := 4) hx hb ht inX5 hown hK hP 0 rfl rfl 0 (by decide) (ht _ kw_354) (fun _ h9 => h9) rfl dX5_widen_114 ?_
            refine lv_iload_n hx hb dX5_widen_117 rfl (lv_at hl 1 rfl) ?_
            refine lv_lload hx hb dX5_widen_118 (lv_at hl 8 rfl) ?_
            refine lv_iload_n hx hb dX5_widen_120 rfl (lv_at hl 2 rfl) ?_
            refine lv_i2l hx hb dX5_widen_121 rfl ?_
            obtain ⟨g17, hm⟩ := gdzl_of hm
            refine lv_ldiv hx hb dX5_widen_122 g17 ?_
            refine lv_iload hx hb dX5_widen_123 (lv_at hl 4 rfl) ?_
            refine lv_lshl hx hb dX5_widen_125 rfl ?_
            refine lv_lload hx hb dX5_widen_126 (lv_at hl 8 rfl) ?_
            refine lv_iload_n hx hb dX5_widen_128 rfl (lv_at hl 2 rfl) ?_
            refine lv_i2l hx hb dX5_widen_129 rfl ?_
            obtain ⟨g18, hm⟩ := gdzl_of hm
            refine lv_lrem hx hb dX5_widen_130 g18 ?_
            refine lv_ladd hx hb dX5_widen_131 ?_
            refine lv_iload_n hx hb dX5_widen_132 rfl (lv_at hl 3 rfl) ?_
            refine lv_i2l hx hb dX5_widen_133 rfl ?_
            refine lv_ladd hx hb dX5_widen_134 ?_
            obtain ⟨g19, hm⟩ := gdi_of hm
            refine va_last hx hb hK hP hD hS 1 1 rfl rfl g19 dX5_widen_135 (fun H locs hP hD hS => ?_)
            obtain ⟨u20, eu20, hm⟩ := bnd_ex hm
            have hP : va_P (dC, dI) vwCl ([wW cI cJ aW jW aP u20, wP cI cJ aP jP u15] : List va_W).flatten H := by rw [eu20]; exact hP
            have hD : va_D A ([wW cI cJ aW jW aP u20, wP cI cJ aP jP u15] : List va_W).flatten := by rw [eu20]; exact hD
            rw [← hQ]
            exact W.vret hx hb hr (fun t ht1 hW => ⟨⟨(u20, u15), rfl, hm, by rw [ht1]; exact hP, hD⟩, hS.F ht1⟩) hS.2.2 dX5_widen_136
          have LP60 : ∀ (n60 : Nat) (x10 : Int32) (y11 : Int64) (u12 : OS) (H : Heap) (locs : List Loc) (ls : Array Slot), f_X5_widen_L60 x3 y7 n60 K113_16 x10 y11 u12 = some o → va_P (dC, dI) vwCl ([wW cI cJ aW jW aP uW, wP cI cJ aP jP u12] : List va_W).flatten H → va_D A ([wW cI cJ aW jW aP uW, wP cI cJ aP jP u12] : List va_W).flatten → va_S A s.heap H locs → lv_has ls 13 [(0, .ref aW), (1, .int p1), (2, .int p2), (3, .int p3), (4, .int p4), (5, .int p5), (6, .int x3), (7, .long y7), (9, .long y11), (11, .int x10)] → W p l e ({ frames := 1, cells := 0, slots := 0, locals := 22 } : Room) s m ([.ref aW, .int p1, .int p2, .int p3, .int p4, .int p5] : List Value).toArray below meth c H locs 0 0 Q (F0 m 60 ls []) := by
            intro n60
            induction n60 with
            | zero => intro x10 y11 u12 H locs ls hm; exact nomatch (show (none : Option _) = some _ from hm)
            | succ n60 ih60 =>
              intro x10 y11 u12 H locs ls hm hP hD hS hl
              unfold f_X5_widen_L60 at hm
              refine lv_iload hx hb dX5_widen_60 (lv_at hl 9 rfl) ?_
              refine lv_iconst (v := (2 : Int32)) hx hb dX5_widen_62 (by decide) ?_
              refine lv_icmp_ge (tgt := 113) hx hb dX5_widen_63 (by decide) (fun c21 => ?_) (fun c21 => ?_)
              · have hm := ite_t c21 hm
                exact X113_16 y11 x10 u12 _ _ _ hm hP hD hS (lv_sub hl [0, 1, 2, 3, 4, 5, 6, 7, 8, 9] rfl)
              · have hm := ite_f c21 hm
                refine lv_lload hx hb dX5_widen_66 (lv_at hl 8 rfl) ?_
                refine lv_lload hx hb dX5_widen_68 (lv_at hl 7 rfl) ?_
                refine W.lcmp hx hb dX5_widen_70 ?_
                refine lv_if_lt (tgt := 113) hx hb dX5_widen_71 (by decide) (fun c22 => ?_) (fun c22 => ?_)
                · have c22 := lgc_lt.mp c22
                  have hm := ite_t c22 hm
                  exact X113_16 y11 x10 u12 _ _ _ hm hP hD hS (lv_sub hl [0, 1, 2, 3, 4, 5, 6, 7, 8, 9] rfl)
                · have c22 := mt lgc_lt.mpr c22
                  have hm := ite_f c22 hm
                  refine lv_iconst (v := (0 : Int32)) hx hb dX5_widen_74 (by decide) ?_
                  refine lv_istore (lv' := [(12, .int (0 : Int32)), (0, .ref aW), (1, .int p1), (2, .int p2), (3, .int p3), (4, .int p4), (5, .int p5), (6, .int x3), (7, .long y7), (9, .long y11), (11, .int x10)]) hx hb dX5_widen_75 hl (by decide) rfl (fun ls hl => ?_)
                  obtain ⟨K107_29, eK107_29, hm⟩ := bnd_ex hm
                  have X107_29 : ∀ (y26 : Int64) (x27 : Int32) (u28 : OS) (H : Heap) (locs : List Loc) (ls : Array Slot), K107_29 y26 x27 u28 = some o → va_P (dC, dI) vwCl ([wW cI cJ aW jW aP uW, wP cI cJ aP jP u28] : List va_W).flatten H → va_D A ([wW cI cJ aW jW aP uW, wP cI cJ aP jP u28] : List va_W).flatten → va_S A s.heap H locs → lv_has ls 13 [(0, .ref aW), (1, .int p1), (2, .int p2), (3, .int p3), (4, .int p4), (5, .int p5), (6, .int x3), (7, .long y7), (9, .long y26), (11, .int x10), (12, .int x27)] → W p l e ({ frames := 1, cells := 0, slots := 0, locals := 22 } : Room) s m ([.ref aW, .int p1, .int p2, .int p3, .int p4, .int p5] : List Value).toArray below meth c H locs 0 0 Q (F0 m 107 ls []) := by
                    intro y26 x27 u28 H locs ls hm hP hD hS hl
                    have hm := ap3 eK107_29 hm
                    obtain ⟨x30, ex30, hm⟩ := bnd_ex hm
                    refine lv_iinc (v := x30) (lv' := [(11, .int x30), (0, .ref aW), (1, .int p1), (2, .int p2), (3, .int p3), (4, .int p4), (5, .int p5), (6, .int x3), (7, .long y7), (9, .long y26), (12, .int x27)]) hx hb dX5_widen_107 hl (k := 9) rfl (by rw [ex30]; exact congrArg _ (by decide)) (by decide) rfl (fun ls hl => ?_)
                    refine lv_goto (tgt := 60) hx hb dX5_widen_110 (by decide) ?_
                    exact ih60 x30 y26 u28 _ _ _ hm hP hD hS (lv_sub hl [1, 2, 3, 4, 5, 6, 7, 8, 9, 0] rfl)
                  have LP77 : ∀ (n77 : Nat) (x23 : Int32) (y24 : Int64) (u25 : OS) (H : Heap) (locs : List Loc) (ls : Array Slot), f_X5_widen_L77 x3 n77 K107_29 x23 y24 u25 = some o → va_P (dC, dI) vwCl ([wW cI cJ aW jW aP uW, wP cI cJ aP jP u25] : List va_W).flatten H → va_D A ([wW cI cJ aW jW aP uW, wP cI cJ aP jP u25] : List va_W).flatten → va_S A s.heap H locs → lv_has ls 13 [(0, .ref aW), (1, .int p1), (2, .int p2), (3, .int p3), (4, .int p4), (5, .int p5), (6, .int x3), (7, .long y7), (9, .long y24), (11, .int x10), (12, .int x23)] → W p l e ({ frames := 1, cells := 0, slots := 0, locals := 22 } : Room) s m ([.ref aW, .int p1, .int p2, .int p3, .int p4, .int p5] : List Value).toArray below meth c H locs 0 0 Q (F0 m 77 ls []) := by
                    intro n77
                    induction n77 with
                    | zero => intro x23 y24 u25 H locs ls hm; exact nomatch (show (none : Option _) = some _ from hm)
                    | succ n77 ih77 =>
                      intro x23 y24 u25 H locs ls hm hP hD hS hl
                      unfold f_X5_widen_L77 at hm
                      refine lv_iload hx hb dX5_widen_77 (lv_at hl 10 rfl) ?_
                      refine lv_iload hx hb dX5_widen_79 (lv_at hl 6 rfl) ?_
                      refine lv_icmp_ge (tgt := 107) hx hb dX5_widen_81 (by decide) (fun c31 => ?_) (fun c31 => ?_)
                      · have hm := ite_t c31 hm
                        exact X107_29 y24 x23 u25 _ _ _ hm hP hD hS (lv_sub hl [0, 1, 2, 3, 4, 5, 6, 7, 8, 9, 10] rfl)
                      · have hm := ite_f c31 hm
                        refine lv_aload_n hx hb dX5_widen_84 rfl (lv_at hl 0 rfl) ?_
                        refine va_get (D := (dC, dI)) (ci := 6) (v := .ref aP) (C := RX5) (T := TX5) (N := 4) hx hb ht inX5 hown hK hP 0 rfl rfl 1 (by decide) (ht _ kw_353) (fun _ h9 => h9) rfl dX5_widen_85 ?_
                        refine lv_lload hx hb dX5_widen_88 (lv_at hl 8 rfl) ?_
                        refine lv_l2i hx hb dX5_widen_90 rfl ?_
                        have hPc : va_P (dC, dI) vwCl ([wP cI cJ aP jP u25] : List va_W).flatten _ := hP.subF [1] rfl
                        have hDc : va_D A ([wP cI cJ aP jP u25] : List va_W).flatten := hD.subF [1] (by decide) rfl
                        have hFc := va_freeF (fc := ([wP cI cJ aP jP u25] : List va_W)) hD hS hA [1] rfl
                        obtain ⟨u32o, e33, hm⟩ := oC1_of hm
                        refine va_callv (va_runV (As := [.int (y24).toInt32]) (rest := []) ⟨hx, hb, hml, hown, ht⟩ (c_X2_pushOctet l dC dI cI cJ aP jP H.size u25 (y24).toInt32 u32o e33) (cwV 1 ht (gdV kw_368 kw_366 kw_367 kw_361 kw_365) rfl rfl rfl ⟨rfl, nd_X2_pushOctet⟩ ⟨Nat.le_of_ble_eq_true rfl, Nat.le_of_ble_eq_true rfl⟩) ⟨pcW_blind, va_recv hK hPc (ci := 3) (q0 := 0) rfl rfl, pcW_pre hPc hK hDc hN⟩ rfl rfl hl.1 rfl (lv_room (Nat.le_of_ble_eq_true rfl)) dX5_widen_91 ⟨Nat.zero_le _, Nat.zero_le _⟩) hS (fun q _ z => hFc q z) hFc (fun uu t H1 locs ht1 hvm hw hB hz1 hk1 hS => ?_)
                        obtain ⟨u32, rfl⟩ : ∃ z, z = uu := ⟨_, rfl⟩
                        obtain ⟨hP1, hD1⟩ := hB
                        rw [ht1] at hP1
                        obtain rfl : u32 = u32o := Option.some.inj hw
                        obtain ⟨hP, hD⟩ := va_joinF (fr := ([wW cI cJ aW jW aP uW] : List va_W)) (f1 := ([wP cI cJ aP jP u32] : List va_W)) hP hD [1] [0] rfl rfl (by decide) (by decide) hk1 hFc hP1 hD1
                        have hP : va_P (dC, dI) vwCl ([wW cI cJ aW jW aP uW, wP cI cJ aP jP u32] : List va_W).flatten H1 := hP
                        have hD : va_D A ([wW cI cJ aW jW aP uW, wP cI cJ aP jP u32] : List va_W).flatten := hD
                        generalize H1 = H at hP hS ⊢
                        refine lv_lload hx hb dX5_widen_94 (lv_at hl 8 rfl) ?_
                        refine lv_bipush (v := (8 : Int32)) hx hb dX5_widen_96 (by decide) ?_
                        refine lv_lshr hx hb dX5_widen_98 rfl ?_
                        refine lv_topl (fun y34 ey34 => ?_)
                        have hm := bnd_nm ey34 hm
                        refine lv_lstore (lv' := [(9, .long y34), (0, .ref aW), (1, .int p1), (2, .int p2), (3, .int p3), (4, .int p4), (5, .int p5), (6, .int x3), (7, .long y7), (11, .int x10), (12, .int x23)]) hx hb dX5_widen_99 hl (by decide) rfl (fun ls hl => ?_)
                        obtain ⟨x35, ex35, hm⟩ := bnd_ex hm
                        refine lv_iinc (v := x35) (lv' := [(12, .int x35), (9, .long y34), (0, .ref aW), (1, .int p1), (2, .int p2), (3, .int p3), (4, .int p4), (5, .int p5), (6, .int x3), (7, .long y7), (11, .int x10)]) hx hb dX5_widen_101 hl (k := 10) rfl (by rw [ex35]; exact congrArg _ (by decide)) (by decide) rfl (fun ls hl => ?_)
                        refine lv_goto (tgt := 77) hx hb dX5_widen_104 (by decide) ?_
                        exact ih77 x35 y34 u32 _ _ _ hm hP hD hS (lv_sub hl [2, 3, 4, 5, 6, 7, 8, 9, 1, 10, 0] rfl)
                  exact LP77 FU (0 : Int32) y11 u12 _ _ _ hm hP hD hS (lv_sub hl [1, 2, 3, 4, 5, 6, 7, 8, 9, 10, 0] rfl)
          exact LP60 FU (0 : Int32) y9 uP _ _ _ hm hP hD hS (lv_sub hl [3, 4, 5, 6, 7, 8, 9, 2, 1, 0] rfl)
        refine lv_icmp_ne (tgt := 38) hx hb dX5_widen_30 (by decide) (fun c36 => ?_) (fun c36 => ?_)
        · have hm := ite_f c36 hm
          refine lv_bipush (v := (31 : Int32)) hx hb dX5_widen_38 (by decide) ?_
          exact J40_6 (31 : Int32) _ _ _ hm hP hD hS (lv_sub hl [1, 2, 3, 4, 5, 6, 0] rfl)
        · have hm := ite_t c36 hm
          refine lv_bipush (v := (63 : Int32)) hx hb dX5_widen_33 (by decide) ?_
          refine lv_goto (tgt := 40) hx hb dX5_widen_35 (by decide) ?_
          exact J40_6 (63 : Int32) _ _ _ hm hP hD hS (lv_sub hl [1, 2, 3, 4, 5, 6, 0] rfl)
      refine lv_icmp_ne (tgt := 23) hx hb dX5_widen_16 (by decide) (fun c37 => ?_) (fun c37 => ?_)
      · have hm := ite_f c37 hm
        refine lv_iconst (v := (1 : Int32)) hx hb dX5_widen_23 (by decide) ?_
        exact J24_4 (1 : Int32) _ _ _ hm hP hD hS (lv_sub hl [0, 1, 2, 3, 4, 5] rfl)
      · have hm := ite_t c37 hm
        refine lv_iconst (v := (4 : Int32)) hx hb dX5_widen_19 (by decide) ?_
        refine lv_goto (tgt := 24) hx hb dX5_widen_20 (by decide) ?_
        exact J24_4 (4 : Int32) _ _ _ hm hP hD hS (lv_sub hl [0, 1, 2, 3, 4, 5] rfl)
    · have hm := ite_f c2 hm
      rw [← hQ]
      exact W.vret hx hb hr (fun t ht1 hW => ⟨⟨(uW, uP), rfl, hm, by rw [ht1]; exact hP, hD⟩, hS.F ht1⟩) hS.2.2 dX5_widen_12

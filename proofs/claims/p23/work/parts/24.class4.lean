def f_X4_shareOfZero (uS : OS) (p1 : Int32) (p2 : Int32) : Option (Int32) :=
  if p1 < (0 : Int32) then (
  some ((uS.1 1))) else (
  if p2 < (1 : Int32) then (
  some ((uS.1 1))) else (
  if (16 : Int32) < p2 then (
  some ((uS.1 1))) else (
  if p1 ≤ ((32 : Int32) - ((2 : Int32) * p2)) then (
  gdi (p1 + ((2 : Int32) * p2)) 33 <|
  gdi p1 33 <|
  bnd ((uS.2.1 4 ((p1 + ((2 : Int32) * p2))).toNatClampNeg) - (uS.2.1 4 (p1).toNatClampNeg)) fun x7 =>
  gdi (p1 + p2) 33 <|
  gdi p1 33 <|
  bnd ((uS.2.1 4 ((p1 + p2)).toNatClampNeg) - (uS.2.1 4 (p1).toNatClampNeg)) fun x10 =>
  if x7 ≤ (0 : Int32) then (
  some ((uS.1 1))) else (
  if x10 = x7 then (
  some ((uS.1 1))) else (
  if x10 = (0 : Int32) then (
  some (0 : Int32)) else (
  gdz x7 <|
  bnd (((x10 * (uS.1 1)) + (x7 / (2 : Int32))) / x7) fun x15 =>
  some ((if ((uS.1 1) - (1 : Int32)) < (if x15 < (1 : Int32) then (1 : Int32) else x15) then ((uS.1 1) - (1 : Int32)) else (if x15 < (1 : Int32) then (1 : Int32) else x15))))))) else (
  some ((uS.1 1))))))

set_option maxHeartbeats 4000000 in
set_option maxRecDepth 100000 in
theorem c_X4_shareOfZero (l : Launch) (dC : Nat → ClassId) (dI : Nat → Nat → Nat) (cI cJ : ClassId) (aS : Nat) (jS : Nat → Nat) (sz : Nat) (uS : OS) (p1 : Int32) (p2 : Int32) (o : Int32) (hm : f_X4_shareOfZero uS p1 p2 = some o) : Met l yX4_shareOfZero (wq yX4_shareOfZero cX4_shareOfZero 6 (some .int)) ({ frames := 1, cells := 0, slots := 0, locals := 21 } : Room) (va_Pc [.ref aS, .int p1, .int p2] (pcW dC dI cI cJ sz ([wS cI cJ aS jS uS] : List va_W).flatten)) (va_Qi (S := Unit) (fun r u => some r = some o) (fun (u : Unit) t => va_P (dC, dI) vwCl ([wS cI cJ aS jS uS] : List va_W).flatten t.heap ∧ va_D (va_A ([wS cI cJ aS jS uS] : List va_W).flatten sz) ([wS cI cJ aS jS uS] : List va_W).flatten) (va_A ([wS cI cJ aS jS uS] : List va_W).flatten sz)) 0 0 (va_A ([wS cI cJ aS jS uS] : List va_W).flatten sz) := by
  refine Met.ofW (cc := cX4_shareOfZero) (maxL := 6) (ret := (some .int)) (by decide) rfl ?_
  intro p e s m args below meth c s₁ B hml hv
  obtain ⟨rfl, hsz, hP, hK, hD0, hN⟩ := hv
  have hx := B.exec
  have hb := B.bytes
  have hr := B.returns
  have ht : ∀ w ∈ lw_good, w.before _ s = true := fun w h => atoms_spec (ws := wq yX4_shareOfZero cX4_shareOfZero 6 (some .int)) B.pre w (wq_mem h)
  have hown : s.vm.findClass RX4 = some m.cls := findClass_of_methodNamed B.named
  have hlocks := B.notSynchronized
  subst hsz
  have hD := hD0.self (sz := s.heap.size)
  generalize hAe : va_A ([wS cI cJ aS jS uS] : List va_W).flatten s.heap.size = A at hD ⊢
  have hA : ∀ q : Nat, s.heap.size ≤ q → A q := fun q h => by rw [← hAe]; exact Or.inr h
  have hS : va_S A s.heap s.heap [] := va_S.rf
  have hl := lv_entry ([.ref aS, .int p1, .int p2]) (n := 6) (Nat.le_of_ble_eq_true rfl)
  rw [lg_entry_eq]
  generalize (lg_sl ([.ref aS, .int p1, .int p2]) ++ List.replicate (6 - (lg_sl ([.ref aS, .int p1, .int p2])).length) Slot.unset).toArray = ls at hl ⊢
  have hl : lv_has ls 6 [(0, .ref aS), (1, .int p1), (2, .int p2)] := hl
  generalize hQ : MQ below _ _ s _ _ _ = Q
  generalize hH : s.heap = H at hP ⊢
  have hS : va_S A s.heap H [] := by rw [← hH]; exact va_S.rf
  show W p l e ({ frames := 1, cells := 0, slots := 0, locals := 21 } : Room) s m ([.ref aS, .int p1, .int p2] : List Value).toArray below meth c H [] 0 0 Q (F0 m 0 ls [])
  unfold f_X4_shareOfZero at hm
  refine lv_iload_n hx hb dX4_shareOfZero_0 rfl (lv_at hl 1 rfl) ?_
  refine lv_if_lt (tgt := 25) hx hb dX4_shareOfZero_1 (by decide) (fun c1 => ?_) (fun c1 => ?_)
  · have hm := ite_t c1 hm
    refine lv_aload_n hx hb dX4_shareOfZero_25 rfl (lv_at hl 0 rfl) ?_
    refine va_get (D := (dC, dI)) (ci := 5) (v := .int (uS.1 1)) (C := RX4) (T := TX4) (N := 11) hx hb ht inX4 hown hK hP 0 rfl rfl 1 (by decide) (ht _ kw_197) (fun _ h9 => h9) rfl dX4_shareOfZero_26 ?_
    rw [← hQ]
    exact W.iret (v := (uS.1 1)) hx hb hr (fun t ht1 hW => ⟨⟨_, (), rfl, hm, by rw [ht1]; exact hP, hD⟩, hS.F ht1⟩) hS.2.2 dX4_shareOfZero_29
  · have hm := ite_f c1 hm
    refine lv_iload_n hx hb dX4_shareOfZero_4 rfl (lv_at hl 2 rfl) ?_
    refine lv_iconst (v := (1 : Int32)) hx hb dX4_shareOfZero_5 (by decide) ?_
    refine lv_icmp_lt (tgt := 25) hx hb dX4_shareOfZero_6 (by decide) (fun c2 => ?_) (fun c2 => ?_)
    · have hm := ite_t c2 hm
      refine lv_aload_n hx hb dX4_shareOfZero_25 rfl (lv_at hl 0 rfl) ?_
      refine va_get (D := (dC, dI)) (ci := 5) (v := .int (uS.1 1)) (C := RX4) (T := TX4) (N := 11) hx hb ht inX4 hown hK hP 0 rfl rfl 1 (by decide) (ht _ kw_197) (fun _ h9 => h9) rfl dX4_shareOfZero_26 ?_
      rw [← hQ]
      exact W.iret (v := (uS.1 1)) hx hb hr (fun t ht1 hW => ⟨⟨_, (), rfl, hm, by rw [ht1]; exact hP, hD⟩, hS.F ht1⟩) hS.2.2 dX4_shareOfZero_29
    · have hm := ite_f c2 hm
      refine lv_iload_n hx hb dX4_shareOfZero_9 rfl (lv_at hl 2 rfl) ?_
      refine lv_bipush (v := (16 : Int32)) hx hb dX4_shareOfZero_10 (by decide) ?_
      refine lv_icmp_gt (tgt := 25) hx hb dX4_shareOfZero_12 (by decide) (fun c3 => ?_) (fun c3 => ?_)
      · have hm := ite_t c3 hm
        refine lv_aload_n hx hb dX4_shareOfZero_25 rfl (lv_at hl 0 rfl) ?_
        refine va_get (D := (dC, dI)) (ci := 5) (v := .int (uS.1 1)) (C := RX4) (T := TX4) (N := 11) hx hb ht inX4 hown hK hP 0 rfl rfl 1 (by decide) (ht _ kw_197) (fun _ h9 => h9) rfl dX4_shareOfZero_26 ?_
        rw [← hQ]
        exact W.iret (v := (uS.1 1)) hx hb hr (fun t ht1 hW => ⟨⟨_, (), rfl, hm, by rw [ht1]; exact hP, hD⟩, hS.F ht1⟩) hS.2.2 dX4_shareOfZero_29
      · have hm := ite_f c3 hm
        refine lv_iload_n hx hb dX4_shareOfZero_15 rfl (lv_at hl 1 rfl) ?_
        refine lv_bipush (v := (32 : Int32)) hx hb dX4_shareOfZero_16 (by decide) ?_
        refine lv_iconst (v := (2 : Int32)) hx hb dX4_shareOfZero_18 (by decide) ?_
        refine lv_iload_n hx hb dX4_shareOfZero_19 rfl (lv_at hl 2 rfl) ?_
        refine lv_imul hx hb dX4_shareOfZero_20 ?_
        refine lv_isub hx hb dX4_shareOfZero_21 ?_
        refine lv_icmp_le (tgt := 30) hx hb dX4_shareOfZero_22 (by decide) (fun c4 => ?_) (fun c4 => ?_)
        · have hm := ite_t c4 hm
          refine lv_aload_n hx hb dX4_shareOfZero_30 rfl (lv_at hl 0 rfl) ?_
          refine va_get (D := (dC, dI)) (ci := 5) (v := .ref (jS 4)) (C := RX4) (T := TX4) (N := 11) hx hb ht inX4 hown hK hP 0 rfl rfl 4 (by decide) (ht _ kw_216) (fun _ h9 => h9) rfl dX4_shareOfZero_31 ?_
          refine lv_iload_n hx hb dX4_shareOfZero_34 rfl (lv_at hl 1 rfl) ?_
          refine lv_iconst (v := (2 : Int32)) hx hb dX4_shareOfZero_35 (by decide) ?_
          refine lv_iload_n hx hb dX4_shareOfZero_36 rfl (lv_at hl 2 rfl) ?_
          refine lv_imul hx hb dX4_shareOfZero_37 ?_
          refine lv_iadd hx hb dX4_shareOfZero_38 ?_
          obtain ⟨g5, hm⟩ := gdi_of hm
          refine va_iald hx hb hK hP 2 0 rfl rfl g5 dX4_shareOfZero_39 ?_
          refine lv_aload_n hx hb dX4_shareOfZero_40 rfl (lv_at hl 0 rfl) ?_
          refine va_get (D := (dC, dI)) (ci := 5) (v := .ref (jS 4)) (C := RX4) (T := TX4) (N := 11) hx hb ht inX4 hown hK hP 0 rfl rfl 4 (by decide) (ht _ kw_216) (fun _ h9 => h9) rfl dX4_shareOfZero_41 ?_
          refine lv_iload_n hx hb dX4_shareOfZero_44 rfl (lv_at hl 1 rfl) ?_
          obtain ⟨g6, hm⟩ := gdi_of hm
          refine va_iald hx hb hK hP 2 0 rfl rfl g6 dX4_shareOfZero_45 ?_
          refine lv_isub hx hb dX4_shareOfZero_46 ?_
          refine lv_topi (fun x7 ex7 => ?_)
          have hm := bnd_nm ex7 hm
          refine lv_istore_n (lv' := [(3, .int x7), (0, .ref aS), (1, .int p1), (2, .int p2)]) hx hb dX4_shareOfZero_47 rfl hl (by decide) rfl (fun ls hl => ?_)
          refine lv_aload_n hx hb dX4_shareOfZero_48 rfl (lv_at hl 1 rfl) ?_
          refine va_get (D := (dC, dI)) (ci := 5) (v := .ref (jS 4)) (C := RX4) (T := TX4) (N := 11) hx hb ht inX4 hown hK hP 0 rfl rfl 4 (by decide) (ht _ kw_216) (fun _ h9 => h9) rfl dX4_shareOfZero_49 ?_
          refine lv_iload_n hx hb dX4_shareOfZero_52 rfl (lv_at hl 2 rfl) ?_
          refine lv_iload_n hx hb dX4_shareOfZero_53 rfl (lv_at hl 3 rfl) ?_
          refine lv_iadd hx hb dX4_shareOfZero_54 ?_
          obtain ⟨g8, hm⟩ := gdi_of hm
          refine va_iald hx hb hK hP 2 0 rfl rfl g8 dX4_shareOfZero_55 ?_
          refine lv_aload_n hx hb dX4_shareOfZero_56 rfl (lv_at hl 1 rfl) ?_
          refine va_get (D := (dC, dI)) (ci := 5) (v := .ref (jS 4)) (C := RX4) (T := TX4) (N := 11) hx hb ht inX4 hown hK hP 0 rfl rfl 4 (by decide) (ht _ kw_216) (fun _ h9 => h9) rfl dX4_shareOfZero_57 ?_
          refine lv_iload_n hx hb dX4_shareOfZero_60 rfl (lv_at hl 2 rfl) ?_
          obtain ⟨g9, hm⟩ := gdi_of hm
          refine va_iald hx hb hK hP 2 0 rfl rfl g9 dX4_shareOfZero_61 ?_
          refine lv_isub hx hb dX4_shareOfZero_62 ?_
          refine lv_topi (fun x10 ex10 => ?_)
          have hm := bnd_nm ex10 hm
          refine lv_istore (lv' := [(4, .int x10), (3, .int x7), (0, .ref aS), (1, .int p1), (2, .int p2)]) hx hb dX4_shareOfZero_63 hl (by decide) rfl (fun ls hl => ?_)
          refine lv_iload_n hx hb dX4_shareOfZero_65 rfl (lv_at hl 1 rfl) ?_
          refine lv_if_le (tgt := 75) hx hb dX4_shareOfZero_66 (by decide) (fun c11 => ?_) (fun c11 => ?_)
          · have hm := ite_t c11 hm
            refine lv_aload_n hx hb dX4_shareOfZero_75 rfl (lv_at hl 2 rfl) ?_
            refine va_get (D := (dC, dI)) (ci := 5) (v := .int (uS.1 1)) (C := RX4) (T := TX4) (N := 11) hx hb ht inX4 hown hK hP 0 rfl rfl 1 (by decide) (ht _ kw_197) (fun _ h9 => h9) rfl dX4_shareOfZero_76 ?_
            rw [← hQ]
            exact W.iret (v := (uS.1 1)) hx hb hr (fun t ht1 hW => ⟨⟨_, (), rfl, hm, by rw [ht1]; exact hP, hD⟩, hS.F ht1⟩) hS.2.2 dX4_shareOfZero_79
          · have hm := ite_f c11 hm
            refine lv_iload hx hb dX4_shareOfZero_69 (lv_at hl 0 rfl) ?_
            refine lv_iload_n hx hb dX4_shareOfZero_71 rfl (lv_at hl 1 rfl) ?_
            refine lv_icmp_ne (tgt := 80) hx hb dX4_shareOfZero_72 (by decide) (fun c12 => ?_) (fun c12 => ?_)
            · have hm := ite_f c12 hm
              refine lv_iload hx hb dX4_shareOfZero_80 (lv_at hl 0 rfl) ?_
              refine lv_if_ne (tgt := 87) hx hb dX4_shareOfZero_82 (by decide) (fun c13 => ?_) (fun c13 => ?_)
              · have hm := ite_f c13 hm
                refine lv_iload hx hb dX4_shareOfZero_87 (lv_at hl 0 rfl) ?_
                refine lv_aload_n hx hb dX4_shareOfZero_89 rfl (lv_at hl 2 rfl) ?_
                refine va_get (D := (dC, dI)) (ci := 5) (v := .int (uS.1 1)) (C := RX4) (T := TX4) (N := 11) hx hb ht inX4 hown hK hP 0 rfl rfl 1 (by decide) (ht _ kw_197) (fun _ h9 => h9) rfl dX4_shareOfZero_90 ?_
                refine lv_imul hx hb dX4_shareOfZero_93 ?_
                refine lv_iload_n hx hb dX4_shareOfZero_94 rfl (lv_at hl 1 rfl) ?_
                refine lv_iconst (v := (2 : Int32)) hx hb dX4_shareOfZero_95 (by decide) ?_
                refine lv_idiv hx hb dX4_shareOfZero_96 (by decide) ?_
                refine lv_iadd hx hb dX4_shareOfZero_97 ?_
                refine lv_iload_n hx hb dX4_shareOfZero_98 rfl (lv_at hl 1 rfl) ?_
                obtain ⟨g14, hm⟩ := gdz_of hm
                refine lv_idiv hx hb dX4_shareOfZero_99 g14 ?_
                refine lv_topi (fun x15 ex15 => ?_)
                have hm := bnd_nm ex15 hm
                refine lv_istore (lv' := [(5, .int x15), (4, .int x10), (3, .int x7), (0, .ref aS), (1, .int p1), (2, .int p2)]) hx hb dX4_shareOfZero_100 hl (by decide) rfl (fun ls hl => ?_)
                refine lv_iload hx hb dX4_shareOfZero_102 (lv_at hl 0 rfl) ?_
                refine lv_iconst (v := (1 : Int32)) hx hb dX4_shareOfZero_104 (by decide) ?_
                refine va_mmax hx hb (hml.trans hl.1.symm) hown (ht _ kw_259) (ht _ kw_260) (ht _ kw_261) (ht _ kw_262) (Nat.le_of_ble_eq_true rfl) (Nat.le_of_ble_eq_true rfl) (Nat.zero_le _) (Nat.zero_le _) dX4_shareOfZero_105 ?_
                refine lv_aload_n hx hb dX4_shareOfZero_108 rfl (lv_at hl 3 rfl) ?_
                refine va_get (D := (dC, dI)) (ci := 5) (v := .int (uS.1 1)) (C := RX4) (T := TX4) (N := 11) hx hb ht inX4 hown hK hP 0 rfl rfl 1 (by decide) (ht _ kw_197) (fun _ h9 => h9) rfl dX4_shareOfZero_109 ?_
                refine lv_iconst (v := (1 : Int32)) hx hb dX4_shareOfZero_112 (by decide) ?_
                refine lv_isub hx hb dX4_shareOfZero_113 ?_
                refine va_mmin hx hb (hml.trans hl.1.symm) hown (ht _ kw_263) (ht _ kw_264) (ht _ kw_261) (ht _ kw_265) (Nat.le_of_ble_eq_true rfl) (Nat.le_of_ble_eq_true rfl) (Nat.zero_le _) (Nat.zero_le _) dX4_shareOfZero_114 ?_
                rw [← hQ]
                exact W.iret (v := (if ((uS.1 1) - (1 : Int32)) < (if x15 < (1 : Int32) then (1 : Int32) else x15) then ((uS.1 1) - (1 : Int32)) else (if x15 < (1 : Int32) then (1 : Int32) else x15))) hx hb hr (fun t ht1 hW => ⟨⟨_, (), rfl, hm, by rw [ht1]; exact hP, hD⟩, hS.F ht1⟩) hS.2.2 dX4_shareOfZero_117
              · have hm := ite_t c13 hm
                refine lv_iconst (v := (0 : Int32)) hx hb dX4_shareOfZero_85 (by decide) ?_
                rw [← hQ]
                exact W.iret (v := (0 : Int32)) hx hb hr (fun t ht1 hW => ⟨⟨_, (), rfl, hm, by rw [ht1]; exact hP, hD⟩, hS.F ht1⟩) hS.2.2 dX4_shareOfZero_86
            · have hm := ite_t c12 hm
              refine lv_aload_n hx hb dX4_shareOfZero_75 rfl (lv_at hl 2 rfl) ?_
              refine va_get (D := (dC, dI)) (ci := 5) (v := .int (uS.1 1)) (C := RX4) (T := TX4) (N := 11) hx hb ht inX4 hown hK hP 0 rfl rfl 1 (by decide) (ht _ kw_197) (fun _ h9 => h9) rfl dX4_shareOfZero_76 ?_
              rw [← hQ]
              exact W.iret (v := (uS.1 1)) hx hb hr (fun t ht1 hW => ⟨⟨_, (), rfl, hm, by rw [ht1]; exact hP, hD⟩, hS.F ht1⟩) hS.2.2 dX4_shareOfZero_79
        · have hm := ite_f c4 hm
          refine lv_aload_n hx hb dX4_shareOfZero_25 rfl (lv_at hl 0 rfl) ?_
          refine va_get (D := (dC, dI)) (ci := 5) (v := .int (uS.1 1)) (C := RX4) (T := TX4) (N := 11) hx hb ht inX4 hown hK hP 0 rfl rfl 1 (by decide) (ht _ kw_197) (fun _ h9 => h9) rfl dX4_shareOfZero_26 ?_
          rw [← hQ]
          exact W.iret (v := (uS.1 1)) hx hb hr (fun t ht1 hW => ⟨⟨_, (), rfl, hm, by rw [ht1]; exact hP, hD⟩, hS.F ht1⟩) hS.2.2 dX4_shareOfZero_29

def f_X3_takeTwoSided_L6 (uZ : OS) (p1 : Int32) (uO : OS) : Nat → Int32 → Int32 → OS → Option (OS × Int32)
  | 0, _, _, _ => none
  | n6 + 1, x1, x2, u3 =>
    if x1 ≤ (0 : Int32) then (
    some (u3, x2)) else (
    oC1 (f_X4_shareOfZero uZ x2 x1) fun r5 =>
    oC1 (f_X3_restOf u3 uZ p1) fun r7 =>
    bnd (fun (x9 : Int32) (u10 : OS) =>
    if (u10.1 4) = (0 : Int32) then (
    bnd (x1 / (2 : Int32)) fun x13 =>
    f_X3_takeTwoSided_L6 uZ p1 uO n6 x13 x9 u10) else (
    some (u10, (-1 : Int32)))) fun K68_11 =>
    if r5 ≤ r7 then (
    oC1 (f_X3_narrow u3 uZ uO p1 ((uZ.1 1) - r5) r5) fun u15 =>
    bnd (x2 + x1) fun x17 =>
    K68_11 x17 u15) else (
    oC1 (f_X3_narrow u3 uZ uO p1 r5 (0 : Int32)) fun u18 =>
    K68_11 x2 u18))

def f_X3_takeTwoSided (uR : OS) (uZ : OS) (uO : OS) (p1 : Int32) : Option (OS × Int32) :=
  f_X3_takeTwoSided_L6 uZ p1 uO FU (16 : Int32) (0 : Int32) uR

set_option maxHeartbeats 4000000 in
set_option maxRecDepth 100000 in
theorem c_X3_takeTwoSided (l : Launch) (dC : Nat → ClassId) (dI : Nat → Nat → Nat) (cI cJ : ClassId) (aR : Nat) (jR : Nat → Nat) (aZ : Nat) (jZ : Nat → Nat) (aO : Nat) (jO : Nat → Nat) (sz : Nat) (uR : OS) (uZ : OS) (uO : OS) (p1 : Int32) (o : OS × Int32) (hm : f_X3_takeTwoSided uR uZ uO p1 = some o) : Met l yX3_takeTwoSided (wq yX3_takeTwoSided cX3_takeTwoSided 6 (some .int)) ({ frames := 2, cells := 0, slots := 0, locals := 57 } : Room) (va_Pc [.ref aR, .int p1, .ref aO] (pcW dC dI cI cJ sz ([wR cI cJ aR jR aZ uR, wS cI cJ aZ jZ uZ, wO cI cJ aO jO uO] : List va_W).flatten)) (va_Qi (S := OS) (fun r u => some (u, r) = some o) (fun (u : OS) t => va_P (dC, dI) vwCl ([wR cI cJ aR jR aZ u, wS cI cJ aZ jZ uZ, wO cI cJ aO jO uO] : List va_W).flatten t.heap ∧ va_D (va_A ([wR cI cJ aR jR aZ uR, wS cI cJ aZ jZ uZ, wO cI cJ aO jO uO] : List va_W).flatten sz) ([wR cI cJ aR jR aZ u, wS cI cJ aZ jZ uZ, wO cI cJ aO jO uO] : List va_W).flatten) (va_A ([wR cI cJ aR jR aZ uR, wS cI cJ aZ jZ uZ, wO cI cJ aO jO uO] : List va_W).flatten sz)) 0 0 (va_A ([wR cI cJ aR jR aZ uR, wS cI cJ aZ jZ uZ, wO cI cJ aO jO uO] : List va_W).flatten sz) := by
  refine Met.ofW (cc := cX3_takeTwoSided) (maxL := 6) (ret := (some .int)) (by decide) rfl ?_
  intro p e s m args below meth c s₁ B hml hv
  obtain ⟨rfl, hsz, hP, hK, hD0, hN⟩ := hv
  have hx := B.exec
  have hb := B.bytes
  have hr := B.returns
  have ht : ∀ w ∈ lw_good, w.before _ s = true := fun w h => atoms_spec (ws := wq yX3_takeTwoSided cX3_takeTwoSided 6 (some .int)) B.pre w (wq_mem h)
  have hown : s.vm.findClass RX3 = some m.cls := findClass_of_methodNamed B.named
  have hlocks := B.notSynchronized
  subst hsz
  have hD := hD0.self (sz := s.heap.size)
  generalize hAe : va_A ([wR cI cJ aR jR aZ uR, wS cI cJ aZ jZ uZ, wO cI cJ aO jO uO] : List va_W).flatten s.heap.size = A at hD ⊢
  have hA : ∀ q : Nat, s.heap.size ≤ q → A q := fun q h => by rw [← hAe]; exact Or.inr h
  have hS : va_S A s.heap s.heap [] := va_S.rf
  have hl := lv_entry ([.ref aR, .int p1, .ref aO]) (n := 6) (Nat.le_of_ble_eq_true rfl)
  rw [lg_entry_eq]
  generalize (lg_sl ([.ref aR, .int p1, .ref aO]) ++ List.replicate (6 - (lg_sl ([.ref aR, .int p1, .ref aO])).length) Slot.unset).toArray = ls at hl ⊢
  have hl : lv_has ls 6 [(0, .ref aR), (1, .int p1), (2, .ref aO)] := hl
  generalize hQ : MQ below _ _ s _ _ _ = Q
  generalize hH : s.heap = H at hP ⊢
  have hS : va_S A s.heap H [] := by rw [← hH]; exact va_S.rf
  show W p l e ({ frames := 2, cells := 0, slots := 0, locals := 57 } : Room) s m ([.ref aR, .int p1, .ref aO] : List Value).toArray below meth c H [] 0 0 Q (F0 m 0 ls [])
  unfold f_X3_takeTwoSided at hm
  refine lv_iconst (v := (0 : Int32)) hx hb dX3_takeTwoSided_0 (by decide) ?_
  refine lv_istore_n (lv' := [(3, .int (0 : Int32)), (0, .ref aR), (1, .int p1), (2, .ref aO)]) hx hb dX3_takeTwoSided_1 rfl hl (by decide) rfl (fun ls hl => ?_)
  refine lv_bipush (v := (16 : Int32)) hx hb dX3_takeTwoSided_2 (by decide) ?_
  refine lv_istore (lv' := [(4, .int (16 : Int32)), (3, .int (0 : Int32)), (0, .ref aR), (1, .int p1), (2, .ref aO)]) hx hb dX3_takeTwoSided_4 hl (by decide) rfl (fun ls hl => ?_)
  have LP6 : ∀ (n6 : Nat) (x1 : Int32) (x2 : Int32) (u3 : OS) (H : Heap) (locs : List Loc) (ls : Array Slot), f_X3_takeTwoSided_L6 uZ p1 uO n6 x1 x2 u3 = some o → va_P (dC, dI) vwCl ([wR cI cJ aR jR aZ u3, wS cI cJ aZ jZ uZ, wO cI cJ aO jO uO] : List va_W).flatten H → va_D A ([wR cI cJ aR jR aZ u3, wS cI cJ aZ jZ uZ, wO cI cJ aO jO uO] : List va_W).flatten → va_S A s.heap H locs → lv_has ls 6 [(0, .ref aR), (1, .int p1), (2, .ref aO), (3, .int x2), (4, .int x1)] → W p l e ({ frames := 2, cells := 0, slots := 0, locals := 57 } : Room) s m ([.ref aR, .int p1, .ref aO] : List Value).toArray below meth c H locs 0 0 Q (F0 m 6 ls []) := by
    intro n6
    induction n6 with
    | zero => intro x1 x2 u3 H locs ls hm; exact nomatch (show (none : Option _) = some _ from hm)
    | succ n6 ih6 =>
      intro x1 x2 u3 H locs ls hm hP hD hS hl
      unfold f_X3_takeTwoSided_L6 at hm
      refine lv_iload hx hb dX3_takeTwoSided_6 (lv_at hl 4 rfl) ?_
      refine lv_if_le (tgt := 86) hx hb dX3_takeTwoSided_8 (by decide) (fun c4 => ?_) (fun c4 => ?_)
      · have hm := ite_t c4 hm
        refine lv_iload_n hx hb dX3_takeTwoSided_86 rfl (lv_at hl 3 rfl) ?_
        rw [← hQ]
        exact W.iret (v := x2) hx hb hr (fun t ht1 hW => ⟨⟨_, u3, rfl, hm, by rw [ht1]; exact hP, hD⟩, hS.F ht1⟩) hS.2.2 dX3_takeTwoSided_87
      · have hm := ite_f c4 hm
        refine lv_aload_n hx hb dX3_takeTwoSided_11 rfl (lv_at hl 0 rfl) ?_
        refine va_get (D := (dC, dI)) (ci := 4) (v := .ref aZ) (C := RX3) (T := TX3) (N := 12) hx hb ht inX3 hown hK hP 0 rfl rfl 0 (by decide) (ht _ kw_188) (fun _ h9 => h9) rfl dX3_takeTwoSided_12 ?_
        refine lv_iload_n hx hb dX3_takeTwoSided_15 rfl (lv_at hl 3 rfl) ?_
        refine lv_iload hx hb dX3_takeTwoSided_16 (lv_at hl 4 rfl) ?_
        have hPc : va_P (dC, dI) vwCl ([wS cI cJ aZ jZ uZ] : List va_W).flatten _ := hP.subF [1] rfl
        have hDc : va_D A ([wS cI cJ aZ jZ uZ] : List va_W).flatten := hD.subF [1] (by decide) rfl
        have hFc := va_freeF (fc := ([wS cI cJ aZ jZ uZ] : List va_W)) hD hS hA [1] rfl
        obtain ⟨r5o, e6, hm⟩ := oC1_of hm
        refine va_calli (va_runV (As := [.int x2, .int x1]) (rest := []) ⟨hx, hb, hml, hown, ht⟩ (c_X4_shareOfZero l dC dI cI cJ aZ jZ H.size uZ x2 x1 r5o e6) (cwV 2 ht (gdV kw_269 kw_267 kw_268 kw_199 kw_266) rfl rfl rfl ⟨rfl, nd_X4_shareOfZero⟩ ⟨Nat.le_of_ble_eq_true rfl, Nat.le_of_ble_eq_true rfl⟩) ⟨pcW_blind, va_recv hK hPc (ci := 5) (q0 := 0) rfl rfl, pcW_pre hPc hK hDc hN⟩ rfl rfl hl.1 rfl (lv_room (Nat.le_of_ble_eq_true rfl)) dX3_takeTwoSided_18 ⟨Nat.zero_le _, Nat.zero_le _⟩) hS (fun q _ z => hFc q z) hFc (fun r5 uu t H1 locs ht1 hvm hw hB hz1 hk1 hS => ?_)
        obtain ⟨⟩ := uu
        obtain ⟨hP1, hD1⟩ := hB
        rw [ht1] at hP1
        obtain rfl : r5 = r5o := Option.some.inj hw
        obtain ⟨hP, hD⟩ := va_joinF (fr := ([wR cI cJ aR jR aZ u3, wO cI cJ aO jO uO] : List va_W)) (f1 := ([wS cI cJ aZ jZ uZ] : List va_W)) hP hD [1] [0, 2] rfl rfl (by decide) (by decide) hk1 hFc hP1 hD1
        have hP : va_P (dC, dI) vwCl ([wR cI cJ aR jR aZ u3, wS cI cJ aZ jZ uZ, wO cI cJ aO jO uO] : List va_W).flatten H1 := hP.subF [0, 2, 1] rfl
        have hD : va_D A ([wR cI cJ aR jR aZ u3, wS cI cJ aZ jZ uZ, wO cI cJ aO jO uO] : List va_W).flatten := hD.subF [0, 2, 1] (by decide) rfl
        generalize H1 = H at hP hS ⊢
        refine lv_istore (lv' := [(5, .int r5), (0, .ref aR), (1, .int p1), (2, .ref aO), (3, .int x2), (4, .int x1)]) hx hb dX3_takeTwoSided_21 hl (by decide) rfl (fun ls hl => ?_)
        refine lv_aload_n hx hb dX3_takeTwoSided_23 rfl (lv_at hl 1 rfl) ?_
        refine lv_iload_n hx hb dX3_takeTwoSided_24 rfl (lv_at hl 2 rfl) ?_
        have hPc : va_P (dC, dI) vwCl ([wR cI cJ aR jR aZ u3, wS cI cJ aZ jZ uZ] : List va_W).flatten _ := hP.subF [0, 1] rfl
        have hDc : va_D A ([wR cI cJ aR jR aZ u3, wS cI cJ aZ jZ uZ] : List va_W).flatten := hD.subF [0, 1] (by decide) rfl
        have hFc := va_freeF (fc := ([wR cI cJ aR jR aZ u3, wS cI cJ aZ jZ uZ] : List va_W)) hD hS hA [0, 1] rfl
        obtain ⟨r7o, e8, hm⟩ := oC1_of hm
        refine va_calli (va_runV (As := [.int p1]) (rest := []) ⟨hx, hb, hml, hown, ht⟩ (c_X3_restOf l dC dI cI cJ aR jR aZ jZ H.size u3 uZ p1 r7o e8) (cwV 1 ht (gdV kw_258 kw_256 kw_257 kw_205 kw_255) rfl rfl rfl ⟨rfl, nd_X3_restOf⟩ ⟨Nat.le_of_ble_eq_true rfl, Nat.le_of_ble_eq_true rfl⟩) ⟨pcW_blind, va_recv hK hPc (ci := 4) (q0 := 0) rfl rfl, pcW_pre hPc hK hDc hN⟩ rfl rfl hl.1 rfl (lv_room (Nat.le_of_ble_eq_true rfl)) dX3_takeTwoSided_25 ⟨Nat.zero_le _, Nat.zero_le _⟩) hS (fun q _ z => hFc q z) hFc (fun r7 uu t H1 locs ht1 hvm hw hB hz1 hk1 hS => ?_)
        obtain ⟨⟩ := uu
        obtain ⟨hP1, hD1⟩ := hB
        rw [ht1] at hP1
        obtain rfl : r7 = r7o := Option.some.inj hw
        obtain ⟨hP, hD⟩ := va_joinF (fr := ([wO cI cJ aO jO uO] : List va_W)) (f1 := ([wR cI cJ aR jR aZ u3, wS cI cJ aZ jZ uZ] : List va_W)) hP hD [0, 1] [2] rfl rfl (by decide) (by decide) hk1 hFc hP1 hD1
        have hP : va_P (dC, dI) vwCl ([wR cI cJ aR jR aZ u3, wS cI cJ aZ jZ uZ, wO cI cJ aO jO uO] : List va_W).flatten H1 := hP.subF [1, 2, 0] rfl
        have hD : va_D A ([wR cI cJ aR jR aZ u3, wS cI cJ aZ jZ uZ, wO cI cJ aO jO uO] : List va_W).flatten := hD.subF [1, 2, 0] (by decide) rfl
        generalize H1 = H at hP hS ⊢
        refine lv_iload hx hb dX3_takeTwoSided_28 (lv_at hl 0 rfl) ?_
        obtain ⟨K68_11, eK68_11, hm⟩ := bnd_ex hm
        have J68_11 : ∀ (x9 : Int32) (u10 : OS) (H : Heap) (locs : List Loc) (ls : Array Slot), K68_11 x9 u10 = some o → va_P (dC, dI) vwCl ([wR cI cJ aR jR aZ u10, wS cI cJ aZ jZ uZ, wO cI cJ aO jO uO] : List va_W).flatten H → va_D A ([wR cI cJ aR jR aZ u10, wS cI cJ aZ jZ uZ, wO cI cJ aO jO uO] : List va_W).flatten → va_S A s.heap H locs → lv_has ls 6 [(0, .ref aR), (1, .int p1), (2, .ref aO), (3, .int x9), (4, .int x1), (5, .int r5)] → W p l e ({ frames := 2, cells := 0, slots := 0, locals := 57 } : Room) s m ([.ref aR, .int p1, .ref aO] : List Value).toArray below meth c H locs 0 0 Q (F0 m 68 ls []) := by
          intro x9 u10 H locs ls hm hP hD hS hl
          have hm := ap2 eK68_11 hm
          refine lv_aload_n hx hb dX3_takeTwoSided_68 rfl (lv_at hl 0 rfl) ?_
          refine va_get (D := (dC, dI)) (ci := 4) (v := .int (u10.1 4)) (C := RX3) (T := TX3) (N := 12) hx hb ht inX3 hown hK hP 0 rfl rfl 4 (by decide) (ht _ kw_181) (fun _ h9 => h9) rfl dX3_takeTwoSided_69 ?_
          refine lv_if_eq (tgt := 77) hx hb dX3_takeTwoSided_72 (by decide) (fun c12 => ?_) (fun c12 => ?_)
          · have hm := ite_t c12 hm
            refine lv_iload hx hb dX3_takeTwoSided_77 (lv_at hl 4 rfl) ?_
            refine lv_iconst (v := (2 : Int32)) hx hb dX3_takeTwoSided_79 (by decide) ?_
            refine lv_idiv hx hb dX3_takeTwoSided_80 (by decide) ?_
            refine lv_topi (fun x13 ex13 => ?_)
            have hm := bnd_nm ex13 hm
            refine lv_istore (lv' := [(4, .int x13), (0, .ref aR), (1, .int p1), (2, .ref aO), (3, .int x9), (5, .int r5)]) hx hb dX3_takeTwoSided_81 hl (by decide) rfl (fun ls hl => ?_)
            refine lv_goto (tgt := 6) hx hb dX3_takeTwoSided_83 (by decide) ?_
            exact ih6 x13 x9 u10 _ _ _ hm hP hD hS (lv_sub hl [1, 2, 3, 4, 0] rfl)
          · have hm := ite_f c12 hm
            refine lv_iconst (v := (-1 : Int32)) hx hb dX3_takeTwoSided_75 (by decide) ?_
            rw [← hQ]
            exact W.iret (v := (-1 : Int32)) hx hb hr (fun t ht1 hW => ⟨⟨_, u10, rfl, hm, by rw [ht1]; exact hP, hD⟩, hS.F ht1⟩) hS.2.2 dX3_takeTwoSided_76
        refine lv_icmp_ge (tgt := 45) hx hb dX3_takeTwoSided_30 (by decide) (fun c14 => ?_) (fun c14 => ?_)
        · have hm := ite_t c14 hm
          refine lv_aload_n hx hb dX3_takeTwoSided_45 rfl (lv_at hl 1 rfl) ?_
          refine lv_iload_n hx hb dX3_takeTwoSided_46 rfl (lv_at hl 2 rfl) ?_
          refine lv_aload_n hx hb dX3_takeTwoSided_47 rfl (lv_at hl 1 rfl) ?_
          refine va_get (D := (dC, dI)) (ci := 4) (v := .ref aZ) (C := RX3) (T := TX3) (N := 12) hx hb ht inX3 hown hK hP 0 rfl rfl 0 (by decide) (ht _ kw_188) (fun _ h9 => h9) rfl dX3_takeTwoSided_48 ?_
          refine va_getN (D := (dC, dI)) (ci := 5) (v := .int (uZ.1 1)) (C := RX4) (T := TX4) (N := 11) hx hb ht inX4 hown hK hP 3 rfl rfl 1 (by decide) (va_Nw.use rfl (hN _ kn_5)) (fun _ h9 => h9) rfl dX3_takeTwoSided_51 ?_
          refine lv_iload hx hb dX3_takeTwoSided_54 (lv_at hl 0 rfl) ?_
          refine lv_isub hx hb dX3_takeTwoSided_56 ?_
          refine lv_iload hx hb dX3_takeTwoSided_57 (lv_at hl 0 rfl) ?_
          refine lv_aload_n hx hb dX3_takeTwoSided_59 rfl (lv_at hl 3 rfl) ?_
          have hPc : va_P (dC, dI) vwCl ([wR cI cJ aR jR aZ u3, wS cI cJ aZ jZ uZ, wO cI cJ aO jO uO] : List va_W).flatten _ := hP
          have hDc : va_D A ([wR cI cJ aR jR aZ u3, wS cI cJ aZ jZ uZ, wO cI cJ aO jO uO] : List va_W).flatten := hD
          have hFc := va_freeF (fc := ([wR cI cJ aR jR aZ u3, wS cI cJ aZ jZ uZ, wO cI cJ aO jO uO] : List va_W)) hD hS hA [0, 1, 2] rfl
          obtain ⟨u15o, e16, hm⟩ := oC1_of hm
          refine va_callv (va_runV (As := [.int p1, .int ((uZ.1 1) - r5), .int r5, .ref aO]) (rest := []) ⟨hx, hb, hml, hown, ht⟩ (c_X3_narrow l dC dI cI cJ aR jR aZ jZ aO jO H.size u3 uZ uO p1 ((uZ.1 1) - r5) r5 u15o e16) (cwV 4 ht (gdV kw_273 kw_271 kw_272 kw_205 kw_270) rfl rfl rfl ⟨rfl, nd_X3_narrow⟩ ⟨Nat.le_of_ble_eq_true rfl, Nat.le_of_ble_eq_true rfl⟩) ⟨pcW_blind, va_recv hK hPc (ci := 4) (q0 := 0) rfl rfl, pcW_pre hPc hK hDc hN⟩ rfl rfl hl.1 rfl (lv_room (Nat.le_of_ble_eq_true rfl)) dX3_takeTwoSided_60 ⟨Nat.zero_le _, Nat.zero_le _⟩) hS (fun q _ z => hFc q z) hFc (fun uu t H1 locs ht1 hvm hw hB hz1 hk1 hS => ?_)
          obtain ⟨u15, rfl⟩ : ∃ z, z = uu := ⟨_, rfl⟩
          obtain ⟨hP1, hD1⟩ := hB
          rw [ht1] at hP1
          obtain rfl : u15 = u15o := Option.some.inj hw
          have hP : va_P (dC, dI) vwCl ([wR cI cJ aR jR aZ u15, wS cI cJ aZ jZ uZ, wO cI cJ aO jO uO] : List va_W).flatten H1 := hP1
          have hD : va_D A ([wR cI cJ aR jR aZ u15, wS cI cJ aZ jZ uZ, wO cI cJ aO jO uO] : List va_W).flatten := hD1.weaken (fun _ q _ z => hFc q.1 z)
          generalize H1 = H at hP hS ⊢
          refine lv_iload_n hx hb dX3_takeTwoSided_63 rfl (lv_at hl 4 rfl) ?_
          refine lv_iload hx hb dX3_takeTwoSided_64 (lv_at hl 5 rfl) ?_
          refine lv_iadd hx hb dX3_takeTwoSided_66 ?_
          refine lv_topi (fun x17 ex17 => ?_)
          have hm := bnd_nm ex17 hm
          refine lv_istore_n (lv' := [(3, .int x17), (5, .int r5), (0, .ref aR), (1, .int p1), (2, .ref aO), (4, .int x1)]) hx hb dX3_takeTwoSided_67 rfl hl (by decide) rfl (fun ls hl => ?_)
          exact J68_11 x17 u15 _ _ _ hm hP hD hS (lv_sub hl [2, 3, 4, 0, 5, 1] rfl)
        · have hm := ite_f c14 hm
          refine lv_aload_n hx hb dX3_takeTwoSided_33 rfl (lv_at hl 1 rfl) ?_
          refine lv_iload_n hx hb dX3_takeTwoSided_34 rfl (lv_at hl 2 rfl) ?_
          refine lv_iload hx hb dX3_takeTwoSided_35 (lv_at hl 0 rfl) ?_
          refine lv_iconst (v := (0 : Int32)) hx hb dX3_takeTwoSided_37 (by decide) ?_
          refine lv_aload_n hx hb dX3_takeTwoSided_38 rfl (lv_at hl 3 rfl) ?_
          have hPc : va_P (dC, dI) vwCl ([wR cI cJ aR jR aZ u3, wS cI cJ aZ jZ uZ, wO cI cJ aO jO uO] : List va_W).flatten _ := hP
          have hDc : va_D A ([wR cI cJ aR jR aZ u3, wS cI cJ aZ jZ uZ, wO cI cJ aO jO uO] : List va_W).flatten := hD
          have hFc := va_freeF (fc := ([wR cI cJ aR jR aZ u3, wS cI cJ aZ jZ uZ, wO cI cJ aO jO uO] : List va_W)) hD hS hA [0, 1, 2] rfl
          obtain ⟨u18o, e19, hm⟩ := oC1_of hm
          refine va_callv (va_runV (As := [.int p1, .int r5, .int (0 : Int32), .ref aO]) (rest := []) ⟨hx, hb, hml, hown, ht⟩ (c_X3_narrow l dC dI cI cJ aR jR aZ jZ aO jO H.size u3 uZ uO p1 r5 (0 : Int32) u18o e19) (cwV 4 ht (gdV kw_273 kw_271 kw_272 kw_205 kw_270) rfl rfl rfl ⟨rfl, nd_X3_narrow⟩ ⟨Nat.le_of_ble_eq_true rfl, Nat.le_of_ble_eq_true rfl⟩) ⟨pcW_blind, va_recv hK hPc (ci := 4) (q0 := 0) rfl rfl, pcW_pre hPc hK hDc hN⟩ rfl rfl hl.1 rfl (lv_room (Nat.le_of_ble_eq_true rfl)) dX3_takeTwoSided_39 ⟨Nat.zero_le _, Nat.zero_le _⟩) hS (fun q _ z => hFc q z) hFc (fun uu t H1 locs ht1 hvm hw hB hz1 hk1 hS => ?_)
          obtain ⟨u18, rfl⟩ : ∃ z, z = uu := ⟨_, rfl⟩
          obtain ⟨hP1, hD1⟩ := hB
          rw [ht1] at hP1
          obtain rfl : u18 = u18o := Option.some.inj hw
          have hP : va_P (dC, dI) vwCl ([wR cI cJ aR jR aZ u18, wS cI cJ aZ jZ uZ, wO cI cJ aO jO uO] : List va_W).flatten H1 := hP1
          have hD : va_D A ([wR cI cJ aR jR aZ u18, wS cI cJ aZ jZ uZ, wO cI cJ aO jO uO] : List va_W).flatten := hD1.weaken (fun _ q _ z => hFc q.1 z)
          generalize H1 = H at hP hS ⊢
          refine lv_goto (tgt := 68) hx hb dX3_takeTwoSided_42 (by decide) ?_
          exact J68_11 x2 u18 _ _ _ hm hP hD hS (lv_sub hl [1, 2, 3, 4, 5, 0] rfl)
  exact LP6 FU (16 : Int32) (0 : Int32) uR _ _ _ hm hP hD hS (lv_sub hl [2, 3, 4, 1, 0] rfl)

def f_X4_numberAt (uS : OS) (p1 : Int32) : Option (Int32) :=
  if p1 < (0 : Int32) then (
  some (-1 : Int32)) else (
  if (uS.1 1) ≤ p1 then (
  some (-1 : Int32)) else (
  if (nI (uS.2.2.2 9)) ≤ p1 then (
  some (-1 : Int32)) else (
  gdi p1 (uS.2.2.2 9) <|
  some ((uS.2.1 9 (p1).toNatClampNeg)))))

set_option maxHeartbeats 4000000 in
set_option maxRecDepth 100000 in
theorem c_X4_numberAt (l : Launch) (dC : Nat → ClassId) (dI : Nat → Nat → Nat) (cI cJ : ClassId) (aS : Nat) (jS : Nat → Nat) (sz : Nat) (uS : OS) (p1 : Int32) (o : Int32) (hm : f_X4_numberAt uS p1 = some o) : Met l yX4_numberAt (wq yX4_numberAt cX4_numberAt 2 (some .int)) ({ frames := 0, cells := 0, slots := 0, locals := 0 } : Room) (va_Pc [.ref aS, .int p1] (pcW dC dI cI cJ sz ([wS cI cJ aS jS uS] : List va_W).flatten)) (va_Qi (S := Unit) (fun r u => some r = some o) (fun (u : Unit) t => va_P (dC, dI) vwCl ([wS cI cJ aS jS uS] : List va_W).flatten t.heap ∧ va_D (va_A ([wS cI cJ aS jS uS] : List va_W).flatten sz) ([wS cI cJ aS jS uS] : List va_W).flatten) (va_A ([wS cI cJ aS jS uS] : List va_W).flatten sz)) 0 0 (va_A ([wS cI cJ aS jS uS] : List va_W).flatten sz) := by
  refine Met.ofW (cc := cX4_numberAt) (maxL := 2) (ret := (some .int)) (by decide) rfl ?_
  intro p e s m args below meth c s₁ B hml hv
  obtain ⟨rfl, hsz, hP, hK, hD0, hN⟩ := hv
  have hx := B.exec
  have hb := B.bytes
  have hr := B.returns
  have ht : ∀ w ∈ lw_good, w.before _ s = true := fun w h => atoms_spec (ws := wq yX4_numberAt cX4_numberAt 2 (some .int)) B.pre w (wq_mem h)
  have hown : s.vm.findClass RX4 = some m.cls := findClass_of_methodNamed B.named
  have hlocks := B.notSynchronized
  subst hsz
  have hD := hD0.self (sz := s.heap.size)
  generalize hAe : va_A ([wS cI cJ aS jS uS] : List va_W).flatten s.heap.size = A at hD ⊢
  have hA : ∀ q : Nat, s.heap.size ≤ q → A q := fun q h => by rw [← hAe]; exact Or.inr h
  have hS : va_S A s.heap s.heap [] := va_S.rf
  have hl := lv_entry ([.ref aS, .int p1]) (n := 2) (Nat.le_of_ble_eq_true rfl)
  rw [lg_entry_eq]
  generalize (lg_sl ([.ref aS, .int p1]) ++ List.replicate (2 - (lg_sl ([.ref aS, .int p1])).length) Slot.unset).toArray = ls at hl ⊢
  have hl : lv_has ls 2 [(0, .ref aS), (1, .int p1)] := hl
  generalize hQ : MQ below _ _ s _ _ _ = Q
  generalize hH : s.heap = H at hP ⊢
  have hS : va_S A s.heap H [] := by rw [← hH]; exact va_S.rf
  show W p l e ({ frames := 0, cells := 0, slots := 0, locals := 0 } : Room) s m ([.ref aS, .int p1] : List Value).toArray below meth c H [] 0 0 Q (F0 m 0 ls [])
  unfold f_X4_numberAt at hm
  refine lv_iload_n hx hb dX4_numberAt_0 rfl (lv_at hl 1 rfl) ?_
  refine lv_if_lt (tgt := 30) hx hb dX4_numberAt_1 (by decide) (fun c1 => ?_) (fun c1 => ?_)
  · have hm := ite_t c1 hm
    refine lv_iconst (v := (-1 : Int32)) hx hb dX4_numberAt_30 (by decide) ?_
    rw [← hQ]
    exact W.iret (v := (-1 : Int32)) hx hb hr (fun t ht1 hW => ⟨⟨_, (), rfl, hm, by rw [ht1]; exact hP, hD⟩, hS.F ht1⟩) hS.2.2 dX4_numberAt_31
  · have hm := ite_f c1 hm
    refine lv_iload_n hx hb dX4_numberAt_4 rfl (lv_at hl 1 rfl) ?_
    refine lv_aload_n hx hb dX4_numberAt_5 rfl (lv_at hl 0 rfl) ?_
    refine va_get (D := (dC, dI)) (ci := 5) (v := .int (uS.1 1)) (C := RX4) (T := TX4) (N := 11) hx hb ht inX4 hown hK hP 0 rfl rfl 1 (by decide) (ht _ kw_197) (fun _ h9 => h9) rfl dX4_numberAt_6 ?_
    refine lv_icmp_ge (tgt := 30) hx hb dX4_numberAt_9 (by decide) (fun c2 => ?_) (fun c2 => ?_)
    · have hm := ite_t c2 hm
      refine lv_iconst (v := (-1 : Int32)) hx hb dX4_numberAt_30 (by decide) ?_
      rw [← hQ]
      exact W.iret (v := (-1 : Int32)) hx hb hr (fun t ht1 hW => ⟨⟨_, (), rfl, hm, by rw [ht1]; exact hP, hD⟩, hS.F ht1⟩) hS.2.2 dX4_numberAt_31
    · have hm := ite_f c2 hm
      refine lv_iload_n hx hb dX4_numberAt_12 rfl (lv_at hl 1 rfl) ?_
      refine lv_aload_n hx hb dX4_numberAt_13 rfl (lv_at hl 0 rfl) ?_
      refine va_get (D := (dC, dI)) (ci := 5) (v := .ref (jS 9)) (C := RX4) (T := TX4) (N := 11) hx hb ht inX4 hown hK hP 0 rfl rfl 9 (by decide) (ht _ kw_246) (fun _ h9 => h9) rfl dX4_numberAt_14 ?_
      refine va_alen (v := (nI (uS.2.2.2 9))) hx hb hK hP 6 0 rfl rfl rfl dX4_numberAt_17 ?_
      refine lv_icmp_ge (tgt := 30) hx hb dX4_numberAt_18 (by decide) (fun c3 => ?_) (fun c3 => ?_)
      · have hm := ite_t c3 hm
        refine lv_iconst (v := (-1 : Int32)) hx hb dX4_numberAt_30 (by decide) ?_
        rw [← hQ]
        exact W.iret (v := (-1 : Int32)) hx hb hr (fun t ht1 hW => ⟨⟨_, (), rfl, hm, by rw [ht1]; exact hP, hD⟩, hS.F ht1⟩) hS.2.2 dX4_numberAt_31
      · have hm := ite_f c3 hm
        refine lv_aload_n hx hb dX4_numberAt_21 rfl (lv_at hl 0 rfl) ?_
        refine va_get (D := (dC, dI)) (ci := 5) (v := .ref (jS 9)) (C := RX4) (T := TX4) (N := 11) hx hb ht inX4 hown hK hP 0 rfl rfl 9 (by decide) (ht _ kw_246) (fun _ h9 => h9) rfl dX4_numberAt_22 ?_
        refine lv_iload_n hx hb dX4_numberAt_25 rfl (lv_at hl 1 rfl) ?_
        obtain ⟨g4, hm⟩ := gdi_of hm
        refine va_iald hx hb hK hP 6 0 rfl rfl g4 dX4_numberAt_26 ?_
        refine lv_goto (tgt := 31) hx hb dX4_numberAt_27 (by decide) ?_
        rw [← hQ]
        exact W.iret (v := (uS.2.1 9 (p1).toNatClampNeg)) hx hb hr (fun t ht1 hW => ⟨⟨_, (), rfl, hm, by rw [ht1]; exact hP, hD⟩, hS.F ht1⟩) hS.2.2 dX4_numberAt_31

def f_X4_signAt (uS : OS) (p1 : Int32) : Option (Int32) :=
  if p1 < (0 : Int32) then (
  some (-1 : Int32)) else (
  if (uS.1 1) ≤ p1 then (
  some (-1 : Int32)) else (
  if (nI (uS.2.2.2 8)) ≤ p1 then (
  some (-1 : Int32)) else (
  gdi p1 (uS.2.2.2 8) <|
  some ((uS.2.1 8 (p1).toNatClampNeg)))))

set_option maxHeartbeats 4000000 in
set_option maxRecDepth 100000 in
theorem c_X4_signAt (l : Launch) (dC : Nat → ClassId) (dI : Nat → Nat → Nat) (cI cJ : ClassId) (aS : Nat) (jS : Nat → Nat) (sz : Nat) (uS : OS) (p1 : Int32) (o : Int32) (hm : f_X4_signAt uS p1 = some o) : Met l yX4_signAt (wq yX4_signAt cX4_signAt 2 (some .int)) ({ frames := 0, cells := 0, slots := 0, locals := 0 } : Room) (va_Pc [.ref aS, .int p1] (pcW dC dI cI cJ sz ([wS cI cJ aS jS uS] : List va_W).flatten)) (va_Qi (S := Unit) (fun r u => some r = some o) (fun (u : Unit) t => va_P (dC, dI) vwCl ([wS cI cJ aS jS uS] : List va_W).flatten t.heap ∧ va_D (va_A ([wS cI cJ aS jS uS] : List va_W).flatten sz) ([wS cI cJ aS jS uS] : List va_W).flatten) (va_A ([wS cI cJ aS jS uS] : List va_W).flatten sz)) 0 0 (va_A ([wS cI cJ aS jS uS] : List va_W).flatten sz) := by
  refine Met.ofW (cc := cX4_signAt) (maxL := 2) (ret := (some .int)) (by decide) rfl ?_
  intro p e s m args below meth c s₁ B hml hv
  obtain ⟨rfl, hsz, hP, hK, hD0, hN⟩ := hv
  have hx := B.exec
  have hb := B.bytes
  have hr := B.returns
  have ht : ∀ w ∈ lw_good, w.before _ s = true := fun w h => atoms_spec (ws := wq yX4_signAt cX4_signAt 2 (some .int)) B.pre w (wq_mem h)
  have hown : s.vm.findClass RX4 = some m.cls := findClass_of_methodNamed B.named
  have hlocks := B.notSynchronized
  subst hsz
  have hD := hD0.self (sz := s.heap.size)
  generalize hAe : va_A ([wS cI cJ aS jS uS] : List va_W).flatten s.heap.size = A at hD ⊢
  have hA : ∀ q : Nat, s.heap.size ≤ q → A q := fun q h => by rw [← hAe]; exact Or.inr h
  have hS : va_S A s.heap s.heap [] := va_S.rf
  have hl := lv_entry ([.ref aS, .int p1]) (n := 2) (Nat.le_of_ble_eq_true rfl)
  rw [lg_entry_eq]
  generalize (lg_sl ([.ref aS, .int p1]) ++ List.replicate (2 - (lg_sl ([.ref aS, .int p1])).length) Slot.unset).toArray = ls at hl ⊢
  have hl : lv_has ls 2 [(0, .ref aS), (1, .int p1)] := hl
  generalize hQ : MQ below _ _ s _ _ _ = Q
  generalize hH : s.heap = H at hP ⊢
  have hS : va_S A s.heap H [] := by rw [← hH]; exact va_S.rf
  show W p l e ({ frames := 0, cells := 0, slots := 0, locals := 0 } : Room) s m ([.ref aS, .int p1] : List Value).toArray below meth c H [] 0 0 Q (F0 m 0 ls [])
  unfold f_X4_signAt at hm
  refine lv_iload_n hx hb dX4_signAt_0 rfl (lv_at hl 1 rfl) ?_
  refine lv_if_lt (tgt := 30) hx hb dX4_signAt_1 (by decide) (fun c1 => ?_) (fun c1 => ?_)
  · have hm := ite_t c1 hm
    refine lv_iconst (v := (-1 : Int32)) hx hb dX4_signAt_30 (by decide) ?_
    rw [← hQ]
    exact W.iret (v := (-1 : Int32)) hx hb hr (fun t ht1 hW => ⟨⟨_, (), rfl, hm, by rw [ht1]; exact hP, hD⟩, hS.F ht1⟩) hS.2.2 dX4_signAt_31
  · have hm := ite_f c1 hm
    refine lv_iload_n hx hb dX4_signAt_4 rfl (lv_at hl 1 rfl) ?_
    refine lv_aload_n hx hb dX4_signAt_5 rfl (lv_at hl 0 rfl) ?_
    refine va_get (D := (dC, dI)) (ci := 5) (v := .int (uS.1 1)) (C := RX4) (T := TX4) (N := 11) hx hb ht inX4 hown hK hP 0 rfl rfl 1 (by decide) (ht _ kw_197) (fun _ h9 => h9) rfl dX4_signAt_6 ?_
    refine lv_icmp_ge (tgt := 30) hx hb dX4_signAt_9 (by decide) (fun c2 => ?_) (fun c2 => ?_)
    · have hm := ite_t c2 hm
      refine lv_iconst (v := (-1 : Int32)) hx hb dX4_signAt_30 (by decide) ?_
      rw [← hQ]
      exact W.iret (v := (-1 : Int32)) hx hb hr (fun t ht1 hW => ⟨⟨_, (), rfl, hm, by rw [ht1]; exact hP, hD⟩, hS.F ht1⟩) hS.2.2 dX4_signAt_31
    · have hm := ite_f c2 hm
      refine lv_iload_n hx hb dX4_signAt_12 rfl (lv_at hl 1 rfl) ?_
      refine lv_aload_n hx hb dX4_signAt_13 rfl (lv_at hl 0 rfl) ?_
      refine va_get (D := (dC, dI)) (ci := 5) (v := .ref (jS 8)) (C := RX4) (T := TX4) (N := 11) hx hb ht inX4 hown hK hP 0 rfl rfl 8 (by decide) (ht _ kw_245) (fun _ h9 => h9) rfl dX4_signAt_14 ?_
      refine va_alen (v := (nI (uS.2.2.2 8))) hx hb hK hP 5 0 rfl rfl rfl dX4_signAt_17 ?_
      refine lv_icmp_ge (tgt := 30) hx hb dX4_signAt_18 (by decide) (fun c3 => ?_) (fun c3 => ?_)
      · have hm := ite_t c3 hm
        refine lv_iconst (v := (-1 : Int32)) hx hb dX4_signAt_30 (by decide) ?_
        rw [← hQ]
        exact W.iret (v := (-1 : Int32)) hx hb hr (fun t ht1 hW => ⟨⟨_, (), rfl, hm, by rw [ht1]; exact hP, hD⟩, hS.F ht1⟩) hS.2.2 dX4_signAt_31
      · have hm := ite_f c3 hm
        refine lv_aload_n hx hb dX4_signAt_21 rfl (lv_at hl 0 rfl) ?_
        refine va_get (D := (dC, dI)) (ci := 5) (v := .ref (jS 8)) (C := RX4) (T := TX4) (N := 11) hx hb ht inX4 hown hK hP 0 rfl rfl 8 (by decide) (ht _ kw_245) (fun _ h9 => h9) rfl dX4_signAt_22 ?_
        refine lv_iload_n hx hb dX4_signAt_25 rfl (lv_at hl 1 rfl) ?_
        obtain ⟨g4, hm⟩ := gdi_of hm
        refine va_iald hx hb hK hP 5 0 rfl rfl g4 dX4_signAt_26 ?_
        refine lv_goto (tgt := 31) hx hb dX4_signAt_27 (by decide) ?_
        rw [← hQ]
        exact W.iret (v := (uS.2.1 8 (p1).toNatClampNeg)) hx hb hr (fun t ht1 hW => ⟨⟨_, (), rfl, hm, by rw [ht1]; exact hP, hD⟩, hS.F ht1⟩) hS.2.2 dX4_signAt_31

def f_X3_takeByTable_L29 (uZ : OS) (uO : OS) : Nat → (Int32 → Int32 → OS → Option (OS × Int32)) → Int32 → Int32 → OS → Option (OS × Int32)
  | 0, _, _, _, _ => none
  | n29 + 1, K80_11, x5, x6, u7 =>
    if (12 : Int32) < x5 then (
    K80_11 x6 x5 u7) else (
    if (uZ.1 1) ≤ x6 then (
    K80_11 x6 x5 u7) else (
    oC2 (f_X3_nextBits u7 uO (1 : Int32)) fun u18 r19 =>
    if (u18.1 4) = (0 : Int32) then (
    bnd (((2 : Int32) * x6) + r19) fun x22 =>
    bnd (x5 + (1 : Int32)) fun x23 =>
    f_X3_takeByTable_L29 uZ uO n29 K80_11 x23 x22 u18) else (
    some (u18, (-1 : Int32)))))

def f_X3_takeByTable (uR : OS) (uZ : OS) (uO : OS) (p1 : Int32) : Option (OS × Int32) :=
  gdi p1 4 <|
  bnd (((uR.2.2.1 1 (p1).toNatClampNeg)).toInt32 - (uZ.1 1)) fun x2 =>
  oC1 (f_X4_numberAt uZ x2) fun r3 =>
  bnd (fun (x8 : Int32) (x9 : Int32) (u10 : OS) =>
  gdi p1 4 <|
  bnd (sL u10 1 p1 (x8).toInt64) fun u13 =>
  oC1 (f_X4_signAt uZ x2) fun r14 =>
  some (u13, r14)) fun K80_11 =>
  f_X3_takeByTable_L29 uZ uO FU K80_11 (0 : Int32) r3 uR

set_option maxHeartbeats 4000000 in
set_option maxRecDepth 100000 in
theorem c_X3_takeByTable (l : Launch) (dC : Nat → ClassId) (dI : Nat → Nat → Nat) (cI cJ : ClassId) (aR : Nat) (jR : Nat → Nat) (aZ : Nat) (jZ : Nat → Nat) (aO : Nat) (jO : Nat → Nat) (sz : Nat) (uR : OS) (uZ : OS) (uO : OS) (p1 : Int32) (o : OS × Int32) (hm : f_X3_takeByTable uR uZ uO p1 = some o) : Met l yX3_takeByTable (wq yX3_takeByTable cX3_takeByTable 7 (some .int)) ({ frames := 2, cells := 0, slots := 0, locals := 49 } : Room) (va_Pc [.ref aR, .int p1, .ref aO] (pcW dC dI cI cJ sz ([wR cI cJ aR jR aZ uR, wS cI cJ aZ jZ uZ, wO cI cJ aO jO uO] : List va_W).flatten)) (va_Qi (S := OS) (fun r u => some (u, r) = some o) (fun (u : OS) t => va_P (dC, dI) vwCl ([wR cI cJ aR jR aZ u, wS cI cJ aZ jZ uZ, wO cI cJ aO jO uO] : List va_W).flatten t.heap ∧ va_D (va_A ([wR cI cJ aR jR aZ uR, wS cI cJ aZ jZ uZ, wO cI cJ aO jO uO] : List va_W).flatten sz) ([wR cI cJ aR jR aZ u, wS cI cJ aZ jZ uZ, wO cI cJ aO jO uO] : List va_W).flatten) (va_A ([wR cI cJ aR jR aZ uR, wS cI cJ aZ jZ uZ, wO cI cJ aO jO uO] : List va_W).flatten sz)) 0 0 (va_A ([wR cI cJ aR jR aZ uR, wS cI cJ aZ jZ uZ, wO cI cJ aO jO uO] : List va_W).flatten sz) := by
  refine Met.ofW (cc := cX3_takeByTable) (maxL := 7) (ret := (some .int)) (by decide) rfl ?_
  intro p e s m args below meth c s₁ B hml hv
  obtain ⟨rfl, hsz, hP, hK, hD0, hN⟩ := hv
  have hx := B.exec
  have hb := B.bytes
  have hr := B.returns
  have ht : ∀ w ∈ lw_good, w.before _ s = true := fun w h => atoms_spec (ws := wq yX3_takeByTable cX3_takeByTable 7 (some .int)) B.pre w (wq_mem h)
  have hown : s.vm.findClass RX3 = some m.cls := findClass_of_methodNamed B.named
  have hlocks := B.notSynchronized
  subst hsz
  have hD := hD0.self (sz := s.heap.size)
  generalize hAe : va_A ([wR cI cJ aR jR aZ uR, wS cI cJ aZ jZ uZ, wO cI cJ aO jO uO] : List va_W).flatten s.heap.size = A at hD ⊢
  have hA : ∀ q : Nat, s.heap.size ≤ q → A q := fun q h => by rw [← hAe]; exact Or.inr h
  have hS : va_S A s.heap s.heap [] := va_S.rf
  have hl := lv_entry ([.ref aR, .int p1, .ref aO]) (n := 7) (Nat.le_of_ble_eq_true rfl)
  rw [lg_entry_eq]
  generalize (lg_sl ([.ref aR, .int p1, .ref aO]) ++ List.replicate (7 - (lg_sl ([.ref aR, .int p1, .ref aO])).length) Slot.unset).toArray = ls at hl ⊢
  have hl : lv_has ls 7 [(0, .ref aR), (1, .int p1), (2, .ref aO)] := hl
  generalize hQ : MQ below _ _ s _ _ _ = Q
  generalize hH : s.heap = H at hP ⊢
  have hS : va_S A s.heap H [] := by rw [← hH]; exact va_S.rf
  show W p l e ({ frames := 2, cells := 0, slots := 0, locals := 49 } : Room) s m ([.ref aR, .int p1, .ref aO] : List Value).toArray below meth c H [] 0 0 Q (F0 m 0 ls [])
  unfold f_X3_takeByTable at hm
  refine lv_aload_n hx hb dX3_takeByTable_0 rfl (lv_at hl 0 rfl) ?_
  refine va_get (D := (dC, dI)) (ci := 4) (v := .ref (jR 1)) (C := RX3) (T := TX3) (N := 12) hx hb ht inX3 hown hK hP 0 rfl rfl 1 (by decide) (ht _ kw_238) (fun _ h9 => h9) rfl dX3_takeByTable_1 ?_
  refine lv_iload_n hx hb dX3_takeByTable_4 rfl (lv_at hl 1 rfl) ?_
  obtain ⟨g1, hm⟩ := gdi_of hm
  refine va_lald hx hb hK hP 1 1 rfl rfl g1 dX3_takeByTable_5 ?_
  refine lv_l2i hx hb dX3_takeByTable_6 rfl ?_
  refine lv_aload_n hx hb dX3_takeByTable_7 rfl (lv_at hl 0 rfl) ?_
  refine va_get (D := (dC, dI)) (ci := 4) (v := .ref aZ) (C := RX3) (T := TX3) (N := 12) hx hb ht inX3 hown hK hP 0 rfl rfl 0 (by decide) (ht _ kw_188) (fun _ h9 => h9) rfl dX3_takeByTable_8 ?_
  refine va_getN (D := (dC, dI)) (ci := 5) (v := .int (uZ.1 1)) (C := RX4) (T := TX4) (N := 11) hx hb ht inX4 hown hK hP 3 rfl rfl 1 (by decide) (va_Nw.use rfl (hN _ kn_5)) (fun _ h9 => h9) rfl dX3_takeByTable_11 ?_
  refine lv_isub hx hb dX3_takeByTable_14 ?_
  refine lv_topi (fun x2 ex2 => ?_)
  have hm := bnd_nm ex2 hm
  refine lv_istore_n (lv' := [(3, .int x2), (0, .ref aR), (1, .int p1), (2, .ref aO)]) hx hb dX3_takeByTable_15 rfl hl (by decide) rfl (fun ls hl => ?_)
  refine lv_aload_n hx hb dX3_takeByTable_16 rfl (lv_at hl 1 rfl) ?_
  refine va_get (D := (dC, dI)) (ci := 4) (v := .ref aZ) (C := RX3) (T := TX3) (N := 12) hx hb ht inX3 hown hK hP 0 rfl rfl 0 (by decide) (ht _ kw_188) (fun _ h9 => h9) rfl dX3_takeByTable_17 ?_
  refine lv_iload_n hx hb dX3_takeByTable_20 rfl (lv_at hl 0 rfl) ?_
  have hPc : va_P (dC, dI) vwCl ([wS cI cJ aZ jZ uZ] : List va_W).flatten _ := hP.subF [1] rfl
  have hDc : va_D A ([wS cI cJ aZ jZ uZ] : List va_W).flatten := hD.subF [1] (by decide) rfl
  have hFc := va_freeF (fc := ([wS cI cJ aZ jZ uZ] : List va_W)) hD hS hA [1] rfl
  obtain ⟨r3o, e4, hm⟩ := oC1_of hm
  refine va_calli (va_runV (As := [.int x2]) (rest := []) ⟨hx, hb, hml, hown, ht⟩ (c_X4_numberAt l dC dI cI cJ aZ jZ H.size uZ x2 r3o e4) (cwV 1 ht (gdV kw_277 kw_275 kw_276 kw_199 kw_274) rfl rfl rfl ⟨rfl, nd_X4_numberAt⟩ ⟨Nat.le_of_ble_eq_true rfl, Nat.le_of_ble_eq_true rfl⟩) ⟨pcW_blind, va_recv hK hPc (ci := 5) (q0 := 0) rfl rfl, pcW_pre hPc hK hDc hN⟩ rfl rfl hl.1 rfl (lv_room (Nat.le_of_ble_eq_true rfl)) dX3_takeByTable_21 ⟨Nat.zero_le _, Nat.zero_le _⟩) hS (fun q _ z => hFc q z) hFc (fun r3 uu t H1 locs ht1 hvm hw hB hz1 hk1 hS => ?_)
  obtain ⟨⟩ := uu
  obtain ⟨hP1, hD1⟩ := hB
  rw [ht1] at hP1
  obtain rfl : r3 = r3o := Option.some.inj hw
  obtain ⟨hP, hD⟩ := va_joinF (fr := ([wR cI cJ aR jR aZ uR, wO cI cJ aO jO uO] : List va_W)) (f1 := ([wS cI cJ aZ jZ uZ] : List va_W)) hP hD [1] [0, 2] rfl rfl (by decide) (by decide) hk1 hFc hP1 hD1
  have hP : va_P (dC, dI) vwCl ([wR cI cJ aR jR aZ uR, wS cI cJ aZ jZ uZ, wO cI cJ aO jO uO] : List va_W).flatten H1 := hP.subF [0, 2, 1] rfl
  have hD : va_D A ([wR cI cJ aR jR aZ uR, wS cI cJ aZ jZ uZ, wO cI cJ aO jO uO] : List va_W).flatten := hD.subF [0, 2, 1] (by decide) rfl
  generalize H1 = H at hP hS ⊢
  refine lv_istore (lv' := [(4, .int r3), (3, .int x2), (0, .ref aR), (1, .int p1), (2, .ref aO)]) hx hb dX3_takeByTable_24 hl (by decide) rfl (fun ls hl => ?_)
  refine lv_iconst (v := (0 : Int32)) hx hb dX3_takeByTable_26 (by decide) ?_
  refine lv_istore (lv' := [(5, .int (0 : Int32)), (4, .int r3), (3, .int x2), (0, .ref aR), (1, .int p1), (2, .ref aO)]) hx hb dX3_takeByTable_27 hl (by decide) rfl (fun ls hl => ?_)
  obtain ⟨K80_11, eK80_11, hm⟩ := bnd_ex hm
  have X80_11 : ∀ (x8 : Int32) (x9 : Int32) (u10 : OS) (H : Heap) (locs : List Loc) (ls : Array Slot), K80_11 x8 x9 u10 = some o → va_P (dC, dI) vwCl ([wR cI cJ aR jR aZ u10, wS cI cJ aZ jZ uZ, wO cI cJ aO jO uO] : List va_W).flatten H → va_D A ([wR cI cJ aR jR aZ u10, wS cI cJ aZ jZ uZ, wO cI cJ aO jO uO] : List va_W).flatten → va_S A s.heap H locs → lv_has ls 7 [(0, .ref aR), (1, .int p1), (2, .ref aO), (3, .int x2), (4, .int x8), (5, .int x9)] → W p l e ({ frames := 2, cells := 0, slots := 0, locals := 49 } : Room) s m ([.ref aR, .int p1, .ref aO] : List Value).toArray below meth c H locs 0 0 Q (F0 m 80 ls []) := by
    intro x8 x9 u10 H locs ls hm hP hD hS hl
    have hm := ap3 eK80_11 hm
    refine lv_aload_n hx hb dX3_takeByTable_80 rfl (lv_at hl 0 rfl) ?_
    refine va_get (D := (dC, dI)) (ci := 4) (v := .ref (jR 1)) (C := RX3) (T := TX3) (N := 12) hx hb ht inX3 hown hK hP 0 rfl rfl 1 (by decide) (ht _ kw_238) (fun _ h9 => h9) rfl dX3_takeByTable_81 ?_
    refine lv_iload_n hx hb dX3_takeByTable_84 rfl (lv_at hl 1 rfl) ?_
    refine lv_iload hx hb dX3_takeByTable_85 (lv_at hl 4 rfl) ?_
    refine lv_i2l hx hb dX3_takeByTable_87 rfl ?_
    obtain ⟨g12, hm⟩ := gdi_of hm
    refine va_last hx hb hK hP hD hS 1 1 rfl rfl g12 dX3_takeByTable_88 (fun H locs hP hD hS => ?_)
    obtain ⟨u13, eu13, hm⟩ := bnd_ex hm
    have hP : va_P (dC, dI) vwCl ([wR cI cJ aR jR aZ u13, wS cI cJ aZ jZ uZ, wO cI cJ aO jO uO] : List va_W).flatten H := by rw [eu13]; exact hP
    have hD : va_D A ([wR cI cJ aR jR aZ u13, wS cI cJ aZ jZ uZ, wO cI cJ aO jO uO] : List va_W).flatten := by rw [eu13]; exact hD
    refine lv_aload_n hx hb dX3_takeByTable_89 rfl (lv_at hl 0 rfl) ?_
    refine va_get (D := (dC, dI)) (ci := 4) (v := .ref aZ) (C := RX3) (T := TX3) (N := 12) hx hb ht inX3 hown hK hP 0 rfl rfl 0 (by decide) (ht _ kw_188) (fun _ h9 => h9) rfl dX3_takeByTable_90 ?_
    refine lv_iload_n hx hb dX3_takeByTable_93 rfl (lv_at hl 3 rfl) ?_
    have hPc : va_P (dC, dI) vwCl ([wS cI cJ aZ jZ uZ] : List va_W).flatten _ := hP.subF [1] rfl
    have hDc : va_D A ([wS cI cJ aZ jZ uZ] : List va_W).flatten := hD.subF [1] (by decide) rfl
    have hFc := va_freeF (fc := ([wS cI cJ aZ jZ uZ] : List va_W)) hD hS hA [1] rfl
    obtain ⟨r14o, e15, hm⟩ := oC1_of hm
    refine va_calli (va_runV (As := [.int x2]) (rest := []) ⟨hx, hb, hml, hown, ht⟩ (c_X4_signAt l dC dI cI cJ aZ jZ H.size uZ x2 r14o e15) (cwV 1 ht (gdV kw_281 kw_279 kw_280 kw_199 kw_278) rfl rfl rfl ⟨rfl, nd_X4_signAt⟩ ⟨Nat.le_of_ble_eq_true rfl, Nat.le_of_ble_eq_true rfl⟩) ⟨pcW_blind, va_recv hK hPc (ci := 5) (q0 := 0) rfl rfl, pcW_pre hPc hK hDc hN⟩ rfl rfl hl.1 rfl (lv_room (Nat.le_of_ble_eq_true rfl)) dX3_takeByTable_94 ⟨Nat.zero_le _, Nat.zero_le _⟩) hS (fun q _ z => hFc q z) hFc (fun r14 uu t H1 locs ht1 hvm hw hB hz1 hk1 hS => ?_)
    obtain ⟨⟩ := uu
    obtain ⟨hP1, hD1⟩ := hB
    rw [ht1] at hP1
    obtain rfl : r14 = r14o := Option.some.inj hw
    obtain ⟨hP, hD⟩ := va_joinF (fr := ([wR cI cJ aR jR aZ u13, wO cI cJ aO jO uO] : List va_W)) (f1 := ([wS cI cJ aZ jZ uZ] : List va_W)) hP hD [1] [0, 2] rfl rfl (by decide) (by decide) hk1 hFc hP1 hD1
    have hP : va_P (dC, dI) vwCl ([wR cI cJ aR jR aZ u13, wS cI cJ aZ jZ uZ, wO cI cJ aO jO uO] : List va_W).flatten H1 := hP.subF [0, 2, 1] rfl
    have hD : va_D A ([wR cI cJ aR jR aZ u13, wS cI cJ aZ jZ uZ, wO cI cJ aO jO uO] : List va_W).flatten := hD.subF [0, 2, 1] (by decide) rfl
    generalize H1 = H at hP hS ⊢
    rw [← hQ]
    exact W.iret (v := r14) hx hb hr (fun t ht1 hW => ⟨⟨_, u13, rfl, hm, by rw [ht1]; exact hP, hD⟩, hS.F ht1⟩) hS.2.2 dX3_takeByTable_97
  have LP29 : ∀ (n29 : Nat) (x5 : Int32) (x6 : Int32) (u7 : OS) (H : Heap) (locs : List Loc) (ls : Array Slot), f_X3_takeByTable_L29 uZ uO n29 K80_11 x5 x6 u7 = some o → va_P (dC, dI) vwCl ([wR cI cJ aR jR aZ u7, wS cI cJ aZ jZ uZ, wO cI cJ aO jO uO] : List va_W).flatten H → va_D A ([wR cI cJ aR jR aZ u7, wS cI cJ aZ jZ uZ, wO cI cJ aO jO uO] : List va_W).flatten → va_S A s.heap H locs → lv_has ls 7 [(0, .ref aR), (1, .int p1), (2, .ref aO), (3, .int x2), (4, .int x6), (5, .int x5)] → W p l e ({ frames := 2, cells := 0, slots := 0, locals := 49 } : Room) s m ([.ref aR, .int p1, .ref aO] : List Value).toArray below meth c H locs 0 0 Q (F0 m 29 ls []) := by
    intro n29
    induction n29 with
    | zero => intro x5 x6 u7 H locs ls hm; exact nomatch (show (none : Option _) = some _ from hm)
    | succ n29 ih29 =>
      intro x5 x6 u7 H locs ls hm hP hD hS hl
      unfold f_X3_takeByTable_L29 at hm
      refine lv_iload hx hb dX3_takeByTable_29 (lv_at hl 5 rfl) ?_
      refine lv_bipush (v := (12 : Int32)) hx hb dX3_takeByTable_31 (by decide) ?_
      refine lv_icmp_gt (tgt := 80) hx hb dX3_takeByTable_33 (by decide) (fun c16 => ?_) (fun c16 => ?_)
      · have hm := ite_t c16 hm
        exact X80_11 x6 x5 u7 _ _ _ hm hP hD hS (lv_sub hl [0, 1, 2, 3, 4, 5] rfl)
      · have hm := ite_f c16 hm
        refine lv_iload hx hb dX3_takeByTable_36 (lv_at hl 4 rfl) ?_
        refine lv_aload_n hx hb dX3_takeByTable_38 rfl (lv_at hl 0 rfl) ?_
        refine va_get (D := (dC, dI)) (ci := 4) (v := .ref aZ) (C := RX3) (T := TX3) (N := 12) hx hb ht inX3 hown hK hP 0 rfl rfl 0 (by decide) (ht _ kw_188) (fun _ h9 => h9) rfl dX3_takeByTable_39 ?_
        refine va_getN (D := (dC, dI)) (ci := 5) (v := .int (uZ.1 1)) (C := RX4) (T := TX4) (N := 11) hx hb ht inX4 hown hK hP 3 rfl rfl 1 (by decide) (va_Nw.use rfl (hN _ kn_5)) (fun _ h9 => h9) rfl dX3_takeByTable_42 ?_
        refine lv_icmp_ge (tgt := 80) hx hb dX3_takeByTable_45 (by decide) (fun c17 => ?_) (fun c17 => ?_)
        · have hm := ite_t c17 hm
          exact X80_11 x6 x5 u7 _ _ _ hm hP hD hS (lv_sub hl [0, 1, 2, 3, 4, 5] rfl)
        · have hm := ite_f c17 hm
          refine lv_aload_n hx hb dX3_takeByTable_48 rfl (lv_at hl 0 rfl) ?_
          refine lv_aload_n hx hb dX3_takeByTable_49 rfl (lv_at hl 2 rfl) ?_
          refine lv_iconst (v := (1 : Int32)) hx hb dX3_takeByTable_50 (by decide) ?_
          have hPc : va_P (dC, dI) vwCl ([wR cI cJ aR jR aZ u7, wO cI cJ aO jO uO] : List va_W).flatten _ := hP.subF [0, 2] rfl
          have hDc : va_D A ([wR cI cJ aR jR aZ u7, wO cI cJ aO jO uO] : List va_W).flatten := hD.subF [0, 2] (by decide) rfl
          have hFc := va_freeF (fc := ([wR cI cJ aR jR aZ u7, wO cI cJ aO jO uO] : List va_W)) hD hS hA [0, 2] rfl
          obtain ⟨u18o, r19o, e20, hm⟩ := oC2_of hm
          refine va_calli (va_runV (As := [.ref aO, .int (1 : Int32)]) (rest := []) ⟨hx, hb, hml, hown, ht⟩ (c_X3_nextBits l dC dI cI cJ aR jR aO jO aZ H.size u7 uO (1 : Int32) (u18o, r19o) e20) (cwV 2 ht (gdV kw_228 kw_226 kw_227 kw_205 kw_225) rfl rfl rfl ⟨rfl, nd_X3_nextBits⟩ ⟨Nat.le_of_ble_eq_true rfl, Nat.le_of_ble_eq_true rfl⟩) ⟨pcW_blind, va_recv hK hPc (ci := 4) (q0 := 0) rfl rfl, pcW_pre hPc hK hDc hN⟩ rfl rfl hl.1 rfl (lv_room (Nat.le_of_ble_eq_true rfl)) dX3_takeByTable_51 ⟨Nat.zero_le _, Nat.zero_le _⟩) hS (fun q _ z => hFc q z) hFc (fun r19 uu t H1 locs ht1 hvm hw hB hz1 hk1 hS => ?_)
          obtain ⟨u18, rfl⟩ : ∃ z, z = uu := ⟨_, rfl⟩
          obtain ⟨hP1, hD1⟩ := hB
          rw [ht1] at hP1
          obtain ⟨q0, q1⟩ := inj2 hw
          subst q0
          subst q1
          obtain ⟨hP, hD⟩ := va_joinF (fr := ([wS cI cJ aZ jZ uZ] : List va_W)) (f1 := ([wR cI cJ aR jR aZ u18, wO cI cJ aO jO uO] : List va_W)) hP hD [0, 2] [1] rfl rfl (by decide) (by decide) hk1 hFc hP1 hD1
          have hP : va_P (dC, dI) vwCl ([wR cI cJ aR jR aZ u18, wS cI cJ aZ jZ uZ, wO cI cJ aO jO uO] : List va_W).flatten H1 := hP.subF [1, 0, 2] rfl
          have hD : va_D A ([wR cI cJ aR jR aZ u18, wS cI cJ aZ jZ uZ, wO cI cJ aO jO uO] : List va_W).flatten := hD.subF [1, 0, 2] (by decide) rfl
          generalize H1 = H at hP hS ⊢
          refine lv_istore (lv' := [(6, .int r19), (0, .ref aR), (1, .int p1), (2, .ref aO), (3, .int x2), (4, .int x6), (5, .int x5)]) hx hb dX3_takeByTable_54 hl (by decide) rfl (fun ls hl => ?_)
          refine lv_aload_n hx hb dX3_takeByTable_56 rfl (lv_at hl 1 rfl) ?_
          refine va_get (D := (dC, dI)) (ci := 4) (v := .int (u18.1 4)) (C := RX3) (T := TX3) (N := 12) hx hb ht inX3 hown hK hP 0 rfl rfl 4 (by decide) (ht _ kw_181) (fun _ h9 => h9) rfl dX3_takeByTable_57 ?_
          refine lv_if_eq (tgt := 65) hx hb dX3_takeByTable_60 (by decide) (fun c21 => ?_) (fun c21 => ?_)
          · have hm := ite_t c21 hm
            refine lv_iconst (v := (2 : Int32)) hx hb dX3_takeByTable_65 (by decide) ?_
            refine lv_iload hx hb dX3_takeByTable_66 (lv_at hl 5 rfl) ?_
            refine lv_imul hx hb dX3_takeByTable_68 ?_
            refine lv_iload hx hb dX3_takeByTable_69 (lv_at hl 0 rfl) ?_
            refine lv_iadd hx hb dX3_takeByTable_71 ?_
            refine lv_topi (fun x22 ex22 => ?_)
            have hm := bnd_nm ex22 hm
            refine lv_istore (lv' := [(4, .int x22), (6, .int r19), (0, .ref aR), (1, .int p1), (2, .ref aO), (3, .int x2), (5, .int x5)]) hx hb dX3_takeByTable_72 hl (by decide) rfl (fun ls hl => ?_)
            obtain ⟨x23, ex23, hm⟩ := bnd_ex hm
            refine lv_iinc (v := x23) (lv' := [(5, .int x23), (4, .int x22), (6, .int r19), (0, .ref aR), (1, .int p1), (2, .ref aO), (3, .int x2)]) hx hb dX3_takeByTable_74 hl (k := 6) rfl (by rw [ex23]; exact congrArg _ (by decide)) (by decide) rfl (fun ls hl => ?_)
            refine lv_goto (tgt := 29) hx hb dX3_takeByTable_77 (by decide) ?_
            exact ih29 x23 x22 u18 _ _ _ hm hP hD hS (lv_sub hl [3, 4, 5, 6, 1, 0] rfl)
          · have hm := ite_f c21 hm
            refine lv_iconst (v := (-1 : Int32)) hx hb dX3_takeByTable_63 (by decide) ?_
            rw [← hQ]
            exact W.iret (v := (-1 : Int32)) hx hb hr (fun t ht1 hW => ⟨⟨_, u18, rfl, hm, by rw [ht1]; exact hP, hD⟩, hS.F ht1⟩) hS.2.2 dX3_takeByTable_64
  exact LP29 FU (0 : Int32) r3 uR _ _ _ hm hP hD hS (lv_sub hl [3, 4, 5, 2, 1, 0] rfl)

def f_X3_takeSign (uR : OS) (uZ : OS) (uO : OS) (p1 : Int32) : Option (OS × Int32) :=
  if (uR.1 8) = (2 : Int32) then (
  oC2 (f_X3_takeByTable uR uZ uO p1) fun u16 r17 =>
  some (u16, r17)) else (
  if (uR.1 8) = (3 : Int32) then (
  oC2 (f_X3_takeTwoSided uR uZ uO p1) fun u13 r14 =>
  some (u13, r14)) else (
  oC1 (f_X3_restOf uR uZ p1) fun r3 =>
  oC1 (f_X4_signOver uZ r3) fun r5 =>
  oC1 (f_X4_shareOf uZ r5) fun r7 =>
  oC1 (f_X4_fromOf uZ r5) fun r9 =>
  oC1 (f_X3_narrow uR uZ uO p1 r7 r9) fun u11 =>
  some (u11, r5)))

set_option maxHeartbeats 4000000 in
set_option maxRecDepth 100000 in
theorem c_X3_takeSign (l : Launch) (dC : Nat → ClassId) (dI : Nat → Nat → Nat) (cI cJ : ClassId) (aR : Nat) (jR : Nat → Nat) (aZ : Nat) (jZ : Nat → Nat) (aO : Nat) (jO : Nat → Nat) (sz : Nat) (uR : OS) (uZ : OS) (uO : OS) (p1 : Int32) (o : OS × Int32) (hm : f_X3_takeSign uR uZ uO p1 = some o) : Met l yX3_takeSign (wq yX3_takeSign cX3_takeSign 4 (some .int)) ({ frames := 3, cells := 0, slots := 0, locals := 82 } : Room) (va_Pc [.ref aR, .int p1, .ref aO] (pcW dC dI cI cJ sz ([wR cI cJ aR jR aZ uR, wS cI cJ aZ jZ uZ, wO cI cJ aO jO uO] : List va_W).flatten)) (va_Qi (S := OS) (fun r u => some (u, r) = some o) (fun (u : OS) t => va_P (dC, dI) vwCl ([wR cI cJ aR jR aZ u, wS cI cJ aZ jZ uZ, wO cI cJ aO jO uO] : List va_W).flatten t.heap ∧ va_D (va_A ([wR cI cJ aR jR aZ uR, wS cI cJ aZ jZ uZ, wO cI cJ aO jO uO] : List va_W).flatten sz) ([wR cI cJ aR jR aZ u, wS cI cJ aZ jZ uZ, wO cI cJ aO jO uO] : List va_W).flatten) (va_A ([wR cI cJ aR jR aZ uR, wS cI cJ aZ jZ uZ, wO cI cJ aO jO uO] : List va_W).flatten sz)) 0 0 (va_A ([wR cI cJ aR jR aZ uR, wS cI cJ aZ jZ uZ, wO cI cJ aO jO uO] : List va_W).flatten sz) := by
  refine Met.ofW (cc := cX3_takeSign) (maxL := 4) (ret := (some .int)) (by decide) rfl ?_
  intro p e s m args below meth c s₁ B hml hv
  obtain ⟨rfl, hsz, hP, hK, hD0, hN⟩ := hv
  have hx := B.exec
  have hb := B.bytes
  have hr := B.returns
  have ht : ∀ w ∈ lw_good, w.before _ s = true := fun w h => atoms_spec (ws := wq yX3_takeSign cX3_takeSign 4 (some .int)) B.pre w (wq_mem h)
  have hown : s.vm.findClass RX3 = some m.cls := findClass_of_methodNamed B.named
  have hlocks := B.notSynchronized
  subst hsz
  have hD := hD0.self (sz := s.heap.size)
  generalize hAe : va_A ([wR cI cJ aR jR aZ uR, wS cI cJ aZ jZ uZ, wO cI cJ aO jO uO] : List va_W).flatten s.heap.size = A at hD ⊢
  have hA : ∀ q : Nat, s.heap.size ≤ q → A q := fun q h => by rw [← hAe]; exact Or.inr h
  have hS : va_S A s.heap s.heap [] := va_S.rf
  have hl := lv_entry ([.ref aR, .int p1, .ref aO]) (n := 4) (Nat.le_of_ble_eq_true rfl)
  rw [lg_entry_eq]
  generalize (lg_sl ([.ref aR, .int p1, .ref aO]) ++ List.replicate (4 - (lg_sl ([.ref aR, .int p1, .ref aO])).length) Slot.unset).toArray = ls at hl ⊢
  have hl : lv_has ls 4 [(0, .ref aR), (1, .int p1), (2, .ref aO)] := hl
  generalize hQ : MQ below _ _ s _ _ _ = Q
  generalize hH : s.heap = H at hP ⊢
  have hS : va_S A s.heap H [] := by rw [← hH]; exact va_S.rf
  show W p l e ({ frames := 3, cells := 0, slots := 0, locals := 82 } : Room) s m ([.ref aR, .int p1, .ref aO] : List Value).toArray below meth c H [] 0 0 Q (F0 m 0 ls [])
  unfold f_X3_takeSign at hm
  refine lv_aload_n hx hb dX3_takeSign_0 rfl (lv_at hl 0 rfl) ?_
  refine va_get (D := (dC, dI)) (ci := 4) (v := .int (uR.1 8)) (C := RX3) (T := TX3) (N := 12) hx hb ht inX3 hown hK hP 0 rfl rfl 8 (by decide) (ht _ kw_186) (fun _ h9 => h9) rfl dX3_takeSign_1 ?_
  refine lv_iconst (v := (2 : Int32)) hx hb dX3_takeSign_4 (by decide) ?_
  refine lv_icmp_ne (tgt := 15) hx hb dX3_takeSign_5 (by decide) (fun c1 => ?_) (fun c1 => ?_)
  · have hm := ite_f c1 hm
    refine lv_aload_n hx hb dX3_takeSign_15 rfl (lv_at hl 0 rfl) ?_
    refine va_get (D := (dC, dI)) (ci := 4) (v := .int (uR.1 8)) (C := RX3) (T := TX3) (N := 12) hx hb ht inX3 hown hK hP 0 rfl rfl 8 (by decide) (ht _ kw_186) (fun _ h9 => h9) rfl dX3_takeSign_16 ?_
    refine lv_iconst (v := (3 : Int32)) hx hb dX3_takeSign_19 (by decide) ?_
    refine lv_icmp_ne (tgt := 30) hx hb dX3_takeSign_20 (by decide) (fun c2 => ?_) (fun c2 => ?_)
    · have hm := ite_f c2 hm
      refine lv_aload_n hx hb dX3_takeSign_30 rfl (lv_at hl 0 rfl) ?_
      refine va_get (D := (dC, dI)) (ci := 4) (v := .ref aZ) (C := RX3) (T := TX3) (N := 12) hx hb ht inX3 hown hK hP 0 rfl rfl 0 (by decide) (ht _ kw_188) (fun _ h9 => h9) rfl dX3_takeSign_31 ?_
      refine lv_aload_n hx hb dX3_takeSign_34 rfl (lv_at hl 0 rfl) ?_
      refine lv_iload_n hx hb dX3_takeSign_35 rfl (lv_at hl 1 rfl) ?_
      have hPc : va_P (dC, dI) vwCl ([wR cI cJ aR jR aZ uR, wS cI cJ aZ jZ uZ] : List va_W).flatten _ := hP.subF [0, 1] rfl
      have hDc : va_D A ([wR cI cJ aR jR aZ uR, wS cI cJ aZ jZ uZ] : List va_W).flatten := hD.subF [0, 1] (by decide) rfl
      have hFc := va_freeF (fc := ([wR cI cJ aR jR aZ uR, wS cI cJ aZ jZ uZ] : List va_W)) hD hS hA [0, 1] rfl
      obtain ⟨r3o, e4, hm⟩ := oC1_of hm
      refine va_calli (va_runV (As := [.int p1]) (rest := [.ref aZ]) ⟨hx, hb, hml, hown, ht⟩ (c_X3_restOf l dC dI cI cJ aR jR aZ jZ H.size uR uZ p1 r3o e4) (cwV 1 ht (gdV kw_258 kw_256 kw_257 kw_205 kw_255) rfl rfl rfl ⟨rfl, nd_X3_restOf⟩ ⟨Nat.le_of_ble_eq_true rfl, Nat.le_of_ble_eq_true rfl⟩) ⟨pcW_blind, va_recv hK hPc (ci := 4) (q0 := 0) rfl rfl, pcW_pre hPc hK hDc hN⟩ rfl rfl hl.1 rfl (lv_room (Nat.le_of_ble_eq_true rfl)) dX3_takeSign_36 ⟨Nat.zero_le _, Nat.zero_le _⟩) hS (fun q _ z => hFc q z) hFc (fun r3 uu t H1 locs ht1 hvm hw hB hz1 hk1 hS => ?_)
      obtain ⟨⟩ := uu
      obtain ⟨hP1, hD1⟩ := hB
      rw [ht1] at hP1
      obtain rfl : r3 = r3o := Option.some.inj hw
      obtain ⟨hP, hD⟩ := va_joinF (fr := ([wO cI cJ aO jO uO] : List va_W)) (f1 := ([wR cI cJ aR jR aZ uR, wS cI cJ aZ jZ uZ] : List va_W)) hP hD [0, 1] [2] rfl rfl (by decide) (by decide) hk1 hFc hP1 hD1
      have hP : va_P (dC, dI) vwCl ([wR cI cJ aR jR aZ uR, wS cI cJ aZ jZ uZ, wO cI cJ aO jO uO] : List va_W).flatten H1 := hP.subF [1, 2, 0] rfl
      have hD : va_D A ([wR cI cJ aR jR aZ uR, wS cI cJ aZ jZ uZ, wO cI cJ aO jO uO] : List va_W).flatten := hD.subF [1, 2, 0] (by decide) rfl
      generalize H1 = H at hP hS ⊢
      have hPc : va_P (dC, dI) vwCl ([wS cI cJ aZ jZ uZ] : List va_W).flatten _ := hP.subF [1] rfl
      have hDc : va_D A ([wS cI cJ aZ jZ uZ] : List va_W).flatten := hD.subF [1] (by decide) rfl
      have hFc := va_freeF (fc := ([wS cI cJ aZ jZ uZ] : List va_W)) hD hS hA [1] rfl
      obtain ⟨r5o, e6, hm⟩ := oC1_of hm
      refine va_calli (va_runV (As := [.int r3]) (rest := []) ⟨hx, hb, hml, hown, ht⟩ (c_X4_signOver l dC dI cI cJ aZ jZ H.size uZ r3 r5o e6) (cwV 1 ht (gdV kw_285 kw_283 kw_284 kw_199 kw_282) rfl rfl rfl ⟨rfl, nd_X4_signOver⟩ ⟨Nat.le_of_ble_eq_true rfl, Nat.le_of_ble_eq_true rfl⟩) ⟨pcW_blind, va_recv hK hPc (ci := 5) (q0 := 0) rfl rfl, pcW_pre hPc hK hDc hN⟩ rfl rfl hl.1 rfl (lv_room (Nat.le_of_ble_eq_true rfl)) dX3_takeSign_39 ⟨Nat.zero_le _, Nat.zero_le _⟩) hS (fun q _ z => hFc q z) hFc (fun r5 uu t H1 locs ht1 hvm hw hB hz1 hk1 hS => ?_)
      obtain ⟨⟩ := uu
      obtain ⟨hP1, hD1⟩ := hB
      rw [ht1] at hP1
      obtain rfl : r5 = r5o := Option.some.inj hw
      obtain ⟨hP, hD⟩ := va_joinF (fr := ([wR cI cJ aR jR aZ uR, wO cI cJ aO jO uO] : List va_W)) (f1 := ([wS cI cJ aZ jZ uZ] : List va_W)) hP hD [1] [0, 2] rfl rfl (by decide) (by decide) hk1 hFc hP1 hD1
      have hP : va_P (dC, dI) vwCl ([wR cI cJ aR jR aZ uR, wS cI cJ aZ jZ uZ, wO cI cJ aO jO uO] : List va_W).flatten H1 := hP.subF [0, 2, 1] rfl
      have hD : va_D A ([wR cI cJ aR jR aZ uR, wS cI cJ aZ jZ uZ, wO cI cJ aO jO uO] : List va_W).flatten := hD.subF [0, 2, 1] (by decide) rfl
      generalize H1 = H at hP hS ⊢
      refine lv_istore_n (lv' := [(3, .int r5), (0, .ref aR), (1, .int p1), (2, .ref aO)]) hx hb dX3_takeSign_42 rfl hl (by decide) rfl (fun ls hl => ?_)
      refine lv_aload_n hx hb dX3_takeSign_43 rfl (lv_at hl 1 rfl) ?_
      refine lv_iload_n hx hb dX3_takeSign_44 rfl (lv_at hl 2 rfl) ?_
      refine lv_aload_n hx hb dX3_takeSign_45 rfl (lv_at hl 1 rfl) ?_
      refine va_get (D := (dC, dI)) (ci := 4) (v := .ref aZ) (C := RX3) (T := TX3) (N := 12) hx hb ht inX3 hown hK hP 0 rfl rfl 0 (by decide) (ht _ kw_188) (fun _ h9 => h9) rfl dX3_takeSign_46 ?_
      refine lv_iload_n hx hb dX3_takeSign_49 rfl (lv_at hl 0 rfl) ?_
      have hPc : va_P (dC, dI) vwCl ([wS cI cJ aZ jZ uZ] : List va_W).flatten _ := hP.subF [1] rfl
      have hDc : va_D A ([wS cI cJ aZ jZ uZ] : List va_W).flatten := hD.subF [1] (by decide) rfl
      have hFc := va_freeF (fc := ([wS cI cJ aZ jZ uZ] : List va_W)) hD hS hA [1] rfl
      obtain ⟨r7o, e8, hm⟩ := oC1_of hm
      refine va_calli (va_runV (As := [.int r5]) (rest := [.int p1, .ref aR]) ⟨hx, hb, hml, hown, ht⟩ (c_X4_shareOf l dC dI cI cJ aZ jZ H.size uZ r5 r7o e8) (cwV 1 ht (gdV kw_289 kw_287 kw_288 kw_199 kw_286) rfl rfl rfl ⟨rfl, nd_X4_shareOf⟩ ⟨Nat.le_of_ble_eq_true rfl, Nat.le_of_ble_eq_true rfl⟩) ⟨pcW_blind, va_recv hK hPc (ci := 5) (q0 := 0) rfl rfl, pcW_pre hPc hK hDc hN⟩ rfl rfl hl.1 rfl (lv_room (Nat.le_of_ble_eq_true rfl)) dX3_takeSign_50 ⟨Nat.zero_le _, Nat.zero_le _⟩) hS (fun q _ z => hFc q z) hFc (fun r7 uu t H1 locs ht1 hvm hw hB hz1 hk1 hS => ?_)
      obtain ⟨⟩ := uu
      obtain ⟨hP1, hD1⟩ := hB
      rw [ht1] at hP1
      obtain rfl : r7 = r7o := Option.some.inj hw
      obtain ⟨hP, hD⟩ := va_joinF (fr := ([wR cI cJ aR jR aZ uR, wO cI cJ aO jO uO] : List va_W)) (f1 := ([wS cI cJ aZ jZ uZ] : List va_W)) hP hD [1] [0, 2] rfl rfl (by decide) (by decide) hk1 hFc hP1 hD1
      have hP : va_P (dC, dI) vwCl ([wR cI cJ aR jR aZ uR, wS cI cJ aZ jZ uZ, wO cI cJ aO jO uO] : List va_W).flatten H1 := hP.subF [0, 2, 1] rfl
      have hD : va_D A ([wR cI cJ aR jR aZ uR, wS cI cJ aZ jZ uZ, wO cI cJ aO jO uO] : List va_W).flatten := hD.subF [0, 2, 1] (by decide) rfl
      generalize H1 = H at hP hS ⊢
      refine lv_aload_n hx hb dX3_takeSign_53 rfl (lv_at hl 1 rfl) ?_
      refine va_get (D := (dC, dI)) (ci := 4) (v := .ref aZ) (C := RX3) (T := TX3) (N := 12) hx hb ht inX3 hown hK hP 0 rfl rfl 0 (by decide) (ht _ kw_188) (fun _ h9 => h9) rfl dX3_takeSign_54 ?_
      refine lv_iload_n hx hb dX3_takeSign_57 rfl (lv_at hl 0 rfl) ?_
      have hPc : va_P (dC, dI) vwCl ([wS cI cJ aZ jZ uZ] : List va_W).flatten _ := hP.subF [1] rfl
      have hDc : va_D A ([wS cI cJ aZ jZ uZ] : List va_W).flatten := hD.subF [1] (by decide) rfl
      have hFc := va_freeF (fc := ([wS cI cJ aZ jZ uZ] : List va_W)) hD hS hA [1] rfl
      obtain ⟨r9o, e10, hm⟩ := oC1_of hm
      refine va_calli (va_runV (As := [.int r5]) (rest := [.int r7, .int p1, .ref aR]) ⟨hx, hb, hml, hown, ht⟩ (c_X4_fromOf l dC dI cI cJ aZ jZ H.size uZ r5 r9o e10) (cwV 1 ht (gdV kw_293 kw_291 kw_292 kw_199 kw_290) rfl rfl rfl ⟨rfl, nd_X4_fromOf⟩ ⟨Nat.le_of_ble_eq_true rfl, Nat.le_of_ble_eq_true rfl⟩) ⟨pcW_blind, va_recv hK hPc (ci := 5) (q0 := 0) rfl rfl, pcW_pre hPc hK hDc hN⟩ rfl rfl hl.1 rfl (lv_room (Nat.le_of_ble_eq_true rfl)) dX3_takeSign_58 ⟨Nat.zero_le _, Nat.zero_le _⟩) hS (fun q _ z => hFc q z) hFc (fun r9 uu t H1 locs ht1 hvm hw hB hz1 hk1 hS => ?_)
      obtain ⟨⟩ := uu
      obtain ⟨hP1, hD1⟩ := hB
      rw [ht1] at hP1
      obtain rfl : r9 = r9o := Option.some.inj hw
      obtain ⟨hP, hD⟩ := va_joinF (fr := ([wR cI cJ aR jR aZ uR, wO cI cJ aO jO uO] : List va_W)) (f1 := ([wS cI cJ aZ jZ uZ] : List va_W)) hP hD [1] [0, 2] rfl rfl (by decide) (by decide) hk1 hFc hP1 hD1
      have hP : va_P (dC, dI) vwCl ([wR cI cJ aR jR aZ uR, wS cI cJ aZ jZ uZ, wO cI cJ aO jO uO] : List va_W).flatten H1 := hP.subF [0, 2, 1] rfl
      have hD : va_D A ([wR cI cJ aR jR aZ uR, wS cI cJ aZ jZ uZ, wO cI cJ aO jO uO] : List va_W).flatten := hD.subF [0, 2, 1] (by decide) rfl
      generalize H1 = H at hP hS ⊢
      refine lv_aload_n hx hb dX3_takeSign_61 rfl (lv_at hl 3 rfl) ?_
      have hPc : va_P (dC, dI) vwCl ([wR cI cJ aR jR aZ uR, wS cI cJ aZ jZ uZ, wO cI cJ aO jO uO] : List va_W).flatten _ := hP
      have hDc : va_D A ([wR cI cJ aR jR aZ uR, wS cI cJ aZ jZ uZ, wO cI cJ aO jO uO] : List va_W).flatten := hD
      have hFc := va_freeF (fc := ([wR cI cJ aR jR aZ uR, wS cI cJ aZ jZ uZ, wO cI cJ aO jO uO] : List va_W)) hD hS hA [0, 1, 2] rfl
      obtain ⟨u11o, e12, hm⟩ := oC1_of hm
      refine va_callv (va_runV (As := [.int p1, .int r7, .int r9, .ref aO]) (rest := []) ⟨hx, hb, hml, hown, ht⟩ (c_X3_narrow l dC dI cI cJ aR jR aZ jZ aO jO H.size uR uZ uO p1 r7 r9 u11o e12) (cwV 4 ht (gdV kw_273 kw_271 kw_272 kw_205 kw_270) rfl rfl rfl ⟨rfl, nd_X3_narrow⟩ ⟨Nat.le_of_ble_eq_true rfl, Nat.le_of_ble_eq_true rfl⟩) ⟨pcW_blind, va_recv hK hPc (ci := 4) (q0 := 0) rfl rfl, pcW_pre hPc hK hDc hN⟩ rfl rfl hl.1 rfl (lv_room (Nat.le_of_ble_eq_true rfl)) dX3_takeSign_62 ⟨Nat.zero_le _, Nat.zero_le _⟩) hS (fun q _ z => hFc q z) hFc (fun uu t H1 locs ht1 hvm hw hB hz1 hk1 hS => ?_)
      obtain ⟨u11, rfl⟩ : ∃ z, z = uu := ⟨_, rfl⟩
      obtain ⟨hP1, hD1⟩ := hB
      rw [ht1] at hP1
      obtain rfl : u11 = u11o := Option.some.inj hw
      have hP : va_P (dC, dI) vwCl ([wR cI cJ aR jR aZ u11, wS cI cJ aZ jZ uZ, wO cI cJ aO jO uO] : List va_W).flatten H1 := hP1
      have hD : va_D A ([wR cI cJ aR jR aZ u11, wS cI cJ aZ jZ uZ, wO cI cJ aO jO uO] : List va_W).flatten := hD1.weaken (fun _ q _ z => hFc q.1 z)
      generalize H1 = H at hP hS ⊢
      refine lv_iload_n hx hb dX3_takeSign_65 rfl (lv_at hl 0 rfl) ?_
      rw [← hQ]
      exact W.iret (v := r5) hx hb hr (fun t ht1 hW => ⟨⟨_, u11, rfl, hm, by rw [ht1]; exact hP, hD⟩, hS.F ht1⟩) hS.2.2 dX3_takeSign_66
    · have hm := ite_t c2 hm
      refine lv_aload_n hx hb dX3_takeSign_23 rfl (lv_at hl 0 rfl) ?_
      refine lv_iload_n hx hb dX3_takeSign_24 rfl (lv_at hl 1 rfl) ?_
      refine lv_aload_n hx hb dX3_takeSign_25 rfl (lv_at hl 2 rfl) ?_
      have hPc : va_P (dC, dI) vwCl ([wR cI cJ aR jR aZ uR, wS cI cJ aZ jZ uZ, wO cI cJ aO jO uO] : List va_W).flatten _ := hP
      have hDc : va_D A ([wR cI cJ aR jR aZ uR, wS cI cJ aZ jZ uZ, wO cI cJ aO jO uO] : List va_W).flatten := hD
      have hFc := va_freeF (fc := ([wR cI cJ aR jR aZ uR, wS cI cJ aZ jZ uZ, wO cI cJ aO jO uO] : List va_W)) hD hS hA [0, 1, 2] rfl
      obtain ⟨u13o, r14o, e15, hm⟩ := oC2_of hm
      refine va_calli (va_runV (As := [.int p1, .ref aO]) (rest := []) ⟨hx, hb, hml, hown, ht⟩ (c_X3_takeTwoSided l dC dI cI cJ aR jR aZ jZ aO jO H.size uR uZ uO p1 (u13o, r14o) e15) (cwV 2 ht (gdV kw_297 kw_295 kw_296 kw_205 kw_294) rfl rfl rfl ⟨rfl, nd_X3_takeTwoSided⟩ ⟨Nat.le_of_ble_eq_true rfl, Nat.le_of_ble_eq_true rfl⟩) ⟨pcW_blind, va_recv hK hPc (ci := 4) (q0 := 0) rfl rfl, pcW_pre hPc hK hDc hN⟩ rfl rfl hl.1 rfl (lv_room (Nat.le_of_ble_eq_true rfl)) dX3_takeSign_26 ⟨Nat.zero_le _, Nat.zero_le _⟩) hS (fun q _ z => hFc q z) hFc (fun r14 uu t H1 locs ht1 hvm hw hB hz1 hk1 hS => ?_)
      obtain ⟨u13, rfl⟩ : ∃ z, z = uu := ⟨_, rfl⟩
      obtain ⟨hP1, hD1⟩ := hB
      rw [ht1] at hP1
      obtain ⟨q0, q1⟩ := inj2 hw
      subst q0
      subst q1
      have hP : va_P (dC, dI) vwCl ([wR cI cJ aR jR aZ u13, wS cI cJ aZ jZ uZ, wO cI cJ aO jO uO] : List va_W).flatten H1 := hP1
      have hD : va_D A ([wR cI cJ aR jR aZ u13, wS cI cJ aZ jZ uZ, wO cI cJ aO jO uO] : List va_W).flatten := hD1.weaken (fun _ q _ z => hFc q.1 z)
      generalize H1 = H at hP hS ⊢
      rw [← hQ]
      exact W.iret (v := r14) hx hb hr (fun t ht1 hW => ⟨⟨_, u13, rfl, hm, by rw [ht1]; exact hP, hD⟩, hS.F ht1⟩) hS.2.2 dX3_takeSign_29
  · have hm := ite_t c1 hm
    refine lv_aload_n hx hb dX3_takeSign_8 rfl (lv_at hl 0 rfl) ?_
    refine lv_iload_n hx hb dX3_takeSign_9 rfl (lv_at hl 1 rfl) ?_
    refine lv_aload_n hx hb dX3_takeSign_10 rfl (lv_at hl 2 rfl) ?_
    have hPc : va_P (dC, dI) vwCl ([wR cI cJ aR jR aZ uR, wS cI cJ aZ jZ uZ, wO cI cJ aO jO uO] : List va_W).flatten _ := hP
    have hDc : va_D A ([wR cI cJ aR jR aZ uR, wS cI cJ aZ jZ uZ, wO cI cJ aO jO uO] : List va_W).flatten := hD
    have hFc := va_freeF (fc := ([wR cI cJ aR jR aZ uR, wS cI cJ aZ jZ uZ, wO cI cJ aO jO uO] : List va_W)) hD hS hA [0, 1, 2] rfl
    obtain ⟨u16o, r17o, e18, hm⟩ := oC2_of hm
    refine va_calli (va_runV (As := [.int p1, .ref aO]) (rest := []) ⟨hx, hb, hml, hown, ht⟩ (c_X3_takeByTable l dC dI cI cJ aR jR aZ jZ aO jO H.size uR uZ uO p1 (u16o, r17o) e18) (cwV 2 ht (gdV kw_301 kw_299 kw_300 kw_205 kw_298) rfl rfl rfl ⟨rfl, nd_X3_takeByTable⟩ ⟨Nat.le_of_ble_eq_true rfl, Nat.le_of_ble_eq_true rfl⟩) ⟨pcW_blind, va_recv hK hPc (ci := 4) (q0 := 0) rfl rfl, pcW_pre hPc hK hDc hN⟩ rfl rfl hl.1 rfl (lv_room (Nat.le_of_ble_eq_true rfl)) dX3_takeSign_11 ⟨Nat.zero_le _, Nat.zero_le _⟩) hS (fun q _ z => hFc q z) hFc (fun r17 uu t H1 locs ht1 hvm hw hB hz1 hk1 hS => ?_)
    obtain ⟨u16, rfl⟩ : ∃ z, z = uu := ⟨_, rfl⟩
    obtain ⟨hP1, hD1⟩ := hB
    rw [ht1] at hP1
    obtain ⟨q0, q1⟩ := inj2 hw
    subst q0
    subst q1
    have hP : va_P (dC, dI) vwCl ([wR cI cJ aR jR aZ u16, wS cI cJ aZ jZ uZ, wO cI cJ aO jO uO] : List va_W).flatten H1 := hP1
    have hD : va_D A ([wR cI cJ aR jR aZ u16, wS cI cJ aZ jZ uZ, wO cI cJ aO jO uO] : List va_W).flatten := hD1.weaken (fun _ q _ z => hFc q.1 z)
    generalize H1 = H at hP hS ⊢
    rw [← hQ]
    exact W.iret (v := r17) hx hb hr (fun t ht1 hW => ⟨⟨_, u16, rfl, hm, by rw [ht1]; exact hP, hD⟩, hS.F ht1⟩) hS.2.2 dX3_takeSign_14

def f_X3_keep (uR : OS) (p1 : Int32) : Option ((OS) × Nat × Nat) :=
  oA2 (f_withRoom (uR.2.2.2 2) (uR.2.1 2) (uR.1 3) (65535 : Int32)) fun n7 f7 kc7 ks7 =>
  addc kc7 ks7 <|
  bnd (sR uR 2 n7 f7) fun u1 =>
  if (nI (u1.2.2.2 2)) ≤ (u1.1 3) then (
  some (u1, 0, 0)) else (
  gdi (u1.1 3) (u1.2.2.2 2) <|
  bnd (sA u1 2 (u1.1 3) p1) fun u5 =>
  bnd (sF u5 3 ((u5.1 3) + (1 : Int32))) fun u6 =>
  some (u6, 0, 0))

set_option maxHeartbeats 4000000 in
set_option maxRecDepth 100000 in
theorem c_X3_keep (l : Launch) (dC : Nat → ClassId) (dI : Nat → Nat → Nat) (cI cJ : ClassId) (aR : Nat) (jR : Nat → Nat) (aZ : Nat) (sz : Nat) (uR : OS) (p1 : Int32) (o : OS) (mc ms : Nat) (hm : f_X3_keep uR p1 = some (o, mc, ms)) : Met l yX3_keep (wq yX3_keep cX3_keep 2 none) ({ frames := 3, cells := mc, slots := ms, locals := 102 } : Room) (va_Pc [.ref aR, .int p1] (pcW dC dI cI cJ sz ([wR cI cJ aR jR aZ uR] : List va_W).flatten)) (va_Qv (S := OS) (fun u => some u = some o) (fun (u : OS) t => ∃ hhR : Nat → Nat, va_P (dC, dI) vwCl ([wR cI cJ aR hhR aZ u] : List va_W).flatten t.heap ∧ va_D (va_A ([wR cI cJ aR jR aZ uR] : List va_W).flatten sz) ([wR cI cJ aR hhR aZ u] : List va_W).flatten) (va_A ([wR cI cJ aR jR aZ uR] : List va_W).flatten sz)) mc ms (va_A ([wR cI cJ aR jR aZ uR] : List va_W).flatten sz) := by
  refine Met.ofW (cc := cX3_keep) (maxL := 2) (ret := none) (by decide) rfl ?_
  intro p e s m args below meth c s₁ B hml hv
  obtain ⟨rfl, hsz, hP, hK, hD0, hN⟩ := hv
  have hx := B.exec
  have hb := B.bytes
  have hr := B.returns
  have ht : ∀ w ∈ lw_good, w.before _ s = true := fun w h => atoms_spec (ws := wq yX3_keep cX3_keep 2 none) B.pre w (wq_mem h)
  have hown : s.vm.findClass RX3 = some m.cls := findClass_of_methodNamed B.named
  have hlocks := B.notSynchronized
  subst hsz
  have hD := hD0.self (sz := s.heap.size)
  generalize hAe : va_A ([wR cI cJ aR jR aZ uR] : List va_W).flatten s.heap.size = A at hD ⊢
  have hA : ∀ q : Nat, s.heap.size ≤ q → A q := fun q h => by rw [← hAe]; exact Or.inr h
  have hS : va_S A s.heap s.heap [] := va_S.rf
  have hl := lv_entry ([.ref aR, .int p1]) (n := 2) (Nat.le_of_ble_eq_true rfl)
  rw [lg_entry_eq]
  generalize (lg_sl ([.ref aR, .int p1]) ++ List.replicate (2 - (lg_sl ([.ref aR, .int p1])).length) Slot.unset).toArray = ls at hl ⊢
  have hl : lv_has ls 2 [(0, .ref aR), (1, .int p1)] := hl
  generalize hQ : MQ below _ _ s _ _ _ = Q
  generalize hH : s.heap = H at hP ⊢
  have hS : va_S A s.heap H [] := by rw [← hH]; exact va_S.rf
  obtain ⟨ce, hce⟩ := ex_eq (0 : Nat)
  obtain ⟨sl, hsl⟩ := ex_eq (0 : Nat)
  obtain ⟨kc, hkc⟩ := ex_eq mc
  obtain ⟨ks, hks⟩ := ex_eq ms
  rw [← hkc, ← hks] at hm
  have hc1 : ce + kc = mc := by omega
  have hc2 : sl + ks = ms := by omega
  suffices hw : W p l e ({ frames := 3, cells := mc, slots := ms, locals := 102 } : Room) s m ([.ref aR, .int p1] : List Value).toArray below meth c H [] ce sl Q (F0 m 0 ls []) by rw [hce, hsl] at hw; exact hw
  clear hce hsl hkc hks
  unfold f_X3_keep at hm
  refine lv_aload_n hx hb dX3_keep_0 rfl (lv_at hl 0 rfl) ?_
  refine lv_aload_n hx hb dX3_keep_1 rfl (lv_at hl 0 rfl) ?_
  refine va_get (D := (dC, dI)) (ci := 4) (v := .ref (jR 2)) (C := RX3) (T := TX3) (N := 12) hx hb ht inX3 hown hK hP 0 rfl rfl 2 (by decide) (ht _ kw_302) (fun _ h9 => h9) rfl dX3_keep_2 ?_
  refine lv_aload_n hx hb dX3_keep_5 rfl (lv_at hl 0 rfl) ?_
  refine va_get (D := (dC, dI)) (ci := 4) (v := .int (uR.1 3)) (C := RX3) (T := TX3) (N := 12) hx hb ht inX3 hown hK hP 0 rfl rfl 3 (by decide) (ht _ kw_180) (fun _ h9 => h9) rfl dX3_keep_6 ?_
  refine lv_ldc (v := (65535 : Int32)) hx hb hown (ht _ kw_254) dX3_keep_9 ?_
  have hPc : va_P (dC, dI) vwCl [((jR 2), .inl (cI, (uR.2.2.2 2), .inl (uR.2.1 2)))] _ := hP.sub [2] rfl
  have hDc : va_D A [((jR 2), .inl (cI, (uR.2.2.2 2), .inl (uR.2.1 2)))] := hD.sub [2] (by decide) rfl
  have hFc := va_free (wc := [((jR 2), .inl (cI, (uR.2.2.2 2), .inl (uR.2.1 2)))]) hD hS hA [2] rfl
  obtain ⟨n7, f7, kc7, ks7, e7, hm⟩ := oA2_of hm
  obtain ⟨kr7, sr7, hm, hkc7, hks7⟩ := addc_of hm
  refine va_callr (va_runSN (As := [.ref (jR 2), .int (uR.1 3), .int (65535 : Int32)]) (rest := [.ref aR]) ⟨hx, hb, hml, hown, ht⟩ (c_withRoom l dC dI cI cJ (jR 2) H.size (uR.2.2.2 2) (uR.2.1 2) (uR.1 3) (65535 : Int32) n7 f7 kc7 ks7 e7) ⟨va_cnB 3 ht (gdC kw_170) rfl rfl rfl (hN _ kn_12) (ht _ kw_161) nd_X6_withRoom ⟨Nat.le_of_ble_eq_true rfl, Nat.le_of_ble_eq_true rfl⟩, ht _ kw_171, trivial⟩ ⟨pcW_blind, pcW_pre hPc hK hDc hN⟩ rfl rfl hl.1 rfl (lv_room (Nat.le_of_ble_eq_true rfl)) dX3_keep_11 ⟨cle hc1 hkc7, cle hc2 hks7⟩) hS (fun q _ z => hFc q z) hFc (fun uu ra7 t H1 locs ht1 hvm hw hB hz1 hk1 hS => ?_)
  obtain ⟨hP1, hD1⟩ := hB
  rw [ht1] at hP1
  have hc1 := cadd hc1 hkc7
  have hc2 := cadd hc2 hks7
  obtain ⟨hP, hD⟩ := va_join (wr := [(wR cI cJ aR jR aZ uR)[0], (wR cI cJ aR jR aZ uR)[1]]) (w1 := [(ra7, .inl (cI, n7, .inl f7))]) hP hD [2] [0, 1] rfl rfl (by decide) (by decide) hk1 hFc hP1 hD1
  generalize H1 = H at hP hS ⊢
  refine va_put (D := (dC, dI)) (ci := 4) (v := .ref ra7) (ty := .array .int) (C := RX3) (T := TX3) (N := 12) hx hb ht inX3 tyX3 tyX3_ok nmX3 hown hK hP hD hS 0 rfl rfl 2 (by decide) (ht _ kw_302) (fun _ h9 => h9) rfl (by decide +kernel) rfl rfl (Nat.le_of_ble_eq_true rfl) dX3_keep_14 (fun H locs hP hD hS => ?_)
  obtain ⟨u1, eu1, hm⟩ := bnd_ex hm
  obtain ⟨h2, eh2⟩ := ex_eq (va_up jR 2 ra7)
  have hP : va_P (dC, dI) vwCl ([wR cI cJ aR h2 aZ u1] : List va_W).flatten H := by rw [eu1, eh2]; exact hP.sub [0, 1, 2] rfl
  have hD : va_D A ([wR cI cJ aR h2 aZ u1] : List va_W).flatten := by rw [eu1, eh2]; exact hD.sub [0, 1, 2] (by decide) rfl
  refine lv_aload_n hx hb dX3_keep_17 rfl (lv_at hl 0 rfl) ?_
  refine va_get (D := (dC, dI)) (ci := 4) (v := .int (u1.1 3)) (C := RX3) (T := TX3) (N := 12) hx hb ht inX3 hown hK hP 0 rfl rfl 3 (by decide) (ht _ kw_180) (fun _ h9 => h9) rfl dX3_keep_18 ?_
  refine lv_aload_n hx hb dX3_keep_21 rfl (lv_at hl 0 rfl) ?_
  refine va_get (D := (dC, dI)) (ci := 4) (v := .ref (h2 2)) (C := RX3) (T := TX3) (N := 12) hx hb ht inX3 hown hK hP 0 rfl rfl 2 (by decide) (ht _ kw_302) (fun _ h9 => h9) rfl dX3_keep_22 ?_
  refine va_alen (v := (nI (u1.2.2.2 2))) hx hb hK hP 2 0 rfl rfl rfl dX3_keep_25 ?_
  refine lv_icmp_ge (tgt := 49) hx hb dX3_keep_26 (by decide) (fun c3 => ?_) (fun c3 => ?_)
  · have hm := ite_t c3 hm
    obtain ⟨hmz, hz1, hz2⟩ := ret0 hm
    subst hz1
    subst hz2
    refine W.cs (cells' := mc) (slots' := ms) hc1 hc2 ?_
    rw [← hQ]
    exact W.vret hx hb hr (fun t ht1 hW => ⟨⟨u1, rfl, hmz, h2, by rw [ht1]; exact hP, hD⟩, hS.F ht1⟩) hS.2.2 dX3_keep_49
  · have hm := ite_f c3 hm
    refine lv_aload_n hx hb dX3_keep_29 rfl (lv_at hl 0 rfl) ?_
    refine va_get (D := (dC, dI)) (ci := 4) (v := .ref (h2 2)) (C := RX3) (T := TX3) (N := 12) hx hb ht inX3 hown hK hP 0 rfl rfl 2 (by decide) (ht _ kw_302) (fun _ h9 => h9) rfl dX3_keep_30 ?_
    refine lv_aload_n hx hb dX3_keep_33 rfl (lv_at hl 0 rfl) ?_
    refine va_get (D := (dC, dI)) (ci := 4) (v := .int (u1.1 3)) (C := RX3) (T := TX3) (N := 12) hx hb ht inX3 hown hK hP 0 rfl rfl 3 (by decide) (ht _ kw_180) (fun _ h9 => h9) rfl dX3_keep_34 ?_
    refine lv_iload_n hx hb dX3_keep_37 rfl (lv_at hl 1 rfl) ?_
    obtain ⟨g4, hm⟩ := gdi_of hm
    refine va_iast hx hb hK hP hD hS 2 0 rfl rfl g4 dX3_keep_38 (fun H locs hP hD hS => ?_)
    obtain ⟨u5, eu5, hm⟩ := bnd_ex hm
    have hP : va_P (dC, dI) vwCl ([wR cI cJ aR h2 aZ u5] : List va_W).flatten H := by rw [eu5]; exact hP
    have hD : va_D A ([wR cI cJ aR h2 aZ u5] : List va_W).flatten := by rw [eu5]; exact hD
    refine lv_aload_n hx hb dX3_keep_39 rfl (lv_at hl 0 rfl) ?_
    refine lv_dup hx hb dX3_keep_40 rfl ?_
    refine va_get (D := (dC, dI)) (ci := 4) (v := .int (u5.1 3)) (C := RX3) (T := TX3) (N := 12) hx hb ht inX3 hown hK hP 0 rfl rfl 3 (by decide) (ht _ kw_180) (fun _ h9 => h9) rfl dX3_keep_41 ?_
    refine lv_iconst (v := (1 : Int32)) hx hb dX3_keep_44 (by decide) ?_
    refine lv_iadd hx hb dX3_keep_45 ?_
    refine va_put (D := (dC, dI)) (ci := 4) (v := .int ((u5.1 3) + (1 : Int32))) (ty := .int) (C := RX3) (T := TX3) (N := 12) hx hb ht inX3 tyX3 tyX3_ok nmX3 hown hK hP hD hS 0 rfl rfl 3 (by decide) (ht _ kw_180) (fun _ h9 => h9) rfl (by decide +kernel) rfl rfl (Nat.le_of_ble_eq_true rfl) dX3_keep_46 (fun H locs hP hD hS => ?_)
    obtain ⟨u6, eu6, hm⟩ := bnd_ex hm
    have hP : va_P (dC, dI) vwCl ([wR cI cJ aR h2 aZ u6] : List va_W).flatten H := by rw [eu6]; exact hP
    have hD : va_D A ([wR cI cJ aR h2 aZ u6] : List va_W).flatten := by rw [eu6]; exact hD
    obtain ⟨hmz, hz1, hz2⟩ := ret0 hm
    subst hz1
    subst hz2
    refine W.cs (cells' := mc) (slots' := ms) hc1 hc2 ?_
    rw [← hQ]
    exact W.vret hx hb hr (fun t ht1 hW => ⟨⟨u6, rfl, hmz, h2, by rw [ht1]; exact hP, hD⟩, hS.F ht1⟩) hS.2.2 dX3_keep_49

def f_X3_takeRow_L17 (uO : OS) (u3 : OS) : Nat → Int32 → OS → Option ((OS × OS) × Nat × Nat)
  | 0, _, _ => none
  | n17 + 1, x7, u8 =>
    if (u8.1 10) ≤ x7 then (
    some ((u8, u3), 0, 0)) else (
    if (65535 : Int32) ≤ x7 then (
    some ((u8, u3), 0, 0)) else (
    oC2 (f_X3_takeSign u8 u3 uO (x7 &&& ((u8.1 9) - (1 : Int32)))) fun u11 r12 =>
    if (u11.1 4) = (0 : Int32) then (
    oA1 (f_X3_keep u11 r12) fun u15 kc18 ks18 =>
    addc kc18 ks18 <|
    bnd (x7 + (1 : Int32)) fun x20 =>
    f_X3_takeRow_L17 uO u3 n17 x20 u15) else (
    some ((u11, u3), 0, 0))))

def f_X3_takeRow (uR : OS) (uZ : OS) (uO : OS) : Option ((OS × OS) × Nat × Nat) :=
  bnd (fun (u3 : OS) =>
  f_X3_takeRow_L17 uO u3 FU (0 : Int32) uR) fun K15_4 =>
  if (uR.1 8) = (2 : Int32) then (
  oA1 (f_X4_makeSpread uZ) fun u22 kc25 ks25 =>
  addc kc25 ks25 <|
  K15_4 u22) else (
  K15_4 uZ)

set_option maxHeartbeats 4000000 in
set_option maxRecDepth 100000 in
theorem c_X3_takeRow (l : Launch) (dC : Nat → ClassId) (dI : Nat → Nat → Nat) (cI cJ : ClassId) (aR : Nat) (jR : Nat → Nat) (aZ : Nat) (jZ : Nat → Nat) (aO : Nat) (jO : Nat → Nat) (sz : Nat) (uR : OS) (uZ : OS) (uO : OS) (o : OS × OS) (mc ms : Nat) (hm : f_X3_takeRow uR uZ uO = some (o, mc, ms)) : Met l yX3_takeRow (wq yX3_takeRow cX3_takeRow 4 none) ({ frames := 4, cells := mc, slots := ms, locals := 123 } : Room) (va_Pc [.ref aR, .ref aO] (pcW dC dI cI cJ sz ([wR cI cJ aR jR aZ uR, wS cI cJ aZ jZ uZ, wO cI cJ aO jO uO] : List va_W).flatten)) (va_Qv (S := OS × OS) (fun u => some (u.1, u.2) = some o) (fun (u : OS × OS) t => ∃ hhR : Nat → Nat, ∃ hhZ : Nat → Nat, va_P (dC, dI) vwCl ([wR cI cJ aR hhR aZ u.1, wS cI cJ aZ hhZ u.2, wO cI cJ aO jO uO] : List va_W).flatten t.heap ∧ va_D (va_A ([wR cI cJ aR jR aZ uR, wS cI cJ aZ jZ uZ, wO cI cJ aO jO uO] : List va_W).flatten sz) ([wR cI cJ aR hhR aZ u.1, wS cI cJ aZ hhZ u.2, wO cI cJ aO jO uO] : List va_W).flatten) (va_A ([wR cI cJ aR jR aZ uR, wS cI cJ aZ jZ uZ, wO cI cJ aO jO uO] : List va_W).flatten sz)) mc ms (va_A ([wR cI cJ aR jR aZ uR, wS cI cJ aZ jZ uZ, wO cI cJ aO jO uO] : List va_W).flatten sz) := by
  refine Met.ofW (cc := cX3_takeRow) (maxL := 4) (ret := none) (by decide) rfl ?_
  intro p e s m args below meth c s₁ B hml hv
  obtain ⟨rfl, hsz, hP, hK, hD0, hN⟩ := hv
  have hx := B.exec
  have hb := B.bytes
  have hr := B.returns
  have ht : ∀ w ∈ lw_good, w.before _ s = true := fun w h => atoms_spec (ws := wq yX3_takeRow cX3_takeRow 4 none) B.pre w (wq_mem h)
  have hown : s.vm.findClass RX3 = some m.cls := findClass_of_methodNamed B.named
  have hlocks := B.notSynchronized
  subst hsz
  have hD := hD0.self (sz := s.heap.size)
  generalize hAe : va_A ([wR cI cJ aR jR aZ uR, wS cI cJ aZ jZ uZ, wO cI cJ aO jO uO] : List va_W).flatten s.heap.size = A at hD ⊢
  have hA : ∀ q : Nat, s.heap.size ≤ q → A q := fun q h => by rw [← hAe]; exact Or.inr h
  have hS : va_S A s.heap s.heap [] := va_S.rf
  have hl := lv_entry ([.ref aR, .ref aO]) (n := 4) (Nat.le_of_ble_eq_true rfl)
  rw [lg_entry_eq]
  generalize (lg_sl ([.ref aR, .ref aO]) ++ List.replicate (4 - (lg_sl ([.ref aR, .ref aO])).length) Slot.unset).toArray = ls at hl ⊢
  have hl : lv_has ls 4 [(0, .ref aR), (1, .ref aO)] := hl
  generalize hQ : MQ below _ _ s _ _ _ = Q
  generalize hH : s.heap = H at hP ⊢
  have hS : va_S A s.heap H [] := by rw [← hH]; exact va_S.rf
  obtain ⟨ce, hce⟩ := ex_eq (0 : Nat)
  obtain ⟨sl, hsl⟩ := ex_eq (0 : Nat)
  obtain ⟨kc, hkc⟩ := ex_eq mc
  obtain ⟨ks, hks⟩ := ex_eq ms
  rw [← hkc, ← hks] at hm
  have hc1 : ce + kc = mc := by omega
  have hc2 : sl + ks = ms := by omega
  suffices hw : W p l e ({ frames := 4, cells := mc, slots := ms, locals := 123 } : Room) s m ([.ref aR, .ref aO] : List Value).toArray below meth c H [] ce sl Q (F0 m 0 ls []) by rw [hce, hsl] at hw; exact hw
  clear hce hsl hkc hks
  unfold f_X3_takeRow at hm
  refine lv_aload_n hx hb dX3_takeRow_0 rfl (lv_at hl 0 rfl) ?_
  refine va_get (D := (dC, dI)) (ci := 4) (v := .int (uR.1 8)) (C := RX3) (T := TX3) (N := 12) hx hb ht inX3 hown hK hP 0 rfl rfl 8 (by decide) (ht _ kw_186) (fun _ h9 => h9) rfl dX3_takeRow_1 ?_
  refine lv_iconst (v := (2 : Int32)) hx hb dX3_takeRow_4 (by decide) ?_
  obtain ⟨K15_4, eK15_4, hm⟩ := bnd_ex hm
  have J15_4 : ∀ (u3 : OS) (hg1 : Nat → Nat) (hg2 : Nat → Nat) (ce sl kc ks : Nat) (H : Heap) (locs : List Loc) (ls : Array Slot), K15_4 u3 = some (o, kc, ks) → ce + kc = mc → sl + ks = ms → va_P (dC, dI) vwCl ([wR cI cJ aR hg1 aZ uR, wS cI cJ aZ hg2 u3, wO cI cJ aO jO uO] : List va_W).flatten H → va_D A ([wR cI cJ aR hg1 aZ uR, wS cI cJ aZ hg2 u3, wO cI cJ aO jO uO] : List va_W).flatten → va_S A s.heap H locs → lv_has ls 4 [(0, .ref aR), (1, .ref aO)] → W p l e ({ frames := 4, cells := mc, slots := ms, locals := 123 } : Room) s m ([.ref aR, .ref aO] : List Value).toArray below meth c H locs ce sl Q (F0 m 15 ls []) := by
    intro u3 hg1 hg2 ce sl kc ks H locs ls hm hc1 hc2 hP hD hS hl
    have hm := ap1 eK15_4 hm
    refine lv_iconst (v := (0 : Int32)) hx hb dX3_takeRow_15 (by decide) ?_
    refine lv_istore_n (lv' := [(2, .int (0 : Int32)), (0, .ref aR), (1, .ref aO)]) hx hb dX3_takeRow_16 rfl hl (by decide) rfl (fun ls hl => ?_)
    have LP17 : ∀ (n17 : Nat) (x7 : Int32) (u8 : OS) (hg5 : Nat → Nat) (hg6 : Nat → Nat) (ce sl kc ks : Nat) (H : Heap) (locs : List Loc) (ls : Array Slot), f_X3_takeRow_L17 uO u3 n17 x7 u8 = some (o, kc, ks) → ce + kc = mc → sl + ks = ms → va_P (dC, dI) vwCl ([wR cI cJ aR hg5 aZ u8, wS cI cJ aZ hg6 u3, wO cI cJ aO jO uO] : List va_W).flatten H → va_D A ([wR cI cJ aR hg5 aZ u8, wS cI cJ aZ hg6 u3, wO cI cJ aO jO uO] : List va_W).flatten → va_S A s.heap H locs → lv_has ls 4 [(0, .ref aR), (1, .ref aO), (2, .int x7)] → W p l e ({ frames := 4, cells := mc, slots := ms, locals := 123 } : Room) s m ([.ref aR, .ref aO] : List Value).toArray below meth c H locs ce sl Q (F0 m 17 ls []) := by
      intro n17
      induction n17 with
      | zero => intro x7 u8 hg5 hg6 ce sl kc ks H locs ls hm; exact nomatch (show (none : Option _) = some _ from hm)
      | succ n17 ih17 =>
        intro x7 u8 hg5 hg6 ce sl kc ks H locs ls hm hc1 hc2 hP hD hS hl
        unfold f_X3_takeRow_L17 at hm
        refine lv_iload_n hx hb dX3_takeRow_17 rfl (lv_at hl 2 rfl) ?_
        refine lv_aload_n hx hb dX3_takeRow_18 rfl (lv_at hl 0 rfl) ?_
        refine va_get (D := (dC, dI)) (ci := 4) (v := .int (u8.1 10)) (C := RX3) (T := TX3) (N := 12) hx hb ht inX3 hown hK hP 0 rfl rfl 10 (by decide) (ht _ kw_203) (fun _ h9 => h9) rfl dX3_takeRow_19 ?_
        refine lv_icmp_ge (tgt := 64) hx hb dX3_takeRow_22 (by decide) (fun c9 => ?_) (fun c9 => ?_)
        · have hm := ite_t c9 hm
          obtain ⟨hmz, hz1, hz2⟩ := ret0 hm
          subst hz1
          subst hz2
          refine W.cs (cells' := mc) (slots' := ms) hc1 hc2 ?_
          rw [← hQ]
          exact W.vret hx hb hr (fun t ht1 hW => ⟨⟨(u8, u3), rfl, hmz, hg5, hg6, by rw [ht1]; exact hP, hD⟩, hS.F ht1⟩) hS.2.2 dX3_takeRow_64
        · have hm := ite_f c9 hm
          refine lv_iload_n hx hb dX3_takeRow_25 rfl (lv_at hl 2 rfl) ?_
          refine lv_ldc (v := (65535 : Int32)) hx hb hown (ht _ kw_254) dX3_takeRow_26 ?_
          refine lv_icmp_ge (tgt := 64) hx hb dX3_takeRow_28 (by decide) (fun c10 => ?_) (fun c10 => ?_)
          · have hm := ite_t c10 hm
            obtain ⟨hmz, hz1, hz2⟩ := ret0 hm
            subst hz1
            subst hz2
            refine W.cs (cells' := mc) (slots' := ms) hc1 hc2 ?_
            rw [← hQ]
            exact W.vret hx hb hr (fun t ht1 hW => ⟨⟨(u8, u3), rfl, hmz, hg5, hg6, by rw [ht1]; exact hP, hD⟩, hS.F ht1⟩) hS.2.2 dX3_takeRow_64
          · have hm := ite_f c10 hm
            refine lv_aload_n hx hb dX3_takeRow_31 rfl (lv_at hl 0 rfl) ?_
            refine lv_iload_n hx hb dX3_takeRow_32 rfl (lv_at hl 2 rfl) ?_
            refine lv_aload_n hx hb dX3_takeRow_33 rfl (lv_at hl 0 rfl) ?_
            refine va_get (D := (dC, dI)) (ci := 4) (v := .int (u8.1 9)) (C := RX3) (T := TX3) (N := 12) hx hb ht inX3 hown hK hP 0 rfl rfl 9 (by decide) (ht _ kw_187) (fun _ h9 => h9) rfl dX3_takeRow_34 ?_
            refine lv_iconst (v := (1 : Int32)) hx hb dX3_takeRow_37 (by decide) ?_
            refine lv_isub hx hb dX3_takeRow_38 ?_
            refine lv_iand hx hb dX3_takeRow_39 ?_
            refine lv_aload_n hx hb dX3_takeRow_40 rfl (lv_at hl 1 rfl) ?_
            have hPc : va_P (dC, dI) vwCl ([wR cI cJ aR hg5 aZ u8, wS cI cJ aZ hg6 u3, wO cI cJ aO jO uO] : List va_W).flatten _ := hP
            have hDc : va_D A ([wR cI cJ aR hg5 aZ u8, wS cI cJ aZ hg6 u3, wO cI cJ aO jO uO] : List va_W).flatten := hD
            have hFc := va_freeF (fc := ([wR cI cJ aR hg5 aZ u8, wS cI cJ aZ hg6 u3, wO cI cJ aO jO uO] : List va_W)) hD hS hA [0, 1, 2] rfl
            obtain ⟨u11o, r12o, e13, hm⟩ := oC2_of hm
            refine va_calli (va_runV (As := [.int (x7 &&& ((u8.1 9) - (1 : Int32))), .ref aO]) (rest := []) ⟨hx, hb, hml, hown, ht⟩ (c_X3_takeSign l dC dI cI cJ aR hg5 aZ hg6 aO jO H.size u8 u3 uO (x7 &&& ((u8.1 9) - (1 : Int32))) (u11o, r12o) e13) (cwV 2 ht (gdV kw_306 kw_304 kw_305 kw_205 kw_303) rfl rfl rfl ⟨rfl, nd_X3_takeSign⟩ ⟨Nat.le_of_ble_eq_true rfl, Nat.le_of_ble_eq_true rfl⟩) ⟨pcW_blind, va_recv hK hPc (ci := 4) (q0 := 0) rfl rfl, pcW_pre hPc hK hDc hN⟩ rfl rfl hl.1 rfl (lv_room (Nat.le_of_ble_eq_true rfl)) dX3_takeRow_41 ⟨cle0 hc1, cle0 hc2⟩) hS (fun q _ z => hFc q z) hFc (fun r12 uu t H1 locs ht1 hvm hw hB hz1 hk1 hS => ?_)
            obtain ⟨u11, rfl⟩ : ∃ z, z = uu := ⟨_, rfl⟩
            obtain ⟨hP1, hD1⟩ := hB
            rw [ht1] at hP1
            obtain ⟨q0, q1⟩ := inj2 hw
            subst q0
            subst q1
            have hP : va_P (dC, dI) vwCl ([wR cI cJ aR hg5 aZ u11, wS cI cJ aZ hg6 u3, wO cI cJ aO jO uO] : List va_W).flatten H1 := hP1
            have hD : va_D A ([wR cI cJ aR hg5 aZ u11, wS cI cJ aZ hg6 u3, wO cI cJ aO jO uO] : List va_W).flatten := hD1.weaken (fun _ q _ z => hFc q.1 z)
            generalize H1 = H at hP hS ⊢
            refine W.cs (Nat.add_zero _) (Nat.add_zero _) ?_
            refine lv_istore_n (lv' := [(3, .int r12), (0, .ref aR), (1, .ref aO), (2, .int x7)]) hx hb dX3_takeRow_44 rfl hl (by decide) rfl (fun ls hl => ?_)
            refine lv_aload_n hx hb dX3_takeRow_45 rfl (lv_at hl 1 rfl) ?_
            refine va_get (D := (dC, dI)) (ci := 4) (v := .int (u11.1 4)) (C := RX3) (T := TX3) (N := 12) hx hb ht inX3 hown hK hP 0 rfl rfl 4 (by decide) (ht _ kw_181) (fun _ h9 => h9) rfl dX3_takeRow_46 ?_
            refine lv_if_eq (tgt := 53) hx hb dX3_takeRow_49 (by decide) (fun c14 => ?_) (fun c14 => ?_)
            · have hm := ite_t c14 hm
              refine lv_aload_n hx hb dX3_takeRow_53 rfl (lv_at hl 1 rfl) ?_
              refine lv_iload_n hx hb dX3_takeRow_54 rfl (lv_at hl 0 rfl) ?_
              have hPc : va_P (dC, dI) vwCl ([wR cI cJ aR hg5 aZ u11] : List va_W).flatten _ := hP.subF [0] rfl
              have hDc : va_D A ([wR cI cJ aR hg5 aZ u11] : List va_W).flatten := hD.subF [0] (by decide) rfl
              have hFc := va_freeF (fc := ([wR cI cJ aR hg5 aZ u11] : List va_W)) hD hS hA [0] rfl
              obtain ⟨u15o, kc18, ks18, e17, hm⟩ := oA1_of hm
              obtain ⟨kcq19, ksq19, hm, hkcq19, hksq19⟩ := addc_of hm
              refine va_callv (va_runV (As := [.int r12]) (rest := []) ⟨hx, hb, hml, hown, ht⟩ (c_X3_keep l dC dI cI cJ aR hg5 aZ H.size u11 r12 u15o kc18 ks18 e17) (cwV 1 ht (gdV kw_310 kw_308 kw_309 kw_205 kw_307) rfl rfl rfl ⟨rfl, nd_X3_keep⟩ ⟨Nat.le_of_ble_eq_true rfl, Nat.le_of_ble_eq_true rfl⟩) ⟨pcW_blind, va_recv hK hPc (ci := 4) (q0 := 0) rfl rfl, pcW_pre hPc hK hDc hN⟩ rfl rfl hl.1 rfl (lv_room (Nat.le_of_ble_eq_true rfl)) dX3_takeRow_55 ⟨cle hc1 hkcq19, cle hc2 hksq19⟩) hS (fun q _ z => hFc q z) hFc (fun uu t H1 locs ht1 hvm hw hB hz1 hk1 hS => ?_)
              obtain ⟨u15, rfl⟩ : ∃ z, z = uu := ⟨_, rfl⟩
              obtain ⟨h16, hP1, hD1⟩ := hB
              rw [ht1] at hP1
              obtain rfl : u15 = u15o := Option.some.inj hw
              obtain ⟨hP, hD⟩ := va_joinF (fr := ([wS cI cJ aZ hg6 u3, wO cI cJ aO jO uO] : List va_W)) (f1 := ([wR cI cJ aR h16 aZ u15] : List va_W)) hP hD [0] [1, 2] rfl rfl (by decide) (by decide) hk1 hFc hP1 hD1
              have hP : va_P (dC, dI) vwCl ([wR cI cJ aR h16 aZ u15, wS cI cJ aZ hg6 u3, wO cI cJ aO jO uO] : List va_W).flatten H1 := hP.subF [2, 0, 1] rfl
              have hD : va_D A ([wR cI cJ aR h16 aZ u15, wS cI cJ aZ hg6 u3, wO cI cJ aO jO uO] : List va_W).flatten := hD.subF [2, 0, 1] (by decide) rfl
              generalize H1 = H at hP hS ⊢
              have hc1 := cadd hc1 hkcq19
              have hc2 := cadd hc2 hksq19
              obtain ⟨x20, ex20, hm⟩ := bnd_ex hm
              refine lv_iinc (v := x20) (lv' := [(2, .int x20), (3, .int r12), (0, .ref aR), (1, .ref aO)]) hx hb dX3_takeRow_58 hl (k := 3) rfl (by rw [ex20]; exact congrArg _ (by decide)) (by decide) rfl (fun ls hl => ?_)
              refine lv_goto (tgt := 17) hx hb dX3_takeRow_61 (by decide) ?_
              exact ih17 x20 u15 h16 hg6 _ _ _ _ _ _ _ hm hc1 hc2 hP hD hS (lv_sub hl [2, 3, 0] rfl)
            · have hm := ite_f c14 hm
              obtain ⟨hmz, hz1, hz2⟩ := ret0 hm
              subst hz1
              subst hz2
              refine W.cs (cells' := mc) (slots' := ms) hc1 hc2 ?_
              rw [← hQ]
              exact W.vret hx hb hr (fun t ht1 hW => ⟨⟨(u11, u3), rfl, hmz, hg5, hg6, by rw [ht1]; exact hP, hD⟩, hS.F ht1⟩) hS.2.2 dX3_takeRow_52
    exact LP17 FU (0 : Int32) uR hg1 hg2 _ _ _ _ _ _ _ hm hc1 hc2 hP hD hS (lv_sub hl [1, 2, 0] rfl)
  refine lv_icmp_ne (tgt := 15) hx hb dX3_takeRow_5 (by decide) (fun c21 => ?_) (fun c21 => ?_)
  · have hm := ite_f c21 hm
    exact J15_4 uZ jR jZ _ _ _ _ _ _ _ hm hc1 hc2 hP hD hS (lv_sub hl [0, 1] rfl)
  · have hm := ite_t c21 hm
    refine lv_aload_n hx hb dX3_takeRow_8 rfl (lv_at hl 0 rfl) ?_
    refine va_get (D := (dC, dI)) (ci := 4) (v := .ref aZ) (C := RX3) (T := TX3) (N := 12) hx hb ht inX3 hown hK hP 0 rfl rfl 0 (by decide) (ht _ kw_188) (fun _ h9 => h9) rfl dX3_takeRow_9 ?_
    have hPc : va_P (dC, dI) vwCl ([wS cI cJ aZ jZ uZ] : List va_W).flatten _ := hP.subF [1] rfl
    have hDc : va_D A ([wS cI cJ aZ jZ uZ] : List va_W).flatten := hD.subF [1] (by decide) rfl
    have hFc := va_freeF (fc := ([wS cI cJ aZ jZ uZ] : List va_W)) hD hS hA [1] rfl
    obtain ⟨u22o, kc25, ks25, e24, hm⟩ := oA1_of hm
    obtain ⟨kcq26, ksq26, hm, hkcq26, hksq26⟩ := addc_of hm
    refine va_callv (va_runV (As := []) (rest := []) ⟨hx, hb, hml, hown, ht⟩ (c_X4_makeSpread l dC dI cI cJ aZ jZ H.size uZ u22o kc25 ks25 e24) (cwV 0 ht (gdV kw_314 kw_312 kw_313 kw_199 kw_311) rfl rfl rfl ⟨rfl, nd_X4_makeSpread⟩ ⟨Nat.le_of_ble_eq_true rfl, Nat.le_of_ble_eq_true rfl⟩) ⟨pcW_blind, va_recv hK hPc (ci := 5) (q0 := 0) rfl rfl, pcW_pre hPc hK hDc hN⟩ rfl rfl hl.1 rfl (lv_room (Nat.le_of_ble_eq_true rfl)) dX3_takeRow_12 ⟨cle hc1 hkcq26, cle hc2 hksq26⟩) hS (fun q _ z => hFc q z) hFc (fun uu t H1 locs ht1 hvm hw hB hz1 hk1 hS => ?_)
    obtain ⟨u22, rfl⟩ : ∃ z, z = uu := ⟨_, rfl⟩
    obtain ⟨h23, hP1, hD1⟩ := hB
    rw [ht1] at hP1
    obtain rfl : u22 = u22o := Option.some.inj hw
    obtain ⟨hP, hD⟩ := va_joinF (fr := ([wR cI cJ aR jR aZ uR, wO cI cJ aO jO uO] : List va_W)) (f1 := ([wS cI cJ aZ h23 u22] : List va_W)) hP hD [1] [0, 2] rfl rfl (by decide) (by decide) hk1 hFc hP1 hD1
    have hP : va_P (dC, dI) vwCl ([wR cI cJ aR jR aZ uR, wS cI cJ aZ h23 u22, wO cI cJ aO jO uO] : List va_W).flatten H1 := hP.subF [0, 2, 1] rfl
    have hD : va_D A ([wR cI cJ aR jR aZ uR, wS cI cJ aZ h23 u22, wO cI cJ aO jO uO] : List va_W).flatten := hD.subF [0, 2, 1] (by decide) rfl
    generalize H1 = H at hP hS ⊢
    have hc1 := cadd hc1 hkcq26
    have hc2 := cadd hc2 hksq26
    exact J15_4 u22 jR h23 _ _ _ _ _ _ _ hm hc1 hc2 hP hD hS (lv_sub hl [0, 1] rfl)

def f_X3_judgeEnd_L18 (uR : OS) (r1 : Int64) : Nat → (Int32 → Option (OS)) → (Int32 → Option (OS)) → Int32 → Option (OS)
  | 0, _, _, _ => none
  | n18 + 1, K45_5, K57_8, x3 =>
    if (uR.1 9) ≤ x3 then (
    K57_8 x3) else (
    if (4 : Int32) ≤ x3 then (
    K57_8 x3) else (
    gdi x3 4 <|
    if (uR.2.2.1 1 (x3).toNatClampNeg) = r1 then (
    bnd (x3 + (1 : Int32)) fun x19 =>
    f_X3_judgeEnd_L18 uR r1 n18 K45_5 K57_8 x19) else (
    K45_5 x3)))

def f_X3_judgeEnd (uR : OS) (uZ : OS) (uO : OS) : Option (OS) :=
  oC1 (f_X6_firstState (uR.1 8) (uZ.1 1)) fun r1 =>
  bnd (fun (x4 : Int32) =>
  bnd (sF uR 4 (5 : Int32)) fun u6 =>
  some u6) fun K45_5 =>
  bnd (fun (x7 : Int32) =>
  if (uR.1 5) < (uO.1 1) then (
  bnd (sF uR 4 (6 : Int32)) fun u10 =>
  some u10) else (
  oC1 (f_X3_restIsSet uR) fun r11 =>
  if r11 = (0 : Int32) then (
  some uR) else (
  bnd (sF uR 4 (6 : Int32)) fun u14 =>
  some u14))) fun K57_8 =>
  f_X3_judgeEnd_L18 uR r1 FU K45_5 K57_8 (0 : Int32)

set_option maxHeartbeats 4000000 in
set_option maxRecDepth 100000 in
theorem c_X3_judgeEnd (l : Launch) (dC : Nat → ClassId) (dI : Nat → Nat → Nat) (cI cJ : ClassId) (aR : Nat) (jR : Nat → Nat) (aZ : Nat) (jZ : Nat → Nat) (aO : Nat) (jO : Nat → Nat) (sz : Nat) (uR : OS) (uZ : OS) (uO : OS) (o : OS) (hm : f_X3_judgeEnd uR uZ uO = some o) : Met l yX3_judgeEnd (wq yX3_judgeEnd cX3_judgeEnd 5 none) ({ frames := 1, cells := 0, slots := 0, locals := 21 } : Room) (va_Pc [.ref aR, .ref aO] (pcW dC dI cI cJ sz ([wR cI cJ aR jR aZ uR, wS cI cJ aZ jZ uZ, wO cI cJ aO jO uO] : List va_W).flatten)) (va_Qv (S := OS) (fun u => some u = some o) (fun (u : OS) t => va_P (dC, dI) vwCl ([wR cI cJ aR jR aZ u, wS cI cJ aZ jZ uZ, wO cI cJ aO jO uO] : List va_W).flatten t.heap ∧ va_D (va_A ([wR cI cJ aR jR aZ uR, wS cI cJ aZ jZ uZ, wO cI cJ aO jO uO] : List va_W).flatten sz) ([wR cI cJ aR jR aZ u, wS cI cJ aZ jZ uZ, wO cI cJ aO jO uO] : List va_W).flatten) (va_A ([wR cI cJ aR jR aZ uR, wS cI cJ aZ jZ uZ, wO cI cJ aO jO uO] : List va_W).flatten sz)) 0 0 (va_A ([wR cI cJ aR jR aZ uR, wS cI cJ aZ jZ uZ, wO cI cJ aO jO uO] : List va_W).flatten sz) := by
  refine Met.ofW (cc := cX3_judgeEnd) (maxL := 5) (ret := none) (by decide) rfl ?_
  intro p e s m args below meth c s₁ B hml hv
  obtain ⟨rfl, hsz, hP, hK, hD0, hN⟩ := hv
  have hx := B.exec
  have hb := B.bytes
  have hr := B.returns
  have ht : ∀ w ∈ lw_good, w.before _ s = true := fun w h => atoms_spec (ws := wq yX3_judgeEnd cX3_judgeEnd 5 none) B.pre w (wq_mem h)
  have hown : s.vm.findClass RX3 = some m.cls := findClass_of_methodNamed B.named
  have hlocks := B.notSynchronized
  subst hsz
  have hD := hD0.self (sz := s.heap.size)
  generalize hAe : va_A ([wR cI cJ aR jR aZ uR, wS cI cJ aZ jZ uZ, wO cI cJ aO jO uO] : List va_W).flatten s.heap.size = A at hD ⊢
  have hA : ∀ q : Nat, s.heap.size ≤ q → A q := fun q h => by rw [← hAe]; exact Or.inr h
  have hS : va_S A s.heap s.heap [] := va_S.rf
  have hl := lv_entry ([.ref aR, .ref aO]) (n := 5) (Nat.le_of_ble_eq_true rfl)
  rw [lg_entry_eq]
  generalize (lg_sl ([.ref aR, .ref aO]) ++ List.replicate (5 - (lg_sl ([.ref aR, .ref aO])).length) Slot.unset).toArray = ls at hl ⊢
  have hl : lv_has ls 5 [(0, .ref aR), (1, .ref aO)] := hl
  generalize hQ : MQ below _ _ s _ _ _ = Q
  generalize hH : s.heap = H at hP ⊢
  have hS : va_S A s.heap H [] := by rw [← hH]; exact va_S.rf
  show W p l e ({ frames := 1, cells := 0, slots := 0, locals := 21 } : Room) s m ([.ref aR, .ref aO] : List Value).toArray below meth c H [] 0 0 Q (F0 m 0 ls [])
  unfold f_X3_judgeEnd at hm
  refine lv_aload_n hx hb dX3_judgeEnd_0 rfl (lv_at hl 0 rfl) ?_
  refine va_get (D := (dC, dI)) (ci := 4) (v := .int (uR.1 8)) (C := RX3) (T := TX3) (N := 12) hx hb ht inX3 hown hK hP 0 rfl rfl 8 (by decide) (ht _ kw_186) (fun _ h9 => h9) rfl dX3_judgeEnd_1 ?_
  refine lv_aload_n hx hb dX3_judgeEnd_4 rfl (lv_at hl 0 rfl) ?_
  refine va_get (D := (dC, dI)) (ci := 4) (v := .ref aZ) (C := RX3) (T := TX3) (N := 12) hx hb ht inX3 hown hK hP 0 rfl rfl 0 (by decide) (ht _ kw_188) (fun _ h9 => h9) rfl dX3_judgeEnd_5 ?_
  refine va_getN (D := (dC, dI)) (ci := 5) (v := .int (uZ.1 1)) (C := RX4) (T := TX4) (N := 11) hx hb ht inX4 hown hK hP 3 rfl rfl 1 (by decide) (va_Nw.use rfl (hN _ kn_5)) (fun _ h9 => h9) rfl dX3_judgeEnd_8 ?_
  have hPc : va_P (dC, dI) vwCl ([] : List va_W).flatten _ := hP.subF [] rfl
  have hDc : va_D A ([] : List va_W).flatten := hD.subF [] (by decide) rfl
  have hFc := va_freeF (fc := ([] : List va_W)) hD hS hA [] rfl
  obtain ⟨r1o, e2, hm⟩ := oC1_of hm
  refine va_calll (va_runSN (As := [.int (uR.1 8), .int (uZ.1 1)]) (rest := []) ⟨hx, hb, hml, hown, ht⟩ (c_X6_firstState l dC dI cI cJ H.size (uR.1 8) (uZ.1 1) r1o e2) ⟨va_cnB 2 ht (gdC kw_239) rfl rfl rfl (hN _ kn_8) (ht _ kw_161) nd_X6_firstState ⟨Nat.le_of_ble_eq_true rfl, Nat.le_of_ble_eq_true rfl⟩, ht _ kw_240, trivial⟩ ⟨pcW_blind, pcW_pre hPc hK hDc hN⟩ rfl rfl hl.1 rfl (lv_room (Nat.le_of_ble_eq_true rfl)) dX3_judgeEnd_11 ⟨Nat.zero_le _, Nat.zero_le _⟩) hS (fun q _ z => hFc q z) hFc (fun r1 uu t H1 locs ht1 hvm hw hB hz1 hk1 hS => ?_)
  obtain ⟨⟩ := uu
  obtain ⟨hP1, hD1⟩ := hB
  rw [ht1] at hP1
  obtain rfl : r1 = r1o := Option.some.inj hw
  obtain ⟨hP, hD⟩ := va_joinF (fr := ([wR cI cJ aR jR aZ uR, wS cI cJ aZ jZ uZ, wO cI cJ aO jO uO] : List va_W)) (f1 := ([] : List va_W)) hP hD [] [0, 1, 2] rfl rfl (by decide) (by decide) hk1 hFc hP1 hD1
  have hP : va_P (dC, dI) vwCl ([wR cI cJ aR jR aZ uR, wS cI cJ aZ jZ uZ, wO cI cJ aO jO uO] : List va_W).flatten H1 := hP
  have hD : va_D A ([wR cI cJ aR jR aZ uR, wS cI cJ aZ jZ uZ, wO cI cJ aO jO uO] : List va_W).flatten := hD
  generalize H1 = H at hP hS ⊢
  refine lv_lstore_n (lv' := [(2, .long r1), (0, .ref aR), (1, .ref aO)]) hx hb dX3_judgeEnd_14 rfl hl (by decide) rfl (fun ls hl => ?_)
  refine lv_iconst (v := (0 : Int32)) hx hb dX3_judgeEnd_15 (by decide) ?_
  refine lv_istore (lv' := [(4, .int (0 : Int32)), (2, .long r1), (0, .ref aR), (1, .ref aO)]) hx hb dX3_judgeEnd_16 hl (by decide) rfl (fun ls hl => ?_)
  obtain ⟨K45_5, eK45_5, hm⟩ := bnd_ex hm
  have X45_5 : ∀ (x4 : Int32) (H : Heap) (locs : List Loc) (ls : Array Slot), K45_5 x4 = some o → va_P (dC, dI) vwCl ([wR cI cJ aR jR aZ uR, wS cI cJ aZ jZ uZ, wO cI cJ aO jO uO] : List va_W).flatten H → va_D A ([wR cI cJ aR jR aZ uR, wS cI cJ aZ jZ uZ, wO cI cJ aO jO uO] : List va_W).flatten → va_S A s.heap H locs → lv_has ls 5 [(0, .ref aR), (1, .ref aO), (2, .long r1), (4, .int x4)] → W p l e ({ frames := 1, cells := 0, slots := 0, locals := 21 } : Room) s m ([.ref aR, .ref aO] : List Value).toArray below meth c H locs 0 0 Q (F0 m 45 ls []) := by
    intro x4 H locs ls hm hP hD hS hl
    have hm := ap1 eK45_5 hm
    refine lv_aload_n hx hb dX3_judgeEnd_45 rfl (lv_at hl 0 rfl) ?_
    refine lv_iconst (v := (5 : Int32)) hx hb dX3_judgeEnd_46 (by decide) ?_
    refine va_put (D := (dC, dI)) (ci := 4) (v := .int (5 : Int32)) (ty := .int) (C := RX3) (T := TX3) (N := 12) hx hb ht inX3 tyX3 tyX3_ok nmX3 hown hK hP hD hS 0 rfl rfl 4 (by decide) (ht _ kw_181) (fun _ h9 => h9) rfl (by decide +kernel) rfl rfl (Nat.le_of_ble_eq_true rfl) dX3_judgeEnd_47 (fun H locs hP hD hS => ?_)
    obtain ⟨u6, eu6, hm⟩ := bnd_ex hm
    have hP : va_P (dC, dI) vwCl ([wR cI cJ aR jR aZ u6, wS cI cJ aZ jZ uZ, wO cI cJ aO jO uO] : List va_W).flatten H := by rw [eu6]; exact hP
    have hD : va_D A ([wR cI cJ aR jR aZ u6, wS cI cJ aZ jZ uZ, wO cI cJ aO jO uO] : List va_W).flatten := by rw [eu6]; exact hD
    rw [← hQ]
    exact W.vret hx hb hr (fun t ht1 hW => ⟨⟨u6, rfl, hm, by rw [ht1]; exact hP, hD⟩, hS.F ht1⟩) hS.2.2 dX3_judgeEnd_50
  obtain ⟨K57_8, eK57_8, hm⟩ := bnd_ex hm
  have X57_8 : ∀ (x7 : Int32) (H : Heap) (locs : List Loc) (ls : Array Slot), K57_8 x7 = some o → va_P (dC, dI) vwCl ([wR cI cJ aR jR aZ uR, wS cI cJ aZ jZ uZ, wO cI cJ aO jO uO] : List va_W).flatten H → va_D A ([wR cI cJ aR jR aZ uR, wS cI cJ aZ jZ uZ, wO cI cJ aO jO uO] : List va_W).flatten → va_S A s.heap H locs → lv_has ls 5 [(0, .ref aR), (1, .ref aO), (2, .long r1), (4, .int x7)] → W p l e ({ frames := 1, cells := 0, slots := 0, locals := 21 } : Room) s m ([.ref aR, .ref aO] : List Value).toArray below meth c H locs 0 0 Q (F0 m 57 ls []) := by
    intro x7 H locs ls hm hP hD hS hl
    have hm := ap1 eK57_8 hm
    refine lv_aload_n hx hb dX3_judgeEnd_57 rfl (lv_at hl 0 rfl) ?_
    refine va_get (D := (dC, dI)) (ci := 4) (v := .int (uR.1 5)) (C := RX3) (T := TX3) (N := 12) hx hb ht inX3 hown hK hP 0 rfl rfl 5 (by decide) (ht _ kw_182) (fun _ h9 => h9) rfl dX3_judgeEnd_58 ?_
    refine lv_aload_n hx hb dX3_judgeEnd_61 rfl (lv_at hl 1 rfl) ?_
    refine va_getN (D := (dC, dI)) (ci := 2) (v := .int (uO.1 1)) (C := RX1) (T := TX1) (N := 3) hx hb ht inX1 hown hK hP 11 rfl rfl 1 (by decide) (va_Nw.use rfl (hN _ kn_3)) (fun _ h9 => h9) rfl dX3_judgeEnd_62 ?_
    refine lv_icmp_lt (tgt := 75) hx hb dX3_judgeEnd_65 (by decide) (fun c9 => ?_) (fun c9 => ?_)
    · have hm := ite_t c9 hm
      refine lv_aload_n hx hb dX3_judgeEnd_75 rfl (lv_at hl 0 rfl) ?_
      refine lv_bipush (v := (6 : Int32)) hx hb dX3_judgeEnd_76 (by decide) ?_
      refine va_put (D := (dC, dI)) (ci := 4) (v := .int (6 : Int32)) (ty := .int) (C := RX3) (T := TX3) (N := 12) hx hb ht inX3 tyX3 tyX3_ok nmX3 hown hK hP hD hS 0 rfl rfl 4 (by decide) (ht _ kw_181) (fun _ h9 => h9) rfl (by decide +kernel) rfl rfl (Nat.le_of_ble_eq_true rfl) dX3_judgeEnd_78 (fun H locs hP hD hS => ?_)
      obtain ⟨u10, eu10, hm⟩ := bnd_ex hm
      have hP : va_P (dC, dI) vwCl ([wR cI cJ aR jR aZ u10, wS cI cJ aZ jZ uZ, wO cI cJ aO jO uO] : List va_W).flatten H := by rw [eu10]; exact hP
      have hD : va_D A ([wR cI cJ aR jR aZ u10, wS cI cJ aZ jZ uZ, wO cI cJ aO jO uO] : List va_W).flatten := by rw [eu10]; exact hD
      rw [← hQ]
      exact W.vret hx hb hr (fun t ht1 hW => ⟨⟨u10, rfl, hm, by rw [ht1]; exact hP, hD⟩, hS.F ht1⟩) hS.2.2 dX3_judgeEnd_81
    · have hm := ite_f c9 hm
      refine lv_aload_n hx hb dX3_judgeEnd_68 rfl (lv_at hl 0 rfl) ?_
      have hPc : va_P (dC, dI) vwCl ([wR cI cJ aR jR aZ uR] : List va_W).flatten _ := hP.subF [0] rfl
      have hDc : va_D A ([wR cI cJ aR jR aZ uR] : List va_W).flatten := hD.subF [0] (by decide) rfl
      have hFc := va_freeF (fc := ([wR cI cJ aR jR aZ uR] : List va_W)) hD hS hA [0] rfl
      obtain ⟨r11o, e12, hm⟩ := oC1_of hm
      refine va_calli (va_runV (As := []) (rest := []) ⟨hx, hb, hml, hown, ht⟩ (c_X3_restIsSet l dC dI cI cJ aR jR aZ H.size uR r11o e12) (cwV 0 ht (gdV kw_220 kw_218 kw_219 kw_205 kw_217) rfl rfl rfl ⟨rfl, nd_X3_restIsSet⟩ ⟨Nat.le_of_ble_eq_true rfl, Nat.le_of_ble_eq_true rfl⟩) ⟨pcW_blind, va_recv hK hPc (ci := 4) (q0 := 0) rfl rfl, pcW_pre hPc hK hDc hN⟩ rfl rfl hl.1 rfl (lv_room (Nat.le_of_ble_eq_true rfl)) dX3_judgeEnd_69 ⟨Nat.zero_le _, Nat.zero_le _⟩) hS (fun q _ z => hFc q z) hFc (fun r11 uu t H1 locs ht1 hvm hw hB hz1 hk1 hS => ?_)
      obtain ⟨⟩ := uu
      obtain ⟨hP1, hD1⟩ := hB
      rw [ht1] at hP1
      obtain rfl : r11 = r11o := Option.some.inj hw
      obtain ⟨hP, hD⟩ := va_joinF (fr := ([wS cI cJ aZ jZ uZ, wO cI cJ aO jO uO] : List va_W)) (f1 := ([wR cI cJ aR jR aZ uR] : List va_W)) hP hD [0] [1, 2] rfl rfl (by decide) (by decide) hk1 hFc hP1 hD1
      have hP : va_P (dC, dI) vwCl ([wR cI cJ aR jR aZ uR, wS cI cJ aZ jZ uZ, wO cI cJ aO jO uO] : List va_W).flatten H1 := hP.subF [2, 0, 1] rfl
      have hD : va_D A ([wR cI cJ aR jR aZ uR, wS cI cJ aZ jZ uZ, wO cI cJ aO jO uO] : List va_W).flatten := hD.subF [2, 0, 1] (by decide) rfl
      generalize H1 = H at hP hS ⊢
      refine lv_if_eq (tgt := 81) hx hb dX3_judgeEnd_72 (by decide) (fun c13 => ?_) (fun c13 => ?_)
      · have hm := ite_t c13 hm
        rw [← hQ]
        exact W.vret hx hb hr (fun t ht1 hW => ⟨⟨uR, rfl, hm, by rw [ht1]; exact hP, hD⟩, hS.F ht1⟩) hS.2.2 dX3_judgeEnd_81
      · have hm := ite_f c13 hm
        refine lv_aload_n hx hb dX3_judgeEnd_75 rfl (lv_at hl 0 rfl) ?_
        refine lv_bipush (v := (6 : Int32)) hx hb dX3_judgeEnd_76 (by decide) ?_
        refine va_put (D := (dC, dI)) (ci := 4) (v := .int (6 : Int32)) (ty := .int) (C := RX3) (T := TX3) (N := 12) hx hb ht inX3 tyX3 tyX3_ok nmX3 hown hK hP hD hS 0 rfl rfl 4 (by decide) (ht _ kw_181) (fun _ h9 => h9) rfl (by decide +kernel) rfl rfl (Nat.le_of_ble_eq_true rfl) dX3_judgeEnd_78 (fun H locs hP hD hS => ?_)
        obtain ⟨u14, eu14, hm⟩ := bnd_ex hm
        have hP : va_P (dC, dI) vwCl ([wR cI cJ aR jR aZ u14, wS cI cJ aZ jZ uZ, wO cI cJ aO jO uO] : List va_W).flatten H := by rw [eu14]; exact hP
        have hD : va_D A ([wR cI cJ aR jR aZ u14, wS cI cJ aZ jZ uZ, wO cI cJ aO jO uO] : List va_W).flatten := by rw [eu14]; exact hD
        rw [← hQ]
        exact W.vret hx hb hr (fun t ht1 hW => ⟨⟨u14, rfl, hm, by rw [ht1]; exact hP, hD⟩, hS.F ht1⟩) hS.2.2 dX3_judgeEnd_81
  have LP18 : ∀ (n18 : Nat) (x3 : Int32) (H : Heap) (locs : List Loc) (ls : Array Slot), f_X3_judgeEnd_L18 uR r1 n18 K45_5 K57_8 x3 = some o → va_P (dC, dI) vwCl ([wR cI cJ aR jR aZ uR, wS cI cJ aZ jZ uZ, wO cI cJ aO jO uO] : List va_W).flatten H → va_D A ([wR cI cJ aR jR aZ uR, wS cI cJ aZ jZ uZ, wO cI cJ aO jO uO] : List va_W).flatten → va_S A s.heap H locs → lv_has ls 5 [(0, .ref aR), (1, .ref aO), (2, .long r1), (4, .int x3)] → W p l e ({ frames := 1, cells := 0, slots := 0, locals := 21 } : Room) s m ([.ref aR, .ref aO] : List Value).toArray below meth c H locs 0 0 Q (F0 m 18 ls []) := by
    intro n18
    induction n18 with
    | zero => intro x3 H locs ls hm; exact nomatch (show (none : Option _) = some _ from hm)
    | succ n18 ih18 =>
      intro x3 H locs ls hm hP hD hS hl
      unfold f_X3_judgeEnd_L18 at hm
      refine lv_iload hx hb dX3_judgeEnd_18 (lv_at hl 3 rfl) ?_
      refine lv_aload_n hx hb dX3_judgeEnd_20 rfl (lv_at hl 0 rfl) ?_
      refine va_get (D := (dC, dI)) (ci := 4) (v := .int (uR.1 9)) (C := RX3) (T := TX3) (N := 12) hx hb ht inX3 hown hK hP 0 rfl rfl 9 (by decide) (ht _ kw_187) (fun _ h9 => h9) rfl dX3_judgeEnd_21 ?_
      refine lv_icmp_ge (tgt := 57) hx hb dX3_judgeEnd_24 (by decide) (fun c15 => ?_) (fun c15 => ?_)
      · have hm := ite_t c15 hm
        exact X57_8 x3 _ _ _ hm hP hD hS (lv_sub hl [0, 1, 2, 3] rfl)
      · have hm := ite_f c15 hm
        refine lv_iload hx hb dX3_judgeEnd_27 (lv_at hl 3 rfl) ?_
        refine lv_iconst (v := (4 : Int32)) hx hb dX3_judgeEnd_29 (by decide) ?_
        refine lv_icmp_ge (tgt := 57) hx hb dX3_judgeEnd_30 (by decide) (fun c16 => ?_) (fun c16 => ?_)
        · have hm := ite_t c16 hm
          exact X57_8 x3 _ _ _ hm hP hD hS (lv_sub hl [0, 1, 2, 3] rfl)
        · have hm := ite_f c16 hm
          refine lv_aload_n hx hb dX3_judgeEnd_33 rfl (lv_at hl 0 rfl) ?_
          refine va_get (D := (dC, dI)) (ci := 4) (v := .ref (jR 1)) (C := RX3) (T := TX3) (N := 12) hx hb ht inX3 hown hK hP 0 rfl rfl 1 (by decide) (ht _ kw_238) (fun _ h9 => h9) rfl dX3_judgeEnd_34 ?_
          refine lv_iload hx hb dX3_judgeEnd_37 (lv_at hl 3 rfl) ?_
          obtain ⟨g17, hm⟩ := gdi_of hm
          refine va_lald hx hb hK hP 1 1 rfl rfl g17 dX3_judgeEnd_39 ?_
          refine lv_lload_n hx hb dX3_judgeEnd_40 rfl (lv_at hl 2 rfl) ?_
          refine W.lcmp hx hb dX3_judgeEnd_41 ?_
          refine lv_if_eq (tgt := 51) hx hb dX3_judgeEnd_42 (by decide) (fun c18 => ?_) (fun c18 => ?_)
          · have c18 := lgc_eq.mp c18
            have hm := ite_t c18 hm
            obtain ⟨x19, ex19, hm⟩ := bnd_ex hm
            refine lv_iinc (v := x19) (lv' := [(4, .int x19), (0, .ref aR), (1, .ref aO), (2, .long r1)]) hx hb dX3_judgeEnd_51 hl (k := 3) rfl (by rw [ex19]; exact congrArg _ (by decide)) (by decide) rfl (fun ls hl => ?_)
            refine lv_goto (tgt := 18) hx hb dX3_judgeEnd_54 (by decide) ?_
            exact ih18 x19 _ _ _ hm hP hD hS (lv_sub hl [1, 2, 3, 0] rfl)
          · have c18 := mt lgc_eq.mpr c18
            have hm := ite_f c18 hm
            exact X45_5 x3 _ _ _ hm hP hD hS (lv_sub hl [0, 1, 2, 3] rfl)
  exact LP18 FU (0 : Int32) _ _ _ hm hP hD hS (lv_sub hl [2, 3, 1, 0] rfl)

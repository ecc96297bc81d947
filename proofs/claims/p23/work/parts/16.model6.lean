def f_X7_rule (uM : OS) : Option (OS × Int32) :=
  bnd (sF uM 1 (0 : Int32)) fun u1 =>
  some (u1, (u1.1 28))

set_option maxHeartbeats 4000000 in
set_option maxRecDepth 100000 in
theorem c_X7_rule (l : Launch) (dC : Nat → ClassId) (dI : Nat → Nat → Nat) (cI cJ : ClassId) (aM : Nat) (jM : Nat → Nat) (sz : Nat) (uM : OS) (o : OS × Int32) (hm : f_X7_rule uM = some o) : Met l yX7_rule (wq yX7_rule cX7_rule 1 (some .int)) ({ frames := 0, cells := 0, slots := 0, locals := 0 } : Room) (va_Pc [.ref aM] (pcW dC dI cI cJ sz ([wM cI cJ aM jM uM] : List va_W).flatten)) (va_Qi (S := OS) (fun r u => some (u, r) = some o) (fun (u : OS) t => va_P (dC, dI) vwCl ([wM cI cJ aM jM u] : List va_W).flatten t.heap ∧ va_D (va_A ([wM cI cJ aM jM uM] : List va_W).flatten sz) ([wM cI cJ aM jM u] : List va_W).flatten) (va_A ([wM cI cJ aM jM uM] : List va_W).flatten sz)) 0 0 (va_A ([wM cI cJ aM jM uM] : List va_W).flatten sz) := by
  refine Met.ofW (cc := cX7_rule) (maxL := 1) (ret := (some .int)) (by decide) rfl ?_
  intro p e s m args below meth c s₁ B hml hv
  obtain ⟨rfl, hsz, hP, hK, hD0, hN⟩ := hv
  have hx := B.exec
  have hb := B.bytes
  have hr := B.returns
  have ht : ∀ w ∈ lw_good, w.before _ s = true := fun w h => atoms_spec (ws := wq yX7_rule cX7_rule 1 (some .int)) B.pre w (wq_mem h)
  have hown : s.vm.findClass RX7 = some m.cls := findClass_of_methodNamed B.named
  have hlocks := B.notSynchronized
  subst hsz
  have hD := hD0.self (sz := s.heap.size)
  generalize hAe : va_A ([wM cI cJ aM jM uM] : List va_W).flatten s.heap.size = A at hD ⊢
  have hA : ∀ q : Nat, s.heap.size ≤ q → A q := fun q h => by rw [← hAe]; exact Or.inr h
  have hS : va_S A s.heap s.heap [] := va_S.rf
  have hl := lv_entry ([.ref aM]) (n := 1) (Nat.le_of_ble_eq_true rfl)
  rw [lg_entry_eq]
  generalize (lg_sl ([.ref aM]) ++ List.replicate (1 - (lg_sl ([.ref aM])).length) Slot.unset).toArray = ls at hl ⊢
  have hl : lv_has ls 1 [(0, .ref aM)] := hl
  generalize hQ : MQ below _ _ s _ _ _ = Q
  generalize hH : s.heap = H at hP ⊢
  have hS : va_S A s.heap H [] := by rw [← hH]; exact va_S.rf
  show W p l e ({ frames := 0, cells := 0, slots := 0, locals := 0 } : Room) s m ([.ref aM] : List Value).toArray below meth c H [] 0 0 Q (F0 m 0 ls [])
  unfold f_X7_rule at hm
  refine lv_aload_n hx hb dX7_rule_0 rfl (lv_at hl 0 rfl) ?_
  refine lv_iconst (v := (0 : Int32)) hx hb dX7_rule_1 (by decide) ?_
  refine va_put (D := (dC, dI)) (ci := 8) (v := .int (0 : Int32)) (ty := .int) (C := RX7) (T := TX7) (N := 34) hx hb ht inX7 tyX7 tyX7_ok nmX7 hown hK hP hD hS 0 rfl rfl 1 (by decide) (ht _ kw_0) (fun _ h9 => h9) rfl (by decide +kernel) rfl rfl (Nat.le_of_ble_eq_true rfl) dX7_rule_2 (fun H locs hP hD hS => ?_)
  obtain ⟨u1, eu1, hm⟩ := bnd_ex hm
  have hP : va_P (dC, dI) vwCl ([wM cI cJ aM jM u1] : List va_W).flatten H := by rw [eu1]; exact hP
  have hD : va_D A ([wM cI cJ aM jM u1] : List va_W).flatten := by rw [eu1]; exact hD
  refine lv_aload_n hx hb dX7_rule_5 rfl (lv_at hl 0 rfl) ?_
  refine va_get (D := (dC, dI)) (ci := 8) (v := .int (u1.1 28)) (C := RX7) (T := TX7) (N := 34) hx hb ht inX7 hown hK hP 0 rfl rfl 28 (by decide) (ht _ kw_152) (fun _ h9 => h9) rfl dX7_rule_6 ?_
  rw [← hQ]
  exact W.iret (v := (u1.1 28)) hx hb hr (fun t ht1 hW => ⟨⟨_, u1, rfl, hm, by rw [ht1]; exact hP, hD⟩, hS.F ht1⟩) hS.2.2 dX7_rule_9

def f_X7_sign (uM : OS) (p1 : Int32) : Option (OS × Int32) :=
  bnd (sF uM 1 (0 : Int32)) fun u1 =>
  if p1 < (0 : Int32) then (
  some (u1, (-1 : Int32))) else (
  if p1 < (u1.1 25) then (
  gdi p1 65536 <|
  some (u1, (u1.2.1 24 (p1).toNatClampNeg))) else (
  some (u1, (-1 : Int32))))

set_option maxHeartbeats 4000000 in
set_option maxRecDepth 100000 in
theorem c_X7_sign (l : Launch) (dC : Nat → ClassId) (dI : Nat → Nat → Nat) (cI cJ : ClassId) (aM : Nat) (jM : Nat → Nat) (sz : Nat) (uM : OS) (p1 : Int32) (o : OS × Int32) (hm : f_X7_sign uM p1 = some o) : Met l yX7_sign (wq yX7_sign cX7_sign 2 (some .int)) ({ frames := 0, cells := 0, slots := 0, locals := 0 } : Room) (va_Pc [.ref aM, .int p1] (pcW dC dI cI cJ sz ([wM cI cJ aM jM uM] : List va_W).flatten)) (va_Qi (S := OS) (fun r u => some (u, r) = some o) (fun (u : OS) t => va_P (dC, dI) vwCl ([wM cI cJ aM jM u] : List va_W).flatten t.heap ∧ va_D (va_A ([wM cI cJ aM jM uM] : List va_W).flatten sz) ([wM cI cJ aM jM u] : List va_W).flatten) (va_A ([wM cI cJ aM jM uM] : List va_W).flatten sz)) 0 0 (va_A ([wM cI cJ aM jM uM] : List va_W).flatten sz) := by
  refine Met.ofW (cc := cX7_sign) (maxL := 2) (ret := (some .int)) (by decide) rfl ?_
  intro p e s m args below meth c s₁ B hml hv
  obtain ⟨rfl, hsz, hP, hK, hD0, hN⟩ := hv
  have hx := B.exec
  have hb := B.bytes
  have hr := B.returns
  have ht : ∀ w ∈ lw_good, w.before _ s = true := fun w h => atoms_spec (ws := wq yX7_sign cX7_sign 2 (some .int)) B.pre w (wq_mem h)
  have hown : s.vm.findClass RX7 = some m.cls := findClass_of_methodNamed B.named
  have hlocks := B.notSynchronized
  subst hsz
  have hD := hD0.self (sz := s.heap.size)
  generalize hAe : va_A ([wM cI cJ aM jM uM] : List va_W).flatten s.heap.size = A at hD ⊢
  have hA : ∀ q : Nat, s.heap.size ≤ q → A q := fun q h => by rw [← hAe]; exact Or.inr h
  have hS : va_S A s.heap s.heap [] := va_S.rf
  have hl := lv_entry ([.ref aM, .int p1]) (n := 2) (Nat.le_of_ble_eq_true rfl)
  rw [lg_entry_eq]
  generalize (lg_sl ([.ref aM, .int p1]) ++ List.replicate (2 - (lg_sl ([.ref aM, .int p1])).length) Slot.unset).toArray = ls at hl ⊢
  have hl : lv_has ls 2 [(0, .ref aM), (1, .int p1)] := hl
  generalize hQ : MQ below _ _ s _ _ _ = Q
  generalize hH : s.heap = H at hP ⊢
  have hS : va_S A s.heap H [] := by rw [← hH]; exact va_S.rf
  show W p l e ({ frames := 0, cells := 0, slots := 0, locals := 0 } : Room) s m ([.ref aM, .int p1] : List Value).toArray below meth c H [] 0 0 Q (F0 m 0 ls [])
  unfold f_X7_sign at hm
  refine lv_aload_n hx hb dX7_sign_0 rfl (lv_at hl 0 rfl) ?_
  refine lv_iconst (v := (0 : Int32)) hx hb dX7_sign_1 (by decide) ?_
  refine va_put (D := (dC, dI)) (ci := 8) (v := .int (0 : Int32)) (ty := .int) (C := RX7) (T := TX7) (N := 34) hx hb ht inX7 tyX7 tyX7_ok nmX7 hown hK hP hD hS 0 rfl rfl 1 (by decide) (ht _ kw_0) (fun _ h9 => h9) rfl (by decide +kernel) rfl rfl (Nat.le_of_ble_eq_true rfl) dX7_sign_2 (fun H locs hP hD hS => ?_)
  obtain ⟨u1, eu1, hm⟩ := bnd_ex hm
  have hP : va_P (dC, dI) vwCl ([wM cI cJ aM jM u1] : List va_W).flatten H := by rw [eu1]; exact hP
  have hD : va_D A ([wM cI cJ aM jM u1] : List va_W).flatten := by rw [eu1]; exact hD
  refine lv_iload_n hx hb dX7_sign_5 rfl (lv_at hl 1 rfl) ?_
  refine lv_if_lt (tgt := 17) hx hb dX7_sign_6 (by decide) (fun c2 => ?_) (fun c2 => ?_)
  · have hm := ite_t c2 hm
    refine lv_iconst (v := (-1 : Int32)) hx hb dX7_sign_17 (by decide) ?_
    refine lv_goto (tgt := 27) hx hb dX7_sign_18 (by decide) ?_
    rw [← hQ]
    exact W.iret (v := (-1 : Int32)) hx hb hr (fun t ht1 hW => ⟨⟨_, u1, rfl, hm, by rw [ht1]; exact hP, hD⟩, hS.F ht1⟩) hS.2.2 dX7_sign_27
  · have hm := ite_f c2 hm
    refine lv_iload_n hx hb dX7_sign_9 rfl (lv_at hl 1 rfl) ?_
    refine lv_aload_n hx hb dX7_sign_10 rfl (lv_at hl 0 rfl) ?_
    refine va_get (D := (dC, dI)) (ci := 8) (v := .int (u1.1 25)) (C := RX7) (T := TX7) (N := 34) hx hb ht inX7 hown hK hP 0 rfl rfl 25 (by decide) (ht _ kw_121) (fun _ h9 => h9) rfl dX7_sign_11 ?_
    refine lv_icmp_lt (tgt := 21) hx hb dX7_sign_14 (by decide) (fun c3 => ?_) (fun c3 => ?_)
    · have hm := ite_t c3 hm
      refine lv_aload_n hx hb dX7_sign_21 rfl (lv_at hl 0 rfl) ?_
      refine va_get (D := (dC, dI)) (ci := 8) (v := .ref (jM 24)) (C := RX7) (T := TX7) (N := 34) hx hb ht inX7 hown hK hP 0 rfl rfl 24 (by decide) (ht _ kw_120) (fun _ h9 => h9) rfl dX7_sign_22 ?_
      refine lv_iload_n hx hb dX7_sign_25 rfl (lv_at hl 1 rfl) ?_
      obtain ⟨g4, hm⟩ := gdi_of hm
      refine va_iald hx hb hK hP 13 0 rfl rfl g4 dX7_sign_26 ?_
      rw [← hQ]
      exact W.iret (v := (u1.2.1 24 (p1).toNatClampNeg)) hx hb hr (fun t ht1 hW => ⟨⟨_, u1, rfl, hm, by rw [ht1]; exact hP, hD⟩, hS.F ht1⟩) hS.2.2 dX7_sign_27
    · have hm := ite_f c3 hm
      refine lv_iconst (v := (-1 : Int32)) hx hb dX7_sign_17 (by decide) ?_
      refine lv_goto (tgt := 27) hx hb dX7_sign_18 (by decide) ?_
      rw [← hQ]
      exact W.iret (v := (-1 : Int32)) hx hb hr (fun t ht1 hW => ⟨⟨_, u1, rfl, hm, by rw [ht1]; exact hP, hD⟩, hS.F ht1⟩) hS.2.2 dX7_sign_27

def f_X7_state (uM : OS) (p1 : Int32) (p2 : Int32) : Option (OS × Int64) :=
  bnd (sF uM 1 (0 : Int32)) fun u1 =>
  if p1 = (0 : Int32) then (
  if p2 < (0 : Int32) then (
  some (u1, (-1 : Int64))) else (
  if p2 < (u1.1 18) then (
  gdi p2 4 <|
  some (u1, (u1.2.2.1 17 (p2).toNatClampNeg))) else (
  some (u1, (-1 : Int64))))) else (
  if p1 = (1 : Int32) then (
  if (u1.1 32) = (0 : Int32) then (
  some (u1, (-1 : Int64))) else (
  if p2 < (0 : Int32) then (
  some (u1, (-1 : Int64))) else (
  if p2 < (u1.1 31) then (
  gdi p2 4 <|
  some (u1, (u1.2.2.1 33 (p2).toNatClampNeg))) else (
  some (u1, (-1 : Int64)))))) else (
  some (u1, (-1 : Int64))))

set_option maxHeartbeats 4000000 in
set_option maxRecDepth 100000 in
theorem c_X7_state (l : Launch) (dC : Nat → ClassId) (dI : Nat → Nat → Nat) (cI cJ : ClassId) (aM : Nat) (jM : Nat → Nat) (sz : Nat) (uM : OS) (p1 : Int32) (p2 : Int32) (o : OS × Int64) (hm : f_X7_state uM p1 p2 = some o) : Met l yX7_state (wq yX7_state cX7_state 3 (some .long)) ({ frames := 0, cells := 0, slots := 0, locals := 0 } : Room) (va_Pc [.ref aM, .int p1, .int p2] (pcW dC dI cI cJ sz ([wM cI cJ aM jM uM] : List va_W).flatten)) (va_Ql (S := OS) (fun r u => some (u, r) = some o) (fun (u : OS) t => va_P (dC, dI) vwCl ([wM cI cJ aM jM u] : List va_W).flatten t.heap ∧ va_D (va_A ([wM cI cJ aM jM uM] : List va_W).flatten sz) ([wM cI cJ aM jM u] : List va_W).flatten) (va_A ([wM cI cJ aM jM uM] : List va_W).flatten sz)) 0 0 (va_A ([wM cI cJ aM jM uM] : List va_W).flatten sz) := by
  refine Met.ofW (cc := cX7_state) (maxL := 3) (ret := (some .long)) (by decide) rfl ?_
  intro p e s m args below meth c s₁ B hml hv
  obtain ⟨rfl, hsz, hP, hK, hD0, hN⟩ := hv
  have hx := B.exec
  have hb := B.bytes
  have hr := B.returns
  have ht : ∀ w ∈ lw_good, w.before _ s = true := fun w h => atoms_spec (ws := wq yX7_state cX7_state 3 (some .long)) B.pre w (wq_mem h)
  have hown : s.vm.findClass RX7 = some m.cls := findClass_of_methodNamed B.named
  have hlocks := B.notSynchronized
  subst hsz
  have hD := hD0.self (sz := s.heap.size)
  generalize hAe : va_A ([wM cI cJ aM jM uM] : List va_W).flatten s.heap.size = A at hD ⊢
  have hA : ∀ q : Nat, s.heap.size ≤ q → A q := fun q h => by rw [← hAe]; exact Or.inr h
  have hS : va_S A s.heap s.heap [] := va_S.rf
  have hl := lv_entry ([.ref aM, .int p1, .int p2]) (n := 3) (Nat.le_of_ble_eq_true rfl)
  rw [lg_entry_eq]
  generalize (lg_sl ([.ref aM, .int p1, .int p2]) ++ List.replicate (3 - (lg_sl ([.ref aM, .int p1, .int p2])).length) Slot.unset).toArray = ls at hl ⊢
  have hl : lv_has ls 3 [(0, .ref aM), (1, .int p1), (2, .int p2)] := hl
  generalize hQ : MQ below _ _ s _ _ _ = Q
  generalize hH : s.heap = H at hP ⊢
  have hS : va_S A s.heap H [] := by rw [← hH]; exact va_S.rf
  show W p l e ({ frames := 0, cells := 0, slots := 0, locals := 0 } : Room) s m ([.ref aM, .int p1, .int p2] : List Value).toArray below meth c H [] 0 0 Q (F0 m 0 ls [])
  unfold f_X7_state at hm
  refine lv_aload_n hx hb dX7_state_0 rfl (lv_at hl 0 rfl) ?_
  refine lv_iconst (v := (0 : Int32)) hx hb dX7_state_1 (by decide) ?_
  refine va_put (D := (dC, dI)) (ci := 8) (v := .int (0 : Int32)) (ty := .int) (C := RX7) (T := TX7) (N := 34) hx hb ht inX7 tyX7 tyX7_ok nmX7 hown hK hP hD hS 0 rfl rfl 1 (by decide) (ht _ kw_0) (fun _ h9 => h9) rfl (by decide +kernel) rfl rfl (Nat.le_of_ble_eq_true rfl) dX7_state_2 (fun H locs hP hD hS => ?_)
  obtain ⟨u1, eu1, hm⟩ := bnd_ex hm
  have hP : va_P (dC, dI) vwCl ([wM cI cJ aM jM u1] : List va_W).flatten H := by rw [eu1]; exact hP
  have hD : va_D A ([wM cI cJ aM jM u1] : List va_W).flatten := by rw [eu1]; exact hD
  refine lv_iload_n hx hb dX7_state_5 rfl (lv_at hl 1 rfl) ?_
  refine lv_if_ne (tgt := 34) hx hb dX7_state_6 (by decide) (fun c2 => ?_) (fun c2 => ?_)
  · have hm := ite_f c2 hm
    refine lv_iload_n hx hb dX7_state_34 rfl (lv_at hl 1 rfl) ?_
    refine lv_iconst (v := (1 : Int32)) hx hb dX7_state_35 (by decide) ?_
    refine lv_icmp_ne (tgt := 58) hx hb dX7_state_36 (by decide) (fun c3 => ?_) (fun c3 => ?_)
    · have hm := ite_f c3 hm
      refine lv_ldc2 (v := (-1 : Int64)) hx hb hown (ht _ kw_13) dX7_state_58 ?_
      refine lv_goto (tgt := 70) hx hb dX7_state_61 (by decide) ?_
      rw [← hQ]
      exact W.lret (v := (-1 : Int64)) hx hb hr (fun t ht1 hW => ⟨⟨_, u1, rfl, hm, by rw [ht1]; exact hP, hD⟩, hS.F ht1⟩) hS.2.2 dX7_state_70
    · have hm := ite_t c3 hm
      refine lv_aload_n hx hb dX7_state_39 rfl (lv_at hl 0 rfl) ?_
      refine va_get (D := (dC, dI)) (ci := 8) (v := .int (u1.1 32)) (C := RX7) (T := TX7) (N := 34) hx hb ht inX7 hown hK hP 0 rfl rfl 32 (by decide) (ht _ kw_135) (fun _ h9 => h9) rfl dX7_state_40 ?_
      refine lv_if_eq (tgt := 58) hx hb dX7_state_43 (by decide) (fun c4 => ?_) (fun c4 => ?_)
      · have hm := ite_t c4 hm
        refine lv_ldc2 (v := (-1 : Int64)) hx hb hown (ht _ kw_13) dX7_state_58 ?_
        refine lv_goto (tgt := 70) hx hb dX7_state_61 (by decide) ?_
        rw [← hQ]
        exact W.lret (v := (-1 : Int64)) hx hb hr (fun t ht1 hW => ⟨⟨_, u1, rfl, hm, by rw [ht1]; exact hP, hD⟩, hS.F ht1⟩) hS.2.2 dX7_state_70
      · have hm := ite_f c4 hm
        refine lv_iload_n hx hb dX7_state_46 rfl (lv_at hl 2 rfl) ?_
        refine lv_if_lt (tgt := 58) hx hb dX7_state_47 (by decide) (fun c5 => ?_) (fun c5 => ?_)
        · have hm := ite_t c5 hm
          refine lv_ldc2 (v := (-1 : Int64)) hx hb hown (ht _ kw_13) dX7_state_58 ?_
          refine lv_goto (tgt := 70) hx hb dX7_state_61 (by decide) ?_
          rw [← hQ]
          exact W.lret (v := (-1 : Int64)) hx hb hr (fun t ht1 hW => ⟨⟨_, u1, rfl, hm, by rw [ht1]; exact hP, hD⟩, hS.F ht1⟩) hS.2.2 dX7_state_70
        · have hm := ite_f c5 hm
          refine lv_iload_n hx hb dX7_state_50 rfl (lv_at hl 2 rfl) ?_
          refine lv_aload_n hx hb dX7_state_51 rfl (lv_at hl 0 rfl) ?_
          refine va_get (D := (dC, dI)) (ci := 8) (v := .int (u1.1 31)) (C := RX7) (T := TX7) (N := 34) hx hb ht inX7 hown hK hP 0 rfl rfl 31 (by decide) (ht _ kw_134) (fun _ h9 => h9) rfl dX7_state_52 ?_
          refine lv_icmp_lt (tgt := 64) hx hb dX7_state_55 (by decide) (fun c6 => ?_) (fun c6 => ?_)
          · have hm := ite_t c6 hm
            refine lv_aload_n hx hb dX7_state_64 rfl (lv_at hl 0 rfl) ?_
            refine va_get (D := (dC, dI)) (ci := 8) (v := .ref (jM 33)) (C := RX7) (T := TX7) (N := 34) hx hb ht inX7 hown hK hP 0 rfl rfl 33 (by decide) (ht _ kw_111) (fun _ h9 => h9) rfl dX7_state_65 ?_
            refine lv_iload_n hx hb dX7_state_68 rfl (lv_at hl 2 rfl) ?_
            obtain ⟨g7, hm⟩ := gdi_of hm
            refine va_lald hx hb hK hP 14 1 rfl rfl g7 dX7_state_69 ?_
            rw [← hQ]
            exact W.lret (v := (u1.2.2.1 33 (p2).toNatClampNeg)) hx hb hr (fun t ht1 hW => ⟨⟨_, u1, rfl, hm, by rw [ht1]; exact hP, hD⟩, hS.F ht1⟩) hS.2.2 dX7_state_70
          · have hm := ite_f c6 hm
            refine lv_ldc2 (v := (-1 : Int64)) hx hb hown (ht _ kw_13) dX7_state_58 ?_
            refine lv_goto (tgt := 70) hx hb dX7_state_61 (by decide) ?_
            rw [← hQ]
            exact W.lret (v := (-1 : Int64)) hx hb hr (fun t ht1 hW => ⟨⟨_, u1, rfl, hm, by rw [ht1]; exact hP, hD⟩, hS.F ht1⟩) hS.2.2 dX7_state_70
  · have hm := ite_t c2 hm
    refine lv_iload_n hx hb dX7_state_9 rfl (lv_at hl 2 rfl) ?_
    refine lv_if_lt (tgt := 21) hx hb dX7_state_10 (by decide) (fun c8 => ?_) (fun c8 => ?_)
    · have hm := ite_t c8 hm
      refine lv_ldc2 (v := (-1 : Int64)) hx hb hown (ht _ kw_13) dX7_state_21 ?_
      refine lv_goto (tgt := 33) hx hb dX7_state_24 (by decide) ?_
      rw [← hQ]
      exact W.lret (v := (-1 : Int64)) hx hb hr (fun t ht1 hW => ⟨⟨_, u1, rfl, hm, by rw [ht1]; exact hP, hD⟩, hS.F ht1⟩) hS.2.2 dX7_state_33
    · have hm := ite_f c8 hm
      refine lv_iload_n hx hb dX7_state_13 rfl (lv_at hl 2 rfl) ?_
      refine lv_aload_n hx hb dX7_state_14 rfl (lv_at hl 0 rfl) ?_
      refine va_get (D := (dC, dI)) (ci := 8) (v := .int (u1.1 18)) (C := RX7) (T := TX7) (N := 34) hx hb ht inX7 hown hK hP 0 rfl rfl 18 (by decide) (ht _ kw_63) (fun _ h9 => h9) rfl dX7_state_15 ?_
      refine lv_icmp_lt (tgt := 27) hx hb dX7_state_18 (by decide) (fun c9 => ?_) (fun c9 => ?_)
      · have hm := ite_t c9 hm
        refine lv_aload_n hx hb dX7_state_27 rfl (lv_at hl 0 rfl) ?_
        refine va_get (D := (dC, dI)) (ci := 8) (v := .ref (jM 17)) (C := RX7) (T := TX7) (N := 34) hx hb ht inX7 hown hK hP 0 rfl rfl 17 (by decide) (ht _ kw_62) (fun _ h9 => h9) rfl dX7_state_28 ?_
        refine lv_iload_n hx hb dX7_state_31 rfl (lv_at hl 2 rfl) ?_
        obtain ⟨g10, hm⟩ := gdi_of hm
        refine va_lald hx hb hK hP 11 1 rfl rfl g10 dX7_state_32 ?_
        rw [← hQ]
        exact W.lret (v := (u1.2.2.1 17 (p2).toNatClampNeg)) hx hb hr (fun t ht1 hW => ⟨⟨_, u1, rfl, hm, by rw [ht1]; exact hP, hD⟩, hS.F ht1⟩) hS.2.2 dX7_state_33
      · have hm := ite_f c9 hm
        refine lv_ldc2 (v := (-1 : Int64)) hx hb hown (ht _ kw_13) dX7_state_21 ?_
        refine lv_goto (tgt := 33) hx hb dX7_state_24 (by decide) ?_
        rw [← hQ]
        exact W.lret (v := (-1 : Int64)) hx hb hr (fun t ht1 hW => ⟨⟨_, u1, rfl, hm, by rw [ht1]; exact hP, hD⟩, hS.F ht1⟩) hS.2.2 dX7_state_33

def f_X7_out (uM : OS) (p1 : Int32) : Option (OS × Int32) :=
  bnd (sF uM 1 (0 : Int32)) fun u1 =>
  if p1 < (0 : Int32) then (
  some (u1, (-1 : Int32))) else (
  if p1 < (u1.1 15) then (
  gdi p1 20000 <|
  some (u1, (u1.2.1 14 (p1).toNatClampNeg))) else (
  some (u1, (-1 : Int32))))

set_option maxHeartbeats 4000000 in
set_option maxRecDepth 100000 in
theorem c_X7_out (l : Launch) (dC : Nat → ClassId) (dI : Nat → Nat → Nat) (cI cJ : ClassId) (aM : Nat) (jM : Nat → Nat) (sz : Nat) (uM : OS) (p1 : Int32) (o : OS × Int32) (hm : f_X7_out uM p1 = some o) : Met l yX7_out (wq yX7_out cX7_out 2 (some .int)) ({ frames := 0, cells := 0, slots := 0, locals := 0 } : Room) (va_Pc [.ref aM, .int p1] (pcW dC dI cI cJ sz ([wM cI cJ aM jM uM] : List va_W).flatten)) (va_Qi (S := OS) (fun r u => some (u, r) = some o) (fun (u : OS) t => va_P (dC, dI) vwCl ([wM cI cJ aM jM u] : List va_W).flatten t.heap ∧ va_D (va_A ([wM cI cJ aM jM uM] : List va_W).flatten sz) ([wM cI cJ aM jM u] : List va_W).flatten) (va_A ([wM cI cJ aM jM uM] : List va_W).flatten sz)) 0 0 (va_A ([wM cI cJ aM jM uM] : List va_W).flatten sz) := by
  refine Met.ofW (cc := cX7_out) (maxL := 2) (ret := (some .int)) (by decide) rfl ?_
  intro p e s m args below meth c s₁ B hml hv
  obtain ⟨rfl, hsz, hP, hK, hD0, hN⟩ := hv
  have hx := B.exec
  have hb := B.bytes
  have hr := B.returns
  have ht : ∀ w ∈ lw_good, w.before _ s = true := fun w h => atoms_spec (ws := wq yX7_out cX7_out 2 (some .int)) B.pre w (wq_mem h)
  have hown : s.vm.findClass RX7 = some m.cls := findClass_of_methodNamed B.named
  have hlocks := B.notSynchronized
  subst hsz
  have hD := hD0.self (sz := s.heap.size)
  generalize hAe : va_A ([wM cI cJ aM jM uM] : List va_W).flatten s.heap.size = A at hD ⊢
  have hA : ∀ q : Nat, s.heap.size ≤ q → A q := fun q h => by rw [← hAe]; exact Or.inr h
  have hS : va_S A s.heap s.heap [] := va_S.rf
  have hl := lv_entry ([.ref aM, .int p1]) (n := 2) (Nat.le_of_ble_eq_true rfl)
  rw [lg_entry_eq]
  generalize (lg_sl ([.ref aM, .int p1]) ++ List.replicate (2 - (lg_sl ([.ref aM, .int p1])).length) Slot.unset).toArray = ls at hl ⊢
  have hl : lv_has ls 2 [(0, .ref aM), (1, .int p1)] := hl
  generalize hQ : MQ below _ _ s _ _ _ = Q
  generalize hH : s.heap = H at hP ⊢
  have hS : va_S A s.heap H [] := by rw [← hH]; exact va_S.rf
  show W p l e ({ frames := 0, cells := 0, slots := 0, locals := 0 } : Room) s m ([.ref aM, .int p1] : List Value).toArray below meth c H [] 0 0 Q (F0 m 0 ls [])
  unfold f_X7_out at hm
  refine lv_aload_n hx hb dX7_out_0 rfl (lv_at hl 0 rfl) ?_
  refine lv_iconst (v := (0 : Int32)) hx hb dX7_out_1 (by decide) ?_
  refine va_put (D := (dC, dI)) (ci := 8) (v := .int (0 : Int32)) (ty := .int) (C := RX7) (T := TX7) (N := 34) hx hb ht inX7 tyX7 tyX7_ok nmX7 hown hK hP hD hS 0 rfl rfl 1 (by decide) (ht _ kw_0) (fun _ h9 => h9) rfl (by decide +kernel) rfl rfl (Nat.le_of_ble_eq_true rfl) dX7_out_2 (fun H locs hP hD hS => ?_)
  obtain ⟨u1, eu1, hm⟩ := bnd_ex hm
  have hP : va_P (dC, dI) vwCl ([wM cI cJ aM jM u1] : List va_W).flatten H := by rw [eu1]; exact hP
  have hD : va_D A ([wM cI cJ aM jM u1] : List va_W).flatten := by rw [eu1]; exact hD
  refine lv_iload_n hx hb dX7_out_5 rfl (lv_at hl 1 rfl) ?_
  refine lv_if_lt (tgt := 17) hx hb dX7_out_6 (by decide) (fun c2 => ?_) (fun c2 => ?_)
  · have hm := ite_t c2 hm
    refine lv_iconst (v := (-1 : Int32)) hx hb dX7_out_17 (by decide) ?_
    refine lv_goto (tgt := 27) hx hb dX7_out_18 (by decide) ?_
    rw [← hQ]
    exact W.iret (v := (-1 : Int32)) hx hb hr (fun t ht1 hW => ⟨⟨_, u1, rfl, hm, by rw [ht1]; exact hP, hD⟩, hS.F ht1⟩) hS.2.2 dX7_out_27
  · have hm := ite_f c2 hm
    refine lv_iload_n hx hb dX7_out_9 rfl (lv_at hl 1 rfl) ?_
    refine lv_aload_n hx hb dX7_out_10 rfl (lv_at hl 0 rfl) ?_
    refine va_get (D := (dC, dI)) (ci := 8) (v := .int (u1.1 15)) (C := RX7) (T := TX7) (N := 34) hx hb ht inX7 hown hK hP 0 rfl rfl 15 (by decide) (ht _ kw_32) (fun _ h9 => h9) rfl dX7_out_11 ?_
    refine lv_icmp_lt (tgt := 21) hx hb dX7_out_14 (by decide) (fun c3 => ?_) (fun c3 => ?_)
    · have hm := ite_t c3 hm
      refine lv_aload_n hx hb dX7_out_21 rfl (lv_at hl 0 rfl) ?_
      refine va_get (D := (dC, dI)) (ci := 8) (v := .ref (jM 14)) (C := RX7) (T := TX7) (N := 34) hx hb ht inX7 hown hK hP 0 rfl rfl 14 (by decide) (ht _ kw_31) (fun _ h9 => h9) rfl dX7_out_22 ?_
      refine lv_iload_n hx hb dX7_out_25 rfl (lv_at hl 1 rfl) ?_
      obtain ⟨g4, hm⟩ := gdi_of hm
      refine va_iald hx hb hK hP 9 0 rfl rfl g4 dX7_out_26 ?_
      rw [← hQ]
      exact W.iret (v := (u1.2.1 14 (p1).toNatClampNeg)) hx hb hr (fun t ht1 hW => ⟨⟨_, u1, rfl, hm, by rw [ht1]; exact hP, hD⟩, hS.F ht1⟩) hS.2.2 dX7_out_27
    · have hm := ite_f c3 hm
      refine lv_iconst (v := (-1 : Int32)) hx hb dX7_out_17 (by decide) ?_
      refine lv_goto (tgt := 27) hx hb dX7_out_18 (by decide) ?_
      rw [← hQ]
      exact W.iret (v := (-1 : Int32)) hx hb hr (fun t ht1 hW => ⟨⟨_, u1, rfl, hm, by rw [ht1]; exact hP, hD⟩, hS.F ht1⟩) hS.2.2 dX7_out_27

def f_X7_spoil (uM : OS) (p1 : Int32) (p2 : Int32) : Option (OS × Int32) :=
  bnd (sF uM 1 (0 : Int32)) fun u1 =>
  if p1 < (0 : Int32) then (
  some (u1, (-1 : Int32))) else (
  if (u1.1 15) ≤ p1 then (
  some (u1, (-1 : Int32))) else (
  if p2 < (1 : Int32) then (
  some (u1, (-1 : Int32))) else (
  if p2 ≤ (255 : Int32) then (
  gdi p1 20000 <|
  gdi p1 20000 <|
  bnd (sA u1 14 p1 ((u1.2.1 14 (p1).toNatClampNeg) ^^^ p2)) fun u8 =>
  gdi p1 20000 <|
  some (u8, (u8.2.1 14 (p1).toNatClampNeg))) else (
  some (u1, (-1 : Int32))))))

set_option maxHeartbeats 4000000 in
set_option maxRecDepth 100000 in
theorem c_X7_spoil (l : Launch) (dC : Nat → ClassId) (dI : Nat → Nat → Nat) (cI cJ : ClassId) (aM : Nat) (jM : Nat → Nat) (sz : Nat) (uM : OS) (p1 : Int32) (p2 : Int32) (o : OS × Int32) (hm : f_X7_spoil uM p1 p2 = some o) : Met l yX7_spoil (wq yX7_spoil cX7_spoil 3 (some .int)) ({ frames := 0, cells := 0, slots := 0, locals := 0 } : Room) (va_Pc [.ref aM, .int p1, .int p2] (pcW dC dI cI cJ sz ([wM cI cJ aM jM uM] : List va_W).flatten)) (va_Qi (S := OS) (fun r u => some (u, r) = some o) (fun (u : OS) t => va_P (dC, dI) vwCl ([wM cI cJ aM jM u] : List va_W).flatten t.heap ∧ va_D (va_A ([wM cI cJ aM jM uM] : List va_W).flatten sz) ([wM cI cJ aM jM u] : List va_W).flatten) (va_A ([wM cI cJ aM jM uM] : List va_W).flatten sz)) 0 0 (va_A ([wM cI cJ aM jM uM] : List va_W).flatten sz) := by
  refine Met.ofW (cc := cX7_spoil) (maxL := 3) (ret := (some .int)) (by decide) rfl ?_
  intro p e s m args below meth c s₁ B hml hv
  obtain ⟨rfl, hsz, hP, hK, hD0, hN⟩ := hv
  have hx := B.exec
  have hb := B.bytes
  have hr := B.returns
  have ht : ∀ w ∈ lw_good, w.before _ s = true := fun w h => atoms_spec (ws := wq yX7_spoil cX7_spoil 3 (some .int)) B.pre w (wq_mem h)
  have hown : s.vm.findClass RX7 = some m.cls := findClass_of_methodNamed B.named
  have hlocks := B.notSynchronized
  subst hsz
  have hD := hD0.self (sz := s.heap.size)
  generalize hAe : va_A ([wM cI cJ aM jM uM] : List va_W).flatten s.heap.size = A at hD ⊢
  have hA : ∀ q : Nat, s.heap.size ≤ q → A q := fun q h => by rw [← hAe]; exact Or.inr h
  have hS : va_S A s.heap s.heap [] := va_S.rf
  have hl := lv_entry ([.ref aM, .int p1, .int p2]) (n := 3) (Nat.le_of_ble_eq_true rfl)
  rw [lg_entry_eq]
  generalize (lg_sl ([.ref aM, .int p1, .int p2]) ++ List.replicate (3 - (lg_sl ([.ref aM, .int p1, .int p2])).length) Slot.unset).toArray = ls at hl ⊢
  have hl : lv_has ls 3 [(0, .ref aM), (1, .int p1), (2, .int p2)] := hl
  generalize hQ : MQ below _ _ s _ _ _ = Q
  generalize hH : s.heap = H at hP ⊢
  have hS : va_S A s.heap H [] := by rw [← hH]; exact va_S.rf
  show W p l e ({ frames := 0, cells := 0, slots := 0, locals := 0 } : Room) s m ([.ref aM, .int p1, .int p2] : List Value).toArray below meth c H [] 0 0 Q (F0 m 0 ls [])
  unfold f_X7_spoil at hm
  refine lv_aload_n hx hb dX7_spoil_0 rfl (lv_at hl 0 rfl) ?_
  refine lv_iconst (v := (0 : Int32)) hx hb dX7_spoil_1 (by decide) ?_
  refine va_put (D := (dC, dI)) (ci := 8) (v := .int (0 : Int32)) (ty := .int) (C := RX7) (T := TX7) (N := 34) hx hb ht inX7 tyX7 tyX7_ok nmX7 hown hK hP hD hS 0 rfl rfl 1 (by decide) (ht _ kw_0) (fun _ h9 => h9) rfl (by decide +kernel) rfl rfl (Nat.le_of_ble_eq_true rfl) dX7_spoil_2 (fun H locs hP hD hS => ?_)
  obtain ⟨u1, eu1, hm⟩ := bnd_ex hm
  have hP : va_P (dC, dI) vwCl ([wM cI cJ aM jM u1] : List va_W).flatten H := by rw [eu1]; exact hP
  have hD : va_D A ([wM cI cJ aM jM u1] : List va_W).flatten := by rw [eu1]; exact hD
  refine lv_iload_n hx hb dX7_spoil_5 rfl (lv_at hl 1 rfl) ?_
  refine lv_if_lt (tgt := 29) hx hb dX7_spoil_6 (by decide) (fun c2 => ?_) (fun c2 => ?_)
  · have hm := ite_t c2 hm
    refine lv_iconst (v := (-1 : Int32)) hx hb dX7_spoil_29 (by decide) ?_
    rw [← hQ]
    exact W.iret (v := (-1 : Int32)) hx hb hr (fun t ht1 hW => ⟨⟨_, u1, rfl, hm, by rw [ht1]; exact hP, hD⟩, hS.F ht1⟩) hS.2.2 dX7_spoil_30
  · have hm := ite_f c2 hm
    refine lv_iload_n hx hb dX7_spoil_9 rfl (lv_at hl 1 rfl) ?_
    refine lv_aload_n hx hb dX7_spoil_10 rfl (lv_at hl 0 rfl) ?_
    refine va_get (D := (dC, dI)) (ci := 8) (v := .int (u1.1 15)) (C := RX7) (T := TX7) (N := 34) hx hb ht inX7 hown hK hP 0 rfl rfl 15 (by decide) (ht _ kw_32) (fun _ h9 => h9) rfl dX7_spoil_11 ?_
    refine lv_icmp_ge (tgt := 29) hx hb dX7_spoil_14 (by decide) (fun c3 => ?_) (fun c3 => ?_)
    · have hm := ite_t c3 hm
      refine lv_iconst (v := (-1 : Int32)) hx hb dX7_spoil_29 (by decide) ?_
      rw [← hQ]
      exact W.iret (v := (-1 : Int32)) hx hb hr (fun t ht1 hW => ⟨⟨_, u1, rfl, hm, by rw [ht1]; exact hP, hD⟩, hS.F ht1⟩) hS.2.2 dX7_spoil_30
    · have hm := ite_f c3 hm
      refine lv_iload_n hx hb dX7_spoil_17 rfl (lv_at hl 2 rfl) ?_
      refine lv_iconst (v := (1 : Int32)) hx hb dX7_spoil_18 (by decide) ?_
      refine lv_icmp_lt (tgt := 29) hx hb dX7_spoil_19 (by decide) (fun c4 => ?_) (fun c4 => ?_)
      · have hm := ite_t c4 hm
        refine lv_iconst (v := (-1 : Int32)) hx hb dX7_spoil_29 (by decide) ?_
        rw [← hQ]
        exact W.iret (v := (-1 : Int32)) hx hb hr (fun t ht1 hW => ⟨⟨_, u1, rfl, hm, by rw [ht1]; exact hP, hD⟩, hS.F ht1⟩) hS.2.2 dX7_spoil_30
      · have hm := ite_f c4 hm
        refine lv_iload_n hx hb dX7_spoil_22 rfl (lv_at hl 2 rfl) ?_
        refine lv_sipush (v := (255 : Int32)) hx hb dX7_spoil_23 (by decide) ?_
        refine lv_icmp_le (tgt := 31) hx hb dX7_spoil_26 (by decide) (fun c5 => ?_) (fun c5 => ?_)
        · have hm := ite_t c5 hm
          refine lv_aload_n hx hb dX7_spoil_31 rfl (lv_at hl 0 rfl) ?_
          refine va_get (D := (dC, dI)) (ci := 8) (v := .ref (jM 14)) (C := RX7) (T := TX7) (N := 34) hx hb ht inX7 hown hK hP 0 rfl rfl 14 (by decide) (ht _ kw_31) (fun _ h9 => h9) rfl dX7_spoil_32 ?_
          refine lv_iload_n hx hb dX7_spoil_35 rfl (lv_at hl 1 rfl) ?_
          refine lv_dup2_11 hx hb dX7_spoil_36 rfl rfl ?_
          obtain ⟨g6, hm⟩ := gdi_of hm
          refine va_iald hx hb hK hP 9 0 rfl rfl g6 dX7_spoil_37 ?_
          refine lv_iload_n hx hb dX7_spoil_38 rfl (lv_at hl 2 rfl) ?_
          refine lv_ixor hx hb dX7_spoil_39 ?_
          obtain ⟨g7, hm⟩ := gdi_of hm
          refine va_iast hx hb hK hP hD hS 9 0 rfl rfl g7 dX7_spoil_40 (fun H locs hP hD hS => ?_)
          obtain ⟨u8, eu8, hm⟩ := bnd_ex hm
          have hP : va_P (dC, dI) vwCl ([wM cI cJ aM jM u8] : List va_W).flatten H := by rw [eu8]; exact hP
          have hD : va_D A ([wM cI cJ aM jM u8] : List va_W).flatten := by rw [eu8]; exact hD
          refine lv_aload_n hx hb dX7_spoil_41 rfl (lv_at hl 0 rfl) ?_
          refine va_get (D := (dC, dI)) (ci := 8) (v := .ref (jM 14)) (C := RX7) (T := TX7) (N := 34) hx hb ht inX7 hown hK hP 0 rfl rfl 14 (by decide) (ht _ kw_31) (fun _ h9 => h9) rfl dX7_spoil_42 ?_
          refine lv_iload_n hx hb dX7_spoil_45 rfl (lv_at hl 1 rfl) ?_
          obtain ⟨g9, hm⟩ := gdi_of hm
          refine va_iald hx hb hK hP 9 0 rfl rfl g9 dX7_spoil_46 ?_
          rw [← hQ]
          exact W.iret (v := (u8.2.1 14 (p1).toNatClampNeg)) hx hb hr (fun t ht1 hW => ⟨⟨_, u8, rfl, hm, by rw [ht1]; exact hP, hD⟩, hS.F ht1⟩) hS.2.2 dX7_spoil_47
        · have hm := ite_f c5 hm
          refine lv_iconst (v := (-1 : Int32)) hx hb dX7_spoil_29 (by decide) ?_
          rw [← hQ]
          exact W.iret (v := (-1 : Int32)) hx hb hr (fun t ht1 hW => ⟨⟨_, u1, rfl, hm, by rw [ht1]; exact hP, hD⟩, hS.F ht1⟩) hS.2.2 dX7_spoil_30

def f_X7_cut (uM : OS) (p1 : Int32) : Option (OS × Int32) :=
  bnd (sF uM 1 (0 : Int32)) fun u1 =>
  if p1 < (0 : Int32) then (
  some (u1, (-1 : Int32))) else (
  if p1 ≤ (u1.1 15) then (
  bnd (sF u1 15 ((u1.1 15) - p1)) fun u4 =>
  some (u4, (u4.1 15))) else (
  some (u1, (-1 : Int32))))

set_option maxHeartbeats 4000000 in
set_option maxRecDepth 100000 in
theorem c_X7_cut (l : Launch) (dC : Nat → ClassId) (dI : Nat → Nat → Nat) (cI cJ : ClassId) (aM : Nat) (jM : Nat → Nat) (sz : Nat) (uM : OS) (p1 : Int32) (o : OS × Int32) (hm : f_X7_cut uM p1 = some o) : Met l yX7_cut (wq yX7_cut cX7_cut 2 (some .int)) ({ frames := 0, cells := 0, slots := 0, locals := 0 } : Room) (va_Pc [.ref aM, .int p1] (pcW dC dI cI cJ sz ([wM cI cJ aM jM uM] : List va_W).flatten)) (va_Qi (S := OS) (fun r u => some (u, r) = some o) (fun (u : OS) t => va_P (dC, dI) vwCl ([wM cI cJ aM jM u] : List va_W).flatten t.heap ∧ va_D (va_A ([wM cI cJ aM jM uM] : List va_W).flatten sz) ([wM cI cJ aM jM u] : List va_W).flatten) (va_A ([wM cI cJ aM jM uM] : List va_W).flatten sz)) 0 0 (va_A ([wM cI cJ aM jM uM] : List va_W).flatten sz) := by
  refine Met.ofW (cc := cX7_cut) (maxL := 2) (ret := (some .int)) (by decide) rfl ?_
  intro p e s m args below meth c s₁ B hml hv
  obtain ⟨rfl, hsz, hP, hK, hD0, hN⟩ := hv
  have hx := B.exec
  have hb := B.bytes
  have hr := B.returns
  have ht : ∀ w ∈ lw_good, w.before _ s = true := fun w h => atoms_spec (ws := wq yX7_cut cX7_cut 2 (some .int)) B.pre w (wq_mem h)
  have hown : s.vm.findClass RX7 = some m.cls := findClass_of_methodNamed B.named
  have hlocks := B.notSynchronized
  subst hsz
  have hD := hD0.self (sz := s.heap.size)
  generalize hAe : va_A ([wM cI cJ aM jM uM] : List va_W).flatten s.heap.size = A at hD ⊢
  have hA : ∀ q : Nat, s.heap.size ≤ q → A q := fun q h => by rw [← hAe]; exact Or.inr h
  have hS : va_S A s.heap s.heap [] := va_S.rf
  have hl := lv_entry ([.ref aM, .int p1]) (n := 2) (Nat.le_of_ble_eq_true rfl)
  rw [lg_entry_eq]
  generalize (lg_sl ([.ref aM, .int p1]) ++ List.replicate (2 - (lg_sl ([.ref aM, .int p1])).length) Slot.unset).toArray = ls at hl ⊢
  have hl : lv_has ls 2 [(0, .ref aM), (1, .int p1)] := hl
  generalize hQ : MQ below _ _ s _ _ _ = Q
  generalize hH : s.heap = H at hP ⊢
  have hS : va_S A s.heap H [] := by rw [← hH]; exact va_S.rf
  show W p l e ({ frames := 0, cells := 0, slots := 0, locals := 0 } : Room) s m ([.ref aM, .int p1] : List Value).toArray below meth c H [] 0 0 Q (F0 m 0 ls [])
  unfold f_X7_cut at hm
  refine lv_aload_n hx hb dX7_cut_0 rfl (lv_at hl 0 rfl) ?_
  refine lv_iconst (v := (0 : Int32)) hx hb dX7_cut_1 (by decide) ?_
  refine va_put (D := (dC, dI)) (ci := 8) (v := .int (0 : Int32)) (ty := .int) (C := RX7) (T := TX7) (N := 34) hx hb ht inX7 tyX7 tyX7_ok nmX7 hown hK hP hD hS 0 rfl rfl 1 (by decide) (ht _ kw_0) (fun _ h9 => h9) rfl (by decide +kernel) rfl rfl (Nat.le_of_ble_eq_true rfl) dX7_cut_2 (fun H locs hP hD hS => ?_)
  obtain ⟨u1, eu1, hm⟩ := bnd_ex hm
  have hP : va_P (dC, dI) vwCl ([wM cI cJ aM jM u1] : List va_W).flatten H := by rw [eu1]; exact hP
  have hD : va_D A ([wM cI cJ aM jM u1] : List va_W).flatten := by rw [eu1]; exact hD
  refine lv_iload_n hx hb dX7_cut_5 rfl (lv_at hl 1 rfl) ?_
  refine lv_if_lt (tgt := 17) hx hb dX7_cut_6 (by decide) (fun c2 => ?_) (fun c2 => ?_)
  · have hm := ite_t c2 hm
    refine lv_iconst (v := (-1 : Int32)) hx hb dX7_cut_17 (by decide) ?_
    rw [← hQ]
    exact W.iret (v := (-1 : Int32)) hx hb hr (fun t ht1 hW => ⟨⟨_, u1, rfl, hm, by rw [ht1]; exact hP, hD⟩, hS.F ht1⟩) hS.2.2 dX7_cut_18
  · have hm := ite_f c2 hm
    refine lv_iload_n hx hb dX7_cut_9 rfl (lv_at hl 1 rfl) ?_
    refine lv_aload_n hx hb dX7_cut_10 rfl (lv_at hl 0 rfl) ?_
    refine va_get (D := (dC, dI)) (ci := 8) (v := .int (u1.1 15)) (C := RX7) (T := TX7) (N := 34) hx hb ht inX7 hown hK hP 0 rfl rfl 15 (by decide) (ht _ kw_32) (fun _ h9 => h9) rfl dX7_cut_11 ?_
    refine lv_icmp_le (tgt := 19) hx hb dX7_cut_14 (by decide) (fun c3 => ?_) (fun c3 => ?_)
    · have hm := ite_t c3 hm
      refine lv_aload_n hx hb dX7_cut_19 rfl (lv_at hl 0 rfl) ?_
      refine lv_dup hx hb dX7_cut_20 rfl ?_
      refine va_get (D := (dC, dI)) (ci := 8) (v := .int (u1.1 15)) (C := RX7) (T := TX7) (N := 34) hx hb ht inX7 hown hK hP 0 rfl rfl 15 (by decide) (ht _ kw_32) (fun _ h9 => h9) rfl dX7_cut_21 ?_
      refine lv_iload_n hx hb dX7_cut_24 rfl (lv_at hl 1 rfl) ?_
      refine lv_isub hx hb dX7_cut_25 ?_
      refine va_put (D := (dC, dI)) (ci := 8) (v := .int ((u1.1 15) - p1)) (ty := .int) (C := RX7) (T := TX7) (N := 34) hx hb ht inX7 tyX7 tyX7_ok nmX7 hown hK hP hD hS 0 rfl rfl 15 (by decide) (ht _ kw_32) (fun _ h9 => h9) rfl (by decide +kernel) rfl rfl (Nat.le_of_ble_eq_true rfl) dX7_cut_26 (fun H locs hP hD hS => ?_)
      obtain ⟨u4, eu4, hm⟩ := bnd_ex hm
      have hP : va_P (dC, dI) vwCl ([wM cI cJ aM jM u4] : List va_W).flatten H := by rw [eu4]; exact hP
      have hD : va_D A ([wM cI cJ aM jM u4] : List va_W).flatten := by rw [eu4]; exact hD
      refine lv_aload_n hx hb dX7_cut_29 rfl (lv_at hl 0 rfl) ?_
      refine va_get (D := (dC, dI)) (ci := 8) (v := .int (u4.1 15)) (C := RX7) (T := TX7) (N := 34) hx hb ht inX7 hown hK hP 0 rfl rfl 15 (by decide) (ht _ kw_32) (fun _ h9 => h9) rfl dX7_cut_30 ?_
      rw [← hQ]
      exact W.iret (v := (u4.1 15)) hx hb hr (fun t ht1 hW => ⟨⟨_, u4, rfl, hm, by rw [ht1]; exact hP, hD⟩, hS.F ht1⟩) hS.2.2 dX7_cut_33
    · have hm := ite_f c3 hm
      refine lv_iconst (v := (-1 : Int32)) hx hb dX7_cut_17 (by decide) ?_
      rw [← hQ]
      exact W.iret (v := (-1 : Int32)) hx hb hr (fun t ht1 hW => ⟨⟨_, u1, rfl, hm, by rw [ht1]; exact hP, hD⟩, hS.F ht1⟩) hS.2.2 dX7_cut_18

def f_X7_octet (uM : OS) (p1 : Int32) : Option (OS × Int32) :=
  bnd (sF uM 1 (0 : Int32)) fun u1 =>
  if (u1.1 15) < (8000 : Int32) then (
  oC1 (f_X7_putByte u1 p1) fun u3 =>
  some (u3, (u3.1 15))) else (
  some (u1, (-3 : Int32)))

set_option maxHeartbeats 4000000 in
set_option maxRecDepth 100000 in
theorem c_X7_octet (l : Launch) (dC : Nat → ClassId) (dI : Nat → Nat → Nat) (cI cJ : ClassId) (aM : Nat) (jM : Nat → Nat) (sz : Nat) (uM : OS) (p1 : Int32) (o : OS × Int32) (hm : f_X7_octet uM p1 = some o) : Met l yX7_octet (wq yX7_octet cX7_octet 2 (some .int)) ({ frames := 1, cells := 0, slots := 0, locals := 21 } : Room) (va_Pc [.ref aM, .int p1] (pcW dC dI cI cJ sz ([wM cI cJ aM jM uM] : List va_W).flatten)) (va_Qi (S := OS) (fun r u => some (u, r) = some o) (fun (u : OS) t => va_P (dC, dI) vwCl ([wM cI cJ aM jM u] : List va_W).flatten t.heap ∧ va_D (va_A ([wM cI cJ aM jM uM] : List va_W).flatten sz) ([wM cI cJ aM jM u] : List va_W).flatten) (va_A ([wM cI cJ aM jM uM] : List va_W).flatten sz)) 0 0 (va_A ([wM cI cJ aM jM uM] : List va_W).flatten sz) := by
  refine Met.ofW (cc := cX7_octet) (maxL := 2) (ret := (some .int)) (by decide) rfl ?_
  intro p e s m args below meth c s₁ B hml hv
  obtain ⟨rfl, hsz, hP, hK, hD0, hN⟩ := hv
  have hx := B.exec
  have hb := B.bytes
  have hr := B.returns
  have ht : ∀ w ∈ lw_good, w.before _ s = true := fun w h => atoms_spec (ws := wq yX7_octet cX7_octet 2 (some .int)) B.pre w (wq_mem h)
  have hown : s.vm.findClass RX7 = some m.cls := findClass_of_methodNamed B.named
  have hlocks := B.notSynchronized
  subst hsz
  have hD := hD0.self (sz := s.heap.size)
  generalize hAe : va_A ([wM cI cJ aM jM uM] : List va_W).flatten s.heap.size = A at hD ⊢
  have hA : ∀ q : Nat, s.heap.size ≤ q → A q := fun q h => by rw [← hAe]; exact Or.inr h
  have hS : va_S A s.heap s.heap [] := va_S.rf
  have hl := lv_entry ([.ref aM, .int p1]) (n := 2) (Nat.le_of_ble_eq_true rfl)
  rw [lg_entry_eq]
  generalize (lg_sl ([.ref aM, .int p1]) ++ List.replicate (2 - (lg_sl ([.ref aM, .int p1])).length) Slot.unset).toArray = ls at hl ⊢
  have hl : lv_has ls 2 [(0, .ref aM), (1, .int p1)] := hl
  generalize hQ : MQ below _ _ s _ _ _ = Q
  generalize hH : s.heap = H at hP ⊢
  have hS : va_S A s.heap H [] := by rw [← hH]; exact va_S.rf
  show W p l e ({ frames := 1, cells := 0, slots := 0, locals := 21 } : Room) s m ([.ref aM, .int p1] : List Value).toArray below meth c H [] 0 0 Q (F0 m 0 ls [])
  unfold f_X7_octet at hm
  refine lv_aload_n hx hb dX7_octet_0 rfl (lv_at hl 0 rfl) ?_
  refine lv_iconst (v := (0 : Int32)) hx hb dX7_octet_1 (by decide) ?_
  refine va_put (D := (dC, dI)) (ci := 8) (v := .int (0 : Int32)) (ty := .int) (C := RX7) (T := TX7) (N := 34) hx hb ht inX7 tyX7 tyX7_ok nmX7 hown hK hP hD hS 0 rfl rfl 1 (by decide) (ht _ kw_0) (fun _ h9 => h9) rfl (by decide +kernel) rfl rfl (Nat.le_of_ble_eq_true rfl) dX7_octet_2 (fun H locs hP hD hS => ?_)
  obtain ⟨u1, eu1, hm⟩ := bnd_ex hm
  have hP : va_P (dC, dI) vwCl ([wM cI cJ aM jM u1] : List va_W).flatten H := by rw [eu1]; exact hP
  have hD : va_D A ([wM cI cJ aM jM u1] : List va_W).flatten := by rw [eu1]; exact hD
  refine lv_aload_n hx hb dX7_octet_5 rfl (lv_at hl 0 rfl) ?_
  refine va_get (D := (dC, dI)) (ci := 8) (v := .int (u1.1 15)) (C := RX7) (T := TX7) (N := 34) hx hb ht inX7 hown hK hP 0 rfl rfl 15 (by decide) (ht _ kw_32) (fun _ h9 => h9) rfl dX7_octet_6 ?_
  refine lv_sipush (v := (8000 : Int32)) hx hb dX7_octet_9 (by decide) ?_
  refine lv_icmp_lt (tgt := 18) hx hb dX7_octet_12 (by decide) (fun c2 => ?_) (fun c2 => ?_)
  · have hm := ite_t c2 hm
    refine lv_aload_n hx hb dX7_octet_18 rfl (lv_at hl 0 rfl) ?_
    refine lv_iload_n hx hb dX7_octet_19 rfl (lv_at hl 1 rfl) ?_
    have hPc : va_P (dC, dI) vwCl ([wM cI cJ aM jM u1] : List va_W).flatten _ := hP
    have hDc : va_D A ([wM cI cJ aM jM u1] : List va_W).flatten := hD
    have hFc := va_freeF (fc := ([wM cI cJ aM jM u1] : List va_W)) hD hS hA [0] rfl
    obtain ⟨u3o, e4, hm⟩ := oC1_of hm
    refine va_callv (va_runV (As := [.int p1]) (rest := []) ⟨hx, hb, hml, hown, ht⟩ (c_X7_putByte l dC dI cI cJ aM jM H.size u1 p1 u3o e4) (cwV 1 ht (gdV kw_36 kw_34 kw_35 kw_7 kw_33) rfl rfl rfl ⟨rfl, nd_X7_putByte⟩ ⟨Nat.le_of_ble_eq_true rfl, Nat.le_of_ble_eq_true rfl⟩) ⟨pcW_blind, va_recv hK hPc (ci := 8) (q0 := 0) rfl rfl, pcW_pre hPc hK hDc hN⟩ rfl rfl hl.1 rfl (lv_room (Nat.le_of_ble_eq_true rfl)) dX7_octet_20 ⟨Nat.zero_le _, Nat.zero_le _⟩) hS (fun q _ z => hFc q z) hFc (fun uu t H1 locs ht1 hvm hw hB hz1 hk1 hS => ?_)
    obtain ⟨u3, rfl⟩ : ∃ z, z = uu := ⟨_, rfl⟩
    obtain ⟨hP1, hD1⟩ := hB
    rw [ht1] at hP1
    obtain rfl : u3 = u3o := Option.some.inj hw
    have hP : va_P (dC, dI) vwCl ([wM cI cJ aM jM u3] : List va_W).flatten H1 := hP1
    have hD : va_D A ([wM cI cJ aM jM u3] : List va_W).flatten := hD1.weaken (fun _ q _ z => hFc q.1 z)
    generalize H1 = H at hP hS ⊢
    refine lv_aload_n hx hb dX7_octet_23 rfl (lv_at hl 0 rfl) ?_
    refine va_get (D := (dC, dI)) (ci := 8) (v := .int (u3.1 15)) (C := RX7) (T := TX7) (N := 34) hx hb ht inX7 hown hK hP 0 rfl rfl 15 (by decide) (ht _ kw_32) (fun _ h9 => h9) rfl dX7_octet_24 ?_
    rw [← hQ]
    exact W.iret (v := (u3.1 15)) hx hb hr (fun t ht1 hW => ⟨⟨_, u3, rfl, hm, by rw [ht1]; exact hP, hD⟩, hS.F ht1⟩) hS.2.2 dX7_octet_27
  · have hm := ite_f c2 hm
    refine lv_bipush (v := (-3 : Int32)) hx hb dX7_octet_15 (by decide) ?_
    rw [← hQ]
    exact W.iret (v := (-3 : Int32)) hx hb hr (fun t ht1 hW => ⟨⟨_, u1, rfl, hm, by rw [ht1]; exact hP, hD⟩, hS.F ht1⟩) hS.2.2 dX7_octet_17

def f_X7_agree_L68 (u17 : OS) : Nat → (Int32 → Int32 → Option (OS × Int32)) → Int32 → Int32 → Option (OS × Int32)
  | 0, _, _, _ => none
  | n68 + 1, K110_24, x20, x21 =>
    if (u17.1 5) ≤ x20 then (
    K110_24 x21 x20) else (
    if x21 = (0 : Int32) then (
    K110_24 x21 x20) else (
    gdi x20 65536 <|
    gdi x20 1000 <|
    if (u17.2.1 24 (x20).toNatClampNeg) = (u17.2.1 4 (x20).toNatClampNeg) then (
    bnd (x20 + (1 : Int32)) fun x34 =>
    f_X7_agree_L68 u17 n68 K110_24 x34 (1 : Int32)) else (
    bnd (x20 + (1 : Int32)) fun x33 =>
    f_X7_agree_L68 u17 n68 K110_24 x33 (0 : Int32))))

def f_X7_agree_L19 : Nat → (Int32 → Int32 → OS → Option (OS × Int32)) → Int32 → Int32 → OS → Option (OS × Int32)
  | 0, _, _, _, _ => none
  | n19 + 1, K126_11, x5, x6, u7 =>
    if (4 : Int32) ≤ x5 then (
    K126_11 x6 x5 u7) else (
    oC1 (f_X7_writeForm u7 x5) fun u13 =>
    oC1 (f_X7_readAll u13) fun u15 =>
    bnd (sF u15 28 (u15.1 27)) fun u17 =>
    bnd (fun (x18 : Int32) =>
    bnd (fun (x22 : Int32) (x23 : Int32) =>
    if x22 = (0 : Int32) then (
    bnd (x5 + (1 : Int32)) fun x26 =>
    f_X7_agree_L19 n19 K126_11 x26 (0 : Int32) u17) else (
    bnd (x5 + (1 : Int32)) fun x27 =>
    f_X7_agree_L19 n19 K126_11 x27 x6 u17)) fun K110_24 =>
    f_X7_agree_L68 u17 FU K110_24 (0 : Int32) x18) fun K64_19 =>
    bnd (K64_19 (0 : Int32)) fun K63_35 =>
    if (u17.1 27) = (0 : Int32) then (
    if (u17.1 25) = (u17.1 5) then (
    K64_19 (1 : Int32)) else (
    K63_35)) else (
    K63_35))

def f_X7_agree (uM : OS) : Option (OS × Int32) :=
  bnd (sF uM 1 (0 : Int32)) fun u1 =>
  oC1 (f_X7_mayWrite u1) fun r2 =>
  if r2 = (0 : Int32) then (
  some (u1, (-2 : Int32))) else (
  bnd (fun (x8 : Int32) (x9 : Int32) (u10 : OS) =>
  some (u10, x8)) fun K126_11 =>
  f_X7_agree_L19 FU K126_11 (0 : Int32) (1 : Int32) u1)

set_option maxHeartbeats 4000000 in
set_option maxRecDepth 100000 in
theorem c_X7_agree (l : Launch) (dC : Nat → ClassId) (dI : Nat → Nat → Nat) (cI cJ : ClassId) (aM : Nat) (jM : Nat → Nat) (sz : Nat) (uM : OS) (o : OS × Int32) (hm : f_X7_agree uM = some o) : Met l yX7_agree (wq yX7_agree cX7_agree 5 (some .int)) ({ frames := 6, cells := 0, slots := 0, locals := 142 } : Room) (va_Pc [.ref aM] (pcW dC dI cI cJ sz ([wM cI cJ aM jM uM] : List va_W).flatten)) (va_Qi (S := OS) (fun r u => some (u, r) = some o) (fun (u : OS) t => va_P (dC, dI) vwCl ([wM cI cJ aM jM u] : List va_W).flatten t.heap ∧ va_D (va_A ([wM cI cJ aM jM uM] : List va_W).flatten sz) ([wM cI cJ aM jM u] : List va_W).flatten) (va_A ([wM cI cJ aM jM uM] : List va_W).flatten sz)) 0 0 (va_A ([wM cI cJ aM jM uM] : List va_W).flatten sz) := by
  refine Met.ofW (cc := cX7_agree) (maxL := 5) (ret := (some .int)) (by decide) rfl ?_
  intro p e s m args below meth c s₁ B hml hv
  obtain ⟨rfl, hsz, hP, hK, hD0, hN⟩ := hv
  have hx := B.exec
  have hb := B.bytes
  have hr := B.returns
  have ht : ∀ w ∈ lw_good, w.before _ s = true := fun w h => atoms_spec (ws := wq yX7_agree cX7_agree 5 (some .int)) B.pre w (wq_mem h)
  have hown : s.vm.findClass RX7 = some m.cls := findClass_of_methodNamed B.named
  have hlocks := B.notSynchronized
  subst hsz
  have hD := hD0.self (sz := s.heap.size)
  generalize hAe : va_A ([wM cI cJ aM jM uM] : List va_W).flatten s.heap.size = A at hD ⊢
  have hA : ∀ q : Nat, s.heap.size ≤ q → A q := fun q h => by rw [← hAe]; exact Or.inr h
  have hS : va_S A s.heap s.heap [] := va_S.rf
  have hl := lv_entry ([.ref aM]) (n := 5) (Nat.le_of_ble_eq_true rfl)
  rw [lg_entry_eq]
  generalize (lg_sl ([.ref aM]) ++ List.replicate (5 - (lg_sl ([.ref aM])).length) Slot.unset).toArray = ls at hl ⊢
  have hl : lv_has ls 5 [(0, .ref aM)] := hl
  generalize hQ : MQ below _ _ s _ _ _ = Q
  generalize hH : s.heap = H at hP ⊢
  have hS : va_S A s.heap H [] := by rw [← hH]; exact va_S.rf
  show W p l e ({ frames := 6, cells := 0, slots := 0, locals := 142 } : Room) s m ([.ref aM] : List Value).toArray below meth c H [] 0 0 Q (F0 m 0 ls [])
  unfold f_X7_agree at hm
  refine lv_aload_n hx hb dX7_agree_0 rfl (lv_at hl 0 rfl) ?_
  refine lv_iconst (v := (0 : Int32)) hx hb dX7_agree_1 (by decide) ?_
  refine va_put (D := (dC, dI)) (ci := 8) (v := .int (0 : Int32)) (ty := .int) (C := RX7) (T := TX7) (N := 34) hx hb ht inX7 tyX7 tyX7_ok nmX7 hown hK hP hD hS 0 rfl rfl 1 (by decide) (ht _ kw_0) (fun _ h9 => h9) rfl (by decide +kernel) rfl rfl (Nat.le_of_ble_eq_true rfl) dX7_agree_2 (fun H locs hP hD hS => ?_)
  obtain ⟨u1, eu1, hm⟩ := bnd_ex hm
  have hP : va_P (dC, dI) vwCl ([wM cI cJ aM jM u1] : List va_W).flatten H := by rw [eu1]; exact hP
  have hD : va_D A ([wM cI cJ aM jM u1] : List va_W).flatten := by rw [eu1]; exact hD
  refine lv_aload_n hx hb dX7_agree_5 rfl (lv_at hl 0 rfl) ?_
  have hPc : va_P (dC, dI) vwCl ([wM cI cJ aM jM u1] : List va_W).flatten _ := hP
  have hDc : va_D A ([wM cI cJ aM jM u1] : List va_W).flatten := hD
  have hFc := va_freeF (fc := ([wM cI cJ aM jM u1] : List va_W)) hD hS hA [0] rfl
  obtain ⟨r2o, e3, hm⟩ := oC1_of hm
  refine va_calli (va_runV (As := []) (rest := []) ⟨hx, hb, hml, hown, ht⟩ (c_X7_mayWrite l dC dI cI cJ aM jM H.size u1 r2o e3) (cwV 0 ht (gdV kw_90 kw_88 kw_89 kw_7 kw_87) rfl rfl rfl ⟨rfl, nd_X7_mayWrite⟩ ⟨Nat.le_of_ble_eq_true rfl, Nat.le_of_ble_eq_true rfl⟩) ⟨pcW_blind, va_recv hK hPc (ci := 8) (q0 := 0) rfl rfl, pcW_pre hPc hK hDc hN⟩ rfl rfl hl.1 rfl (lv_room (Nat.le_of_ble_eq_true rfl)) dX7_agree_6 ⟨Nat.zero_le _, Nat.zero_le _⟩) hS (fun q _ z => hFc q z) hFc (fun r2 uu t H1 locs ht1 hvm hw hB hz1 hk1 hS => ?_)
  obtain ⟨⟩ := uu
  obtain ⟨hP1, hD1⟩ := hB
  rw [ht1] at hP1
  obtain rfl : r2 = r2o := Option.some.inj hw
  have hP : va_P (dC, dI) vwCl ([wM cI cJ aM jM u1] : List va_W).flatten H1 := hP1
  have hD : va_D A ([wM cI cJ aM jM u1] : List va_W).flatten := hD1.weaken (fun _ q _ z => hFc q.1 z)
  generalize H1 = H at hP hS ⊢
  refine lv_if_ne (tgt := 15) hx hb dX7_agree_9 (by decide) (fun c4 => ?_) (fun c4 => ?_)
  · have hm := ite_f c4 hm
    refine lv_iconst (v := (1 : Int32)) hx hb dX7_agree_15 (by decide) ?_
    refine lv_istore_n (lv' := [(1, .int (1 : Int32)), (0, .ref aM)]) hx hb dX7_agree_16 rfl hl (by decide) rfl (fun ls hl => ?_)
    refine lv_iconst (v := (0 : Int32)) hx hb dX7_agree_17 (by decide) ?_
    refine lv_istore_n (lv' := [(2, .int (0 : Int32)), (1, .int (1 : Int32)), (0, .ref aM)]) hx hb dX7_agree_18 rfl hl (by decide) rfl (fun ls hl => ?_)
    obtain ⟨K126_11, eK126_11, hm⟩ := bnd_ex hm
    have X126_11 : ∀ (x8 : Int32) (x9 : Int32) (u10 : OS) (H : Heap) (locs : List Loc) (ls : Array Slot), K126_11 x8 x9 u10 = some o → va_P (dC, dI) vwCl ([wM cI cJ aM jM u10] : List va_W).flatten H → va_D A ([wM cI cJ aM jM u10] : List va_W).flatten → va_S A s.heap H locs → lv_has ls 5 [(0, .ref aM), (1, .int x8), (2, .int x9)] → W p l e ({ frames := 6, cells := 0, slots := 0, locals := 142 } : Room) s m ([.ref aM] : List Value).toArray below meth c H locs 0 0 Q (F0 m 126 ls []) := by
      intro x8 x9 u10 H locs ls hm hP hD hS hl
      have hm := ap3 eK126_11 hm
      refine lv_iload_n hx hb dX7_agree_126 rfl (lv_at hl 1 rfl) ?_
      rw [← hQ]
      exact W.iret (v := x8) hx hb hr (fun t ht1 hW => ⟨⟨_, u10, rfl, hm, by rw [ht1]; exact hP, hD⟩, hS.F ht1⟩) hS.2.2 dX7_agree_127
    have LP19 : ∀ (n19 : Nat) (x5 : Int32) (x6 : Int32) (u7 : OS) (H : Heap) (locs : List Loc) (ls : Array Slot), f_X7_agree_L19 n19 K126_11 x5 x6 u7 = some o → va_P (dC, dI) vwCl ([wM cI cJ aM jM u7] : List va_W).flatten H → va_D A ([wM cI cJ aM jM u7] : List va_W).flatten → va_S A s.heap H locs → lv_has ls 5 [(0, .ref aM), (1, .int x6), (2, .int x5)] → W p l e ({ frames := 6, cells := 0, slots := 0, locals := 142 } : Room) s m ([.ref aM] : List Value).toArray below meth c H locs 0 0 Q (F0 m 19 ls []) := by
      intro n19
      induction n19 with
      | zero => intro x5 x6 u7 H locs ls hm; exact nomatch (show (none : Option _) = some _ from hm)
      | succ n19 ih19 =>
        intro x5 x6 u7 H locs ls hm hP hD hS hl
        unfold f_X7_agree_L19 at hm
        refine lv_iload_n hx hb dX7_agree_19 rfl (lv_at hl 2 rfl) ?_
        refine lv_iconst (v := (4 : Int32)) hx hb dX7_agree_20 (by decide) ?_
        refine lv_icmp_ge (tgt := 126) hx hb dX7_agree_21 (by decide) (fun c12 => ?_) (fun c12 => ?_)
        · have hm := ite_t c12 hm
          exact X126_11 x6 x5 u7 _ _ _ hm hP hD hS (lv_sub hl [0, 1, 2] rfl)
        · have hm := ite_f c12 hm
          refine lv_aload_n hx hb dX7_agree_24 rfl (lv_at hl 0 rfl) ?_
          refine lv_iload_n hx hb dX7_agree_25 rfl (lv_at hl 2 rfl) ?_
          have hPc : va_P (dC, dI) vwCl ([wM cI cJ aM jM u7] : List va_W).flatten _ := hP
          have hDc : va_D A ([wM cI cJ aM jM u7] : List va_W).flatten := hD
          have hFc := va_freeF (fc := ([wM cI cJ aM jM u7] : List va_W)) hD hS hA [0] rfl
          obtain ⟨u13o, e14, hm⟩ := oC1_of hm
          refine va_callv (va_runV (As := [.int x5]) (rest := []) ⟨hx, hb, hml, hown, ht⟩ (c_X7_writeForm l dC dI cI cJ aM jM H.size u7 x5 u13o e14) (cwV 1 ht (gdV kw_94 kw_92 kw_93 kw_7 kw_91) rfl rfl rfl ⟨rfl, nd_X7_writeForm⟩ ⟨Nat.le_of_ble_eq_true rfl, Nat.le_of_ble_eq_true rfl⟩) ⟨pcW_blind, va_recv hK hPc (ci := 8) (q0 := 0) rfl rfl, pcW_pre hPc hK hDc hN⟩ rfl rfl hl.1 rfl (lv_room (Nat.le_of_ble_eq_true rfl)) dX7_agree_26 ⟨Nat.zero_le _, Nat.zero_le _⟩) hS (fun q _ z => hFc q z) hFc (fun uu t H1 locs ht1 hvm hw hB hz1 hk1 hS => ?_)
          obtain ⟨u13, rfl⟩ : ∃ z, z = uu := ⟨_, rfl⟩
          obtain ⟨hP1, hD1⟩ := hB
          rw [ht1] at hP1
          obtain rfl : u13 = u13o := Option.some.inj hw
          have hP : va_P (dC, dI) vwCl ([wM cI cJ aM jM u13] : List va_W).flatten H1 := hP1
          have hD : va_D A ([wM cI cJ aM jM u13] : List va_W).flatten := hD1.weaken (fun _ q _ z => hFc q.1 z)
          generalize H1 = H at hP hS ⊢
          refine lv_aload_n hx hb dX7_agree_29 rfl (lv_at hl 0 rfl) ?_
          have hPc : va_P (dC, dI) vwCl ([wM cI cJ aM jM u13] : List va_W).flatten _ := hP
          have hDc : va_D A ([wM cI cJ aM jM u13] : List va_W).flatten := hD
          have hFc := va_freeF (fc := ([wM cI cJ aM jM u13] : List va_W)) hD hS hA [0] rfl
          obtain ⟨u15o, e16, hm⟩ := oC1_of hm
          refine va_callv (va_runV (As := []) (rest := []) ⟨hx, hb, hml, hown, ht⟩ (c_X7_readAll l dC dI cI cJ aM jM H.size u13 u15o e16) (cwV 0 ht (gdV kw_156 kw_154 kw_155 kw_7 kw_153) rfl rfl rfl ⟨rfl, nd_X7_readAll⟩ ⟨Nat.le_of_ble_eq_true rfl, Nat.le_of_ble_eq_true rfl⟩) ⟨pcW_blind, va_recv hK hPc (ci := 8) (q0 := 0) rfl rfl, pcW_pre hPc hK hDc hN⟩ rfl rfl hl.1 rfl (lv_room (Nat.le_of_ble_eq_true rfl)) dX7_agree_30 ⟨Nat.zero_le _, Nat.zero_le _⟩) hS (fun q _ z => hFc q z) hFc (fun uu t H1 locs ht1 hvm hw hB hz1 hk1 hS => ?_)
          obtain ⟨u15, rfl⟩ : ∃ z, z = uu := ⟨_, rfl⟩
          obtain ⟨hP1, hD1⟩ := hB
          rw [ht1] at hP1
          obtain rfl : u15 = u15o := Option.some.inj hw
          have hP : va_P (dC, dI) vwCl ([wM cI cJ aM jM u15] : List va_W).flatten H1 := hP1
          have hD : va_D A ([wM cI cJ aM jM u15] : List va_W).flatten := hD1.weaken (fun _ q _ z => hFc q.1 z)
          generalize H1 = H at hP hS ⊢
          refine lv_aload_n hx hb dX7_agree_33 rfl (lv_at hl 0 rfl) ?_
          refine lv_aload_n hx hb dX7_agree_34 rfl (lv_at hl 0 rfl) ?_
          refine va_get (D := (dC, dI)) (ci := 8) (v := .int (u15.1 27)) (C := RX7) (T := TX7) (N := 34) hx hb ht inX7 hown hK hP 0 rfl rfl 27 (by decide) (ht _ kw_95) (fun _ h9 => h9) rfl dX7_agree_35 ?_
          refine va_put (D := (dC, dI)) (ci := 8) (v := .int (u15.1 27)) (ty := .int) (C := RX7) (T := TX7) (N := 34) hx hb ht inX7 tyX7 tyX7_ok nmX7 hown hK hP hD hS 0 rfl rfl 28 (by decide) (ht _ kw_152) (fun _ h9 => h9) rfl (by decide +kernel) rfl rfl (Nat.le_of_ble_eq_true rfl) dX7_agree_38 (fun H locs hP hD hS => ?_)
          obtain ⟨u17, eu17, hm⟩ := bnd_ex hm
          have hP : va_P (dC, dI) vwCl ([wM cI cJ aM jM u17] : List va_W).flatten H := by rw [eu17]; exact hP
          have hD : va_D A ([wM cI cJ aM jM u17] : List va_W).flatten := by rw [eu17]; exact hD
          refine lv_aload_n hx hb dX7_agree_41 rfl (lv_at hl 0 rfl) ?_
          refine va_get (D := (dC, dI)) (ci := 8) (v := .int (u17.1 27)) (C := RX7) (T := TX7) (N := 34) hx hb ht inX7 hown hK hP 0 rfl rfl 27 (by decide) (ht _ kw_95) (fun _ h9 => h9) rfl dX7_agree_42 ?_
          obtain ⟨K64_19, eK64_19, hm⟩ := bnd_ex hm
          have J64_19 : ∀ (x18 : Int32) (H : Heap) (locs : List Loc) (ls : Array Slot), K64_19 x18 = some o → va_P (dC, dI) vwCl ([wM cI cJ aM jM u17] : List va_W).flatten H → va_D A ([wM cI cJ aM jM u17] : List va_W).flatten → va_S A s.heap H locs → lv_has ls 5 [(0, .ref aM), (1, .int x6), (2, .int x5)] → W p l e ({ frames := 6, cells := 0, slots := 0, locals := 142 } : Room) s m ([.ref aM] : List Value).toArray below meth c H locs 0 0 Q (F0 m 64 ls [.int x18]) := by
            intro x18 H locs ls hm hP hD hS hl
            have hm := ap1 eK64_19 hm
            refine lv_istore_n (lv' := [(3, .int x18), (0, .ref aM), (1, .int x6), (2, .int x5)]) hx hb dX7_agree_64 rfl hl (by decide) rfl (fun ls hl => ?_)
            refine lv_iconst (v := (0 : Int32)) hx hb dX7_agree_65 (by decide) ?_
            refine lv_istore (lv' := [(4, .int (0 : Int32)), (3, .int x18), (0, .ref aM), (1, .int x6), (2, .int x5)]) hx hb dX7_agree_66 hl (by decide) rfl (fun ls hl => ?_)
            obtain ⟨K110_24, eK110_24, hm⟩ := bnd_ex hm
            have X110_24 : ∀ (x22 : Int32) (x23 : Int32) (H : Heap) (locs : List Loc) (ls : Array Slot), K110_24 x22 x23 = some o → va_P (dC, dI) vwCl ([wM cI cJ aM jM u17] : List va_W).flatten H → va_D A ([wM cI cJ aM jM u17] : List va_W).flatten → va_S A s.heap H locs → lv_has ls 5 [(0, .ref aM), (1, .int x6), (2, .int x5), (3, .int x22), (4, .int x23)] → W p l e ({ frames := 6, cells := 0, slots := 0, locals := 142 } : Room) s m ([.ref aM] : List Value).toArray below meth c H locs 0 0 Q (F0 m 110 ls []) := by
              intro x22 x23 H locs ls hm hP hD hS hl
              have hm := ap2 eK110_24 hm
              refine lv_iload_n hx hb dX7_agree_110 rfl (lv_at hl 3 rfl) ?_
              refine lv_if_eq (tgt := 118) hx hb dX7_agree_111 (by decide) (fun c25 => ?_) (fun c25 => ?_)
              · have hm := ite_t c25 hm
                refine lv_iconst (v := (0 : Int32)) hx hb dX7_agree_118 (by decide) ?_
                refine lv_istore_n (lv' := [(1, .int (0 : Int32)), (0, .ref aM), (2, .int x5), (3, .int x22), (4, .int x23)]) hx hb dX7_agree_119 rfl hl (by decide) rfl (fun ls hl => ?_)
                obtain ⟨x26, ex26, hm⟩ := bnd_ex hm
                refine lv_iinc (v := x26) (lv' := [(2, .int x26), (1, .int (0 : Int32)), (0, .ref aM), (3, .int x22), (4, .int x23)]) hx hb dX7_agree_120 hl (k := 2) rfl (by rw [ex26]; exact congrArg _ (by decide)) (by decide) rfl (fun ls hl => ?_)
                refine lv_goto (tgt := 19) hx hb dX7_agree_123 (by decide) ?_
                exact ih19 x26 (0 : Int32) u17 _ _ _ hm hP hD hS (lv_sub hl [2, 1, 0] rfl)
              · have hm := ite_f c25 hm
                refine lv_iload_n hx hb dX7_agree_114 rfl (lv_at hl 1 rfl) ?_
                refine lv_goto (tgt := 119) hx hb dX7_agree_115 (by decide) ?_
                refine lv_istore_n (lv' := [(1, .int x6), (0, .ref aM), (2, .int x5), (3, .int x22), (4, .int x23)]) hx hb dX7_agree_119 rfl hl (by decide) rfl (fun ls hl => ?_)
                obtain ⟨x27, ex27, hm⟩ := bnd_ex hm
                refine lv_iinc (v := x27) (lv' := [(2, .int x27), (1, .int x6), (0, .ref aM), (3, .int x22), (4, .int x23)]) hx hb dX7_agree_120 hl (k := 2) rfl (by rw [ex27]; exact congrArg _ (by decide)) (by decide) rfl (fun ls hl => ?_)
                refine lv_goto (tgt := 19) hx hb dX7_agree_123 (by decide) ?_
                exact ih19 x27 x6 u17 _ _ _ hm hP hD hS (lv_sub hl [2, 1, 0] rfl)
            have LP68 : ∀ (n68 : Nat) (x20 : Int32) (x21 : Int32) (H : Heap) (locs : List Loc) (ls : Array Slot), f_X7_agree_L68 u17 n68 K110_24 x20 x21 = some o → va_P (dC, dI) vwCl ([wM cI cJ aM jM u17] : List va_W).flatten H → va_D A ([wM cI cJ aM jM u17] : List va_W).flatten → va_S A s.heap H locs → lv_has ls 5 [(0, .ref aM), (1, .int x6), (2, .int x5), (3, .int x21), (4, .int x20)] → W p l e ({ frames := 6, cells := 0, slots := 0, locals := 142 } : Room) s m ([.ref aM] : List Value).toArray below meth c H locs 0 0 Q (F0 m 68 ls []) := by
              intro n68
              induction n68 with
              | zero => intro x20 x21 H locs ls hm; exact nomatch (show (none : Option _) = some _ from hm)
              | succ n68 ih68 =>
                intro x20 x21 H locs ls hm hP hD hS hl
                unfold f_X7_agree_L68 at hm
                refine lv_iload hx hb dX7_agree_68 (lv_at hl 4 rfl) ?_
                refine lv_aload_n hx hb dX7_agree_70 rfl (lv_at hl 0 rfl) ?_
                refine va_get (D := (dC, dI)) (ci := 8) (v := .int (u17.1 5)) (C := RX7) (T := TX7) (N := 34) hx hb ht inX7 hown hK hP 0 rfl rfl 5 (by decide) (ht _ kw_1) (fun _ h9 => h9) rfl dX7_agree_71 ?_
                refine lv_icmp_ge (tgt := 110) hx hb dX7_agree_74 (by decide) (fun c28 => ?_) (fun c28 => ?_)
                · have hm := ite_t c28 hm
                  exact X110_24 x21 x20 _ _ _ hm hP hD hS (lv_sub hl [0, 1, 2, 3, 4] rfl)
                · have hm := ite_f c28 hm
                  refine lv_iload_n hx hb dX7_agree_77 rfl (lv_at hl 3 rfl) ?_
                  refine lv_if_eq (tgt := 110) hx hb dX7_agree_78 (by decide) (fun c29 => ?_) (fun c29 => ?_)
                  · have hm := ite_t c29 hm
                    exact X110_24 x21 x20 _ _ _ hm hP hD hS (lv_sub hl [0, 1, 2, 3, 4] rfl)
                  · have hm := ite_f c29 hm
                    refine lv_aload_n hx hb dX7_agree_81 rfl (lv_at hl 0 rfl) ?_
                    refine va_get (D := (dC, dI)) (ci := 8) (v := .ref (jM 24)) (C := RX7) (T := TX7) (N := 34) hx hb ht inX7 hown hK hP 0 rfl rfl 24 (by decide) (ht _ kw_120) (fun _ h9 => h9) rfl dX7_agree_82 ?_
                    refine lv_iload hx hb dX7_agree_85 (lv_at hl 4 rfl) ?_
                    obtain ⟨g30, hm⟩ := gdi_of hm
                    refine va_iald hx hb hK hP 13 0 rfl rfl g30 dX7_agree_87 ?_
                    refine lv_aload_n hx hb dX7_agree_88 rfl (lv_at hl 0 rfl) ?_
                    refine va_get (D := (dC, dI)) (ci := 8) (v := .ref (jM 4)) (C := RX7) (T := TX7) (N := 34) hx hb ht inX7 hown hK hP 0 rfl rfl 4 (by decide) (ht _ kw_2) (fun _ h9 => h9) rfl dX7_agree_89 ?_
                    refine lv_iload hx hb dX7_agree_92 (lv_at hl 4 rfl) ?_
                    obtain ⟨g31, hm⟩ := gdi_of hm
                    refine va_iald hx hb hK hP 1 0 rfl rfl g31 dX7_agree_94 ?_
                    refine lv_icmp_ne (tgt := 102) hx hb dX7_agree_95 (by decide) (fun c32 => ?_) (fun c32 => ?_)
                    · have hm := ite_f c32 hm
                      refine lv_iconst (v := (0 : Int32)) hx hb dX7_agree_102 (by decide) ?_
                      refine lv_istore_n (lv' := [(3, .int (0 : Int32)), (0, .ref aM), (1, .int x6), (2, .int x5), (4, .int x20)]) hx hb dX7_agree_103 rfl hl (by decide) rfl (fun ls hl => ?_)
                      obtain ⟨x33, ex33, hm⟩ := bnd_ex hm
                      refine lv_iinc (v := x33) (lv' := [(4, .int x33), (3, .int (0 : Int32)), (0, .ref aM), (1, .int x6), (2, .int x5)]) hx hb dX7_agree_104 hl (k := 4) rfl (by rw [ex33]; exact congrArg _ (by decide)) (by decide) rfl (fun ls hl => ?_)
                      refine lv_goto (tgt := 68) hx hb dX7_agree_107 (by decide) ?_
                      exact ih68 x33 (0 : Int32) _ _ _ hm hP hD hS (lv_sub hl [2, 3, 4, 1, 0] rfl)
                    · have hm := ite_t c32 hm
                      refine lv_iconst (v := (1 : Int32)) hx hb dX7_agree_98 (by decide) ?_
                      refine lv_goto (tgt := 103) hx hb dX7_agree_99 (by decide) ?_
                      refine lv_istore_n (lv' := [(3, .int (1 : Int32)), (0, .ref aM), (1, .int x6), (2, .int x5), (4, .int x20)]) hx hb dX7_agree_103 rfl hl (by decide) rfl (fun ls hl => ?_)
                      obtain ⟨x34, ex34, hm⟩ := bnd_ex hm
                      refine lv_iinc (v := x34) (lv' := [(4, .int x34), (3, .int (1 : Int32)), (0, .ref aM), (1, .int x6), (2, .int x5)]) hx hb dX7_agree_104 hl (k := 4) rfl (by rw [ex34]; exact congrArg _ (by decide)) (by decide) rfl (fun ls hl => ?_)
                      refine lv_goto (tgt := 68) hx hb dX7_agree_107 (by decide) ?_
                      exact ih68 x34 (1 : Int32) _ _ _ hm hP hD hS (lv_sub hl [2, 3, 4, 1, 0] rfl)
            exact LP68 FU (0 : Int32) x18 _ _ _ hm hP hD hS (lv_sub hl [2, 3, 4, 1, 0] rfl)
          obtain ⟨K63_35, eK63_35, hm⟩ := bnd_ex hm
          have J63_35 : ∀ (H : Heap) (locs : List Loc) (ls : Array Slot), K63_35 = some o → va_P (dC, dI) vwCl ([wM cI cJ aM jM u17] : List va_W).flatten H → va_D A ([wM cI cJ aM jM u17] : List va_W).flatten → va_S A s.heap H locs → lv_has ls 5 [(0, .ref aM), (1, .int x6), (2, .int x5)] → W p l e ({ frames := 6, cells := 0, slots := 0, locals := 142 } : Room) s m ([.ref aM] : List Value).toArray below meth c H locs 0 0 Q (F0 m 63 ls []) := by
            intro H locs ls hm hP hD hS hl
            have hm := ap0 eK63_35 hm
            refine lv_iconst (v := (0 : Int32)) hx hb dX7_agree_63 (by decide) ?_
            exact J64_19 (0 : Int32) _ _ _ hm hP hD hS (lv_sub hl [0, 1, 2] rfl)
          refine lv_if_ne (tgt := 63) hx hb dX7_agree_45 (by decide) (fun c36 => ?_) (fun c36 => ?_)
          · have hm := ite_f c36 hm
            exact J63_35 _ _ _ hm hP hD hS (lv_sub hl [0, 1, 2] rfl)
          · have hm := ite_t c36 hm
            refine lv_aload_n hx hb dX7_agree_48 rfl (lv_at hl 0 rfl) ?_
            refine va_get (D := (dC, dI)) (ci := 8) (v := .int (u17.1 25)) (C := RX7) (T := TX7) (N := 34) hx hb ht inX7 hown hK hP 0 rfl rfl 25 (by decide) (ht _ kw_121) (fun _ h9 => h9) rfl dX7_agree_49 ?_
            refine lv_aload_n hx hb dX7_agree_52 rfl (lv_at hl 0 rfl) ?_
            refine va_get (D := (dC, dI)) (ci := 8) (v := .int (u17.1 5)) (C := RX7) (T := TX7) (N := 34) hx hb ht inX7 hown hK hP 0 rfl rfl 5 (by decide) (ht _ kw_1) (fun _ h9 => h9) rfl dX7_agree_53 ?_
            refine lv_icmp_ne (tgt := 63) hx hb dX7_agree_56 (by decide) (fun c37 => ?_) (fun c37 => ?_)
            · have hm := ite_f c37 hm
              exact J63_35 _ _ _ hm hP hD hS (lv_sub hl [0, 1, 2] rfl)
            · have hm := ite_t c37 hm
              refine lv_iconst (v := (1 : Int32)) hx hb dX7_agree_59 (by decide) ?_
              refine lv_goto (tgt := 64) hx hb dX7_agree_60 (by decide) ?_
              exact J64_19 (1 : Int32) _ _ _ hm hP hD hS (lv_sub hl [0, 1, 2] rfl)
    exact LP19 FU (0 : Int32) (1 : Int32) u1 _ _ _ hm hP hD hS (lv_sub hl [2, 1, 0] rfl)
  · have hm := ite_t c4 hm
    refine lv_bipush (v := (-2 : Int32)) hx hb dX7_agree_12 (by decide) ?_
    rw [← hQ]
    exact W.iret (v := (-2 : Int32)) hx hb hr (fun t ht1 hW => ⟨⟨_, u1, rfl, hm, by rw [ht1]; exact hP, hD⟩, hS.F ht1⟩) hS.2.2 dX7_agree_14

def f_X7_told (uM : OS) (p1 : Int32) : Option (OS × Int32) :=
  bnd (sF uM 1 (0 : Int32)) fun u1 =>
  if p1 = (0 : Int32) then (
  some (u1, (u1.1 0))) else (
  if p1 = (1 : Int32) then (
  some (u1, (u1.1 5))) else (
  if p1 = (2 : Int32) then (
  some (u1, (u1.1 15))) else (
  if p1 = (3 : Int32) then (
  some (u1, (u1.1 25))) else (
  if p1 = (4 : Int32) then (
  some (u1, (u1.1 2))) else (
  if p1 = (5 : Int32) then (
  some (u1, (u1.1 3))) else (
  if p1 = (6 : Int32) then (
  if (u1.1 7) = (0 : Int32) then (
  some (u1, (0 : Int32))) else (
  some (u1, (1 : Int32)))) else (
  some (u1, (-1 : Int32)))))))))

set_option maxHeartbeats 4000000 in
set_option maxRecDepth 100000 in
theorem c_X7_told (l : Launch) (dC : Nat → ClassId) (dI : Nat → Nat → Nat) (cI cJ : ClassId) (aM : Nat) (jM : Nat → Nat) (sz : Nat) (uM : OS) (p1 : Int32) (o : OS × Int32) (hm : f_X7_told uM p1 = some o) : Met l yX7_told (wq yX7_told cX7_told 2 (some .int)) ({ frames := 0, cells := 0, slots := 0, locals := 0 } : Room) (va_Pc [.ref aM, .int p1] (pcW dC dI cI cJ sz ([wM cI cJ aM jM uM] : List va_W).flatten)) (va_Qi (S := OS) (fun r u => some (u, r) = some o) (fun (u : OS) t => va_P (dC, dI) vwCl ([wM cI cJ aM jM u] : List va_W).flatten t.heap ∧ va_D (va_A ([wM cI cJ aM jM uM] : List va_W).flatten sz) ([wM cI cJ aM jM u] : List va_W).flatten) (va_A ([wM cI cJ aM jM uM] : List va_W).flatten sz)) 0 0 (va_A ([wM cI cJ aM jM uM] : List va_W).flatten sz) := by
  refine Met.ofW (cc := cX7_told) (maxL := 2) (ret := (some .int)) (by decide) rfl ?_
  intro p e s m args below meth c s₁ B hml hv
  obtain ⟨rfl, hsz, hP, hK, hD0, hN⟩ := hv
  have hx := B.exec
  have hb := B.bytes
  have hr := B.returns
  have ht : ∀ w ∈ lw_good, w.before _ s = true := fun w h => atoms_spec (ws := wq yX7_told cX7_told 2 (some .int)) B.pre w (wq_mem h)
  have hown : s.vm.findClass RX7 = some m.cls := findClass_of_methodNamed B.named
  have hlocks := B.notSynchronized
  subst hsz
  have hD := hD0.self (sz := s.heap.size)
  generalize hAe : va_A ([wM cI cJ aM jM uM] : List va_W).flatten s.heap.size = A at hD ⊢
  have hA : ∀ q : Nat, s.heap.size ≤ q → A q := fun q h => by rw [← hAe]; exact Or.inr h
  have hS : va_S A s.heap s.heap [] := va_S.rf
  have hl := lv_entry ([.ref aM, .int p1]) (n := 2) (Nat.le_of_ble_eq_true rfl)
  rw [lg_entry_eq]
  generalize (lg_sl ([.ref aM, .int p1]) ++ List.replicate (2 - (lg_sl ([.ref aM, .int p1])).length) Slot.unset).toArray = ls at hl ⊢
  have hl : lv_has ls 2 [(0, .ref aM), (1, .int p1)] := hl
  generalize hQ : MQ below _ _ s _ _ _ = Q
  generalize hH : s.heap = H at hP ⊢
  have hS : va_S A s.heap H [] := by rw [← hH]; exact va_S.rf
  show W p l e ({ frames := 0, cells := 0, slots := 0, locals := 0 } : Room) s m ([.ref aM, .int p1] : List Value).toArray below meth c H [] 0 0 Q (F0 m 0 ls [])
  unfold f_X7_told at hm
  refine lv_aload_n hx hb dX7_told_0 rfl (lv_at hl 0 rfl) ?_
  refine lv_iconst (v := (0 : Int32)) hx hb dX7_told_1 (by decide) ?_
  refine va_put (D := (dC, dI)) (ci := 8) (v := .int (0 : Int32)) (ty := .int) (C := RX7) (T := TX7) (N := 34) hx hb ht inX7 tyX7 tyX7_ok nmX7 hown hK hP hD hS 0 rfl rfl 1 (by decide) (ht _ kw_0) (fun _ h9 => h9) rfl (by decide +kernel) rfl rfl (Nat.le_of_ble_eq_true rfl) dX7_told_2 (fun H locs hP hD hS => ?_)
  obtain ⟨u1, eu1, hm⟩ := bnd_ex hm
  have hP : va_P (dC, dI) vwCl ([wM cI cJ aM jM u1] : List va_W).flatten H := by rw [eu1]; exact hP
  have hD : va_D A ([wM cI cJ aM jM u1] : List va_W).flatten := by rw [eu1]; exact hD
  refine lv_iload_n hx hb dX7_told_5 rfl (lv_at hl 1 rfl) ?_
  by_cases c3 : p1 = (0 : Int32)
  · have hm := ite_t c3 hm
    refine lv_tableIn (tgt := 48) hx hb dX7_told_6 (by rw [c3]; decide) (by rw [c3]; decide) (by rw [c3]; rfl) (by decide) ?_
    refine lv_aload_n hx hb dX7_told_48 rfl (lv_at hl 0 rfl) ?_
    refine va_get (D := (dC, dI)) (ci := 8) (v := .int (u1.1 0)) (C := RX7) (T := TX7) (N := 34) hx hb ht inX7 hown hK hP 0 rfl rfl 0 (by decide) (ht _ kw_14) (fun _ h9 => h9) rfl dX7_told_49 ?_
    rw [← hQ]
    exact W.iret (v := (u1.1 0)) hx hb hr (fun t ht1 hW => ⟨⟨_, u1, rfl, hm, by rw [ht1]; exact hP, hD⟩, hS.F ht1⟩) hS.2.2 dX7_told_52
  · have hm := ite_f c3 hm
    by_cases c4 : p1 = (1 : Int32)
    · have hm := ite_t c4 hm
      refine lv_tableIn (tgt := 53) hx hb dX7_told_6 (by rw [c4]; decide) (by rw [c4]; decide) (by rw [c4]; rfl) (by decide) ?_
      refine lv_aload_n hx hb dX7_told_53 rfl (lv_at hl 0 rfl) ?_
      refine va_get (D := (dC, dI)) (ci := 8) (v := .int (u1.1 5)) (C := RX7) (T := TX7) (N := 34) hx hb ht inX7 hown hK hP 0 rfl rfl 5 (by decide) (ht _ kw_1) (fun _ h9 => h9) rfl dX7_told_54 ?_
      rw [← hQ]
      exact W.iret (v := (u1.1 5)) hx hb hr (fun t ht1 hW => ⟨⟨_, u1, rfl, hm, by rw [ht1]; exact hP, hD⟩, hS.F ht1⟩) hS.2.2 dX7_told_57
    · have hm := ite_f c4 hm
      by_cases c5 : p1 = (2 : Int32)
      · have hm := ite_t c5 hm
        refine lv_tableIn (tgt := 58) hx hb dX7_told_6 (by rw [c5]; decide) (by rw [c5]; decide) (by rw [c5]; rfl) (by decide) ?_
        refine lv_aload_n hx hb dX7_told_58 rfl (lv_at hl 0 rfl) ?_
        refine va_get (D := (dC, dI)) (ci := 8) (v := .int (u1.1 15)) (C := RX7) (T := TX7) (N := 34) hx hb ht inX7 hown hK hP 0 rfl rfl 15 (by decide) (ht _ kw_32) (fun _ h9 => h9) rfl dX7_told_59 ?_
        rw [← hQ]
        exact W.iret (v := (u1.1 15)) hx hb hr (fun t ht1 hW => ⟨⟨_, u1, rfl, hm, by rw [ht1]; exact hP, hD⟩, hS.F ht1⟩) hS.2.2 dX7_told_62
      · have hm := ite_f c5 hm
        by_cases c6 : p1 = (3 : Int32)
        · have hm := ite_t c6 hm
          refine lv_tableIn (tgt := 63) hx hb dX7_told_6 (by rw [c6]; decide) (by rw [c6]; decide) (by rw [c6]; rfl) (by decide) ?_
          refine lv_aload_n hx hb dX7_told_63 rfl (lv_at hl 0 rfl) ?_
          refine va_get (D := (dC, dI)) (ci := 8) (v := .int (u1.1 25)) (C := RX7) (T := TX7) (N := 34) hx hb ht inX7 hown hK hP 0 rfl rfl 25 (by decide) (ht _ kw_121) (fun _ h9 => h9) rfl dX7_told_64 ?_
          rw [← hQ]
          exact W.iret (v := (u1.1 25)) hx hb hr (fun t ht1 hW => ⟨⟨_, u1, rfl, hm, by rw [ht1]; exact hP, hD⟩, hS.F ht1⟩) hS.2.2 dX7_told_67
        · have hm := ite_f c6 hm
          by_cases c7 : p1 = (4 : Int32)
          · have hm := ite_t c7 hm
            refine lv_tableIn (tgt := 68) hx hb dX7_told_6 (by rw [c7]; decide) (by rw [c7]; decide) (by rw [c7]; rfl) (by decide) ?_
            refine lv_aload_n hx hb dX7_told_68 rfl (lv_at hl 0 rfl) ?_
            refine va_get (D := (dC, dI)) (ci := 8) (v := .int (u1.1 2)) (C := RX7) (T := TX7) (N := 34) hx hb ht inX7 hown hK hP 0 rfl rfl 2 (by decide) (ht _ kw_28) (fun _ h9 => h9) rfl dX7_told_69 ?_
            rw [← hQ]
            exact W.iret (v := (u1.1 2)) hx hb hr (fun t ht1 hW => ⟨⟨_, u1, rfl, hm, by rw [ht1]; exact hP, hD⟩, hS.F ht1⟩) hS.2.2 dX7_told_72
          · have hm := ite_f c7 hm
            by_cases c8 : p1 = (5 : Int32)
            · have hm := ite_t c8 hm
              refine lv_tableIn (tgt := 73) hx hb dX7_told_6 (by rw [c8]; decide) (by rw [c8]; decide) (by rw [c8]; rfl) (by decide) ?_
              refine lv_aload_n hx hb dX7_told_73 rfl (lv_at hl 0 rfl) ?_
              refine va_get (D := (dC, dI)) (ci := 8) (v := .int (u1.1 3)) (C := RX7) (T := TX7) (N := 34) hx hb ht inX7 hown hK hP 0 rfl rfl 3 (by decide) (ht _ kw_29) (fun _ h9 => h9) rfl dX7_told_74 ?_
              rw [← hQ]
              exact W.iret (v := (u1.1 3)) hx hb hr (fun t ht1 hW => ⟨⟨_, u1, rfl, hm, by rw [ht1]; exact hP, hD⟩, hS.F ht1⟩) hS.2.2 dX7_told_77
            · have hm := ite_f c8 hm
              by_cases c9 : p1 = (6 : Int32)
              · have hm := ite_t c9 hm
                refine lv_tableIn (tgt := 78) hx hb dX7_told_6 (by rw [c9]; decide) (by rw [c9]; decide) (by rw [c9]; rfl) (by decide) ?_
                refine lv_aload_n hx hb dX7_told_78 rfl (lv_at hl 0 rfl) ?_
                refine va_get (D := (dC, dI)) (ci := 8) (v := .int (u1.1 7)) (C := RX7) (T := TX7) (N := 34) hx hb ht inX7 hown hK hP 0 rfl rfl 7 (by decide) (ht _ kw_5) (fun _ h9 => h9) rfl dX7_told_79 ?_
                refine lv_if_eq (tgt := 89) hx hb dX7_told_82 (by decide) (fun c2 => ?_) (fun c2 => ?_)
                · have hm := ite_t c2 hm
                  refine lv_iconst (v := (0 : Int32)) hx hb dX7_told_89 (by decide) ?_
                  rw [← hQ]
                  exact W.iret (v := (0 : Int32)) hx hb hr (fun t ht1 hW => ⟨⟨_, u1, rfl, hm, by rw [ht1]; exact hP, hD⟩, hS.F ht1⟩) hS.2.2 dX7_told_90
                · have hm := ite_f c2 hm
                  refine lv_iconst (v := (1 : Int32)) hx hb dX7_told_85 (by decide) ?_
                  refine lv_goto (tgt := 90) hx hb dX7_told_86 (by decide) ?_
                  rw [← hQ]
                  exact W.iret (v := (1 : Int32)) hx hb hr (fun t ht1 hW => ⟨⟨_, u1, rfl, hm, by rw [ht1]; exact hP, hD⟩, hS.F ht1⟩) hS.2.2 dX7_told_90
              · have hm := ite_f c9 hm
                refine lv_tableOut (tgt := 91) hx hb dX7_told_6 (sw_out 7 (by decide) (fun j hj => by rcases (show j = 0 ∨ j = 1 ∨ j = 2 ∨ j = 3 ∨ j = 4 ∨ j = 5 ∨ j = 6 by omega) with rfl | rfl | rfl | rfl | rfl | rfl | rfl; all_goals (first | exact c3 | exact c4 | exact c5 | exact c6 | exact c7 | exact c8 | exact c9))) (by decide) ?_
                refine lv_iconst (v := (-1 : Int32)) hx hb dX7_told_91 (by decide) ?_
                rw [← hQ]
                exact W.iret (v := (-1 : Int32)) hx hb hr (fun t ht1 hW => ⟨⟨_, u1, rfl, hm, by rw [ht1]; exact hP, hD⟩, hS.F ht1⟩) hS.2.2 dX7_told_92

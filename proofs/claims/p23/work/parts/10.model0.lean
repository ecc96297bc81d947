def f_X7_add (uM : OS) (p1 : Int32) : Option (OS × Int32) :=
  bnd (sF uM 1 (0 : Int32)) fun u1 =>
  if p1 < (0 : Int32) then (
  some (u1, (-1 : Int32))) else (
  if p1 < (32 : Int32) then (
  if (u1.1 5) = (1000 : Int32) then (
  some (u1, (-3 : Int32))) else (
  gdi (u1.1 5) 1000 <|
  bnd (sA u1 4 (u1.1 5) p1) fun u6 =>
  bnd (sF u6 5 ((u6.1 5) + (1 : Int32))) fun u7 =>
  some (u7, (u7.1 5)))) else (
  some (u1, (-1 : Int32))))

set_option maxHeartbeats 4000000 in
set_option maxRecDepth 100000 in
theorem c_X7_add (l : Launch) (dC : Nat → ClassId) (dI : Nat → Nat → Nat) (cI cJ : ClassId) (aM : Nat) (jM : Nat → Nat) (sz : Nat) (uM : OS) (p1 : Int32) (o : OS × Int32) (hm : f_X7_add uM p1 = some o) : Met l yX7_add (wq yX7_add cX7_add 2 (some .int)) ({ frames := 0, cells := 0, slots := 0, locals := 0 } : Room) (va_Pc [.ref aM, .int p1] (pcW dC dI cI cJ sz ([wM cI cJ aM jM uM] : List va_W).flatten)) (va_Qi (S := OS) (fun r u => some (u, r) = some o) (fun (u : OS) t => va_P (dC, dI) vwCl ([wM cI cJ aM jM u] : List va_W).flatten t.heap ∧ va_D (va_A ([wM cI cJ aM jM uM] : List va_W).flatten sz) ([wM cI cJ aM jM u] : List va_W).flatten) (va_A ([wM cI cJ aM jM uM] : List va_W).flatten sz)) 0 0 (va_A ([wM cI cJ aM jM uM] : List va_W).flatten sz) := by
  refine Met.ofW (cc := cX7_add) (maxL := 2) (ret := (some .int)) (by decide) rfl ?_
  intro p e s m args below meth c s₁ B hml hv
  obtain ⟨rfl, hsz, hP, hK, hD0, hN⟩ := hv
  have hx := B.exec
  have hb := B.bytes
  have hr := B.returns
  have ht : ∀ w ∈ lw_good, w.before _ s = true := fun w h => atoms_spec (ws := wq yX7_add cX7_add 2 (some .int)) B.pre w (wq_mem h)
  have hown : s.vm.findClass RX7 = some m.cls := findClass_of_methodNamed B.named
  have hlocks := B.notSynchronized
  subst hsz
  have hD := hD0.self (sz := s.heap.size)
  generalize hAe : va_A ([wM cI cJ aM jM uM] : List va_W).flatten s.heap.size = A at hD ⊢
  have hA : ∀ q : Nat, s.heap.size ≤ q → A q := fun q h => by rw [← hAe]; exact Or.inr h
  have hS : va_S A s.heap s.heap [] := va_S.rf
  have hl := lv_entry ([.ref aM, .int p1]) (n := 2) (Nat.le_of_ble_eq_true rfl)
  rw [lg_entry_eq]
  generalize (lg_sl ([.ref aM, .int p1]) ++ List.replicate (2 - (lg_sl ([.ref aM, .int p1])).length) Slot.unset).toArray = ls at hl ⊢
  have hl : lv_has ls 2 [(0, .ref aM), (1, .int p1)] := hl
  generalize hQ : MQ below _ _ s _ _ _ = Q
  generalize hH : s.heap = H at hP ⊢
  have hS : va_S A s.heap H [] := by rw [← hH]; exact va_S.rf
  show W p l e ({ frames := 0, cells := 0, slots := 0, locals := 0 } : Room) s m ([.ref aM, .int p1] : List Value).toArray below meth c H [] 0 0 Q (F0 m 0 ls [])
  unfold f_X7_add at hm
  refine lv_aload_n hx hb dX7_add_0 rfl (lv_at hl 0 rfl) ?_
  refine lv_iconst (v := (0 : Int32)) hx hb dX7_add_1 (by decide) ?_
  refine va_put (D := (dC, dI)) (ci := 8) (v := .int (0 : Int32)) (ty := .int) (C := RX7) (T := TX7) (N := 34) hx hb ht inX7 tyX7 tyX7_ok nmX7 hown hK hP hD hS 0 rfl rfl 1 (by decide) (ht _ kw_0) (fun _ h9 => h9) rfl (by decide +kernel) rfl rfl (Nat.le_of_ble_eq_true rfl) dX7_add_2 (fun H locs hP hD hS => ?_)
  obtain ⟨u1, eu1, hm⟩ := bnd_ex hm
  have hP : va_P (dC, dI) vwCl ([wM cI cJ aM jM u1] : List va_W).flatten H := by rw [eu1]; exact hP
  have hD : va_D A ([wM cI cJ aM jM u1] : List va_W).flatten := by rw [eu1]; exact hD
  refine lv_iload_n hx hb dX7_add_5 rfl (lv_at hl 1 rfl) ?_
  refine lv_if_lt (tgt := 15) hx hb dX7_add_6 (by decide) (fun c2 => ?_) (fun c2 => ?_)
  · have hm := ite_t c2 hm
    refine lv_iconst (v := (-1 : Int32)) hx hb dX7_add_15 (by decide) ?_
    rw [← hQ]
    exact W.iret (v := (-1 : Int32)) hx hb hr (fun t ht1 hW => ⟨⟨_, u1, rfl, hm, by rw [ht1]; exact hP, hD⟩, hS.F ht1⟩) hS.2.2 dX7_add_16
  · have hm := ite_f c2 hm
    refine lv_iload_n hx hb dX7_add_9 rfl (lv_at hl 1 rfl) ?_
    refine lv_bipush (v := (32 : Int32)) hx hb dX7_add_10 (by decide) ?_
    refine lv_icmp_lt (tgt := 17) hx hb dX7_add_12 (by decide) (fun c3 => ?_) (fun c3 => ?_)
    · have hm := ite_t c3 hm
      refine lv_aload_n hx hb dX7_add_17 rfl (lv_at hl 0 rfl) ?_
      refine va_get (D := (dC, dI)) (ci := 8) (v := .int (u1.1 5)) (C := RX7) (T := TX7) (N := 34) hx hb ht inX7 hown hK hP 0 rfl rfl 5 (by decide) (ht _ kw_1) (fun _ h9 => h9) rfl dX7_add_18 ?_
      refine lv_sipush (v := (1000 : Int32)) hx hb dX7_add_21 (by decide) ?_
      refine lv_icmp_ne (tgt := 30) hx hb dX7_add_24 (by decide) (fun c4 => ?_) (fun c4 => ?_)
      · have hm := ite_f c4 hm
        refine lv_aload_n hx hb dX7_add_30 rfl (lv_at hl 0 rfl) ?_
        refine va_get (D := (dC, dI)) (ci := 8) (v := .ref (jM 4)) (C := RX7) (T := TX7) (N := 34) hx hb ht inX7 hown hK hP 0 rfl rfl 4 (by decide) (ht _ kw_2) (fun _ h9 => h9) rfl dX7_add_31 ?_
        refine lv_aload_n hx hb dX7_add_34 rfl (lv_at hl 0 rfl) ?_
        refine va_get (D := (dC, dI)) (ci := 8) (v := .int (u1.1 5)) (C := RX7) (T := TX7) (N := 34) hx hb ht inX7 hown hK hP 0 rfl rfl 5 (by decide) (ht _ kw_1) (fun _ h9 => h9) rfl dX7_add_35 ?_
        refine lv_iload_n hx hb dX7_add_38 rfl (lv_at hl 1 rfl) ?_
        obtain ⟨g5, hm⟩ := gdi_of hm
        refine va_iast hx hb hK hP hD hS 1 0 rfl rfl g5 dX7_add_39 (fun H locs hP hD hS => ?_)
        obtain ⟨u6, eu6, hm⟩ := bnd_ex hm
        have hP : va_P (dC, dI) vwCl ([wM cI cJ aM jM u6] : List va_W).flatten H := by rw [eu6]; exact hP
        have hD : va_D A ([wM cI cJ aM jM u6] : List va_W).flatten := by rw [eu6]; exact hD
        refine lv_aload_n hx hb dX7_add_40 rfl (lv_at hl 0 rfl) ?_
        refine lv_dup hx hb dX7_add_41 rfl ?_
        refine va_get (D := (dC, dI)) (ci := 8) (v := .int (u6.1 5)) (C := RX7) (T := TX7) (N := 34) hx hb ht inX7 hown hK hP 0 rfl rfl 5 (by decide) (ht _ kw_1) (fun _ h9 => h9) rfl dX7_add_42 ?_
        refine lv_iconst (v := (1 : Int32)) hx hb dX7_add_45 (by decide) ?_
        refine lv_iadd hx hb dX7_add_46 ?_
        refine va_put (D := (dC, dI)) (ci := 8) (v := .int ((u6.1 5) + (1 : Int32))) (ty := .int) (C := RX7) (T := TX7) (N := 34) hx hb ht inX7 tyX7 tyX7_ok nmX7 hown hK hP hD hS 0 rfl rfl 5 (by decide) (ht _ kw_1) (fun _ h9 => h9) rfl (by decide +kernel) rfl rfl (Nat.le_of_ble_eq_true rfl) dX7_add_47 (fun H locs hP hD hS => ?_)
        obtain ⟨u7, eu7, hm⟩ := bnd_ex hm
        have hP : va_P (dC, dI) vwCl ([wM cI cJ aM jM u7] : List va_W).flatten H := by rw [eu7]; exact hP
        have hD : va_D A ([wM cI cJ aM jM u7] : List va_W).flatten := by rw [eu7]; exact hD
        refine lv_aload_n hx hb dX7_add_50 rfl (lv_at hl 0 rfl) ?_
        refine va_get (D := (dC, dI)) (ci := 8) (v := .int (u7.1 5)) (C := RX7) (T := TX7) (N := 34) hx hb ht inX7 hown hK hP 0 rfl rfl 5 (by decide) (ht _ kw_1) (fun _ h9 => h9) rfl dX7_add_51 ?_
        rw [← hQ]
        exact W.iret (v := (u7.1 5)) hx hb hr (fun t ht1 hW => ⟨⟨_, u7, rfl, hm, by rw [ht1]; exact hP, hD⟩, hS.F ht1⟩) hS.2.2 dX7_add_54
      · have hm := ite_t c4 hm
        refine lv_bipush (v := (-3 : Int32)) hx hb dX7_add_27 (by decide) ?_
        rw [← hQ]
        exact W.iret (v := (-3 : Int32)) hx hb hr (fun t ht1 hW => ⟨⟨_, u1, rfl, hm, by rw [ht1]; exact hP, hD⟩, hS.F ht1⟩) hS.2.2 dX7_add_29
    · have hm := ite_f c3 hm
      refine lv_iconst (v := (-1 : Int32)) hx hb dX7_add_15 (by decide) ?_
      rw [← hQ]
      exact W.iret (v := (-1 : Int32)) hx hb hr (fun t ht1 hW => ⟨⟨_, u1, rfl, hm, by rw [ht1]; exact hP, hD⟩, hS.F ht1⟩) hS.2.2 dX7_add_16

def f_X7_clear (uM : OS) : Option (OS × Int32) :=
  bnd (sF uM 1 (0 : Int32)) fun u1 =>
  bnd (u1.1 5) fun x2 =>
  bnd (sF u1 5 (0 : Int32)) fun u3 =>
  some (u3, x2)

set_option maxHeartbeats 4000000 in
set_option maxRecDepth 100000 in
theorem c_X7_clear (l : Launch) (dC : Nat → ClassId) (dI : Nat → Nat → Nat) (cI cJ : ClassId) (aM : Nat) (jM : Nat → Nat) (sz : Nat) (uM : OS) (o : OS × Int32) (hm : f_X7_clear uM = some o) : Met l yX7_clear (wq yX7_clear cX7_clear 2 (some .int)) ({ frames := 0, cells := 0, slots := 0, locals := 0 } : Room) (va_Pc [.ref aM] (pcW dC dI cI cJ sz ([wM cI cJ aM jM uM] : List va_W).flatten)) (va_Qi (S := OS) (fun r u => some (u, r) = some o) (fun (u : OS) t => va_P (dC, dI) vwCl ([wM cI cJ aM jM u] : List va_W).flatten t.heap ∧ va_D (va_A ([wM cI cJ aM jM uM] : List va_W).flatten sz) ([wM cI cJ aM jM u] : List va_W).flatten) (va_A ([wM cI cJ aM jM uM] : List va_W).flatten sz)) 0 0 (va_A ([wM cI cJ aM jM uM] : List va_W).flatten sz) := by
  refine Met.ofW (cc := cX7_clear) (maxL := 2) (ret := (some .int)) (by decide) rfl ?_
  intro p e s m args below meth c s₁ B hml hv
  obtain ⟨rfl, hsz, hP, hK, hD0, hN⟩ := hv
  have hx := B.exec
  have hb := B.bytes
  have hr := B.returns
  have ht : ∀ w ∈ lw_good, w.before _ s = true := fun w h => atoms_spec (ws := wq yX7_clear cX7_clear 2 (some .int)) B.pre w (wq_mem h)
  have hown : s.vm.findClass RX7 = some m.cls := findClass_of_methodNamed B.named
  have hlocks := B.notSynchronized
  subst hsz
  have hD := hD0.self (sz := s.heap.size)
  generalize hAe : va_A ([wM cI cJ aM jM uM] : List va_W).flatten s.heap.size = A at hD ⊢
  have hA : ∀ q : Nat, s.heap.size ≤ q → A q := fun q h => by rw [← hAe]; exact Or.inr h
  have hS : va_S A s.heap s.heap [] := va_S.rf
  have hl := lv_entry ([.ref aM]) (n := 2) (Nat.le_of_ble_eq_true rfl)
  rw [lg_entry_eq]
  generalize (lg_sl ([.ref aM]) ++ List.replicate (2 - (lg_sl ([.ref aM])).length) Slot.unset).toArray = ls at hl ⊢
  have hl : lv_has ls 2 [(0, .ref aM)] := hl
  generalize hQ : MQ below _ _ s _ _ _ = Q
  generalize hH : s.heap = H at hP ⊢
  have hS : va_S A s.heap H [] := by rw [← hH]; exact va_S.rf
  show W p l e ({ frames := 0, cells := 0, slots := 0, locals := 0 } : Room) s m ([.ref aM] : List Value).toArray below meth c H [] 0 0 Q (F0 m 0 ls [])
  unfold f_X7_clear at hm
  refine lv_aload_n hx hb dX7_clear_0 rfl (lv_at hl 0 rfl) ?_
  refine lv_iconst (v := (0 : Int32)) hx hb dX7_clear_1 (by decide) ?_
  refine va_put (D := (dC, dI)) (ci := 8) (v := .int (0 : Int32)) (ty := .int) (C := RX7) (T := TX7) (N := 34) hx hb ht inX7 tyX7 tyX7_ok nmX7 hown hK hP hD hS 0 rfl rfl 1 (by decide) (ht _ kw_0) (fun _ h9 => h9) rfl (by decide +kernel) rfl rfl (Nat.le_of_ble_eq_true rfl) dX7_clear_2 (fun H locs hP hD hS => ?_)
  obtain ⟨u1, eu1, hm⟩ := bnd_ex hm
  have hP : va_P (dC, dI) vwCl ([wM cI cJ aM jM u1] : List va_W).flatten H := by rw [eu1]; exact hP
  have hD : va_D A ([wM cI cJ aM jM u1] : List va_W).flatten := by rw [eu1]; exact hD
  refine lv_aload_n hx hb dX7_clear_5 rfl (lv_at hl 0 rfl) ?_
  refine va_get (D := (dC, dI)) (ci := 8) (v := .int (u1.1 5)) (C := RX7) (T := TX7) (N := 34) hx hb ht inX7 hown hK hP 0 rfl rfl 5 (by decide) (ht _ kw_1) (fun _ h9 => h9) rfl dX7_clear_6 ?_
  refine lv_topi (fun x2 ex2 => ?_)
  have hm := bnd_nm ex2 hm
  refine lv_istore_n (lv' := [(1, .int x2), (0, .ref aM)]) hx hb dX7_clear_9 rfl hl (by decide) rfl (fun ls hl => ?_)
  refine lv_aload_n hx hb dX7_clear_10 rfl (lv_at hl 1 rfl) ?_
  refine lv_iconst (v := (0 : Int32)) hx hb dX7_clear_11 (by decide) ?_
  refine va_put (D := (dC, dI)) (ci := 8) (v := .int (0 : Int32)) (ty := .int) (C := RX7) (T := TX7) (N := 34) hx hb ht inX7 tyX7 tyX7_ok nmX7 hown hK hP hD hS 0 rfl rfl 5 (by decide) (ht _ kw_1) (fun _ h9 => h9) rfl (by decide +kernel) rfl rfl (Nat.le_of_ble_eq_true rfl) dX7_clear_12 (fun H locs hP hD hS => ?_)
  obtain ⟨u3, eu3, hm⟩ := bnd_ex hm
  have hP : va_P (dC, dI) vwCl ([wM cI cJ aM jM u3] : List va_W).flatten H := by rw [eu3]; exact hP
  have hD : va_D A ([wM cI cJ aM jM u3] : List va_W).flatten := by rw [eu3]; exact hD
  refine lv_iload_n hx hb dX7_clear_15 rfl (lv_at hl 0 rfl) ?_
  rw [← hQ]
  exact W.iret (v := x2) hx hb hr (fun t ht1 hW => ⟨⟨_, u3, rfl, hm, by rw [ht1]; exact hP, hD⟩, hS.F ht1⟩) hS.2.2 dX7_clear_16

def f_X7_count (uM : OS) (p1 : Int32) (p2 : Int32) : Option (OS × Int32) :=
  bnd (sF uM 1 (0 : Int32)) fun u1 =>
  if p1 < (0 : Int32) then (
  some (u1, (-1 : Int32))) else (
  if (32 : Int32) ≤ p1 then (
  some (u1, (-1 : Int32))) else (
  if p2 < (0 : Int32) then (
  some (u1, (-1 : Int32))) else (
  if p2 ≤ (1000000 : Int32) then (
  gdi p1 32 <|
  bnd (u1.2.1 6 (p1).toNatClampNeg) fun x7 =>
  gdi p1 32 <|
  bnd (sA u1 6 p1 p2) fun u9 =>
  bnd (sF u9 7 (0 : Int32)) fun u10 =>
  some (u10, x7)) else (
  some (u1, (-1 : Int32))))))

set_option maxHeartbeats 4000000 in
set_option maxRecDepth 100000 in
theorem c_X7_count (l : Launch) (dC : Nat → ClassId) (dI : Nat → Nat → Nat) (cI cJ : ClassId) (aM : Nat) (jM : Nat → Nat) (sz : Nat) (uM : OS) (p1 : Int32) (p2 : Int32) (o : OS × Int32) (hm : f_X7_count uM p1 p2 = some o) : Met l yX7_count (wq yX7_count cX7_count 4 (some .int)) ({ frames := 0, cells := 0, slots := 0, locals := 0 } : Room) (va_Pc [.ref aM, .int p1, .int p2] (pcW dC dI cI cJ sz ([wM cI cJ aM jM uM] : List va_W).flatten)) (va_Qi (S := OS) (fun r u => some (u, r) = some o) (fun (u : OS) t => va_P (dC, dI) vwCl ([wM cI cJ aM jM u] : List va_W).flatten t.heap ∧ va_D (va_A ([wM cI cJ aM jM uM] : List va_W).flatten sz) ([wM cI cJ aM jM u] : List va_W).flatten) (va_A ([wM cI cJ aM jM uM] : List va_W).flatten sz)) 0 0 (va_A ([wM cI cJ aM jM uM] : List va_W).flatten sz) := by
  refine Met.ofW (cc := cX7_count) (maxL := 4) (ret := (some .int)) (by decide) rfl ?_
  intro p e s m args below meth c s₁ B hml hv
  obtain ⟨rfl, hsz, hP, hK, hD0, hN⟩ := hv
  have hx := B.exec
  have hb := B.bytes
  have hr := B.returns
  have ht : ∀ w ∈ lw_good, w.before _ s = true := fun w h => atoms_spec (ws := wq yX7_count cX7_count 4 (some .int)) B.pre w (wq_mem h)
  have hown : s.vm.findClass RX7 = some m.cls := findClass_of_methodNamed B.named
  have hlocks := B.notSynchronized
  subst hsz
  have hD := hD0.self (sz := s.heap.size)
  generalize hAe : va_A ([wM cI cJ aM jM uM] : List va_W).flatten s.heap.size = A at hD ⊢
  have hA : ∀ q : Nat, s.heap.size ≤ q → A q := fun q h => by rw [← hAe]; exact Or.inr h
  have hS : va_S A s.heap s.heap [] := va_S.rf
  have hl := lv_entry ([.ref aM, .int p1, .int p2]) (n := 4) (Nat.le_of_ble_eq_true rfl)
  rw [lg_entry_eq]
  generalize (lg_sl ([.ref aM, .int p1, .int p2]) ++ List.replicate (4 - (lg_sl ([.ref aM, .int p1, .int p2])).length) Slot.unset).toArray = ls at hl ⊢
  have hl : lv_has ls 4 [(0, .ref aM), (1, .int p1), (2, .int p2)] := hl
  generalize hQ : MQ below _ _ s _ _ _ = Q
  generalize hH : s.heap = H at hP ⊢
  have hS : va_S A s.heap H [] := by rw [← hH]; exact va_S.rf
  show W p l e ({ frames := 0, cells := 0, slots := 0, locals := 0 } : Room) s m ([.ref aM, .int p1, .int p2] : List Value).toArray below meth c H [] 0 0 Q (F0 m 0 ls [])
  unfold f_X7_count at hm
  refine lv_aload_n hx hb dX7_count_0 rfl (lv_at hl 0 rfl) ?_
  refine lv_iconst (v := (0 : Int32)) hx hb dX7_count_1 (by decide) ?_
  refine va_put (D := (dC, dI)) (ci := 8) (v := .int (0 : Int32)) (ty := .int) (C := RX7) (T := TX7) (N := 34) hx hb ht inX7 tyX7 tyX7_ok nmX7 hown hK hP hD hS 0 rfl rfl 1 (by decide) (ht _ kw_0) (fun _ h9 => h9) rfl (by decide +kernel) rfl rfl (Nat.le_of_ble_eq_true rfl) dX7_count_2 (fun H locs hP hD hS => ?_)
  obtain ⟨u1, eu1, hm⟩ := bnd_ex hm
  have hP : va_P (dC, dI) vwCl ([wM cI cJ aM jM u1] : List va_W).flatten H := by rw [eu1]; exact hP
  have hD : va_D A ([wM cI cJ aM jM u1] : List va_W).flatten := by rw [eu1]; exact hD
  refine lv_iload_n hx hb dX7_count_5 rfl (lv_at hl 1 rfl) ?_
  refine lv_if_lt (tgt := 25) hx hb dX7_count_6 (by decide) (fun c2 => ?_) (fun c2 => ?_)
  · have hm := ite_t c2 hm
    refine lv_iconst (v := (-1 : Int32)) hx hb dX7_count_25 (by decide) ?_
    rw [← hQ]
    exact W.iret (v := (-1 : Int32)) hx hb hr (fun t ht1 hW => ⟨⟨_, u1, rfl, hm, by rw [ht1]; exact hP, hD⟩, hS.F ht1⟩) hS.2.2 dX7_count_26
  · have hm := ite_f c2 hm
    refine lv_iload_n hx hb dX7_count_9 rfl (lv_at hl 1 rfl) ?_
    refine lv_bipush (v := (32 : Int32)) hx hb dX7_count_10 (by decide) ?_
    refine lv_icmp_ge (tgt := 25) hx hb dX7_count_12 (by decide) (fun c3 => ?_) (fun c3 => ?_)
    · have hm := ite_t c3 hm
      refine lv_iconst (v := (-1 : Int32)) hx hb dX7_count_25 (by decide) ?_
      rw [← hQ]
      exact W.iret (v := (-1 : Int32)) hx hb hr (fun t ht1 hW => ⟨⟨_, u1, rfl, hm, by rw [ht1]; exact hP, hD⟩, hS.F ht1⟩) hS.2.2 dX7_count_26
    · have hm := ite_f c3 hm
      refine lv_iload_n hx hb dX7_count_15 rfl (lv_at hl 2 rfl) ?_
      refine lv_if_lt (tgt := 25) hx hb dX7_count_16 (by decide) (fun c4 => ?_) (fun c4 => ?_)
      · have hm := ite_t c4 hm
        refine lv_iconst (v := (-1 : Int32)) hx hb dX7_count_25 (by decide) ?_
        rw [← hQ]
        exact W.iret (v := (-1 : Int32)) hx hb hr (fun t ht1 hW => ⟨⟨_, u1, rfl, hm, by rw [ht1]; exact hP, hD⟩, hS.F ht1⟩) hS.2.2 dX7_count_26
      · have hm := ite_f c4 hm
        refine lv_iload_n hx hb dX7_count_19 rfl (lv_at hl 2 rfl) ?_
        refine lv_ldc (v := (1000000 : Int32)) hx hb hown (ht _ kw_3) dX7_count_20 ?_
        refine lv_icmp_le (tgt := 27) hx hb dX7_count_22 (by decide) (fun c5 => ?_) (fun c5 => ?_)
        · have hm := ite_t c5 hm
          refine lv_aload_n hx hb dX7_count_27 rfl (lv_at hl 0 rfl) ?_
          refine va_get (D := (dC, dI)) (ci := 8) (v := .ref (jM 6)) (C := RX7) (T := TX7) (N := 34) hx hb ht inX7 hown hK hP 0 rfl rfl 6 (by decide) (ht _ kw_4) (fun _ h9 => h9) rfl dX7_count_28 ?_
          refine lv_iload_n hx hb dX7_count_31 rfl (lv_at hl 1 rfl) ?_
          obtain ⟨g6, hm⟩ := gdi_of hm
          refine va_iald hx hb hK hP 2 0 rfl rfl g6 dX7_count_32 ?_
          refine lv_topi (fun x7 ex7 => ?_)
          have hm := bnd_nm ex7 hm
          refine lv_istore_n (lv' := [(3, .int x7), (0, .ref aM), (1, .int p1), (2, .int p2)]) hx hb dX7_count_33 rfl hl (by decide) rfl (fun ls hl => ?_)
          refine lv_aload_n hx hb dX7_count_34 rfl (lv_at hl 1 rfl) ?_
          refine va_get (D := (dC, dI)) (ci := 8) (v := .ref (jM 6)) (C := RX7) (T := TX7) (N := 34) hx hb ht inX7 hown hK hP 0 rfl rfl 6 (by decide) (ht _ kw_4) (fun _ h9 => h9) rfl dX7_count_35 ?_
          refine lv_iload_n hx hb dX7_count_38 rfl (lv_at hl 2 rfl) ?_
          refine lv_iload_n hx hb dX7_count_39 rfl (lv_at hl 3 rfl) ?_
          obtain ⟨g8, hm⟩ := gdi_of hm
          refine va_iast hx hb hK hP hD hS 2 0 rfl rfl g8 dX7_count_40 (fun H locs hP hD hS => ?_)
          obtain ⟨u9, eu9, hm⟩ := bnd_ex hm
          have hP : va_P (dC, dI) vwCl ([wM cI cJ aM jM u9] : List va_W).flatten H := by rw [eu9]; exact hP
          have hD : va_D A ([wM cI cJ aM jM u9] : List va_W).flatten := by rw [eu9]; exact hD
          refine lv_aload_n hx hb dX7_count_41 rfl (lv_at hl 1 rfl) ?_
          refine lv_iconst (v := (0 : Int32)) hx hb dX7_count_42 (by decide) ?_
          refine va_put (D := (dC, dI)) (ci := 8) (v := .int (0 : Int32)) (ty := .boolean) (C := RX7) (T := TX7) (N := 34) hx hb ht inX7 tyX7 tyX7_ok nmX7 hown hK hP hD hS 0 rfl rfl 7 (by decide) (ht _ kw_5) (fun _ h9 => h9) rfl (by decide +kernel) rfl rfl (Nat.le_of_ble_eq_true rfl) dX7_count_43 (fun H locs hP hD hS => ?_)
          obtain ⟨u10, eu10, hm⟩ := bnd_ex hm
          have hP : va_P (dC, dI) vwCl ([wM cI cJ aM jM u10] : List va_W).flatten H := by rw [eu10]; exact hP
          have hD : va_D A ([wM cI cJ aM jM u10] : List va_W).flatten := by rw [eu10]; exact hD
          refine lv_iload_n hx hb dX7_count_46 rfl (lv_at hl 0 rfl) ?_
          rw [← hQ]
          exact W.iret (v := x7) hx hb hr (fun t ht1 hW => ⟨⟨_, u10, rfl, hm, by rw [ht1]; exact hP, hD⟩, hS.F ht1⟩) hS.2.2 dX7_count_47
        · have hm := ite_f c5 hm
          refine lv_iconst (v := (-1 : Int32)) hx hb dX7_count_25 (by decide) ?_
          rw [← hQ]
          exact W.iret (v := (-1 : Int32)) hx hb hr (fun t ht1 hW => ⟨⟨_, u1, rfl, hm, by rw [ht1]; exact hP, hD⟩, hS.F ht1⟩) hS.2.2 dX7_count_26

def f_X7_signsCounted_L4 (uM : OS) : Nat → (Int32 → Int32 → Option (Int32)) → Int32 → Int32 → Option (Int32)
  | 0, _, _, _ => none
  | n4 + 1, K33_5, x1, x2 =>
    if (32 : Int32) ≤ x1 then (
    K33_5 x2 x1) else (
    gdi x1 32 <|
    if (uM.2.1 6 (x1).toNatClampNeg) ≤ (0 : Int32) then (
    bnd (x2 + (0 : Int32)) fun x9 =>
    bnd (x1 + (1 : Int32)) fun x10 =>
    f_X7_signsCounted_L4 uM n4 K33_5 x10 x9) else (
    bnd (x2 + (1 : Int32)) fun x11 =>
    bnd (x1 + (1 : Int32)) fun x12 =>
    f_X7_signsCounted_L4 uM n4 K33_5 x12 x11))

def f_X7_signsCounted (uM : OS) : Option (Int32) :=
  bnd (fun (x3 : Int32) (x4 : Int32) =>
  some x3) fun K33_5 =>
  f_X7_signsCounted_L4 uM FU K33_5 (0 : Int32) (0 : Int32)

set_option maxHeartbeats 4000000 in
set_option maxRecDepth 100000 in
theorem c_X7_signsCounted (l : Launch) (dC : Nat → ClassId) (dI : Nat → Nat → Nat) (cI cJ : ClassId) (aM : Nat) (jM : Nat → Nat) (sz : Nat) (uM : OS) (o : Int32) (hm : f_X7_signsCounted uM = some o) : Met l yX7_signsCounted (wq yX7_signsCounted cX7_signsCounted 3 (some .int)) ({ frames := 0, cells := 0, slots := 0, locals := 0 } : Room) (va_Pc [.ref aM] (pcW dC dI cI cJ sz ([wM cI cJ aM jM uM] : List va_W).flatten)) (va_Qi (S := Unit) (fun r u => some r = some o) (fun (u : Unit) t => va_P (dC, dI) vwCl ([wM cI cJ aM jM uM] : List va_W).flatten t.heap ∧ va_D (va_A ([wM cI cJ aM jM uM] : List va_W).flatten sz) ([wM cI cJ aM jM uM] : List va_W).flatten) (va_A ([wM cI cJ aM jM uM] : List va_W).flatten sz)) 0 0 (va_A ([wM cI cJ aM jM uM] : List va_W).flatten sz) := by
  refine Met.ofW (cc := cX7_signsCounted) (maxL := 3) (ret := (some .int)) (by decide) rfl ?_
  intro p e s m args below meth c s₁ B hml hv
  obtain ⟨rfl, hsz, hP, hK, hD0, hN⟩ := hv
  have hx := B.exec
  have hb := B.bytes
  have hr := B.returns
  have ht : ∀ w ∈ lw_good, w.before _ s = true := fun w h => atoms_spec (ws := wq yX7_signsCounted cX7_signsCounted 3 (some .int)) B.pre w (wq_mem h)
  have hown : s.vm.findClass RX7 = some m.cls := findClass_of_methodNamed B.named
  have hlocks := B.notSynchronized
  subst hsz
  have hD := hD0.self (sz := s.heap.size)
  generalize hAe : va_A ([wM cI cJ aM jM uM] : List va_W).flatten s.heap.size = A at hD ⊢
  have hA : ∀ q : Nat, s.heap.size ≤ q → A q := fun q h => by rw [← hAe]; exact Or.inr h
  have hS : va_S A s.heap s.heap [] := va_S.rf
  have hl := lv_entry ([.ref aM]) (n := 3) (Nat.le_of_ble_eq_true rfl)
  rw [lg_entry_eq]
  generalize (lg_sl ([.ref aM]) ++ List.replicate (3 - (lg_sl ([.ref aM])).length) Slot.unset).toArray = ls at hl ⊢
  have hl : lv_has ls 3 [(0, .ref aM)] := hl
  generalize hQ : MQ below _ _ s _ _ _ = Q
  generalize hH : s.heap = H at hP ⊢
  have hS : va_S A s.heap H [] := by rw [← hH]; exact va_S.rf
  show W p l e ({ frames := 0, cells := 0, slots := 0, locals := 0 } : Room) s m ([.ref aM] : List Value).toArray below meth c H [] 0 0 Q (F0 m 0 ls [])
  unfold f_X7_signsCounted at hm
  refine lv_iconst (v := (0 : Int32)) hx hb dX7_signsCounted_0 (by decide) ?_
  refine lv_istore_n (lv' := [(1, .int (0 : Int32)), (0, .ref aM)]) hx hb dX7_signsCounted_1 rfl hl (by decide) rfl (fun ls hl => ?_)
  refine lv_iconst (v := (0 : Int32)) hx hb dX7_signsCounted_2 (by decide) ?_
  refine lv_istore_n (lv' := [(2, .int (0 : Int32)), (1, .int (0 : Int32)), (0, .ref aM)]) hx hb dX7_signsCounted_3 rfl hl (by decide) rfl (fun ls hl => ?_)
  obtain ⟨K33_5, eK33_5, hm⟩ := bnd_ex hm
  have X33_5 : ∀ (x3 : Int32) (x4 : Int32) (H : Heap) (locs : List Loc) (ls : Array Slot), K33_5 x3 x4 = some o → va_P (dC, dI) vwCl ([wM cI cJ aM jM uM] : List va_W).flatten H → va_D A ([wM cI cJ aM jM uM] : List va_W).flatten → va_S A s.heap H locs → lv_has ls 3 [(0, .ref aM), (1, .int x3), (2, .int x4)] → W p l e ({ frames := 0, cells := 0, slots := 0, locals := 0 } : Room) s m ([.ref aM] : List Value).toArray below meth c H locs 0 0 Q (F0 m 33 ls []) := by
    intro x3 x4 H locs ls hm hP hD hS hl
    have hm := ap2 eK33_5 hm
    refine lv_iload_n hx hb dX7_signsCounted_33 rfl (lv_at hl 1 rfl) ?_
    rw [← hQ]
    exact W.iret (v := x3) hx hb hr (fun t ht1 hW => ⟨⟨_, (), rfl, hm, by rw [ht1]; exact hP, hD⟩, hS.F ht1⟩) hS.2.2 dX7_signsCounted_34
  have LP4 : ∀ (n4 : Nat) (x1 : Int32) (x2 : Int32) (H : Heap) (locs : List Loc) (ls : Array Slot), f_X7_signsCounted_L4 uM n4 K33_5 x1 x2 = some o → va_P (dC, dI) vwCl ([wM cI cJ aM jM uM] : List va_W).flatten H → va_D A ([wM cI cJ aM jM uM] : List va_W).flatten → va_S A s.heap H locs → lv_has ls 3 [(0, .ref aM), (1, .int x2), (2, .int x1)] → W p l e ({ frames := 0, cells := 0, slots := 0, locals := 0 } : Room) s m ([.ref aM] : List Value).toArray below meth c H locs 0 0 Q (F0 m 4 ls []) := by
    intro n4
    induction n4 with
    | zero => intro x1 x2 H locs ls hm; exact nomatch (show (none : Option _) = some _ from hm)
    | succ n4 ih4 =>
      intro x1 x2 H locs ls hm hP hD hS hl
      unfold f_X7_signsCounted_L4 at hm
      refine lv_iload_n hx hb dX7_signsCounted_4 rfl (lv_at hl 2 rfl) ?_
      refine lv_bipush (v := (32 : Int32)) hx hb dX7_signsCounted_5 (by decide) ?_
      refine lv_icmp_ge (tgt := 33) hx hb dX7_signsCounted_7 (by decide) (fun c6 => ?_) (fun c6 => ?_)
      · have hm := ite_t c6 hm
        exact X33_5 x2 x1 _ _ _ hm hP hD hS (lv_sub hl [0, 1, 2] rfl)
      · have hm := ite_f c6 hm
        refine lv_iload_n hx hb dX7_signsCounted_10 rfl (lv_at hl 1 rfl) ?_
        refine lv_aload_n hx hb dX7_signsCounted_11 rfl (lv_at hl 0 rfl) ?_
        refine va_get (D := (dC, dI)) (ci := 8) (v := .ref (jM 6)) (C := RX7) (T := TX7) (N := 34) hx hb ht inX7 hown hK hP 0 rfl rfl 6 (by decide) (ht _ kw_4) (fun _ h9 => h9) rfl dX7_signsCounted_12 ?_
        refine lv_iload_n hx hb dX7_signsCounted_15 rfl (lv_at hl 2 rfl) ?_
        obtain ⟨g7, hm⟩ := gdi_of hm
        refine va_iald hx hb hK hP 2 0 rfl rfl g7 dX7_signsCounted_16 ?_
        refine lv_if_le (tgt := 24) hx hb dX7_signsCounted_17 (by decide) (fun c8 => ?_) (fun c8 => ?_)
        · have hm := ite_t c8 hm
          refine lv_iconst (v := (0 : Int32)) hx hb dX7_signsCounted_24 (by decide) ?_
          refine lv_iadd hx hb dX7_signsCounted_25 ?_
          refine lv_topi (fun x9 ex9 => ?_)
          have hm := bnd_nm ex9 hm
          refine lv_istore_n (lv' := [(1, .int x9), (0, .ref aM), (2, .int x1)]) hx hb dX7_signsCounted_26 rfl hl (by decide) rfl (fun ls hl => ?_)
          obtain ⟨x10, ex10, hm⟩ := bnd_ex hm
          refine lv_iinc (v := x10) (lv' := [(2, .int x10), (1, .int x9), (0, .ref aM)]) hx hb dX7_signsCounted_27 hl (k := 2) rfl (by rw [ex10]; exact congrArg _ (by decide)) (by decide) rfl (fun ls hl => ?_)
          refine lv_goto (tgt := 4) hx hb dX7_signsCounted_30 (by decide) ?_
          exact ih4 x10 x9 _ _ _ hm hP hD hS (lv_sub hl [2, 1, 0] rfl)
        · have hm := ite_f c8 hm
          refine lv_iconst (v := (1 : Int32)) hx hb dX7_signsCounted_20 (by decide) ?_
          refine lv_goto (tgt := 25) hx hb dX7_signsCounted_21 (by decide) ?_
          refine lv_iadd hx hb dX7_signsCounted_25 ?_
          refine lv_topi (fun x11 ex11 => ?_)
          have hm := bnd_nm ex11 hm
          refine lv_istore_n (lv' := [(1, .int x11), (0, .ref aM), (2, .int x1)]) hx hb dX7_signsCounted_26 rfl hl (by decide) rfl (fun ls hl => ?_)
          obtain ⟨x12, ex12, hm⟩ := bnd_ex hm
          refine lv_iinc (v := x12) (lv' := [(2, .int x12), (1, .int x11), (0, .ref aM)]) hx hb dX7_signsCounted_27 hl (k := 2) rfl (by rw [ex12]; exact congrArg _ (by decide)) (by decide) rfl (fun ls hl => ?_)
          refine lv_goto (tgt := 4) hx hb dX7_signsCounted_30 (by decide) ?_
          exact ih4 x12 x11 _ _ _ hm hP hD hS (lv_sub hl [2, 1, 0] rfl)
  exact LP4 FU (0 : Int32) (0 : Int32) _ _ _ hm hP hD hS (lv_sub hl [2, 1, 0] rfl)

def f_X7_counts_L28 : Nat → (Int32 → OS → Option (OS × Int32)) → Int32 → OS → Option (OS × Int32)
  | 0, _, _, _ => none
  | n28 + 1, K57_11, x7, u8 =>
    if (u8.1 5) ≤ x7 then (
    K57_11 x7 u8) else (
    gdi x7 1000 <|
    gdi (u8.2.1 4 (x7).toNatClampNeg) 32 <|
    gdi (u8.2.1 4 (x7).toNatClampNeg) 32 <|
    bnd (sA u8 6 (u8.2.1 4 (x7).toNatClampNeg) ((u8.2.1 6 ((u8.2.1 4 (x7).toNatClampNeg)).toNatClampNeg) + (1 : Int32))) fun u19 =>
    bnd (x7 + (1 : Int32)) fun x20 =>
    f_X7_counts_L28 n28 K57_11 x20 u19)

def f_X7_counts_L7 : Nat → (Int32 → OS → Option (OS × Int32)) → Int32 → OS → Option (OS × Int32)
  | 0, _, _, _ => none
  | n7 + 1, K26_6, x2, u3 =>
    if (32 : Int32) ≤ x2 then (
    K26_6 x2 u3) else (
    gdi x2 32 <|
    bnd (sA u3 6 x2 (0 : Int32)) fun u23 =>
    bnd (x2 + (1 : Int32)) fun x24 =>
    f_X7_counts_L7 n7 K26_6 x24 u23)

def f_X7_counts (uM : OS) : Option (OS × Int32) :=
  bnd (sF uM 1 (0 : Int32)) fun u1 =>
  bnd (fun (x4 : Int32) (u5 : OS) =>
  bnd (fun (x9 : Int32) (u10 : OS) =>
  bnd (sF u10 7 (0 : Int32)) fun u12 =>
  oC1 (f_X7_signsCounted u12) fun r13 =>
  some (u12, r13)) fun K57_11 =>
  f_X7_counts_L28 FU K57_11 (0 : Int32) u5) fun K26_6 =>
  f_X7_counts_L7 FU K26_6 (0 : Int32) u1

set_option maxHeartbeats 4000000 in
set_option maxRecDepth 100000 in
theorem c_X7_counts (l : Launch) (dC : Nat → ClassId) (dI : Nat → Nat → Nat) (cI cJ : ClassId) (aM : Nat) (jM : Nat → Nat) (sz : Nat) (uM : OS) (o : OS × Int32) (hm : f_X7_counts uM = some o) : Met l yX7_counts (wq yX7_counts cX7_counts 2 (some .int)) ({ frames := 1, cells := 0, slots := 0, locals := 22 } : Room) (va_Pc [.ref aM] (pcW dC dI cI cJ sz ([wM cI cJ aM jM uM] : List va_W).flatten)) (va_Qi (S := OS) (fun r u => some (u, r) = some o) (fun (u : OS) t => va_P (dC, dI) vwCl ([wM cI cJ aM jM u] : List va_W).flatten t.heap ∧ va_D (va_A ([wM cI cJ aM jM uM] : List va_W).flatten sz) ([wM cI cJ aM jM u] : List va_W).flatten) (va_A ([wM cI cJ aM jM uM] : List va_W).flatten sz)) 0 0 (va_A ([wM cI cJ aM jM uM] : List va_W).flatten sz) := by
  refine Met.ofW (cc := cX7_counts) (maxL := 2) (ret := (some .int)) (by decide) rfl ?_
  intro p e s m args below meth c s₁ B hml hv
  obtain ⟨rfl, hsz, hP, hK, hD0, hN⟩ := hv
  have hx := B.exec
  have hb := B.bytes
  have hr := B.returns
  have ht : ∀ w ∈ lw_good, w.before _ s = true := fun w h => atoms_spec (ws := wq yX7_counts cX7_counts 2 (some .int)) B.pre w (wq_mem h)
  have hown : s.vm.findClass RX7 = some m.cls := findClass_of_methodNamed B.named
  have hlocks := B.notSynchronized
  subst hsz
  have hD := hD0.self (sz := s.heap.size)
  generalize hAe : va_A ([wM cI cJ aM jM uM] : List va_W).flatten s.heap.size = A at hD ⊢
  have hA : ∀ q : Nat, s.heap.size ≤ q → A q := fun q h => by rw [← hAe]; exact Or.inr h
  have hS : va_S A s.heap s.heap [] := va_S.rf
  have hl := lv_entry ([.ref aM]) (n := 2) (Nat.le_of_ble_eq_true rfl)
  rw [lg_entry_eq]
  generalize (lg_sl ([.ref aM]) ++ List.replicate (2 - (lg_sl ([.ref aM])).length) Slot.unset).toArray = ls at hl ⊢
  have hl : lv_has ls 2 [(0, .ref aM)] := hl
  generalize hQ : MQ below _ _ s _ _ _ = Q
  generalize hH : s.heap = H at hP ⊢
  have hS : va_S A s.heap H [] := by rw [← hH]; exact va_S.rf
  show W p l e ({ frames := 1, cells := 0, slots := 0, locals := 22 } : Room) s m ([.ref aM] : List Value).toArray below meth c H [] 0 0 Q (F0 m 0 ls [])
  unfold f_X7_counts at hm
  refine lv_aload_n hx hb dX7_counts_0 rfl (lv_at hl 0 rfl) ?_
  refine lv_iconst (v := (0 : Int32)) hx hb dX7_counts_1 (by decide) ?_
  refine va_put (D := (dC, dI)) (ci := 8) (v := .int (0 : Int32)) (ty := .int) (C := RX7) (T := TX7) (N := 34) hx hb ht inX7 tyX7 tyX7_ok nmX7 hown hK hP hD hS 0 rfl rfl 1 (by decide) (ht _ kw_0) (fun _ h9 => h9) rfl (by decide +kernel) rfl rfl (Nat.le_of_ble_eq_true rfl) dX7_counts_2 (fun H locs hP hD hS => ?_)
  obtain ⟨u1, eu1, hm⟩ := bnd_ex hm
  have hP : va_P (dC, dI) vwCl ([wM cI cJ aM jM u1] : List va_W).flatten H := by rw [eu1]; exact hP
  have hD : va_D A ([wM cI cJ aM jM u1] : List va_W).flatten := by rw [eu1]; exact hD
  refine lv_iconst (v := (0 : Int32)) hx hb dX7_counts_5 (by decide) ?_
  refine lv_istore_n (lv' := [(1, .int (0 : Int32)), (0, .ref aM)]) hx hb dX7_counts_6 rfl hl (by decide) rfl (fun ls hl => ?_)
  obtain ⟨K26_6, eK26_6, hm⟩ := bnd_ex hm
  have X26_6 : ∀ (x4 : Int32) (u5 : OS) (H : Heap) (locs : List Loc) (ls : Array Slot), K26_6 x4 u5 = some o → va_P (dC, dI) vwCl ([wM cI cJ aM jM u5] : List va_W).flatten H → va_D A ([wM cI cJ aM jM u5] : List va_W).flatten → va_S A s.heap H locs → lv_has ls 2 [(0, .ref aM), (1, .int x4)] → W p l e ({ frames := 1, cells := 0, slots := 0, locals := 22 } : Room) s m ([.ref aM] : List Value).toArray below meth c H locs 0 0 Q (F0 m 26 ls []) := by
    intro x4 u5 H locs ls hm hP hD hS hl
    have hm := ap2 eK26_6 hm
    refine lv_iconst (v := (0 : Int32)) hx hb dX7_counts_26 (by decide) ?_
    refine lv_istore_n (lv' := [(1, .int (0 : Int32)), (0, .ref aM)]) hx hb dX7_counts_27 rfl hl (by decide) rfl (fun ls hl => ?_)
    obtain ⟨K57_11, eK57_11, hm⟩ := bnd_ex hm
    have X57_11 : ∀ (x9 : Int32) (u10 : OS) (H : Heap) (locs : List Loc) (ls : Array Slot), K57_11 x9 u10 = some o → va_P (dC, dI) vwCl ([wM cI cJ aM jM u10] : List va_W).flatten H → va_D A ([wM cI cJ aM jM u10] : List va_W).flatten → va_S A s.heap H locs → lv_has ls 2 [(0, .ref aM), (1, .int x9)] → W p l e ({ frames := 1, cells := 0, slots := 0, locals := 22 } : Room) s m ([.ref aM] : List Value).toArray below meth c H locs 0 0 Q (F0 m 57 ls []) := by
      intro x9 u10 H locs ls hm hP hD hS hl
      have hm := ap2 eK57_11 hm
      refine lv_aload_n hx hb dX7_counts_57 rfl (lv_at hl 0 rfl) ?_
      refine lv_iconst (v := (0 : Int32)) hx hb dX7_counts_58 (by decide) ?_
      refine va_put (D := (dC, dI)) (ci := 8) (v := .int (0 : Int32)) (ty := .boolean) (C := RX7) (T := TX7) (N := 34) hx hb ht inX7 tyX7 tyX7_ok nmX7 hown hK hP hD hS 0 rfl rfl 7 (by decide) (ht _ kw_5) (fun _ h9 => h9) rfl (by decide +kernel) rfl rfl (Nat.le_of_ble_eq_true rfl) dX7_counts_59 (fun H locs hP hD hS => ?_)
      obtain ⟨u12, eu12, hm⟩ := bnd_ex hm
      have hP : va_P (dC, dI) vwCl ([wM cI cJ aM jM u12] : List va_W).flatten H := by rw [eu12]; exact hP
      have hD : va_D A ([wM cI cJ aM jM u12] : List va_W).flatten := by rw [eu12]; exact hD
      refine lv_aload_n hx hb dX7_counts_62 rfl (lv_at hl 0 rfl) ?_
      have hPc : va_P (dC, dI) vwCl ([wM cI cJ aM jM u12] : List va_W).flatten _ := hP
      have hDc : va_D A ([wM cI cJ aM jM u12] : List va_W).flatten := hD
      have hFc := va_freeF (fc := ([wM cI cJ aM jM u12] : List va_W)) hD hS hA [0] rfl
      obtain ⟨r13o, e14, hm⟩ := oC1_of hm
      refine va_calli (va_runV (As := []) (rest := []) ⟨hx, hb, hml, hown, ht⟩ (c_X7_signsCounted l dC dI cI cJ aM jM H.size u12 r13o e14) (cwV 0 ht (gdV kw_10 kw_8 kw_9 kw_7 kw_6) rfl rfl rfl ⟨rfl, nd_X7_signsCounted⟩ ⟨Nat.le_of_ble_eq_true rfl, Nat.le_of_ble_eq_true rfl⟩) ⟨pcW_blind, va_recv hK hPc (ci := 8) (q0 := 0) rfl rfl, pcW_pre hPc hK hDc hN⟩ rfl rfl hl.1 rfl (lv_room (Nat.le_of_ble_eq_true rfl)) dX7_counts_63 ⟨Nat.zero_le _, Nat.zero_le _⟩) hS (fun q _ z => hFc q z) hFc (fun r13 uu t H1 locs ht1 hvm hw hB hz1 hk1 hS => ?_)
      obtain ⟨⟩ := uu
      obtain ⟨hP1, hD1⟩ := hB
      rw [ht1] at hP1
      obtain rfl : r13 = r13o := Option.some.inj hw
      have hP : va_P (dC, dI) vwCl ([wM cI cJ aM jM u12] : List va_W).flatten H1 := hP1
      have hD : va_D A ([wM cI cJ aM jM u12] : List va_W).flatten := hD1.weaken (fun _ q _ z => hFc q.1 z)
      generalize H1 = H at hP hS ⊢
      rw [← hQ]
      exact W.iret (v := r13) hx hb hr (fun t ht1 hW => ⟨⟨_, u12, rfl, hm, by rw [ht1]; exact hP, hD⟩, hS.F ht1⟩) hS.2.2 dX7_counts_66
    have LP28 : ∀ (n28 : Nat) (x7 : Int32) (u8 : OS) (H : Heap) (locs : List Loc) (ls : Array Slot), f_X7_counts_L28 n28 K57_11 x7 u8 = some o → va_P (dC, dI) vwCl ([wM cI cJ aM jM u8] : List va_W).flatten H → va_D A ([wM cI cJ aM jM u8] : List va_W).flatten → va_S A s.heap H locs → lv_has ls 2 [(0, .ref aM), (1, .int x7)] → W p l e ({ frames := 1, cells := 0, slots := 0, locals := 22 } : Room) s m ([.ref aM] : List Value).toArray below meth c H locs 0 0 Q (F0 m 28 ls []) := by
      intro n28
      induction n28 with
      | zero => intro x7 u8 H locs ls hm; exact nomatch (show (none : Option _) = some _ from hm)
      | succ n28 ih28 =>
        intro x7 u8 H locs ls hm hP hD hS hl
        unfold f_X7_counts_L28 at hm
        refine lv_iload_n hx hb dX7_counts_28 rfl (lv_at hl 1 rfl) ?_
        refine lv_aload_n hx hb dX7_counts_29 rfl (lv_at hl 0 rfl) ?_
        refine va_get (D := (dC, dI)) (ci := 8) (v := .int (u8.1 5)) (C := RX7) (T := TX7) (N := 34) hx hb ht inX7 hown hK hP 0 rfl rfl 5 (by decide) (ht _ kw_1) (fun _ h9 => h9) rfl dX7_counts_30 ?_
        refine lv_icmp_ge (tgt := 57) hx hb dX7_counts_33 (by decide) (fun c15 => ?_) (fun c15 => ?_)
        · have hm := ite_t c15 hm
          exact X57_11 x7 u8 _ _ _ hm hP hD hS (lv_sub hl [0, 1] rfl)
        · have hm := ite_f c15 hm
          refine lv_aload_n hx hb dX7_counts_36 rfl (lv_at hl 0 rfl) ?_
          refine va_get (D := (dC, dI)) (ci := 8) (v := .ref (jM 6)) (C := RX7) (T := TX7) (N := 34) hx hb ht inX7 hown hK hP 0 rfl rfl 6 (by decide) (ht _ kw_4) (fun _ h9 => h9) rfl dX7_counts_37 ?_
          refine lv_aload_n hx hb dX7_counts_40 rfl (lv_at hl 0 rfl) ?_
          refine va_get (D := (dC, dI)) (ci := 8) (v := .ref (jM 4)) (C := RX7) (T := TX7) (N := 34) hx hb ht inX7 hown hK hP 0 rfl rfl 4 (by decide) (ht _ kw_2) (fun _ h9 => h9) rfl dX7_counts_41 ?_
          refine lv_iload_n hx hb dX7_counts_44 rfl (lv_at hl 1 rfl) ?_
          obtain ⟨g16, hm⟩ := gdi_of hm
          refine va_iald hx hb hK hP 1 0 rfl rfl g16 dX7_counts_45 ?_
          refine lv_dup2_11 hx hb dX7_counts_46 rfl rfl ?_
          obtain ⟨g17, hm⟩ := gdi_of hm
          refine va_iald hx hb hK hP 2 0 rfl rfl g17 dX7_counts_47 ?_
          refine lv_iconst (v := (1 : Int32)) hx hb dX7_counts_48 (by decide) ?_
          refine lv_iadd hx hb dX7_counts_49 ?_
          obtain ⟨g18, hm⟩ := gdi_of hm
          refine va_iast hx hb hK hP hD hS 2 0 rfl rfl g18 dX7_counts_50 (fun H locs hP hD hS => ?_)
          obtain ⟨u19, eu19, hm⟩ := bnd_ex hm
          have hP : va_P (dC, dI) vwCl ([wM cI cJ aM jM u19] : List va_W).flatten H := by rw [eu19]; exact hP
          have hD : va_D A ([wM cI cJ aM jM u19] : List va_W).flatten := by rw [eu19]; exact hD
          obtain ⟨x20, ex20, hm⟩ := bnd_ex hm
          refine lv_iinc (v := x20) (lv' := [(1, .int x20), (0, .ref aM)]) hx hb dX7_counts_51 hl (k := 1) rfl (by rw [ex20]; exact congrArg _ (by decide)) (by decide) rfl (fun ls hl => ?_)
          refine lv_goto (tgt := 28) hx hb dX7_counts_54 (by decide) ?_
          exact ih28 x20 u19 _ _ _ hm hP hD hS (lv_sub hl [1, 0] rfl)
    exact LP28 FU (0 : Int32) u5 _ _ _ hm hP hD hS (lv_sub hl [1, 0] rfl)
  have LP7 : ∀ (n7 : Nat) (x2 : Int32) (u3 : OS) (H : Heap) (locs : List Loc) (ls : Array Slot), f_X7_counts_L7 n7 K26_6 x2 u3 = some o → va_P (dC, dI) vwCl ([wM cI cJ aM jM u3] : List va_W).flatten H → va_D A ([wM cI cJ aM jM u3] : List va_W).flatten → va_S A s.heap H locs → lv_has ls 2 [(0, .ref aM), (1, .int x2)] → W p l e ({ frames := 1, cells := 0, slots := 0, locals := 22 } : Room) s m ([.ref aM] : List Value).toArray below meth c H locs 0 0 Q (F0 m 7 ls []) := by
    intro n7
    induction n7 with
    | zero => intro x2 u3 H locs ls hm; exact nomatch (show (none : Option _) = some _ from hm)
    | succ n7 ih7 =>
      intro x2 u3 H locs ls hm hP hD hS hl
      unfold f_X7_counts_L7 at hm
      refine lv_iload_n hx hb dX7_counts_7 rfl (lv_at hl 1 rfl) ?_
      refine lv_bipush (v := (32 : Int32)) hx hb dX7_counts_8 (by decide) ?_
      refine lv_icmp_ge (tgt := 26) hx hb dX7_counts_10 (by decide) (fun c21 => ?_) (fun c21 => ?_)
      · have hm := ite_t c21 hm
        exact X26_6 x2 u3 _ _ _ hm hP hD hS (lv_sub hl [0, 1] rfl)
      · have hm := ite_f c21 hm
        refine lv_aload_n hx hb dX7_counts_13 rfl (lv_at hl 0 rfl) ?_
        refine va_get (D := (dC, dI)) (ci := 8) (v := .ref (jM 6)) (C := RX7) (T := TX7) (N := 34) hx hb ht inX7 hown hK hP 0 rfl rfl 6 (by decide) (ht _ kw_4) (fun _ h9 => h9) rfl dX7_counts_14 ?_
        refine lv_iload_n hx hb dX7_counts_17 rfl (lv_at hl 1 rfl) ?_
        refine lv_iconst (v := (0 : Int32)) hx hb dX7_counts_18 (by decide) ?_
        obtain ⟨g22, hm⟩ := gdi_of hm
        refine va_iast hx hb hK hP hD hS 2 0 rfl rfl g22 dX7_counts_19 (fun H locs hP hD hS => ?_)
        obtain ⟨u23, eu23, hm⟩ := bnd_ex hm
        have hP : va_P (dC, dI) vwCl ([wM cI cJ aM jM u23] : List va_W).flatten H := by rw [eu23]; exact hP
        have hD : va_D A ([wM cI cJ aM jM u23] : List va_W).flatten := by rw [eu23]; exact hD
        obtain ⟨x24, ex24, hm⟩ := bnd_ex hm
        refine lv_iinc (v := x24) (lv' := [(1, .int x24), (0, .ref aM)]) hx hb dX7_counts_20 hl (k := 1) rfl (by rw [ex24]; exact congrArg _ (by decide)) (by decide) rfl (fun ls hl => ?_)
        refine lv_goto (tgt := 7) hx hb dX7_counts_23 (by decide) ?_
        exact ih7 x24 u23 _ _ _ hm hP hD hS (lv_sub hl [1, 0] rfl)
  exact LP7 FU (0 : Int32) u1 _ _ _ hm hP hD hS (lv_sub hl [1, 0] rfl)

def f_X7_logarithm_L30 : Nat → (Int64 → Int64 → Int32 → Option (Int64)) → Int32 → Int64 → Int64 → Option (Int64)
  | 0, _, _, _, _ => none
  | n30 + 1, K82_12, x6, y7, y8 =>
    if (30 : Int32) ≤ x6 then (
    K82_12 y8 y7 x6) else (
    bnd ((y8 * y8) >>> (((30 : Int32)).toInt64 &&& (63 : Int64))) fun y14 =>
    bnd (fun (x15 : Int32) =>
    bnd (y14 >>> ((x15).toInt64 &&& (63 : Int64))) fun y17 =>
    bnd (((2 : Int64) * y7) + (x15).toInt64) fun y18 =>
    bnd (x6 + (1 : Int32)) fun x19 =>
    f_X7_logarithm_L30 n30 K82_12 x19 y18 y17) fun K57_16 =>
    if y14 < (2147483648 : Int64) then (
    K57_16 (0 : Int32)) else (
    K57_16 (1 : Int32)))

def f_X7_logarithm_L2 (p1 : Int32) : Nat → (Int32 → Option (Int64)) → Int32 → Option (Int64)
  | 0, _, _ => none
  | n2 + 1, K15_3, x1 =>
    if (p1 >>> (x1 &&& (31 : Int32))) ≤ (1 : Int32) then (
    K15_3 x1) else (
    bnd (x1 + (1 : Int32)) fun x22 =>
    f_X7_logarithm_L2 p1 n2 K15_3 x22)

def f_X7_logarithm (p1 : Int32) : Option (Int64) :=
  bnd (fun (x2 : Int32) =>
  bnd ((p1).toInt64 <<< ((((30 : Int32) - x2)).toInt64 &&& (63 : Int64))) fun y4 =>
  bnd (x2).toInt64 fun y5 =>
  bnd (fun (y9 : Int64) (y10 : Int64) (x11 : Int32) =>
  some y10) fun K82_12 =>
  f_X7_logarithm_L30 FU K82_12 (0 : Int32) y5 y4) fun K15_3 =>
  f_X7_logarithm_L2 p1 FU K15_3 (0 : Int32)

set_option maxHeartbeats 4000000 in
set_option maxRecDepth 100000 in
theorem c_X7_logarithm (l : Launch) (dC : Nat → ClassId) (dI : Nat → Nat → Nat) (cI cJ : ClassId) (sz : Nat) (p1 : Int32) (o : Int64) (hm : f_X7_logarithm p1 = some o) : Met l yX7_logarithm (wq yX7_logarithm cX7_logarithm 8 (some .long)) ({ frames := 0, cells := 0, slots := 0, locals := 0 } : Room) (va_Pc [.int p1] (pcW dC dI cI cJ sz ([] : List va_W).flatten)) (va_Ql (S := Unit) (fun r u => some r = some o) (fun (u : Unit) t => va_P (dC, dI) vwCl ([] : List va_W).flatten t.heap ∧ va_D (va_A ([] : List va_W).flatten sz) ([] : List va_W).flatten) (va_A ([] : List va_W).flatten sz)) 0 0 (va_A ([] : List va_W).flatten sz) := by
  refine Met.ofW (cc := cX7_logarithm) (maxL := 8) (ret := (some .long)) (by decide) rfl ?_
  intro p e s m args below meth c s₁ B hml hv
  obtain ⟨rfl, hsz, hP, hK, hD0, hN⟩ := hv
  have hx := B.exec
  have hb := B.bytes
  have hr := B.returns
  have ht : ∀ w ∈ lw_good, w.before _ s = true := fun w h => atoms_spec (ws := wq yX7_logarithm cX7_logarithm 8 (some .long)) B.pre w (wq_mem h)
  have hown : s.vm.findClass RX7 = some m.cls := findClass_of_methodNamed B.named
  have hlocks := B.notSynchronized
  subst hsz
  have hD := hD0.self (sz := s.heap.size)
  generalize hAe : va_A ([] : List va_W).flatten s.heap.size = A at hD ⊢
  have hA : ∀ q : Nat, s.heap.size ≤ q → A q := fun q h => by rw [← hAe]; exact Or.inr h
  have hS : va_S A s.heap s.heap [] := va_S.rf
  have hl := lv_entry ([.int p1]) (n := 8) (Nat.le_of_ble_eq_true rfl)
  rw [lg_entry_eq]
  generalize (lg_sl ([.int p1]) ++ List.replicate (8 - (lg_sl ([.int p1])).length) Slot.unset).toArray = ls at hl ⊢
  have hl : lv_has ls 8 [(0, .int p1)] := hl
  generalize hQ : MQ below _ _ s _ _ _ = Q
  generalize hH : s.heap = H at hP ⊢
  have hS : va_S A s.heap H [] := by rw [← hH]; exact va_S.rf
  show W p l e ({ frames := 0, cells := 0, slots := 0, locals := 0 } : Room) s m ([.int p1] : List Value).toArray below meth c H [] 0 0 Q (F0 m 0 ls [])
  unfold f_X7_logarithm at hm
  refine lv_iconst (v := (0 : Int32)) hx hb dX7_logarithm_0 (by decide) ?_
  refine lv_istore_n (lv' := [(1, .int (0 : Int32)), (0, .int p1)]) hx hb dX7_logarithm_1 rfl hl (by decide) rfl (fun ls hl => ?_)
  obtain ⟨K15_3, eK15_3, hm⟩ := bnd_ex hm
  have X15_3 : ∀ (x2 : Int32) (H : Heap) (locs : List Loc) (ls : Array Slot), K15_3 x2 = some o → va_P (dC, dI) vwCl ([] : List va_W).flatten H → va_D A ([] : List va_W).flatten → va_S A s.heap H locs → lv_has ls 8 [(0, .int p1), (1, .int x2)] → W p l e ({ frames := 0, cells := 0, slots := 0, locals := 0 } : Room) s m ([.int p1] : List Value).toArray below meth c H locs 0 0 Q (F0 m 15 ls []) := by
    intro x2 H locs ls hm hP hD hS hl
    have hm := ap1 eK15_3 hm
    refine lv_iload_n hx hb dX7_logarithm_15 rfl (lv_at hl 0 rfl) ?_
    refine lv_i2l hx hb dX7_logarithm_16 rfl ?_
    refine lv_bipush (v := (30 : Int32)) hx hb dX7_logarithm_17 (by decide) ?_
    refine lv_iload_n hx hb dX7_logarithm_19 rfl (lv_at hl 1 rfl) ?_
    refine lv_isub hx hb dX7_logarithm_20 ?_
    refine lv_lshl hx hb dX7_logarithm_21 rfl ?_
    refine lv_topl (fun y4 ey4 => ?_)
    have hm := bnd_nm ey4 hm
    refine lv_lstore_n (lv' := [(2, .long y4), (0, .int p1), (1, .int x2)]) hx hb dX7_logarithm_22 rfl hl (by decide) rfl (fun ls hl => ?_)
    refine lv_iload_n hx hb dX7_logarithm_23 rfl (lv_at hl 2 rfl) ?_
    refine lv_i2l hx hb dX7_logarithm_24 rfl ?_
    refine lv_topl (fun y5 ey5 => ?_)
    have hm := bnd_nm ey5 hm
    refine lv_lstore (lv' := [(4, .long y5), (2, .long y4), (0, .int p1), (1, .int x2)]) hx hb dX7_logarithm_25 hl (by decide) rfl (fun ls hl => ?_)
    refine lv_iconst (v := (0 : Int32)) hx hb dX7_logarithm_27 (by decide) ?_
    refine lv_istore (lv' := [(6, .int (0 : Int32)), (4, .long y5), (2, .long y4), (0, .int p1), (1, .int x2)]) hx hb dX7_logarithm_28 hl (by decide) rfl (fun ls hl => ?_)
    obtain ⟨K82_12, eK82_12, hm⟩ := bnd_ex hm
    have X82_12 : ∀ (y9 : Int64) (y10 : Int64) (x11 : Int32) (H : Heap) (locs : List Loc) (ls : Array Slot), K82_12 y9 y10 x11 = some o → va_P (dC, dI) vwCl ([] : List va_W).flatten H → va_D A ([] : List va_W).flatten → va_S A s.heap H locs → lv_has ls 8 [(0, .int p1), (1, .int x2), (2, .long y9), (4, .long y10), (6, .int x11)] → W p l e ({ frames := 0, cells := 0, slots := 0, locals := 0 } : Room) s m ([.int p1] : List Value).toArray below meth c H locs 0 0 Q (F0 m 82 ls []) := by
      intro y9 y10 x11 H locs ls hm hP hD hS hl
      have hm := ap3 eK82_12 hm
      refine lv_lload hx hb dX7_logarithm_82 (lv_at hl 3 rfl) ?_
      rw [← hQ]
      exact W.lret (v := y10) hx hb hr (fun t ht1 hW => ⟨⟨_, (), rfl, hm, by rw [ht1]; exact hP, hD⟩, hS.F ht1⟩) hS.2.2 dX7_logarithm_84
    have LP30 : ∀ (n30 : Nat) (x6 : Int32) (y7 : Int64) (y8 : Int64) (H : Heap) (locs : List Loc) (ls : Array Slot), f_X7_logarithm_L30 n30 K82_12 x6 y7 y8 = some o → va_P (dC, dI) vwCl ([] : List va_W).flatten H → va_D A ([] : List va_W).flatten → va_S A s.heap H locs → lv_has ls 8 [(0, .int p1), (1, .int x2), (2, .long y8), (4, .long y7), (6, .int x6)] → W p l e ({ frames := 0, cells := 0, slots := 0, locals := 0 } : Room) s m ([.int p1] : List Value).toArray below meth c H locs 0 0 Q (F0 m 30 ls []) := by
      intro n30
      induction n30 with
      | zero => intro x6 y7 y8 H locs ls hm; exact nomatch (show (none : Option _) = some _ from hm)
      | succ n30 ih30 =>
        intro x6 y7 y8 H locs ls hm hP hD hS hl
        unfold f_X7_logarithm_L30 at hm
        refine lv_iload hx hb dX7_logarithm_30 (lv_at hl 4 rfl) ?_
        refine lv_bipush (v := (30 : Int32)) hx hb dX7_logarithm_32 (by decide) ?_
        refine lv_icmp_ge (tgt := 82) hx hb dX7_logarithm_34 (by decide) (fun c13 => ?_) (fun c13 => ?_)
        · have hm := ite_t c13 hm
          exact X82_12 y8 y7 x6 _ _ _ hm hP hD hS (lv_sub hl [0, 1, 2, 3, 4] rfl)
        · have hm := ite_f c13 hm
          refine lv_lload_n hx hb dX7_logarithm_37 rfl (lv_at hl 2 rfl) ?_
          refine lv_lload_n hx hb dX7_logarithm_38 rfl (lv_at hl 2 rfl) ?_
          refine lv_lmul hx hb dX7_logarithm_39 ?_
          refine lv_bipush (v := (30 : Int32)) hx hb dX7_logarithm_40 (by decide) ?_
          refine lv_lshr hx hb dX7_logarithm_42 rfl ?_
          refine lv_topl (fun y14 ey14 => ?_)
          have hm := bnd_nm ey14 hm
          refine lv_lstore_n (lv' := [(2, .long y14), (0, .int p1), (1, .int x2), (4, .long y7), (6, .int x6)]) hx hb dX7_logarithm_43 rfl hl (by decide) rfl (fun ls hl => ?_)
          refine lv_lload_n hx hb dX7_logarithm_44 rfl (lv_at hl 0 rfl) ?_
          refine lv_ldc2 (v := (2147483648 : Int64)) hx hb hown (ht _ kw_11) dX7_logarithm_45 ?_
          refine W.lcmp hx hb dX7_logarithm_48 ?_
          obtain ⟨K57_16, eK57_16, hm⟩ := bnd_ex hm
          have J57_16 : ∀ (x15 : Int32) (H : Heap) (locs : List Loc) (ls : Array Slot), K57_16 x15 = some o → va_P (dC, dI) vwCl ([] : List va_W).flatten H → va_D A ([] : List va_W).flatten → va_S A s.heap H locs → lv_has ls 8 [(0, .int p1), (1, .int x2), (2, .long y14), (4, .long y7), (6, .int x6)] → W p l e ({ frames := 0, cells := 0, slots := 0, locals := 0 } : Room) s m ([.int p1] : List Value).toArray below meth c H locs 0 0 Q (F0 m 57 ls [.int x15]) := by
            intro x15 H locs ls hm hP hD hS hl
            have hm := ap1 eK57_16 hm
            refine lv_istore (lv' := [(7, .int x15), (0, .int p1), (1, .int x2), (2, .long y14), (4, .long y7), (6, .int x6)]) hx hb dX7_logarithm_57 hl (by decide) rfl (fun ls hl => ?_)
            refine lv_lload_n hx hb dX7_logarithm_59 rfl (lv_at hl 3 rfl) ?_
            refine lv_iload hx hb dX7_logarithm_60 (lv_at hl 0 rfl) ?_
            refine lv_lshr hx hb dX7_logarithm_62 rfl ?_
            refine lv_topl (fun y17 ey17 => ?_)
            have hm := bnd_nm ey17 hm
            refine lv_lstore_n (lv' := [(2, .long y17), (7, .int x15), (0, .int p1), (1, .int x2), (4, .long y7), (6, .int x6)]) hx hb dX7_logarithm_63 rfl hl (by decide) rfl (fun ls hl => ?_)
            refine lv_ldc2 (v := (2 : Int64)) hx hb hown (ht _ kw_12) dX7_logarithm_64 ?_
            refine lv_lload hx hb dX7_logarithm_67 (lv_at hl 4 rfl) ?_
            refine lv_lmul hx hb dX7_logarithm_69 ?_
            refine lv_iload hx hb dX7_logarithm_70 (lv_at hl 1 rfl) ?_
            refine lv_i2l hx hb dX7_logarithm_72 rfl ?_
            refine lv_ladd hx hb dX7_logarithm_73 ?_
            refine lv_topl (fun y18 ey18 => ?_)
            have hm := bnd_nm ey18 hm
            refine lv_lstore (lv' := [(4, .long y18), (2, .long y17), (7, .int x15), (0, .int p1), (1, .int x2), (6, .int x6)]) hx hb dX7_logarithm_74 hl (by decide) rfl (fun ls hl => ?_)
            obtain ⟨x19, ex19, hm⟩ := bnd_ex hm
            refine lv_iinc (v := x19) (lv' := [(6, .int x19), (4, .long y18), (2, .long y17), (7, .int x15), (0, .int p1), (1, .int x2)]) hx hb dX7_logarithm_76 hl (k := 5) rfl (by rw [ex19]; exact congrArg _ (by decide)) (by decide) rfl (fun ls hl => ?_)
            refine lv_goto (tgt := 30) hx hb dX7_logarithm_79 (by decide) ?_
            exact ih30 x19 y18 y17 _ _ _ hm hP hD hS (lv_sub hl [4, 5, 2, 1, 0] rfl)
          refine lv_if_lt (tgt := 56) hx hb dX7_logarithm_49 (by decide) (fun c20 => ?_) (fun c20 => ?_)
          · have c20 := lgc_lt.mp c20
            have hm := ite_t c20 hm
            refine lv_iconst (v := (0 : Int32)) hx hb dX7_logarithm_56 (by decide) ?_
            exact J57_16 (0 : Int32) _ _ _ hm hP hD hS (lv_sub hl [1, 2, 0, 3, 4] rfl)
          · have c20 := mt lgc_lt.mpr c20
            have hm := ite_f c20 hm
            refine lv_iconst (v := (1 : Int32)) hx hb dX7_logarithm_52 (by decide) ?_
            refine lv_goto (tgt := 57) hx hb dX7_logarithm_53 (by decide) ?_
            exact J57_16 (1 : Int32) _ _ _ hm hP hD hS (lv_sub hl [1, 2, 0, 3, 4] rfl)
    exact LP30 FU (0 : Int32) y5 y4 _ _ _ hm hP hD hS (lv_sub hl [3, 4, 2, 1, 0] rfl)
  have LP2 : ∀ (n2 : Nat) (x1 : Int32) (H : Heap) (locs : List Loc) (ls : Array Slot), f_X7_logarithm_L2 p1 n2 K15_3 x1 = some o → va_P (dC, dI) vwCl ([] : List va_W).flatten H → va_D A ([] : List va_W).flatten → va_S A s.heap H locs → lv_has ls 8 [(0, .int p1), (1, .int x1)] → W p l e ({ frames := 0, cells := 0, slots := 0, locals := 0 } : Room) s m ([.int p1] : List Value).toArray below meth c H locs 0 0 Q (F0 m 2 ls []) := by
    intro n2
    induction n2 with
    | zero => intro x1 H locs ls hm; exact nomatch (show (none : Option _) = some _ from hm)
    | succ n2 ih2 =>
      intro x1 H locs ls hm hP hD hS hl
      unfold f_X7_logarithm_L2 at hm
      refine lv_iload_n hx hb dX7_logarithm_2 rfl (lv_at hl 0 rfl) ?_
      refine lv_iload_n hx hb dX7_logarithm_3 rfl (lv_at hl 1 rfl) ?_
      refine lv_ishr hx hb dX7_logarithm_4 ?_
      refine lv_iconst (v := (1 : Int32)) hx hb dX7_logarithm_5 (by decide) ?_
      refine lv_icmp_le (tgt := 15) hx hb dX7_logarithm_6 (by decide) (fun c21 => ?_) (fun c21 => ?_)
      · have hm := ite_t c21 hm
        exact X15_3 x1 _ _ _ hm hP hD hS (lv_sub hl [0, 1] rfl)
      · have hm := ite_f c21 hm
        obtain ⟨x22, ex22, hm⟩ := bnd_ex hm
        refine lv_iinc (v := x22) (lv' := [(1, .int x22), (0, .int p1)]) hx hb dX7_logarithm_9 hl (k := 1) rfl (by rw [ex22]; exact congrArg _ (by decide)) (by decide) rfl (fun ls hl => ?_)
        refine lv_goto (tgt := 2) hx hb dX7_logarithm_12 (by decide) ?_
        exact ih2 x22 _ _ _ hm hP hD hS (lv_sub hl [1, 0] rfl)
  exact LP2 FU (0 : Int32) _ _ _ hm hP hD hS (lv_sub hl [1, 0] rfl)

def f_X7_lg (uM : OS) (p1 : Int32) : Option (OS × Int64) :=
  bnd (sF uM 1 (0 : Int32)) fun u1 =>
  if p1 < (1 : Int32) then (
  some (u1, (-1 : Int64))) else (
  if p1 ≤ ((1 : Int32) <<< ((u1.1 0) &&& (31 : Int32))) then (
  oC1 (f_X7_logarithm p1) fun r4 =>
  some (u1, r4)) else (
  some (u1, (-1 : Int64))))

set_option maxHeartbeats 4000000 in
set_option maxRecDepth 100000 in
theorem c_X7_lg (l : Launch) (dC : Nat → ClassId) (dI : Nat → Nat → Nat) (cI cJ : ClassId) (aM : Nat) (jM : Nat → Nat) (sz : Nat) (uM : OS) (p1 : Int32) (o : OS × Int64) (hm : f_X7_lg uM p1 = some o) : Met l yX7_lg (wq yX7_lg cX7_lg 2 (some .long)) ({ frames := 1, cells := 0, slots := 0, locals := 27 } : Room) (va_Pc [.ref aM, .int p1] (pcW dC dI cI cJ sz ([wM cI cJ aM jM uM] : List va_W).flatten)) (va_Ql (S := OS) (fun r u => some (u, r) = some o) (fun (u : OS) t => va_P (dC, dI) vwCl ([wM cI cJ aM jM u] : List va_W).flatten t.heap ∧ va_D (va_A ([wM cI cJ aM jM uM] : List va_W).flatten sz) ([wM cI cJ aM jM u] : List va_W).flatten) (va_A ([wM cI cJ aM jM uM] : List va_W).flatten sz)) 0 0 (va_A ([wM cI cJ aM jM uM] : List va_W).flatten sz) := by
  refine Met.ofW (cc := cX7_lg) (maxL := 2) (ret := (some .long)) (by decide) rfl ?_
  intro p e s m args below meth c s₁ B hml hv
  obtain ⟨rfl, hsz, hP, hK, hD0, hN⟩ := hv
  have hx := B.exec
  have hb := B.bytes
  have hr := B.returns
  have ht : ∀ w ∈ lw_good, w.before _ s = true := fun w h => atoms_spec (ws := wq yX7_lg cX7_lg 2 (some .long)) B.pre w (wq_mem h)
  have hown : s.vm.findClass RX7 = some m.cls := findClass_of_methodNamed B.named
  have hlocks := B.notSynchronized
  subst hsz
  have hD := hD0.self (sz := s.heap.size)
  generalize hAe : va_A ([wM cI cJ aM jM uM] : List va_W).flatten s.heap.size = A at hD ⊢
  have hA : ∀ q : Nat, s.heap.size ≤ q → A q := fun q h => by rw [← hAe]; exact Or.inr h
  have hS : va_S A s.heap s.heap [] := va_S.rf
  have hl := lv_entry ([.ref aM, .int p1]) (n := 2) (Nat.le_of_ble_eq_true rfl)
  rw [lg_entry_eq]
  generalize (lg_sl ([.ref aM, .int p1]) ++ List.replicate (2 - (lg_sl ([.ref aM, .int p1])).length) Slot.unset).toArray = ls at hl ⊢
  have hl : lv_has ls 2 [(0, .ref aM), (1, .int p1)] := hl
  generalize hQ : MQ below _ _ s _ _ _ = Q
  generalize hH : s.heap = H at hP ⊢
  have hS : va_S A s.heap H [] := by rw [← hH]; exact va_S.rf
  show W p l e ({ frames := 1, cells := 0, slots := 0, locals := 27 } : Room) s m ([.ref aM, .int p1] : List Value).toArray below meth c H [] 0 0 Q (F0 m 0 ls [])
  unfold f_X7_lg at hm
  refine lv_aload_n hx hb dX7_lg_0 rfl (lv_at hl 0 rfl) ?_
  refine lv_iconst (v := (0 : Int32)) hx hb dX7_lg_1 (by decide) ?_
  refine va_put (D := (dC, dI)) (ci := 8) (v := .int (0 : Int32)) (ty := .int) (C := RX7) (T := TX7) (N := 34) hx hb ht inX7 tyX7 tyX7_ok nmX7 hown hK hP hD hS 0 rfl rfl 1 (by decide) (ht _ kw_0) (fun _ h9 => h9) rfl (by decide +kernel) rfl rfl (Nat.le_of_ble_eq_true rfl) dX7_lg_2 (fun H locs hP hD hS => ?_)
  obtain ⟨u1, eu1, hm⟩ := bnd_ex hm
  have hP : va_P (dC, dI) vwCl ([wM cI cJ aM jM u1] : List va_W).flatten H := by rw [eu1]; exact hP
  have hD : va_D A ([wM cI cJ aM jM u1] : List va_W).flatten := by rw [eu1]; exact hD
  refine lv_iload_n hx hb dX7_lg_5 rfl (lv_at hl 1 rfl) ?_
  refine lv_iconst (v := (1 : Int32)) hx hb dX7_lg_6 (by decide) ?_
  refine lv_icmp_lt (tgt := 20) hx hb dX7_lg_7 (by decide) (fun c2 => ?_) (fun c2 => ?_)
  · have hm := ite_t c2 hm
    refine lv_ldc2 (v := (-1 : Int64)) hx hb hown (ht _ kw_13) dX7_lg_20 ?_
    refine lv_goto (tgt := 30) hx hb dX7_lg_23 (by decide) ?_
    rw [← hQ]
    exact W.lret (v := (-1 : Int64)) hx hb hr (fun t ht1 hW => ⟨⟨_, u1, rfl, hm, by rw [ht1]; exact hP, hD⟩, hS.F ht1⟩) hS.2.2 dX7_lg_30
  · have hm := ite_f c2 hm
    refine lv_iload_n hx hb dX7_lg_10 rfl (lv_at hl 1 rfl) ?_
    refine lv_iconst (v := (1 : Int32)) hx hb dX7_lg_11 (by decide) ?_
    refine lv_aload_n hx hb dX7_lg_12 rfl (lv_at hl 0 rfl) ?_
    refine va_get (D := (dC, dI)) (ci := 8) (v := .int (u1.1 0)) (C := RX7) (T := TX7) (N := 34) hx hb ht inX7 hown hK hP 0 rfl rfl 0 (by decide) (ht _ kw_14) (fun _ h9 => h9) rfl dX7_lg_13 ?_
    refine lv_ishl hx hb dX7_lg_16 ?_
    refine lv_icmp_le (tgt := 26) hx hb dX7_lg_17 (by decide) (fun c3 => ?_) (fun c3 => ?_)
    · have hm := ite_t c3 hm
      refine lv_iload_n hx hb dX7_lg_26 rfl (lv_at hl 1 rfl) ?_
      have hPc : va_P (dC, dI) vwCl ([] : List va_W).flatten _ := hP.subF [] rfl
      have hDc : va_D A ([] : List va_W).flatten := hD.subF [] (by decide) rfl
      have hFc := va_freeF (fc := ([] : List va_W)) hD hS hA [] rfl
      obtain ⟨r4o, e5, hm⟩ := oC1_of hm
      refine va_calll (va_runS (As := [.int p1]) (rest := []) ⟨hx, hb, hml, hown, ht⟩ (c_X7_logarithm l dC dI cI cJ H.size p1 r4o e5) (va_cwS 1 ht (gdS kw_17 kw_16 kw_7 kw_15) rfl rfl rfl nd_X7_logarithm ⟨Nat.le_of_ble_eq_true rfl, Nat.le_of_ble_eq_true rfl⟩) ⟨pcW_blind, pcW_pre hPc hK hDc hN⟩ rfl rfl hl.1 rfl (lv_room (Nat.le_of_ble_eq_true rfl)) dX7_lg_27 ⟨Nat.zero_le _, Nat.zero_le _⟩) hS (fun q _ z => hFc q z) hFc (fun r4 uu t H1 locs ht1 hvm hw hB hz1 hk1 hS => ?_)
      obtain ⟨⟩ := uu
      obtain ⟨hP1, hD1⟩ := hB
      rw [ht1] at hP1
      obtain rfl : r4 = r4o := Option.some.inj hw
      obtain ⟨hP, hD⟩ := va_joinF (fr := ([wM cI cJ aM jM u1] : List va_W)) (f1 := ([] : List va_W)) hP hD [] [0] rfl rfl (by decide) (by decide) hk1 hFc hP1 hD1
      have hP : va_P (dC, dI) vwCl ([wM cI cJ aM jM u1] : List va_W).flatten H1 := hP
      have hD : va_D A ([wM cI cJ aM jM u1] : List va_W).flatten := hD
      generalize H1 = H at hP hS ⊢
      rw [← hQ]
      exact W.lret (v := r4) hx hb hr (fun t ht1 hW => ⟨⟨_, u1, rfl, hm, by rw [ht1]; exact hP, hD⟩, hS.F ht1⟩) hS.2.2 dX7_lg_30
    · have hm := ite_f c3 hm
      refine lv_ldc2 (v := (-1 : Int64)) hx hb hown (ht _ kw_13) dX7_lg_20 ?_
      refine lv_goto (tgt := 30) hx hb dX7_lg_23 (by decide) ?_
      rw [← hQ]
      exact W.lret (v := (-1 : Int64)) hx hb hr (fun t ht1 hW => ⟨⟨_, u1, rfl, hm, by rw [ht1]; exact hP, hD⟩, hS.F ht1⟩) hS.2.2 dX7_lg_30

def f_X7_lay_L132 (p1 : Int32) (x2 : Int32) (x12 : Int32) : Nat → (Int32 → Int32 → OS → Option (OS)) → Int32 → Int32 → OS → Option (OS)
  | 0, _, _, _, _ => none
  | n132 + 1, K236_24, x18, x19, u20 =>
    if x2 ≤ x18 then (
    K236_24 x19 x18 u20) else (
    gdi (((32 : Int32) * p1) + x12) 64 <|
    if (u20.2.1 8 ((((32 : Int32) * p1) + x12)).toNatClampNeg) ≤ (0 : Int32) then (
    bnd (x18 + (1 : Int32)) fun x29 =>
    f_X7_lay_L132 p1 x2 x12 n132 K236_24 x29 x19 u20) else (
    gdi (((4096 : Int32) * p1) + x18) 8192 <|
    if (u20.2.1 11 ((((4096 : Int32) * p1) + x18)).toNatClampNeg) = x12 then (
    gdi (((32 : Int32) * p1) + x12) 64 <|
    gdi (((4096 : Int32) * p1) + x18) 8192 <|
    bnd (sA u20 12 (((4096 : Int32) * p1) + x18) ((u20.2.1 8 ((((32 : Int32) * p1) + x12)).toNatClampNeg) + x19)) fun u35 =>
    gdi (((32 : Int32) * p1) + x12) 64 <|
    gdi ((((4096 : Int32) * p1) + (u35.2.1 9 ((((32 : Int32) * p1) + x12)).toNatClampNeg)) + x19) 8192 <|
    bnd (sA u35 13 ((((4096 : Int32) * p1) + (u35.2.1 9 ((((32 : Int32) * p1) + x12)).toNatClampNeg)) + x19) x18) fun u38 =>
    bnd (x19 + (1 : Int32)) fun x39 =>
    bnd (x18 + (1 : Int32)) fun x40 =>
    f_X7_lay_L132 p1 x2 x12 n132 K236_24 x40 x39 u38) else (
    bnd (x18 + (1 : Int32)) fun x32 =>
    f_X7_lay_L132 p1 x2 x12 n132 K236_24 x32 x19 u20)))

def f_X7_lay_L119 (p1 : Int32) (x2 : Int32) : Nat → (Int32 → OS → Option (OS)) → Int32 → OS → Option (OS)
  | 0, _, _, _ => none
  | n119 + 1, K242_16, x12, u13 =>
    if (32 : Int32) ≤ x12 then (
    K242_16 x12 u13) else (
    bnd (fun (x21 : Int32) (x22 : Int32) (u23 : OS) =>
    bnd (x12 + (1 : Int32)) fun x25 =>
    f_X7_lay_L119 p1 x2 n119 K242_16 x25 u23) fun K236_24 =>
    f_X7_lay_L132 p1 x2 x12 FU K236_24 (0 : Int32) (0 : Int32) u13)

def f_X7_lay_L55 (p1 : Int32) (x2 : Int32) (x3 : Int32) : Nat → (Int32 → Int32 → OS → Option (OS)) → Int32 → Int32 → OS → Option (OS)
  | 0, _, _, _, _ => none
  | n55 + 1, K110_52, x46, x47, u48 =>
    gdi (((32 : Int32) * p1) + x3) 64 <|
    if (u48.2.1 8 ((((32 : Int32) * p1) + x3)).toNatClampNeg) ≤ x46 then (
    K110_52 x47 x46 u48) else (
    gdi (((4096 : Int32) * p1) + x47) 8192 <|
    bnd (sA u48 11 (((4096 : Int32) * p1) + x47) x3) fun u57 =>
    gdz x2 <|
    bnd ((((x47 + (x2 / (2 : Int32))) + (x2 / (8 : Int32))) + (3 : Int32)) - (((x47 + (x2 / (2 : Int32))) + (x2 / (8 : Int32))) + (3 : Int32)) / x2 * x2) fun x59 =>
    bnd (x46 + (1 : Int32)) fun x60 =>
    f_X7_lay_L55 p1 x2 x3 n55 K110_52 x60 x59 u57)

def f_X7_lay_L17 (p1 : Int32) (x2 : Int32) : Nat → (Int32 → Int32 → Int32 → OS → Option (OS)) → Int32 → Int32 → Int32 → OS → Option (OS)
  | 0, _, _, _, _, _ => none
  | n17 + 1, K116_11, x3, x4, x5, u6 =>
    if (32 : Int32) ≤ x3 then (
    K116_11 x5 x4 x3 u6) else (
    gdi (((32 : Int32) * p1) + x3) 64 <|
    bnd (sA u6 9 (((32 : Int32) * p1) + x3) x5) fun u43 =>
    gdi (((32 : Int32) * p1) + x3) 64 <|
    bnd (x5 + (u43.2.1 8 ((((32 : Int32) * p1) + x3)).toNatClampNeg)) fun x45 =>
    bnd (fun (x49 : Int32) (x50 : Int32) (u51 : OS) =>
    bnd (x3 + (1 : Int32)) fun x53 =>
    f_X7_lay_L17 p1 x2 n17 K116_11 x53 x49 x45 u51) fun K110_52 =>
    f_X7_lay_L55 p1 x2 x3 FU K110_52 (0 : Int32) x4 u43)

def f_X7_lay (uM : OS) (p1 : Int32) : Option (OS) :=
  gdi p1 2 <|
  bnd ((1 : Int32) <<< ((uM.2.1 10 (p1).toNatClampNeg) &&& (31 : Int32))) fun x2 =>
  bnd (fun (x7 : Int32) (x8 : Int32) (x9 : Int32) (u10 : OS) =>
  bnd (fun (x14 : Int32) (u15 : OS) =>
  some u15) fun K242_16 =>
  f_X7_lay_L119 p1 x2 FU K242_16 (0 : Int32) u10) fun K116_11 =>
  f_X7_lay_L17 p1 x2 FU K116_11 (0 : Int32) (0 : Int32) (0 : Int32) uM

set_option maxHeartbeats 4000000 in
set_option maxRecDepth 100000 in
theorem c_X7_lay (l : Launch) (dC : Nat → ClassId) (dI : Nat → Nat → Nat) (cI cJ : ClassId) (aM : Nat) (jM : Nat → Nat) (sz : Nat) (uM : OS) (p1 : Int32) (o : OS) (hm : f_X7_lay uM p1 = some o) : Met l yX7_lay (wq yX7_lay cX7_lay 8 none) ({ frames := 0, cells := 0, slots := 0, locals := 0 } : Room) (va_Pc [.ref aM, .int p1] (pcW dC dI cI cJ sz ([wM cI cJ aM jM uM] : List va_W).flatten)) (va_Qv (S := OS) (fun u => some u = some o) (fun (u : OS) t => va_P (dC, dI) vwCl ([wM cI cJ aM jM u] : List va_W).flatten t.heap ∧ va_D (va_A ([wM cI cJ aM jM uM] : List va_W).flatten sz) ([wM cI cJ aM jM u] : List va_W).flatten) (va_A ([wM cI cJ aM jM uM] : List va_W).flatten sz)) 0 0 (va_A ([wM cI cJ aM jM uM] : List va_W).flatten sz) := by
  refine Met.ofW (cc := cX7_lay) (maxL := 8) (ret := none) (by decide) rfl ?_
  intro p e s m args below meth c s₁ B hml hv
  obtain ⟨rfl, hsz, hP, hK, hD0, hN⟩ := hv
  have hx := B.exec
  have hb := B.bytes
  have hr := B.returns
  have ht : ∀ w ∈ lw_good, w.before _ s = true := fun w h => atoms_spec (ws := wq yX7_lay cX7_lay 8 none) B.pre w (wq_mem h)
  have hown : s.vm.findClass RX7 = some m.cls := findClass_of_methodNamed B.named
  have hlocks := B.notSynchronized
  subst hsz
  have hD := hD0.self (sz := s.heap.size)
  generalize hAe : va_A ([wM cI cJ aM jM uM] : List va_W).flatten s.heap.size = A at hD ⊢
  have hA : ∀ q : Nat, s.heap.size ≤ q → A q := fun q h => by rw [← hAe]; exact Or.inr h
  have hS : va_S A s.heap s.heap [] := va_S.rf
  have hl := lv_entry ([.ref aM, .int p1]) (n := 8) (Nat.le_of_ble_eq_true rfl)
  rw [lg_entry_eq]
  generalize (lg_sl ([.ref aM, .int p1]) ++ List.replicate (8 - (lg_sl ([.ref aM, .int p1])).length) Slot.unset).toArray = ls at hl ⊢
  have hl : lv_has ls 8 [(0, .ref aM), (1, .int p1)] := hl
  generalize hQ : MQ below _ _ s _ _ _ = Q
  generalize hH : s.heap = H at hP ⊢
  have hS : va_S A s.heap H [] := by rw [← hH]; exact va_S.rf
  show W p l e ({ frames := 0, cells := 0, slots := 0, locals := 0 } : Room) s m ([.ref aM, .int p1] : List Value).toArray below meth c H [] 0 0 Q (F0 m 0 ls [])
  unfold f_X7_lay at hm
  refine lv_iconst (v := (1 : Int32)) hx hb dX7_lay_0 (by decide) ?_
  refine lv_aload_n hx hb dX7_lay_1 rfl (lv_at hl 0 rfl) ?_
  refine va_get (D := (dC, dI)) (ci := 8) (v := .ref (jM 10)) (C := RX7) (T := TX7) (N := 34) hx hb ht inX7 hown hK hP 0 rfl rfl 10 (by decide) (ht _ kw_19) (fun _ h9 => h9) rfl dX7_lay_2 ?_
  refine lv_iload_n hx hb dX7_lay_5 rfl (lv_at hl 1 rfl) ?_
  obtain ⟨g1, hm⟩ := gdi_of hm
  refine va_iald hx hb hK hP 5 0 rfl rfl g1 dX7_lay_6 ?_
  refine lv_ishl hx hb dX7_lay_7 ?_
  refine lv_topi (fun x2 ex2 => ?_)
  have hm := bnd_nm ex2 hm
  refine lv_istore_n (lv' := [(2, .int x2), (0, .ref aM), (1, .int p1)]) hx hb dX7_lay_8 rfl hl (by decide) rfl (fun ls hl => ?_)
  refine lv_iconst (v := (0 : Int32)) hx hb dX7_lay_9 (by decide) ?_
  refine lv_istore_n (lv' := [(3, .int (0 : Int32)), (2, .int x2), (0, .ref aM), (1, .int p1)]) hx hb dX7_lay_10 rfl hl (by decide) rfl (fun ls hl => ?_)
  refine lv_iconst (v := (0 : Int32)) hx hb dX7_lay_11 (by decide) ?_
  refine lv_istore (lv' := [(4, .int (0 : Int32)), (3, .int (0 : Int32)), (2, .int x2), (0, .ref aM), (1, .int p1)]) hx hb dX7_lay_12 hl (by decide) rfl (fun ls hl => ?_)
  refine lv_iconst (v := (0 : Int32)) hx hb dX7_lay_14 (by decide) ?_
  refine lv_istore (lv' := [(5, .int (0 : Int32)), (4, .int (0 : Int32)), (3, .int (0 : Int32)), (2, .int x2), (0, .ref aM), (1, .int p1)]) hx hb dX7_lay_15 hl (by decide) rfl (fun ls hl => ?_)
  obtain ⟨K116_11, eK116_11, hm⟩ := bnd_ex hm
  have X116_11 : ∀ (x7 : Int32) (x8 : Int32) (x9 : Int32) (u10 : OS) (H : Heap) (locs : List Loc) (ls : Array Slot), K116_11 x7 x8 x9 u10 = some o → va_P (dC, dI) vwCl ([wM cI cJ aM jM u10] : List va_W).flatten H → va_D A ([wM cI cJ aM jM u10] : List va_W).flatten → va_S A s.heap H locs → lv_has ls 8 [(0, .ref aM), (1, .int p1), (2, .int x2), (3, .int x7), (4, .int x8), (5, .int x9)] → W p l e ({ frames := 0, cells := 0, slots := 0, locals := 0 } : Room) s m ([.ref aM, .int p1] : List Value).toArray below meth c H locs 0 0 Q (F0 m 116 ls []) := by
    intro x7 x8 x9 u10 H locs ls hm hP hD hS hl
    have hm := ap4 eK116_11 hm
    refine lv_iconst (v := (0 : Int32)) hx hb dX7_lay_116 (by decide) ?_
    refine lv_istore (lv' := [(5, .int (0 : Int32)), (0, .ref aM), (1, .int p1), (2, .int x2), (3, .int x7), (4, .int x8)]) hx hb dX7_lay_117 hl (by decide) rfl (fun ls hl => ?_)
    obtain ⟨K242_16, eK242_16, hm⟩ := bnd_ex hm
    have X242_16 : ∀ (x14 : Int32) (u15 : OS) (H : Heap) (locs : List Loc) (ls : Array Slot), K242_16 x14 u15 = some o → va_P (dC, dI) vwCl ([wM cI cJ aM jM u15] : List va_W).flatten H → va_D A ([wM cI cJ aM jM u15] : List va_W).flatten → va_S A s.heap H locs → lv_has ls 8 [(0, .ref aM), (1, .int p1), (2, .int x2), (3, .int x7), (4, .int x8), (5, .int x14)] → W p l e ({ frames := 0, cells := 0, slots := 0, locals := 0 } : Room) s m ([.ref aM, .int p1] : List Value).toArray below meth c H locs 0 0 Q (F0 m 242 ls []) := by
      intro x14 u15 H locs ls hm hP hD hS hl
      have hm := ap2 eK242_16 hm
      rw [← hQ]
      exact W.vret hx hb hr (fun t ht1 hW => ⟨⟨u15, rfl, hm, by rw [ht1]; exact hP, hD⟩, hS.F ht1⟩) hS.2.2 dX7_lay_242
    have LP119 : ∀ (n119 : Nat) (x12 : Int32) (u13 : OS) (H : Heap) (locs : List Loc) (ls : Array Slot), f_X7_lay_L119 p1 x2 n119 K242_16 x12 u13 = some o → va_P (dC, dI) vwCl ([wM cI cJ aM jM u13] : List va_W).flatten H → va_D A ([wM cI cJ aM jM u13] : List va_W).flatten → va_S A s.heap H locs → lv_has ls 8 [(0, .ref aM), (1, .int p1), (2, .int x2), (3, .int x7), (4, .int x8), (5, .int x12)] → W p l e ({ frames := 0, cells := 0, slots := 0, locals := 0 } : Room) s m ([.ref aM, .int p1] : List Value).toArray below meth c H locs 0 0 Q (F0 m 119 ls []) := by
      intro n119
      induction n119 with
      | zero => intro x12 u13 H locs ls hm; exact nomatch (show (none : Option _) = some _ from hm)
      | succ n119 ih119 =>
        intro x12 u13 H locs ls hm hP hD hS hl
        unfold f_X7_lay_L119 at hm
        refine lv_iload hx hb dX7_lay_119 (lv_at hl 5 rfl) ?_
        refine lv_bipush (v := (32 : Int32)) hx hb dX7_lay_121 (by decide) ?_
        refine lv_icmp_ge (tgt := 242) hx hb dX7_lay_123 (by decide) (fun c17 => ?_) (fun c17 => ?_)
        · have hm := ite_t c17 hm
          exact X242_16 x12 u13 _ _ _ hm hP hD hS (lv_sub hl [0, 1, 2, 3, 4, 5] rfl)
        · have hm := ite_f c17 hm
          refine lv_iconst (v := (0 : Int32)) hx hb dX7_lay_126 (by decide) ?_
          refine lv_istore (lv' := [(6, .int (0 : Int32)), (0, .ref aM), (1, .int p1), (2, .int x2), (3, .int x7), (4, .int x8), (5, .int x12)]) hx hb dX7_lay_127 hl (by decide) rfl (fun ls hl => ?_)
          refine lv_iconst (v := (0 : Int32)) hx hb dX7_lay_129 (by decide) ?_
          refine lv_istore (lv' := [(7, .int (0 : Int32)), (6, .int (0 : Int32)), (0, .ref aM), (1, .int p1), (2, .int x2), (3, .int x7), (4, .int x8), (5, .int x12)]) hx hb dX7_lay_130 hl (by decide) rfl (fun ls hl => ?_)
          obtain ⟨K236_24, eK236_24, hm⟩ := bnd_ex hm
          have X236_24 : ∀ (x21 : Int32) (x22 : Int32) (u23 : OS) (H : Heap) (locs : List Loc) (ls : Array Slot), K236_24 x21 x22 u23 = some o → va_P (dC, dI) vwCl ([wM cI cJ aM jM u23] : List va_W).flatten H → va_D A ([wM cI cJ aM jM u23] : List va_W).flatten → va_S A s.heap H locs → lv_has ls 8 [(0, .ref aM), (1, .int p1), (2, .int x2), (3, .int x7), (4, .int x8), (5, .int x12), (6, .int x21), (7, .int x22)] → W p l e ({ frames := 0, cells := 0, slots := 0, locals := 0 } : Room) s m ([.ref aM, .int p1] : List Value).toArray below meth c H locs 0 0 Q (F0 m 236 ls []) := by
            intro x21 x22 u23 H locs ls hm hP hD hS hl
            have hm := ap3 eK236_24 hm
            obtain ⟨x25, ex25, hm⟩ := bnd_ex hm
            refine lv_iinc (v := x25) (lv' := [(5, .int x25), (0, .ref aM), (1, .int p1), (2, .int x2), (3, .int x7), (4, .int x8), (6, .int x21), (7, .int x22)]) hx hb dX7_lay_236 hl (k := 5) rfl (by rw [ex25]; exact congrArg _ (by decide)) (by decide) rfl (fun ls hl => ?_)
            refine lv_goto (tgt := 119) hx hb dX7_lay_239 (by decide) ?_
            exact ih119 x25 u23 _ _ _ hm hP hD hS (lv_sub hl [1, 2, 3, 4, 5, 0] rfl)
          have LP132 : ∀ (n132 : Nat) (x18 : Int32) (x19 : Int32) (u20 : OS) (H : Heap) (locs : List Loc) (ls : Array Slot), f_X7_lay_L132 p1 x2 x12 n132 K236_24 x18 x19 u20 = some o → va_P (dC, dI) vwCl ([wM cI cJ aM jM u20] : List va_W).flatten H → va_D A ([wM cI cJ aM jM u20] : List va_W).flatten → va_S A s.heap H locs → lv_has ls 8 [(0, .ref aM), (1, .int p1), (2, .int x2), (3, .int x7), (4, .int x8), (5, .int x12), (6, .int x19), (7, .int x18)] → W p l e ({ frames := 0, cells := 0, slots := 0, locals := 0 } : Room) s m ([.ref aM, .int p1] : List Value).toArray below meth c H locs 0 0 Q (F0 m 132 ls []) := by
            intro n132
            induction n132 with
            | zero => intro x18 x19 u20 H locs ls hm; exact nomatch (show (none : Option _) = some _ from hm)
            | succ n132 ih132 =>
              intro x18 x19 u20 H locs ls hm hP hD hS hl
              unfold f_X7_lay_L132 at hm
              refine lv_iload hx hb dX7_lay_132 (lv_at hl 7 rfl) ?_
              refine lv_iload_n hx hb dX7_lay_134 rfl (lv_at hl 2 rfl) ?_
              refine lv_icmp_ge (tgt := 236) hx hb dX7_lay_135 (by decide) (fun c26 => ?_) (fun c26 => ?_)
              · have hm := ite_t c26 hm
                exact X236_24 x19 x18 u20 _ _ _ hm hP hD hS (lv_sub hl [0, 1, 2, 3, 4, 5, 6, 7] rfl)
              · have hm := ite_f c26 hm
                refine lv_aload_n hx hb dX7_lay_138 rfl (lv_at hl 0 rfl) ?_
                refine va_get (D := (dC, dI)) (ci := 8) (v := .ref (jM 8)) (C := RX7) (T := TX7) (N := 34) hx hb ht inX7 hown hK hP 0 rfl rfl 8 (by decide) (ht _ kw_18) (fun _ h9 => h9) rfl dX7_lay_139 ?_
                refine lv_bipush (v := (32 : Int32)) hx hb dX7_lay_142 (by decide) ?_
                refine lv_iload_n hx hb dX7_lay_144 rfl (lv_at hl 1 rfl) ?_
                refine lv_imul hx hb dX7_lay_145 ?_
                refine lv_iload hx hb dX7_lay_146 (lv_at hl 5 rfl) ?_
                refine lv_iadd hx hb dX7_lay_148 ?_
                obtain ⟨g27, hm⟩ := gdi_of hm
                refine va_iald hx hb hK hP 3 0 rfl rfl g27 dX7_lay_149 ?_
                refine lv_if_le (tgt := 230) hx hb dX7_lay_150 (by decide) (fun c28 => ?_) (fun c28 => ?_)
                · have hm := ite_t c28 hm
                  obtain ⟨x29, ex29, hm⟩ := bnd_ex hm
                  refine lv_iinc (v := x29) (lv' := [(7, .int x29), (0, .ref aM), (1, .int p1), (2, .int x2), (3, .int x7), (4, .int x8), (5, .int x12), (6, .int x19)]) hx hb dX7_lay_230 hl (k := 7) rfl (by rw [ex29]; exact congrArg _ (by decide)) (by decide) rfl (fun ls hl => ?_)
                  refine lv_goto (tgt := 132) hx hb dX7_lay_233 (by decide) ?_
                  exact ih132 x29 x19 u20 _ _ _ hm hP hD hS (lv_sub hl [1, 2, 3, 4, 5, 6, 7, 0] rfl)
                · have hm := ite_f c28 hm
                  refine lv_aload_n hx hb dX7_lay_153 rfl (lv_at hl 0 rfl) ?_
                  refine va_get (D := (dC, dI)) (ci := 8) (v := .ref (jM 11)) (C := RX7) (T := TX7) (N := 34) hx hb ht inX7 hown hK hP 0 rfl rfl 11 (by decide) (ht _ kw_21) (fun _ h9 => h9) rfl dX7_lay_154 ?_
                  refine lv_sipush (v := (4096 : Int32)) hx hb dX7_lay_157 (by decide) ?_
                  refine lv_iload_n hx hb dX7_lay_160 rfl (lv_at hl 1 rfl) ?_
                  refine lv_imul hx hb dX7_lay_161 ?_
                  refine lv_iload hx hb dX7_lay_162 (lv_at hl 7 rfl) ?_
                  refine lv_iadd hx hb dX7_lay_164 ?_
                  obtain ⟨g30, hm⟩ := gdi_of hm
                  refine va_iald hx hb hK hP 6 0 rfl rfl g30 dX7_lay_165 ?_
                  refine lv_iload hx hb dX7_lay_166 (lv_at hl 5 rfl) ?_
                  refine lv_icmp_ne (tgt := 230) hx hb dX7_lay_168 (by decide) (fun c31 => ?_) (fun c31 => ?_)
                  · have hm := ite_f c31 hm
                    obtain ⟨x32, ex32, hm⟩ := bnd_ex hm
                    refine lv_iinc (v := x32) (lv' := [(7, .int x32), (0, .ref aM), (1, .int p1), (2, .int x2), (3, .int x7), (4, .int x8), (5, .int x12), (6, .int x19)]) hx hb dX7_lay_230 hl (k := 7) rfl (by rw [ex32]; exact congrArg _ (by decide)) (by decide) rfl (fun ls hl => ?_)
                    refine lv_goto (tgt := 132) hx hb dX7_lay_233 (by decide) ?_
                    exact ih132 x32 x19 u20 _ _ _ hm hP hD hS (lv_sub hl [1, 2, 3, 4, 5, 6, 7, 0] rfl)
                  · have hm := ite_t c31 hm
                    refine lv_aload_n hx hb dX7_lay_171 rfl (lv_at hl 0 rfl) ?_
                    refine va_get (D := (dC, dI)) (ci := 8) (v := .ref (jM 12)) (C := RX7) (T := TX7) (N := 34) hx hb ht inX7 hown hK hP 0 rfl rfl 12 (by decide) (ht _ kw_22) (fun _ h9 => h9) rfl dX7_lay_172 ?_
                    refine lv_sipush (v := (4096 : Int32)) hx hb dX7_lay_175 (by decide) ?_
                    refine lv_iload_n hx hb dX7_lay_178 rfl (lv_at hl 1 rfl) ?_
                    refine lv_imul hx hb dX7_lay_179 ?_
                    refine lv_iload hx hb dX7_lay_180 (lv_at hl 7 rfl) ?_
                    refine lv_iadd hx hb dX7_lay_182 ?_
                    refine lv_aload_n hx hb dX7_lay_183 rfl (lv_at hl 0 rfl) ?_
                    refine va_get (D := (dC, dI)) (ci := 8) (v := .ref (jM 8)) (C := RX7) (T := TX7) (N := 34) hx hb ht inX7 hown hK hP 0 rfl rfl 8 (by decide) (ht _ kw_18) (fun _ h9 => h9) rfl dX7_lay_184 ?_
                    refine lv_bipush (v := (32 : Int32)) hx hb dX7_lay_187 (by decide) ?_
                    refine lv_iload_n hx hb dX7_lay_189 rfl (lv_at hl 1 rfl) ?_
                    refine lv_imul hx hb dX7_lay_190 ?_
                    refine lv_iload hx hb dX7_lay_191 (lv_at hl 5 rfl) ?_
                    refine lv_iadd hx hb dX7_lay_193 ?_
                    obtain ⟨g33, hm⟩ := gdi_of hm
                    refine va_iald hx hb hK hP 3 0 rfl rfl g33 dX7_lay_194 ?_
                    refine lv_iload hx hb dX7_lay_195 (lv_at hl 6 rfl) ?_
                    refine lv_iadd hx hb dX7_lay_197 ?_
                    obtain ⟨g34, hm⟩ := gdi_of hm
                    refine va_iast hx hb hK hP hD hS 7 0 rfl rfl g34 dX7_lay_198 (fun H locs hP hD hS => ?_)
                    obtain ⟨u35, eu35, hm⟩ := bnd_ex hm
                    have hP : va_P (dC, dI) vwCl ([wM cI cJ aM jM u35] : List va_W).flatten H := by rw [eu35]; exact hP
                    have hD : va_D A ([wM cI cJ aM jM u35] : List va_W).flatten := by rw [eu35]; exact hD
                    refine lv_aload_n hx hb dX7_lay_199 rfl (lv_at hl 0 rfl) ?_
                    refine va_get (D := (dC, dI)) (ci := 8) (v := .ref (jM 13)) (C := RX7) (T := TX7) (N := 34) hx hb ht inX7 hown hK hP 0 rfl rfl 13 (by decide) (ht _ kw_23) (fun _ h9 => h9) rfl dX7_lay_200 ?_
                    refine lv_sipush (v := (4096 : Int32)) hx hb dX7_lay_203 (by decide) ?_
                    refine lv_iload_n hx hb dX7_lay_206 rfl (lv_at hl 1 rfl) ?_
                    refine lv_imul hx hb dX7_lay_207 ?_
                    refine lv_aload_n hx hb dX7_lay_208 rfl (lv_at hl 0 rfl) ?_
                    refine va_get (D := (dC, dI)) (ci := 8) (v := .ref (jM 9)) (C := RX7) (T := TX7) (N := 34) hx hb ht inX7 hown hK hP 0 rfl rfl 9 (by decide) (ht _ kw_20) (fun _ h9 => h9) rfl dX7_lay_209 ?_
                    refine lv_bipush (v := (32 : Int32)) hx hb dX7_lay_212 (by decide) ?_
                    refine lv_iload_n hx hb dX7_lay_214 rfl (lv_at hl 1 rfl) ?_
                    refine lv_imul hx hb dX7_lay_215 ?_
                    refine lv_iload hx hb dX7_lay_216 (lv_at hl 5 rfl) ?_
                    refine lv_iadd hx hb dX7_lay_218 ?_
                    obtain ⟨g36, hm⟩ := gdi_of hm
                    refine va_iald hx hb hK hP 4 0 rfl rfl g36 dX7_lay_219 ?_
                    refine lv_iadd hx hb dX7_lay_220 ?_
                    refine lv_iload hx hb dX7_lay_221 (lv_at hl 6 rfl) ?_
                    refine lv_iadd hx hb dX7_lay_223 ?_
                    refine lv_iload hx hb dX7_lay_224 (lv_at hl 7 rfl) ?_
                    obtain ⟨g37, hm⟩ := gdi_of hm
                    refine va_iast hx hb hK hP hD hS 8 0 rfl rfl g37 dX7_lay_226 (fun H locs hP hD hS => ?_)
                    obtain ⟨u38, eu38, hm⟩ := bnd_ex hm
                    have hP : va_P (dC, dI) vwCl ([wM cI cJ aM jM u38] : List va_W).flatten H := by rw [eu38]; exact hP
                    have hD : va_D A ([wM cI cJ aM jM u38] : List va_W).flatten := by rw [eu38]; exact hD
                    obtain ⟨x39, ex39, hm⟩ := bnd_ex hm
                    refine lv_iinc (v := x39) (lv' := [(6, .int x39), (0, .ref aM), (1, .int p1), (2, .int x2), (3, .int x7), (4, .int x8), (5, .int x12), (7, .int x18)]) hx hb dX7_lay_227 hl (k := 6) rfl (by rw [ex39]; exact congrArg _ (by decide)) (by decide) rfl (fun ls hl => ?_)
                    obtain ⟨x40, ex40, hm⟩ := bnd_ex hm
                    refine lv_iinc (v := x40) (lv' := [(7, .int x40), (6, .int x39), (0, .ref aM), (1, .int p1), (2, .int x2), (3, .int x7), (4, .int x8), (5, .int x12)]) hx hb dX7_lay_230 hl (k := 7) rfl (by rw [ex40]; exact congrArg _ (by decide)) (by decide) rfl (fun ls hl => ?_)
                    refine lv_goto (tgt := 132) hx hb dX7_lay_233 (by decide) ?_
                    exact ih132 x40 x39 u38 _ _ _ hm hP hD hS (lv_sub hl [2, 3, 4, 5, 6, 7, 1, 0] rfl)
          exact LP132 FU (0 : Int32) (0 : Int32) u13 _ _ _ hm hP hD hS (lv_sub hl [2, 3, 4, 5, 6, 7, 1, 0] rfl)
    exact LP119 FU (0 : Int32) u10 _ _ _ hm hP hD hS (lv_sub hl [1, 2, 3, 4, 5, 0] rfl)
  have LP17 : ∀ (n17 : Nat) (x3 : Int32) (x4 : Int32) (x5 : Int32) (u6 : OS) (H : Heap) (locs : List Loc) (ls : Array Slot), f_X7_lay_L17 p1 x2 n17 K116_11 x3 x4 x5 u6 = some o → va_P (dC, dI) vwCl ([wM cI cJ aM jM u6] : List va_W).flatten H → va_D A ([wM cI cJ aM jM u6] : List va_W).flatten → va_S A s.heap H locs → lv_has ls 8 [(0, .ref aM), (1, .int p1), (2, .int x2), (3, .int x5), (4, .int x4), (5, .int x3)] → W p l e ({ frames := 0, cells := 0, slots := 0, locals := 0 } : Room) s m ([.ref aM, .int p1] : List Value).toArray below meth c H locs 0 0 Q (F0 m 17 ls []) := by
    intro n17
    induction n17 with
    | zero => intro x3 x4 x5 u6 H locs ls hm; exact nomatch (show (none : Option _) = some _ from hm)
    | succ n17 ih17 =>
      intro x3 x4 x5 u6 H locs ls hm hP hD hS hl
      unfold f_X7_lay_L17 at hm
      refine lv_iload hx hb dX7_lay_17 (lv_at hl 5 rfl) ?_
      refine lv_bipush (v := (32 : Int32)) hx hb dX7_lay_19 (by decide) ?_
      refine lv_icmp_ge (tgt := 116) hx hb dX7_lay_21 (by decide) (fun c41 => ?_) (fun c41 => ?_)
      · have hm := ite_t c41 hm
        exact X116_11 x5 x4 x3 u6 _ _ _ hm hP hD hS (lv_sub hl [0, 1, 2, 3, 4, 5] rfl)
      · have hm := ite_f c41 hm
        refine lv_aload_n hx hb dX7_lay_24 rfl (lv_at hl 0 rfl) ?_
        refine va_get (D := (dC, dI)) (ci := 8) (v := .ref (jM 9)) (C := RX7) (T := TX7) (N := 34) hx hb ht inX7 hown hK hP 0 rfl rfl 9 (by decide) (ht _ kw_20) (fun _ h9 => h9) rfl dX7_lay_25 ?_
        refine lv_bipush (v := (32 : Int32)) hx hb dX7_lay_28 (by decide) ?_
        refine lv_iload_n hx hb dX7_lay_30 rfl (lv_at hl 1 rfl) ?_
        refine lv_imul hx hb dX7_lay_31 ?_
        refine lv_iload hx hb dX7_lay_32 (lv_at hl 5 rfl) ?_
        refine lv_iadd hx hb dX7_lay_34 ?_
        refine lv_iload_n hx hb dX7_lay_35 rfl (lv_at hl 3 rfl) ?_
        obtain ⟨g42, hm⟩ := gdi_of hm
        refine va_iast hx hb hK hP hD hS 4 0 rfl rfl g42 dX7_lay_36 (fun H locs hP hD hS => ?_)
        obtain ⟨u43, eu43, hm⟩ := bnd_ex hm
        have hP : va_P (dC, dI) vwCl ([wM cI cJ aM jM u43] : List va_W).flatten H := by rw [eu43]; exact hP
        have hD : va_D A ([wM cI cJ aM jM u43] : List va_W).flatten := by rw [eu43]; exact hD
        refine lv_iload_n hx hb dX7_lay_37 rfl (lv_at hl 3 rfl) ?_
        refine lv_aload_n hx hb dX7_lay_38 rfl (lv_at hl 0 rfl) ?_
        refine va_get (D := (dC, dI)) (ci := 8) (v := .ref (jM 8)) (C := RX7) (T := TX7) (N := 34) hx hb ht inX7 hown hK hP 0 rfl rfl 8 (by decide) (ht _ kw_18) (fun _ h9 => h9) rfl dX7_lay_39 ?_
        refine lv_bipush (v := (32 : Int32)) hx hb dX7_lay_42 (by decide) ?_
        refine lv_iload_n hx hb dX7_lay_44 rfl (lv_at hl 1 rfl) ?_
        refine lv_imul hx hb dX7_lay_45 ?_
        refine lv_iload hx hb dX7_lay_46 (lv_at hl 5 rfl) ?_
        refine lv_iadd hx hb dX7_lay_48 ?_
        obtain ⟨g44, hm⟩ := gdi_of hm
        refine va_iald hx hb hK hP 3 0 rfl rfl g44 dX7_lay_49 ?_
        refine lv_iadd hx hb dX7_lay_50 ?_
        refine lv_topi (fun x45 ex45 => ?_)
        have hm := bnd_nm ex45 hm
        refine lv_istore_n (lv' := [(3, .int x45), (0, .ref aM), (1, .int p1), (2, .int x2), (4, .int x4), (5, .int x3)]) hx hb dX7_lay_51 rfl hl (by decide) rfl (fun ls hl => ?_)
        refine lv_iconst (v := (0 : Int32)) hx hb dX7_lay_52 (by decide) ?_
        refine lv_istore (lv' := [(6, .int (0 : Int32)), (3, .int x45), (0, .ref aM), (1, .int p1), (2, .int x2), (4, .int x4), (5, .int x3)]) hx hb dX7_lay_53 hl (by decide) rfl (fun ls hl => ?_)
        obtain ⟨K110_52, eK110_52, hm⟩ := bnd_ex hm
        have X110_52 : ∀ (x49 : Int32) (x50 : Int32) (u51 : OS) (H : Heap) (locs : List Loc) (ls : Array Slot), K110_52 x49 x50 u51 = some o → va_P (dC, dI) vwCl ([wM cI cJ aM jM u51] : List va_W).flatten H → va_D A ([wM cI cJ aM jM u51] : List va_W).flatten → va_S A s.heap H locs → lv_has ls 8 [(0, .ref aM), (1, .int p1), (2, .int x2), (3, .int x45), (4, .int x49), (5, .int x3), (6, .int x50)] → W p l e ({ frames := 0, cells := 0, slots := 0, locals := 0 } : Room) s m ([.ref aM, .int p1] : List Value).toArray below meth c H locs 0 0 Q (F0 m 110 ls []) := by
          intro x49 x50 u51 H locs ls hm hP hD hS hl
          have hm := ap3 eK110_52 hm
          obtain ⟨x53, ex53, hm⟩ := bnd_ex hm
          refine lv_iinc (v := x53) (lv' := [(5, .int x53), (0, .ref aM), (1, .int p1), (2, .int x2), (3, .int x45), (4, .int x49), (6, .int x50)]) hx hb dX7_lay_110 hl (k := 5) rfl (by rw [ex53]; exact congrArg _ (by decide)) (by decide) rfl (fun ls hl => ?_)
          refine lv_goto (tgt := 17) hx hb dX7_lay_113 (by decide) ?_
          exact ih17 x53 x49 x45 u51 _ _ _ hm hP hD hS (lv_sub hl [1, 2, 3, 4, 5, 0] rfl)
        have LP55 : ∀ (n55 : Nat) (x46 : Int32) (x47 : Int32) (u48 : OS) (H : Heap) (locs : List Loc) (ls : Array Slot), f_X7_lay_L55 p1 x2 x3 n55 K110_52 x46 x47 u48 = some o → va_P (dC, dI) vwCl ([wM cI cJ aM jM u48] : List va_W).flatten H → va_D A ([wM cI cJ aM jM u48] : List va_W).flatten → va_S A s.heap H locs → lv_has ls 8 [(0, .ref aM), (1, .int p1), (2, .int x2), (3, .int x45), (4, .int x47), (5, .int x3), (6, .int x46)] → W p l e ({ frames := 0, cells := 0, slots := 0, locals := 0 } : Room) s m ([.ref aM, .int p1] : List Value).toArray below meth c H locs 0 0 Q (F0 m 55 ls []) := by
          intro n55
          induction n55 with
          | zero => intro x46 x47 u48 H locs ls hm; exact nomatch (show (none : Option _) = some _ from hm)
          | succ n55 ih55 =>
            intro x46 x47 u48 H locs ls hm hP hD hS hl
            unfold f_X7_lay_L55 at hm
            refine lv_iload hx hb dX7_lay_55 (lv_at hl 6 rfl) ?_
            refine lv_aload_n hx hb dX7_lay_57 rfl (lv_at hl 0 rfl) ?_
            refine va_get (D := (dC, dI)) (ci := 8) (v := .ref (jM 8)) (C := RX7) (T := TX7) (N := 34) hx hb ht inX7 hown hK hP 0 rfl rfl 8 (by decide) (ht _ kw_18) (fun _ h9 => h9) rfl dX7_lay_58 ?_
            refine lv_bipush (v := (32 : Int32)) hx hb dX7_lay_61 (by decide) ?_
            refine lv_iload_n hx hb dX7_lay_63 rfl (lv_at hl 1 rfl) ?_
            refine lv_imul hx hb dX7_lay_64 ?_
            refine lv_iload hx hb dX7_lay_65 (lv_at hl 5 rfl) ?_
            refine lv_iadd hx hb dX7_lay_67 ?_
            obtain ⟨g54, hm⟩ := gdi_of hm
            refine va_iald hx hb hK hP 3 0 rfl rfl g54 dX7_lay_68 ?_
            refine lv_icmp_ge (tgt := 110) hx hb dX7_lay_69 (by decide) (fun c55 => ?_) (fun c55 => ?_)
            · have hm := ite_t c55 hm
              exact X110_52 x47 x46 u48 _ _ _ hm hP hD hS (lv_sub hl [0, 1, 2, 3, 4, 5, 6] rfl)
            · have hm := ite_f c55 hm
              refine lv_aload_n hx hb dX7_lay_72 rfl (lv_at hl 0 rfl) ?_
              refine va_get (D := (dC, dI)) (ci := 8) (v := .ref (jM 11)) (C := RX7) (T := TX7) (N := 34) hx hb ht inX7 hown hK hP 0 rfl rfl 11 (by decide) (ht _ kw_21) (fun _ h9 => h9) rfl dX7_lay_73 ?_
              refine lv_sipush (v := (4096 : Int32)) hx hb dX7_lay_76 (by decide) ?_
              refine lv_iload_n hx hb dX7_lay_79 rfl (lv_at hl 1 rfl) ?_
              refine lv_imul hx hb dX7_lay_80 ?_
              refine lv_iload hx hb dX7_lay_81 (lv_at hl 4 rfl) ?_
              refine lv_iadd hx hb dX7_lay_83 ?_
              refine lv_iload hx hb dX7_lay_84 (lv_at hl 5 rfl) ?_
              obtain ⟨g56, hm⟩ := gdi_of hm
              refine va_iast hx hb hK hP hD hS 6 0 rfl rfl g56 dX7_lay_86 (fun H locs hP hD hS => ?_)
              obtain ⟨u57, eu57, hm⟩ := bnd_ex hm
              have hP : va_P (dC, dI) vwCl ([wM cI cJ aM jM u57] : List va_W).flatten H := by rw [eu57]; exact hP
              have hD : va_D A ([wM cI cJ aM jM u57] : List va_W).flatten := by rw [eu57]; exact hD
              refine lv_iload hx hb dX7_lay_87 (lv_at hl 4 rfl) ?_
              refine lv_iload_n hx hb dX7_lay_89 rfl (lv_at hl 2 rfl) ?_
              refine lv_iconst (v := (2 : Int32)) hx hb dX7_lay_90 (by decide) ?_
              refine lv_idiv hx hb dX7_lay_91 (by decide) ?_
              refine lv_iadd hx hb dX7_lay_92 ?_
              refine lv_iload_n hx hb dX7_lay_93 rfl (lv_at hl 2 rfl) ?_
              refine lv_bipush (v := (8 : Int32)) hx hb dX7_lay_94 (by decide) ?_
              refine lv_idiv hx hb dX7_lay_96 (by decide) ?_
              refine lv_iadd hx hb dX7_lay_97 ?_
              refine lv_iconst (v := (3 : Int32)) hx hb dX7_lay_98 (by decide) ?_
              refine lv_iadd hx hb dX7_lay_99 ?_
              refine lv_iload_n hx hb dX7_lay_100 rfl (lv_at hl 2 rfl) ?_
              obtain ⟨g58, hm⟩ := gdz_of hm
              refine lv_irem hx hb dX7_lay_101 g58 ?_
              refine lv_topi (fun x59 ex59 => ?_)
              have hm := bnd_nm ex59 hm
              refine lv_istore (lv' := [(4, .int x59), (0, .ref aM), (1, .int p1), (2, .int x2), (3, .int x45), (5, .int x3), (6, .int x46)]) hx hb dX7_lay_102 hl (by decide) rfl (fun ls hl => ?_)
              obtain ⟨x60, ex60, hm⟩ := bnd_ex hm
              refine lv_iinc (v := x60) (lv' := [(6, .int x60), (4, .int x59), (0, .ref aM), (1, .int p1), (2, .int x2), (3, .int x45), (5, .int x3)]) hx hb dX7_lay_104 hl (k := 6) rfl (by rw [ex60]; exact congrArg _ (by decide)) (by decide) rfl (fun ls hl => ?_)
              refine lv_goto (tgt := 55) hx hb dX7_lay_107 (by decide) ?_
              exact ih55 x60 x59 u57 _ _ _ hm hP hD hS (lv_sub hl [2, 3, 4, 5, 1, 6, 0] rfl)
        exact LP55 FU (0 : Int32) x4 u43 _ _ _ hm hP hD hS (lv_sub hl [2, 3, 4, 1, 5, 6, 0] rfl)
  exact LP17 FU (0 : Int32) (0 : Int32) (0 : Int32) uM _ _ _ hm hP hD hS (lv_sub hl [4, 5, 3, 2, 1, 0] rfl)

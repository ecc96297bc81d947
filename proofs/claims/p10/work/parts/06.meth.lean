def f_X7_form (uM : OS) (p1 : Int32) : Option (OS × Int32) :=
  bnd (sF uM 1 (0 : Int32)) fun u1 =>
  if p1 < (0 : Int32) then (
  some (u1, (-1 : Int32))) else (
  if p1 ≤ (3 : Int32) then (
  bnd (u1.1 2) fun x4 =>
  bnd (sF u1 2 p1) fun u5 =>
  some (u5, x4)) else (
  some (u1, (-1 : Int32))))

set_option maxHeartbeats 4000000 in
set_option maxRecDepth 100000 in
theorem c_X7_form (l : Launch) (dC : Nat → ClassId) (dI : Nat → Nat → Nat) (cI cJ : ClassId) (aM : Nat) (hM : Nat → Nat) (sz : Nat) (uM : OS) (p1 : Int32) (o : OS × Int32) (hm : f_X7_form uM p1 = some o) : Met l yX7_form (wq yX7_form cX7_form 3 (some .int)) ({ frames := 0, cells := 0, slots := 0, locals := 0 } : Room) (va_Pc [.ref aM, .int p1] (pcW dC dI cI cJ sz (wM cI cJ aM hM uM))) (va_Qi (S := OS) (fun r u => some (u, r) = some o) (fun (u : OS) t => va_P (dC, dI) vwCl (wM cI cJ aM hM u) t.heap ∧ va_D (va_A (wM cI cJ aM hM uM) sz) (wM cI cJ aM hM u)) (va_A (wM cI cJ aM hM uM) sz)) 0 0 (va_A (wM cI cJ aM hM uM) sz) := by
  refine Met.ofW (cc := cX7_form) (maxL := 3) (ret := (some .int)) (by decide) rfl ?_
  intro p e s m args below meth c s₁ B hml hv
  obtain ⟨rfl, hsz, hP, hK, hD0, hN⟩ := hv
  have hx := B.exec
  have hb := B.bytes
  have hr := B.returns
  have ht : ∀ w ∈ lw_good, w.before _ s = true := fun w h => atoms_spec (ws := wq yX7_form cX7_form 3 (some .int)) B.pre w (wq_mem h)
  have hown : s.vm.findClass RX7 = some m.cls := findClass_of_methodNamed B.named
  have hlocks := B.notSynchronized
  subst hsz
  have hD := hD0.self (sz := s.heap.size)
  generalize hAe : va_A (wM cI cJ aM hM uM) s.heap.size = A at hD ⊢
  have hA : ∀ q : Nat, s.heap.size ≤ q → A q := fun q h => by rw [← hAe]; exact Or.inr h
  have hS : va_S A s.heap s.heap [] := va_S.rf
  have hl := lv_entry ([.ref aM, .int p1]) (n := 3) (Nat.le_of_ble_eq_true rfl)
  rw [lg_entry_eq]
  generalize (lg_sl ([.ref aM, .int p1]) ++ List.replicate (3 - (lg_sl ([.ref aM, .int p1])).length) Slot.unset).toArray = ls at hl ⊢
  have hl : lv_has ls 3 [(0, .ref aM), (1, .int p1)] := hl
  generalize hQ : MQ below _ _ s _ _ _ = Q
  generalize hH : s.heap = H at hP ⊢
  have hS : va_S A s.heap H [] := by rw [← hH]; exact va_S.rf
  show W p l e ({ frames := 0, cells := 0, slots := 0, locals := 0 } : Room) s m ([.ref aM, .int p1] : List Value).toArray below meth c H [] 0 0 Q (F0 m 0 ls [])
  unfold f_X7_form at hm
  refine lv_aload_n hx hb dX7_form_0 rfl (lv_at hl 0 rfl) ?_
  refine lv_iconst (v := (0 : Int32)) hx hb dX7_form_1 (by decide) ?_
  refine va_put (D := (dC, dI)) (ci := 8) (v := .int (0 : Int32)) (ty := .int) (C := RX7) (T := TX7) (N := 34) hx hb ht inX7 tyX7 tyX7_ok nmX7 hown hK hP hD hS 0 rfl rfl 1 (by decide) (ht _ kw_0) (fun _ h9 => h9) rfl (by decide +kernel) rfl rfl (Nat.le_of_ble_eq_true rfl) dX7_form_2 (fun H locs hP hD hS => ?_)
  obtain ⟨u1, eu1, hm⟩ := bnd_ex hm
  have hP : va_P (dC, dI) vwCl (wM cI cJ aM hM u1) H := by rw [eu1]; exact hP
  have hD : va_D A (wM cI cJ aM hM u1) := by rw [eu1]; exact hD
  refine lv_iload_n hx hb dX7_form_5 rfl (lv_at hl 1 rfl) ?_
  refine lv_if_lt (tgt := 14) hx hb dX7_form_6 (by decide) (fun c2 => ?_) (fun c2 => ?_)
  · have hm := ite_t c2 hm
    refine lv_iconst (v := (-1 : Int32)) hx hb dX7_form_14 (by decide) ?_
    rw [← hQ]
    exact W.iret (v := (-1 : Int32)) hx hb hr (fun t ht1 hW => ⟨⟨_, u1, rfl, hm, by rw [ht1]; exact hP, hD⟩, hS.F ht1⟩) hS.2.2 dX7_form_15
  · have hm := ite_f c2 hm
    refine lv_iload_n hx hb dX7_form_9 rfl (lv_at hl 1 rfl) ?_
    refine lv_iconst (v := (3 : Int32)) hx hb dX7_form_10 (by decide) ?_
    refine lv_icmp_le (tgt := 16) hx hb dX7_form_11 (by decide) (fun c3 => ?_) (fun c3 => ?_)
    · have hm := ite_t c3 hm
      refine lv_aload_n hx hb dX7_form_16 rfl (lv_at hl 0 rfl) ?_
      refine va_get (D := (dC, dI)) (ci := 8) (v := .int (u1.1 2)) (C := RX7) (T := TX7) (N := 34) hx hb ht inX7 hown hK hP 0 rfl rfl 2 (by decide) (ht _ kw_1) (fun _ h9 => h9) rfl dX7_form_17 ?_
      refine lv_topi (fun x4 ex4 => ?_)
      have hm := bnd_nm ex4 hm
      refine lv_istore_n (lv' := [(2, .int x4), (0, .ref aM), (1, .int p1)]) hx hb dX7_form_20 rfl hl (by decide) rfl (fun ls hl => ?_)
      refine lv_aload_n hx hb dX7_form_21 rfl (lv_at hl 1 rfl) ?_
      refine lv_iload_n hx hb dX7_form_22 rfl (lv_at hl 2 rfl) ?_
      refine va_put (D := (dC, dI)) (ci := 8) (v := .int p1) (ty := .int) (C := RX7) (T := TX7) (N := 34) hx hb ht inX7 tyX7 tyX7_ok nmX7 hown hK hP hD hS 0 rfl rfl 2 (by decide) (ht _ kw_1) (fun _ h9 => h9) rfl (by decide +kernel) rfl rfl (Nat.le_of_ble_eq_true rfl) dX7_form_23 (fun H locs hP hD hS => ?_)
      obtain ⟨u5, eu5, hm⟩ := bnd_ex hm
      have hP : va_P (dC, dI) vwCl (wM cI cJ aM hM u5) H := by rw [eu5]; exact hP
      have hD : va_D A (wM cI cJ aM hM u5) := by rw [eu5]; exact hD
      refine lv_iload_n hx hb dX7_form_26 rfl (lv_at hl 0 rfl) ?_
      rw [← hQ]
      exact W.iret (v := x4) hx hb hr (fun t ht1 hW => ⟨⟨_, u5, rfl, hm, by rw [ht1]; exact hP, hD⟩, hS.F ht1⟩) hS.2.2 dX7_form_27
    · have hm := ite_f c3 hm
      refine lv_iconst (v := (-1 : Int32)) hx hb dX7_form_14 (by decide) ?_
      rw [← hQ]
      exact W.iret (v := (-1 : Int32)) hx hb hr (fun t ht1 hW => ⟨⟨_, u1, rfl, hm, by rw [ht1]; exact hP, hD⟩, hS.F ht1⟩) hS.2.2 dX7_form_15

def f_X7_clear (uM : OS) : Option (OS × Int32) :=
  bnd (sF uM 1 (0 : Int32)) fun u1 =>
  bnd (u1.1 5) fun x2 =>
  bnd (sF u1 5 (0 : Int32)) fun u3 =>
  some (u3, x2)

set_option maxHeartbeats 4000000 in
set_option maxRecDepth 100000 in
theorem c_X7_clear (l : Launch) (dC : Nat → ClassId) (dI : Nat → Nat → Nat) (cI cJ : ClassId) (aM : Nat) (hM : Nat → Nat) (sz : Nat) (uM : OS) (o : OS × Int32) (hm : f_X7_clear uM = some o) : Met l yX7_clear (wq yX7_clear cX7_clear 2 (some .int)) ({ frames := 0, cells := 0, slots := 0, locals := 0 } : Room) (va_Pc [.ref aM] (pcW dC dI cI cJ sz (wM cI cJ aM hM uM))) (va_Qi (S := OS) (fun r u => some (u, r) = some o) (fun (u : OS) t => va_P (dC, dI) vwCl (wM cI cJ aM hM u) t.heap ∧ va_D (va_A (wM cI cJ aM hM uM) sz) (wM cI cJ aM hM u)) (va_A (wM cI cJ aM hM uM) sz)) 0 0 (va_A (wM cI cJ aM hM uM) sz) := by
  refine Met.ofW (cc := cX7_clear) (maxL := 2) (ret := (some .int)) (by decide) rfl ?_
  intro p e s m args below meth c s₁ B hml hv
  obtain ⟨rfl, hsz, hP, hK, hD0, hN⟩ := hv
  have hx := B.exec
  have hb := B.bytes
  have hr := B.returns
  have ht : ∀ w ∈ lw_good, w.before _ s = true := fun w h => atoms_spec (ws := wq yX7_clear cX7_clear 2 (some .int)) B.pre w (wq_mem h)
  have hown : s.vm.findClass RX7 = some m.cls := findClass_of_methodNamed B.named
  have hlocks := B.notSynchronized
  subst hsz
  have hD := hD0.self (sz := s.heap.size)
  generalize hAe : va_A (wM cI cJ aM hM uM) s.heap.size = A at hD ⊢
  have hA : ∀ q : Nat, s.heap.size ≤ q → A q := fun q h => by rw [← hAe]; exact Or.inr h
  have hS : va_S A s.heap s.heap [] := va_S.rf
  have hl := lv_entry ([.ref aM]) (n := 2) (Nat.le_of_ble_eq_true rfl)
  rw [lg_entry_eq]
  generalize (lg_sl ([.ref aM]) ++ List.replicate (2 - (lg_sl ([.ref aM])).length) Slot.unset).toArray = ls at hl ⊢
  have hl : lv_has ls 2 [(0, .ref aM)] := hl
  generalize hQ : MQ below _ _ s _ _ _ = Q
  generalize hH : s.heap = H at hP ⊢
  have hS : va_S A s.heap H [] := by rw [← hH]; exact va_S.rf
  show W p l e ({ frames := 0, cells := 0, slots := 0, locals := 0 } : Room) s m ([.ref aM] : List Value).toArray below meth c H [] 0 0 Q (F0 m 0 ls [])
  unfold f_X7_clear at hm
  refine lv_aload_n hx hb dX7_clear_0 rfl (lv_at hl 0 rfl) ?_
  refine lv_iconst (v := (0 : Int32)) hx hb dX7_clear_1 (by decide) ?_
  refine va_put (D := (dC, dI)) (ci := 8) (v := .int (0 : Int32)) (ty := .int) (C := RX7) (T := TX7) (N := 34) hx hb ht inX7 tyX7 tyX7_ok nmX7 hown hK hP hD hS 0 rfl rfl 1 (by decide) (ht _ kw_0) (fun _ h9 => h9) rfl (by decide +kernel) rfl rfl (Nat.le_of_ble_eq_true rfl) dX7_clear_2 (fun H locs hP hD hS => ?_)
  obtain ⟨u1, eu1, hm⟩ := bnd_ex hm
  have hP : va_P (dC, dI) vwCl (wM cI cJ aM hM u1) H := by rw [eu1]; exact hP
  have hD : va_D A (wM cI cJ aM hM u1) := by rw [eu1]; exact hD
  refine lv_aload_n hx hb dX7_clear_5 rfl (lv_at hl 0 rfl) ?_
  refine va_get (D := (dC, dI)) (ci := 8) (v := .int (u1.1 5)) (C := RX7) (T := TX7) (N := 34) hx hb ht inX7 hown hK hP 0 rfl rfl 5 (by decide) (ht _ kw_2) (fun _ h9 => h9) rfl dX7_clear_6 ?_
  refine lv_topi (fun x2 ex2 => ?_)
  have hm := bnd_nm ex2 hm
  refine lv_istore_n (lv' := [(1, .int x2), (0, .ref aM)]) hx hb dX7_clear_9 rfl hl (by decide) rfl (fun ls hl => ?_)
  refine lv_aload_n hx hb dX7_clear_10 rfl (lv_at hl 1 rfl) ?_
  refine lv_iconst (v := (0 : Int32)) hx hb dX7_clear_11 (by decide) ?_
  refine va_put (D := (dC, dI)) (ci := 8) (v := .int (0 : Int32)) (ty := .int) (C := RX7) (T := TX7) (N := 34) hx hb ht inX7 tyX7 tyX7_ok nmX7 hown hK hP hD hS 0 rfl rfl 5 (by decide) (ht _ kw_2) (fun _ h9 => h9) rfl (by decide +kernel) rfl rfl (Nat.le_of_ble_eq_true rfl) dX7_clear_12 (fun H locs hP hD hS => ?_)
  obtain ⟨u3, eu3, hm⟩ := bnd_ex hm
  have hP : va_P (dC, dI) vwCl (wM cI cJ aM hM u3) H := by rw [eu3]; exact hP
  have hD : va_D A (wM cI cJ aM hM u3) := by rw [eu3]; exact hD
  refine lv_iload_n hx hb dX7_clear_15 rfl (lv_at hl 0 rfl) ?_
  rw [← hQ]
  exact W.iret (v := x2) hx hb hr (fun t ht1 hW => ⟨⟨_, u3, rfl, hm, by rw [ht1]; exact hP, hD⟩, hS.F ht1⟩) hS.2.2 dX7_clear_16

def f_X7_signsCounted_L4 (uM : OS) : Nat → (Int32 → Int32 → Option (Int32)) → Int32 → Int32 → Option (Int32)
  | 0, _, _, _ => none
  | n4 + 1, K33_5, x1, x2 =>
    if (32 : Int32) ≤ x1 then (
    K33_5 x2 x1) else (
    gdi x1 32 <|
    if (uM.2.1 6 (x1).toNatClampNeg) ≤ (0 : Int32) then (
    bnd (x2 + (0 : Int32)) fun x9 =>
    bnd (x1 + (1 : Int32)) fun x10 =>
    f_X7_signsCounted_L4 uM n4 K33_5 x10 x9) else (
    bnd (x2 + (1 : Int32)) fun x11 =>
    bnd (x1 + (1 : Int32)) fun x12 =>
    f_X7_signsCounted_L4 uM n4 K33_5 x12 x11))

def f_X7_signsCounted (uM : OS) : Option (Int32) :=
  bnd (fun (x3 : Int32) (x4 : Int32) =>
  some x3) fun K33_5 =>
  f_X7_signsCounted_L4 uM FU K33_5 (0 : Int32) (0 : Int32)

set_option maxHeartbeats 4000000 in
set_option maxRecDepth 100000 in
theorem c_X7_signsCounted (l : Launch) (dC : Nat → ClassId) (dI : Nat → Nat → Nat) (cI cJ : ClassId) (aM : Nat) (hM : Nat → Nat) (sz : Nat) (uM : OS) (o : Int32) (hm : f_X7_signsCounted uM = some o) : Met l yX7_signsCounted (wq yX7_signsCounted cX7_signsCounted 3 (some .int)) ({ frames := 0, cells := 0, slots := 0, locals := 0 } : Room) (va_Pc [.ref aM] (pcW dC dI cI cJ sz (wM cI cJ aM hM uM))) (va_Qi (S := Unit) (fun r u => some r = some o) (fun (u : Unit) t => va_P (dC, dI) vwCl (wM cI cJ aM hM uM) t.heap ∧ va_D (va_A (wM cI cJ aM hM uM) sz) (wM cI cJ aM hM uM)) (va_A (wM cI cJ aM hM uM) sz)) 0 0 (va_A (wM cI cJ aM hM uM) sz) := by
  refine Met.ofW (cc := cX7_signsCounted) (maxL := 3) (ret := (some .int)) (by decide) rfl ?_
  intro p e s m args below meth c s₁ B hml hv
  obtain ⟨rfl, hsz, hP, hK, hD0, hN⟩ := hv
  have hx := B.exec
  have hb := B.bytes
  have hr := B.returns
  have ht : ∀ w ∈ lw_good, w.before _ s = true := fun w h => atoms_spec (ws := wq yX7_signsCounted cX7_signsCounted 3 (some .int)) B.pre w (wq_mem h)
  have hown : s.vm.findClass RX7 = some m.cls := findClass_of_methodNamed B.named
  have hlocks := B.notSynchronized
  subst hsz
  have hD := hD0.self (sz := s.heap.size)
  generalize hAe : va_A (wM cI cJ aM hM uM) s.heap.size = A at hD ⊢
  have hA : ∀ q : Nat, s.heap.size ≤ q → A q := fun q h => by rw [← hAe]; exact Or.inr h
  have hS : va_S A s.heap s.heap [] := va_S.rf
  have hl := lv_entry ([.ref aM]) (n := 3) (Nat.le_of_ble_eq_true rfl)
  rw [lg_entry_eq]
  generalize (lg_sl ([.ref aM]) ++ List.replicate (3 - (lg_sl ([.ref aM])).length) Slot.unset).toArray = ls at hl ⊢
  have hl : lv_has ls 3 [(0, .ref aM)] := hl
  generalize hQ : MQ below _ _ s _ _ _ = Q
  generalize hH : s.heap = H at hP ⊢
  have hS : va_S A s.heap H [] := by rw [← hH]; exact va_S.rf
  show W p l e ({ frames := 0, cells := 0, slots := 0, locals := 0 } : Room) s m ([.ref aM] : List Value).toArray below meth c H [] 0 0 Q (F0 m 0 ls [])
  unfold f_X7_signsCounted at hm
  refine lv_iconst (v := (0 : Int32)) hx hb dX7_signsCounted_0 (by decide) ?_
  refine lv_istore_n (lv' := [(1, .int (0 : Int32)), (0, .ref aM)]) hx hb dX7_signsCounted_1 rfl hl (by decide) rfl (fun ls hl => ?_)
  refine lv_iconst (v := (0 : Int32)) hx hb dX7_signsCounted_2 (by decide) ?_
  refine lv_istore_n (lv' := [(2, .int (0 : Int32)), (1, .int (0 : Int32)), (0, .ref aM)]) hx hb dX7_signsCounted_3 rfl hl (by decide) rfl (fun ls hl => ?_)
  obtain ⟨K33_5, eK33_5, hm⟩ := bnd_ex hm
  have X33_5 : ∀ (x3 : Int32) (x4 : Int32) (H : Heap) (locs : List Loc) (ls : Array Slot), K33_5 x3 x4 = some o → va_P (dC, dI) vwCl (wM cI cJ aM hM uM) H → va_D A (wM cI cJ aM hM uM) → va_S A s.heap H locs → lv_has ls 3 [(0, .ref aM), (1, .int x3), (2, .int x4)] → W p l e ({ frames := 0, cells := 0, slots := 0, locals := 0 } : Room) s m ([.ref aM] : List Value).toArray below meth c H locs 0 0 Q (F0 m 33 ls []) := by
    intro x3 x4 H locs ls hm hP hD hS hl
    have hm := ap2 eK33_5 hm
    refine lv_iload_n hx hb dX7_signsCounted_33 rfl (lv_at hl 1 rfl) ?_
    rw [← hQ]
    exact W.iret (v := x3) hx hb hr (fun t ht1 hW => ⟨⟨_, (), rfl, hm, by rw [ht1]; exact hP, hD⟩, hS.F ht1⟩) hS.2.2 dX7_signsCounted_34
  have LP4 : ∀ (n4 : Nat) (x1 : Int32) (x2 : Int32) (H : Heap) (locs : List Loc) (ls : Array Slot), f_X7_signsCounted_L4 uM n4 K33_5 x1 x2 = some o → va_P (dC, dI) vwCl (wM cI cJ aM hM uM) H → va_D A (wM cI cJ aM hM uM) → va_S A s.heap H locs → lv_has ls 3 [(0, .ref aM), (1, .int x2), (2, .int x1)] → W p l e ({ frames := 0, cells := 0, slots := 0, locals := 0 } : Room) s m ([.ref aM] : List Value).toArray below meth c H locs 0 0 Q (F0 m 4 ls []) := by
    intro n4
    induction n4 with
    | zero => intro x1 x2 H locs ls hm; exact nomatch (show (none : Option _) = some _ from hm)
    | succ n4 ih4 =>
      intro x1 x2 H locs ls hm hP hD hS hl
      unfold f_X7_signsCounted_L4 at hm
      refine lv_iload_n hx hb dX7_signsCounted_4 rfl (lv_at hl 2 rfl) ?_
      refine lv_bipush (v := (32 : Int32)) hx hb dX7_signsCounted_5 (by decide) ?_
      refine lv_icmp_ge (tgt := 33) hx hb dX7_signsCounted_7 (by decide) (fun c6 => ?_) (fun c6 => ?_)
      · have hm := ite_t c6 hm
        exact X33_5 x2 x1 _ _ _ hm hP hD hS (lv_sub hl [0, 1, 2] rfl)
      · have hm := ite_f c6 hm
        refine lv_iload_n hx hb dX7_signsCounted_10 rfl (lv_at hl 1 rfl) ?_
        refine lv_aload_n hx hb dX7_signsCounted_11 rfl (lv_at hl 0 rfl) ?_
        refine va_get (D := (dC, dI)) (ci := 8) (v := .ref (hM 6)) (C := RX7) (T := TX7) (N := 34) hx hb ht inX7 hown hK hP 0 rfl rfl 6 (by decide) (ht _ kw_3) (fun _ h9 => h9) rfl dX7_signsCounted_12 ?_
        refine lv_iload_n hx hb dX7_signsCounted_15 rfl (lv_at hl 2 rfl) ?_
        obtain ⟨g7, hm⟩ := gdi_of hm
        refine va_iald hx hb hK hP 2 0 rfl rfl g7 dX7_signsCounted_16 ?_
        refine lv_if_le (tgt := 24) hx hb dX7_signsCounted_17 (by decide) (fun c8 => ?_) (fun c8 => ?_)
        · have hm := ite_t c8 hm
          refine lv_iconst (v := (0 : Int32)) hx hb dX7_signsCounted_24 (by decide) ?_
          refine lv_iadd hx hb dX7_signsCounted_25 ?_
          refine lv_topi (fun x9 ex9 => ?_)
          have hm := bnd_nm ex9 hm
          refine lv_istore_n (lv' := [(1, .int x9), (0, .ref aM), (2, .int x1)]) hx hb dX7_signsCounted_26 rfl hl (by decide) rfl (fun ls hl => ?_)
          obtain ⟨x10, ex10, hm⟩ := bnd_ex hm
          refine lv_iinc (v := x10) (lv' := [(2, .int x10), (1, .int x9), (0, .ref aM)]) hx hb dX7_signsCounted_27 hl (k := 2) rfl (by rw [ex10]; exact congrArg _ (by decide)) (by decide) rfl (fun ls hl => ?_)
          refine lv_goto (tgt := 4) hx hb dX7_signsCounted_30 (by decide) ?_
          exact ih4 x10 x9 _ _ _ hm hP hD hS (lv_sub hl [2, 1, 0] rfl)
        · have hm := ite_f c8 hm
          refine lv_iconst (v := (1 : Int32)) hx hb dX7_signsCounted_20 (by decide) ?_
          refine lv_goto (tgt := 25) hx hb dX7_signsCounted_21 (by decide) ?_
          refine lv_iadd hx hb dX7_signsCounted_25 ?_
          refine lv_topi (fun x11 ex11 => ?_)
          have hm := bnd_nm ex11 hm
          refine lv_istore_n (lv' := [(1, .int x11), (0, .ref aM), (2, .int x1)]) hx hb dX7_signsCounted_26 rfl hl (by decide) rfl (fun ls hl => ?_)
          obtain ⟨x12, ex12, hm⟩ := bnd_ex hm
          refine lv_iinc (v := x12) (lv' := [(2, .int x12), (1, .int x11), (0, .ref aM)]) hx hb dX7_signsCounted_27 hl (k := 2) rfl (by rw [ex12]; exact congrArg _ (by decide)) (by decide) rfl (fun ls hl => ?_)
          refine lv_goto (tgt := 4) hx hb dX7_signsCounted_30 (by decide) ?_
          exact ih4 x12 x11 _ _ _ hm hP hD hS (lv_sub hl [2, 1, 0] rfl)
  exact LP4 FU (0 : Int32) (0 : Int32) _ _ _ hm hP hD hS (lv_sub hl [2, 1, 0] rfl)

def f_X7_fail (uM : OS) (p1 : Int32) : Option (OS) :=
  if (uM.1 27) = (0 : Int32) then (
  bnd (sF uM 27 p1) fun u2 =>
  some u2) else (
  some uM)

set_option maxHeartbeats 4000000 in
set_option maxRecDepth 100000 in
theorem c_X7_fail (l : Launch) (dC : Nat → ClassId) (dI : Nat → Nat → Nat) (cI cJ : ClassId) (aM : Nat) (hM : Nat → Nat) (sz : Nat) (uM : OS) (p1 : Int32) (o : OS) (hm : f_X7_fail uM p1 = some o) : Met l yX7_fail (wq yX7_fail cX7_fail 2 none) ({ frames := 0, cells := 0, slots := 0, locals := 0 } : Room) (va_Pc [.ref aM, .int p1] (pcW dC dI cI cJ sz (wM cI cJ aM hM uM))) (va_Qv (S := OS) (fun u => some u = some o) (fun (u : OS) t => va_P (dC, dI) vwCl (wM cI cJ aM hM u) t.heap ∧ va_D (va_A (wM cI cJ aM hM uM) sz) (wM cI cJ aM hM u)) (va_A (wM cI cJ aM hM uM) sz)) 0 0 (va_A (wM cI cJ aM hM uM) sz) := by
  refine Met.ofW (cc := cX7_fail) (maxL := 2) (ret := none) (by decide) rfl ?_
  intro p e s m args below meth c s₁ B hml hv
  obtain ⟨rfl, hsz, hP, hK, hD0, hN⟩ := hv
  have hx := B.exec
  have hb := B.bytes
  have hr := B.returns
  have ht : ∀ w ∈ lw_good, w.before _ s = true := fun w h => atoms_spec (ws := wq yX7_fail cX7_fail 2 none) B.pre w (wq_mem h)
  have hown : s.vm.findClass RX7 = some m.cls := findClass_of_methodNamed B.named
  have hlocks := B.notSynchronized
  subst hsz
  have hD := hD0.self (sz := s.heap.size)
  generalize hAe : va_A (wM cI cJ aM hM uM) s.heap.size = A at hD ⊢
  have hA : ∀ q : Nat, s.heap.size ≤ q → A q := fun q h => by rw [← hAe]; exact Or.inr h
  have hS : va_S A s.heap s.heap [] := va_S.rf
  have hl := lv_entry ([.ref aM, .int p1]) (n := 2) (Nat.le_of_ble_eq_true rfl)
  rw [lg_entry_eq]
  generalize (lg_sl ([.ref aM, .int p1]) ++ List.replicate (2 - (lg_sl ([.ref aM, .int p1])).length) Slot.unset).toArray = ls at hl ⊢
  have hl : lv_has ls 2 [(0, .ref aM), (1, .int p1)] := hl
  generalize hQ : MQ below _ _ s _ _ _ = Q
  generalize hH : s.heap = H at hP ⊢
  have hS : va_S A s.heap H [] := by rw [← hH]; exact va_S.rf
  show W p l e ({ frames := 0, cells := 0, slots := 0, locals := 0 } : Room) s m ([.ref aM, .int p1] : List Value).toArray below meth c H [] 0 0 Q (F0 m 0 ls [])
  unfold f_X7_fail at hm
  refine lv_aload_n hx hb dX7_fail_0 rfl (lv_at hl 0 rfl) ?_
  refine va_get (D := (dC, dI)) (ci := 8) (v := .int (uM.1 27)) (C := RX7) (T := TX7) (N := 34) hx hb ht inX7 hown hK hP 0 rfl rfl 27 (by decide) (ht _ kw_4) (fun _ h9 => h9) rfl dX7_fail_1 ?_
  refine lv_if_ne (tgt := 12) hx hb dX7_fail_4 (by decide) (fun c1 => ?_) (fun c1 => ?_)
  · have hm := ite_f c1 hm
    rw [← hQ]
    exact W.vret hx hb hr (fun t ht1 hW => ⟨⟨uM, rfl, hm, by rw [ht1]; exact hP, hD⟩, hS.F ht1⟩) hS.2.2 dX7_fail_12
  · have hm := ite_t c1 hm
    refine lv_aload_n hx hb dX7_fail_7 rfl (lv_at hl 0 rfl) ?_
    refine lv_iload_n hx hb dX7_fail_8 rfl (lv_at hl 1 rfl) ?_
    refine va_put (D := (dC, dI)) (ci := 8) (v := .int p1) (ty := .int) (C := RX7) (T := TX7) (N := 34) hx hb ht inX7 tyX7 tyX7_ok nmX7 hown hK hP hD hS 0 rfl rfl 27 (by decide) (ht _ kw_4) (fun _ h9 => h9) rfl (by decide +kernel) rfl rfl (Nat.le_of_ble_eq_true rfl) dX7_fail_9 (fun H locs hP hD hS => ?_)
    obtain ⟨u2, eu2, hm⟩ := bnd_ex hm
    have hP : va_P (dC, dI) vwCl (wM cI cJ aM hM u2) H := by rw [eu2]; exact hP
    have hD : va_D A (wM cI cJ aM hM u2) := by rw [eu2]; exact hD
    rw [← hQ]
    exact W.vret hx hb hr (fun t ht1 hW => ⟨⟨u2, rfl, hm, by rw [ht1]; exact hP, hD⟩, hS.F ht1⟩) hS.2.2 dX7_fail_12

def f_X7_next (uM : OS) : Option (OS × Int32) :=
  if (uM.1 27) ≤ (0 : Int32) then (
  if (uM.1 26) < (uM.1 15) then (
  bnd (sF uM 26 ((uM.1 26) + (1 : Int32))) fun u3 =>
  gdi ((u3.1 26) - (1 : Int32)) 20000 <|
  some (u3, (u3.2.1 14 (((u3.1 26) - (1 : Int32))).toNatClampNeg))) else (
  oC1 (f_X7_fail uM (1 : Int32)) fun u5 =>
  some (u5, (0 : Int32)))) else (
  some (uM, (0 : Int32)))

set_option maxHeartbeats 4000000 in
set_option maxRecDepth 100000 in
theorem c_X7_next (l : Launch) (dC : Nat → ClassId) (dI : Nat → Nat → Nat) (cI cJ : ClassId) (aM : Nat) (hM : Nat → Nat) (sz : Nat) (uM : OS) (o : OS × Int32) (hm : f_X7_next uM = some o) : Met l yX7_next (wq yX7_next cX7_next 1 (some .int)) ({ frames := 1, cells := 0, slots := 0, locals := 21 } : Room) (va_Pc [.ref aM] (pcW dC dI cI cJ sz (wM cI cJ aM hM uM))) (va_Qi (S := OS) (fun r u => some (u, r) = some o) (fun (u : OS) t => va_P (dC, dI) vwCl (wM cI cJ aM hM u) t.heap ∧ va_D (va_A (wM cI cJ aM hM uM) sz) (wM cI cJ aM hM u)) (va_A (wM cI cJ aM hM uM) sz)) 0 0 (va_A (wM cI cJ aM hM uM) sz) := by
  refine Met.ofW (cc := cX7_next) (maxL := 1) (ret := (some .int)) (by decide) rfl ?_
  intro p e s m args below meth c s₁ B hml hv
  obtain ⟨rfl, hsz, hP, hK, hD0, hN⟩ := hv
  have hx := B.exec
  have hb := B.bytes
  have hr := B.returns
  have ht : ∀ w ∈ lw_good, w.before _ s = true := fun w h => atoms_spec (ws := wq yX7_next cX7_next 1 (some .int)) B.pre w (wq_mem h)
  have hown : s.vm.findClass RX7 = some m.cls := findClass_of_methodNamed B.named
  have hlocks := B.notSynchronized
  subst hsz
  have hD := hD0.self (sz := s.heap.size)
  generalize hAe : va_A (wM cI cJ aM hM uM) s.heap.size = A at hD ⊢
  have hA : ∀ q : Nat, s.heap.size ≤ q → A q := fun q h => by rw [← hAe]; exact Or.inr h
  have hS : va_S A s.heap s.heap [] := va_S.rf
  have hl := lv_entry ([.ref aM]) (n := 1) (Nat.le_of_ble_eq_true rfl)
  rw [lg_entry_eq]
  generalize (lg_sl ([.ref aM]) ++ List.replicate (1 - (lg_sl ([.ref aM])).length) Slot.unset).toArray = ls at hl ⊢
  have hl : lv_has ls 1 [(0, .ref aM)] := hl
  generalize hQ : MQ below _ _ s _ _ _ = Q
  generalize hH : s.heap = H at hP ⊢
  have hS : va_S A s.heap H [] := by rw [← hH]; exact va_S.rf
  show W p l e ({ frames := 1, cells := 0, slots := 0, locals := 21 } : Room) s m ([.ref aM] : List Value).toArray below meth c H [] 0 0 Q (F0 m 0 ls [])
  unfold f_X7_next at hm
  refine lv_aload_n hx hb dX7_next_0 rfl (lv_at hl 0 rfl) ?_
  refine va_get (D := (dC, dI)) (ci := 8) (v := .int (uM.1 27)) (C := RX7) (T := TX7) (N := 34) hx hb ht inX7 hown hK hP 0 rfl rfl 27 (by decide) (ht _ kw_4) (fun _ h9 => h9) rfl dX7_next_1 ?_
  refine lv_if_le (tgt := 9) hx hb dX7_next_4 (by decide) (fun c1 => ?_) (fun c1 => ?_)
  · have hm := ite_t c1 hm
    refine lv_aload_n hx hb dX7_next_9 rfl (lv_at hl 0 rfl) ?_
    refine va_get (D := (dC, dI)) (ci := 8) (v := .int (uM.1 26)) (C := RX7) (T := TX7) (N := 34) hx hb ht inX7 hown hK hP 0 rfl rfl 26 (by decide) (ht _ kw_5) (fun _ h9 => h9) rfl dX7_next_10 ?_
    refine lv_aload_n hx hb dX7_next_13 rfl (lv_at hl 0 rfl) ?_
    refine va_get (D := (dC, dI)) (ci := 8) (v := .int (uM.1 15)) (C := RX7) (T := TX7) (N := 34) hx hb ht inX7 hown hK hP 0 rfl rfl 15 (by decide) (ht _ kw_6) (fun _ h9 => h9) rfl dX7_next_14 ?_
    refine lv_icmp_lt (tgt := 27) hx hb dX7_next_17 (by decide) (fun c2 => ?_) (fun c2 => ?_)
    · have hm := ite_t c2 hm
      refine lv_aload_n hx hb dX7_next_27 rfl (lv_at hl 0 rfl) ?_
      refine lv_dup hx hb dX7_next_28 rfl ?_
      refine va_get (D := (dC, dI)) (ci := 8) (v := .int (uM.1 26)) (C := RX7) (T := TX7) (N := 34) hx hb ht inX7 hown hK hP 0 rfl rfl 26 (by decide) (ht _ kw_5) (fun _ h9 => h9) rfl dX7_next_29 ?_
      refine lv_iconst (v := (1 : Int32)) hx hb dX7_next_32 (by decide) ?_
      refine lv_iadd hx hb dX7_next_33 ?_
      refine va_put (D := (dC, dI)) (ci := 8) (v := .int ((uM.1 26) + (1 : Int32))) (ty := .int) (C := RX7) (T := TX7) (N := 34) hx hb ht inX7 tyX7 tyX7_ok nmX7 hown hK hP hD hS 0 rfl rfl 26 (by decide) (ht _ kw_5) (fun _ h9 => h9) rfl (by decide +kernel) rfl rfl (Nat.le_of_ble_eq_true rfl) dX7_next_34 (fun H locs hP hD hS => ?_)
      obtain ⟨u3, eu3, hm⟩ := bnd_ex hm
      have hP : va_P (dC, dI) vwCl (wM cI cJ aM hM u3) H := by rw [eu3]; exact hP
      have hD : va_D A (wM cI cJ aM hM u3) := by rw [eu3]; exact hD
      refine lv_aload_n hx hb dX7_next_37 rfl (lv_at hl 0 rfl) ?_
      refine va_get (D := (dC, dI)) (ci := 8) (v := .ref (hM 14)) (C := RX7) (T := TX7) (N := 34) hx hb ht inX7 hown hK hP 0 rfl rfl 14 (by decide) (ht _ kw_7) (fun _ h9 => h9) rfl dX7_next_38 ?_
      refine lv_aload_n hx hb dX7_next_41 rfl (lv_at hl 0 rfl) ?_
      refine va_get (D := (dC, dI)) (ci := 8) (v := .int (u3.1 26)) (C := RX7) (T := TX7) (N := 34) hx hb ht inX7 hown hK hP 0 rfl rfl 26 (by decide) (ht _ kw_5) (fun _ h9 => h9) rfl dX7_next_42 ?_
      refine lv_iconst (v := (1 : Int32)) hx hb dX7_next_45 (by decide) ?_
      refine lv_isub hx hb dX7_next_46 ?_
      obtain ⟨g4, hm⟩ := gdi_of hm
      refine va_iald hx hb hK hP 9 0 rfl rfl g4 dX7_next_47 ?_
      rw [← hQ]
      exact W.iret (v := (u3.2.1 14 (((u3.1 26) - (1 : Int32))).toNatClampNeg)) hx hb hr (fun t ht1 hW => ⟨⟨_, u3, rfl, hm, by rw [ht1]; exact hP, hD⟩, hS.F ht1⟩) hS.2.2 dX7_next_48
    · have hm := ite_f c2 hm
      refine lv_aload_n hx hb dX7_next_20 rfl (lv_at hl 0 rfl) ?_
      refine lv_iconst (v := (1 : Int32)) hx hb dX7_next_21 (by decide) ?_
      have hPc : va_P (dC, dI) vwCl (wM cI cJ aM hM uM) _ := hP
      have hDc : va_D A (wM cI cJ aM hM uM) := hD
      have hFc := va_free (wc := (wM cI cJ aM hM uM)) hD hS hA [0, 1, 2, 3, 4, 5, 6, 7, 8, 9, 10, 11, 12, 13, 14] rfl
      obtain ⟨u5o, e6, hm⟩ := oC1_of hm
      refine va_callv (va_runV (As := [.int (1 : Int32)]) (rest := []) ⟨hx, hb, hml, hown, ht⟩ (c_X7_fail l dC dI cI cJ aM hM H.size uM (1 : Int32) u5o e6) (cwV 1 ht (gdV kw_12 kw_10 kw_11 kw_9 kw_8) rfl rfl rfl ⟨rfl, nd_X7_fail⟩ ⟨Nat.le_of_ble_eq_true rfl, Nat.le_of_ble_eq_true rfl⟩) ⟨pcW_blind, va_recv hK hPc (ci := 8) (q0 := 0) rfl rfl, pcW_pre hPc hK hDc hN⟩ rfl rfl hl.1 rfl (lv_room (Nat.le_of_ble_eq_true rfl)) dX7_next_22 ⟨Nat.zero_le _, Nat.zero_le _⟩) hS (fun q _ z => hFc q z) hFc (fun uu t H1 locs ht1 hvm hw hB hz1 hk1 hS => ?_)
      obtain ⟨u5, rfl⟩ : ∃ z, z = uu := ⟨_, rfl⟩
      obtain ⟨hP1, hD1⟩ := hB
      rw [ht1] at hP1
      obtain rfl : u5 = u5o := Option.some.inj hw
      have hP : va_P (dC, dI) vwCl (wM cI cJ aM hM u5) H1 := hP1
      have hD : va_D A (wM cI cJ aM hM u5) := hD1.weaken (fun _ q _ z => hFc q.1 z)
      generalize H1 = H at hP hS ⊢
      refine lv_iconst (v := (0 : Int32)) hx hb dX7_next_25 (by decide) ?_
      rw [← hQ]
      exact W.iret (v := (0 : Int32)) hx hb hr (fun t ht1 hW => ⟨⟨_, u5, rfl, hm, by rw [ht1]; exact hP, hD⟩, hS.F ht1⟩) hS.2.2 dX7_next_26
  · have hm := ite_f c1 hm
    refine lv_iconst (v := (0 : Int32)) hx hb dX7_next_7 (by decide) ?_
    rw [← hQ]
    exact W.iret (v := (0 : Int32)) hx hb hr (fun t ht1 hW => ⟨⟨_, uM, rfl, hm, by rw [ht1]; exact hP, hD⟩, hS.F ht1⟩) hS.2.2 dX7_next_8

def f_X7_nextWide_L5 (p1 : Int32) : Nat → (Int64 → Int32 → OS → Option (OS × Int64)) → Int32 → Int64 → OS → Option (OS × Int64)
  | 0, _, _, _, _ => none
  | n5 + 1, K28_7, x1, y2, u3 =>
    if p1 ≤ x1 then (
    K28_7 y2 x1 u3) else (
    oC2 (f_X7_next u3) fun u9 r10 =>
    bnd ((y2 <<< (((8 : Int32)).toInt64 &&& (63 : Int64))) ||| (r10).toInt64) fun y12 =>
    bnd (x1 + (1 : Int32)) fun x13 =>
    f_X7_nextWide_L5 p1 n5 K28_7 x13 y12 u9)

def f_X7_nextWide (uM : OS) (p1 : Int32) : Option (OS × Int64) :=
  bnd (fun (y4 : Int64) (x5 : Int32) (u6 : OS) =>
  some (u6, y4)) fun K28_7 =>
  f_X7_nextWide_L5 p1 FU K28_7 (0 : Int32) (0 : Int64) uM

set_option maxHeartbeats 4000000 in
set_option maxRecDepth 100000 in
theorem c_X7_nextWide (l : Launch) (dC : Nat → ClassId) (dI : Nat → Nat → Nat) (cI cJ : ClassId) (aM : Nat) (hM : Nat → Nat) (sz : Nat) (uM : OS) (p1 : Int32) (o : OS × Int64) (hm : f_X7_nextWide uM p1 = some o) : Met l yX7_nextWide (wq yX7_nextWide cX7_nextWide 5 (some .long)) ({ frames := 2, cells := 0, slots := 0, locals := 41 } : Room) (va_Pc [.ref aM, .int p1] (pcW dC dI cI cJ sz (wM cI cJ aM hM uM))) (va_Ql (S := OS) (fun r u => some (u, r) = some o) (fun (u : OS) t => va_P (dC, dI) vwCl (wM cI cJ aM hM u) t.heap ∧ va_D (va_A (wM cI cJ aM hM uM) sz) (wM cI cJ aM hM u)) (va_A (wM cI cJ aM hM uM) sz)) 0 0 (va_A (wM cI cJ aM hM uM) sz) := by
  refine Met.ofW (cc := cX7_nextWide) (maxL := 5) (ret := (some .long)) (by decide) rfl ?_
  intro p e s m args below meth c s₁ B hml hv
  obtain ⟨rfl, hsz, hP, hK, hD0, hN⟩ := hv
  have hx := B.exec
  have hb := B.bytes
  have hr := B.returns
  have ht : ∀ w ∈ lw_good, w.before _ s = true := fun w h => atoms_spec (ws := wq yX7_nextWide cX7_nextWide 5 (some .long)) B.pre w (wq_mem h)
  have hown : s.vm.findClass RX7 = some m.cls := findClass_of_methodNamed B.named
  have hlocks := B.notSynchronized
  subst hsz
  have hD := hD0.self (sz := s.heap.size)
  generalize hAe : va_A (wM cI cJ aM hM uM) s.heap.size = A at hD ⊢
  have hA : ∀ q : Nat, s.heap.size ≤ q → A q := fun q h => by rw [← hAe]; exact Or.inr h
  have hS : va_S A s.heap s.heap [] := va_S.rf
  have hl := lv_entry ([.ref aM, .int p1]) (n := 5) (Nat.le_of_ble_eq_true rfl)
  rw [lg_entry_eq]
  generalize (lg_sl ([.ref aM, .int p1]) ++ List.replicate (5 - (lg_sl ([.ref aM, .int p1])).length) Slot.unset).toArray = ls at hl ⊢
  have hl : lv_has ls 5 [(0, .ref aM), (1, .int p1)] := hl
  generalize hQ : MQ below _ _ s _ _ _ = Q
  generalize hH : s.heap = H at hP ⊢
  have hS : va_S A s.heap H [] := by rw [← hH]; exact va_S.rf
  show W p l e ({ frames := 2, cells := 0, slots := 0, locals := 41 } : Room) s m ([.ref aM, .int p1] : List Value).toArray below meth c H [] 0 0 Q (F0 m 0 ls [])
  unfold f_X7_nextWide at hm
  refine lv_lconst (v := (0 : Int64)) hx hb dX7_nextWide_0 (by decide) ?_
  refine lv_lstore_n (lv' := [(2, .long (0 : Int64)), (0, .ref aM), (1, .int p1)]) hx hb dX7_nextWide_1 rfl hl (by decide) rfl (fun ls hl => ?_)
  refine lv_iconst (v := (0 : Int32)) hx hb dX7_nextWide_2 (by decide) ?_
  refine lv_istore (lv' := [(4, .int (0 : Int32)), (2, .long (0 : Int64)), (0, .ref aM), (1, .int p1)]) hx hb dX7_nextWide_3 hl (by decide) rfl (fun ls hl => ?_)
  obtain ⟨K28_7, eK28_7, hm⟩ := bnd_ex hm
  have X28_7 : ∀ (y4 : Int64) (x5 : Int32) (u6 : OS) (H : Heap) (locs : List Loc) (ls : Array Slot), K28_7 y4 x5 u6 = some o → va_P (dC, dI) vwCl (wM cI cJ aM hM u6) H → va_D A (wM cI cJ aM hM u6) → va_S A s.heap H locs → lv_has ls 5 [(0, .ref aM), (1, .int p1), (2, .long y4), (4, .int x5)] → W p l e ({ frames := 2, cells := 0, slots := 0, locals := 41 } : Room) s m ([.ref aM, .int p1] : List Value).toArray below meth c H locs 0 0 Q (F0 m 28 ls []) := by
    intro y4 x5 u6 H locs ls hm hP hD hS hl
    have hm := ap3 eK28_7 hm
    refine lv_lload_n hx hb dX7_nextWide_28 rfl (lv_at hl 2 rfl) ?_
    rw [← hQ]
    exact W.lret (v := y4) hx hb hr (fun t ht1 hW => ⟨⟨_, u6, rfl, hm, by rw [ht1]; exact hP, hD⟩, hS.F ht1⟩) hS.2.2 dX7_nextWide_29
  have LP5 : ∀ (n5 : Nat) (x1 : Int32) (y2 : Int64) (u3 : OS) (H : Heap) (locs : List Loc) (ls : Array Slot), f_X7_nextWide_L5 p1 n5 K28_7 x1 y2 u3 = some o → va_P (dC, dI) vwCl (wM cI cJ aM hM u3) H → va_D A (wM cI cJ aM hM u3) → va_S A s.heap H locs → lv_has ls 5 [(0, .ref aM), (1, .int p1), (2, .long y2), (4, .int x1)] → W p l e ({ frames := 2, cells := 0, slots := 0, locals := 41 } : Room) s m ([.ref aM, .int p1] : List Value).toArray below meth c H locs 0 0 Q (F0 m 5 ls []) := by
    intro n5
    induction n5 with
    | zero => intro x1 y2 u3 H locs ls hm; exact nomatch (show (none : Option _) = some _ from hm)
    | succ n5 ih5 =>
      intro x1 y2 u3 H locs ls hm hP hD hS hl
      unfold f_X7_nextWide_L5 at hm
      refine lv_iload hx hb dX7_nextWide_5 (lv_at hl 3 rfl) ?_
      refine lv_iload_n hx hb dX7_nextWide_7 rfl (lv_at hl 1 rfl) ?_
      refine lv_icmp_ge (tgt := 28) hx hb dX7_nextWide_8 (by decide) (fun c8 => ?_) (fun c8 => ?_)
      · have hm := ite_t c8 hm
        exact X28_7 y2 x1 u3 _ _ _ hm hP hD hS (lv_sub hl [0, 1, 2, 3] rfl)
      · have hm := ite_f c8 hm
        refine lv_lload_n hx hb dX7_nextWide_11 rfl (lv_at hl 2 rfl) ?_
        refine lv_bipush (v := (8 : Int32)) hx hb dX7_nextWide_12 (by decide) ?_
        refine lv_lshl hx hb dX7_nextWide_14 rfl ?_
        refine lv_aload_n hx hb dX7_nextWide_15 rfl (lv_at hl 0 rfl) ?_
        have hPc : va_P (dC, dI) vwCl (wM cI cJ aM hM u3) _ := hP
        have hDc : va_D A (wM cI cJ aM hM u3) := hD
        have hFc := va_free (wc := (wM cI cJ aM hM u3)) hD hS hA [0, 1, 2, 3, 4, 5, 6, 7, 8, 9, 10, 11, 12, 13, 14] rfl
        obtain ⟨u9o, r10o, e11, hm⟩ := oC2_of hm
        refine va_calli (va_runV (As := []) (rest := [.long (y2 <<< (((8 : Int32)).toInt64 &&& (63 : Int64)))]) ⟨hx, hb, hml, hown, ht⟩ (c_X7_next l dC dI cI cJ aM hM H.size u3 (u9o, r10o) e11) (cwV 0 ht (gdV kw_16 kw_14 kw_15 kw_9 kw_13) rfl rfl rfl ⟨rfl, nd_X7_next⟩ ⟨Nat.le_of_ble_eq_true rfl, Nat.le_of_ble_eq_true rfl⟩) ⟨pcW_blind, va_recv hK hPc (ci := 8) (q0 := 0) rfl rfl, pcW_pre hPc hK hDc hN⟩ rfl rfl hl.1 rfl (lv_room (Nat.le_of_ble_eq_true rfl)) dX7_nextWide_16 ⟨Nat.zero_le _, Nat.zero_le _⟩) hS (fun q _ z => hFc q z) hFc (fun r10 uu t H1 locs ht1 hvm hw hB hz1 hk1 hS => ?_)
        obtain ⟨u9, rfl⟩ : ∃ z, z = uu := ⟨_, rfl⟩
        obtain ⟨hP1, hD1⟩ := hB
        rw [ht1] at hP1
        obtain ⟨q0, q1⟩ := inj2 hw
        subst q0
        subst q1
        have hP : va_P (dC, dI) vwCl (wM cI cJ aM hM u9) H1 := hP1
        have hD : va_D A (wM cI cJ aM hM u9) := hD1.weaken (fun _ q _ z => hFc q.1 z)
        generalize H1 = H at hP hS ⊢
        refine lv_i2l hx hb dX7_nextWide_19 rfl ?_
        refine lv_lor hx hb dX7_nextWide_20 ?_
        refine lv_topl (fun y12 ey12 => ?_)
        have hm := bnd_nm ey12 hm
        refine lv_lstore_n (lv' := [(2, .long y12), (0, .ref aM), (1, .int p1), (4, .int x1)]) hx hb dX7_nextWide_21 rfl hl (by decide) rfl (fun ls hl => ?_)
        obtain ⟨x13, ex13, hm⟩ := bnd_ex hm
        refine lv_iinc (v := x13) (lv' := [(4, .int x13), (2, .long y12), (0, .ref aM), (1, .int p1)]) hx hb dX7_nextWide_22 hl (k := 3) rfl (by rw [ex13]; exact congrArg _ (by decide)) (by decide) rfl (fun ls hl => ?_)
        refine lv_goto (tgt := 5) hx hb dX7_nextWide_25 (by decide) ?_
        exact ih5 x13 y12 u9 _ _ _ hm hP hD hS (lv_sub hl [2, 3, 1, 0] rfl)
  exact LP5 FU (0 : Int32) (0 : Int64) uM _ _ _ hm hP hD hS (lv_sub hl [2, 3, 1, 0] rfl)

def f_X7_nextBit (uM : OS) : Option (OS × Int32) :=
  bnd (fun (u1 : OS) =>
  bnd (sF u1 29 ((u1.1 29) - (1 : Int32))) fun u3 =>
  gdi ((u3.1 26) - (1 : Int32)) 20000 <|
  some (u3, (((u3.2.1 14 (((u3.1 26) - (1 : Int32))).toNatClampNeg) >>> ((u3.1 29) &&& (31 : Int32))) &&& (1 : Int32)))) fun K27_2 =>
  if (uM.1 29) = (0 : Int32) then (
  oC2 (f_X7_next uM) fun u6 r7 =>
  if (u6.1 27) ≤ (0 : Int32) then (
  bnd (sF u6 29 (8 : Int32)) fun u10 =>
  K27_2 u10) else (
  some (u6, (0 : Int32)))) else (
  K27_2 uM)

set_option maxHeartbeats 4000000 in
set_option maxRecDepth 100000 in
theorem c_X7_nextBit (l : Launch) (dC : Nat → ClassId) (dI : Nat → Nat → Nat) (cI cJ : ClassId) (aM : Nat) (hM : Nat → Nat) (sz : Nat) (uM : OS) (o : OS × Int32) (hm : f_X7_nextBit uM = some o) : Met l yX7_nextBit (wq yX7_nextBit cX7_nextBit 2 (some .int)) ({ frames := 2, cells := 0, slots := 0, locals := 41 } : Room) (va_Pc [.ref aM] (pcW dC dI cI cJ sz (wM cI cJ aM hM uM))) (va_Qi (S := OS) (fun r u => some (u, r) = some o) (fun (u : OS) t => va_P (dC, dI) vwCl (wM cI cJ aM hM u) t.heap ∧ va_D (va_A (wM cI cJ aM hM uM) sz) (wM cI cJ aM hM u)) (va_A (wM cI cJ aM hM uM) sz)) 0 0 (va_A (wM cI cJ aM hM uM) sz) := by
  refine Met.ofW (cc := cX7_nextBit) (maxL := 2) (ret := (some .int)) (by decide) rfl ?_
  intro p e s m args below meth c s₁ B hml hv
  obtain ⟨rfl, hsz, hP, hK, hD0, hN⟩ := hv
  have hx := B.exec
  have hb := B.bytes
  have hr := B.returns
  have ht : ∀ w ∈ lw_good, w.before _ s = true := fun w h => atoms_spec (ws := wq yX7_nextBit cX7_nextBit 2 (some .int)) B.pre w (wq_mem h)
  have hown : s.vm.findClass RX7 = some m.cls := findClass_of_methodNamed B.named
  have hlocks := B.notSynchronized
  subst hsz
  have hD := hD0.self (sz := s.heap.size)
  generalize hAe : va_A (wM cI cJ aM hM uM) s.heap.size = A at hD ⊢
  have hA : ∀ q : Nat, s.heap.size ≤ q → A q := fun q h => by rw [← hAe]; exact Or.inr h
  have hS : va_S A s.heap s.heap [] := va_S.rf
  have hl := lv_entry ([.ref aM]) (n := 2) (Nat.le_of_ble_eq_true rfl)
  rw [lg_entry_eq]
  generalize (lg_sl ([.ref aM]) ++ List.replicate (2 - (lg_sl ([.ref aM])).length) Slot.unset).toArray = ls at hl ⊢
  have hl : lv_has ls 2 [(0, .ref aM)] := hl
  generalize hQ : MQ below _ _ s _ _ _ = Q
  generalize hH : s.heap = H at hP ⊢
  have hS : va_S A s.heap H [] := by rw [← hH]; exact va_S.rf
  show W p l e ({ frames := 2, cells := 0, slots := 0, locals := 41 } : Room) s m ([.ref aM] : List Value).toArray below meth c H [] 0 0 Q (F0 m 0 ls [])
  unfold f_X7_nextBit at hm
  refine lv_aload_n hx hb dX7_nextBit_0 rfl (lv_at hl 0 rfl) ?_
  refine va_get (D := (dC, dI)) (ci := 8) (v := .int (uM.1 29)) (C := RX7) (T := TX7) (N := 34) hx hb ht inX7 hown hK hP 0 rfl rfl 29 (by decide) (ht _ kw_17) (fun _ h9 => h9) rfl dX7_nextBit_1 ?_
  obtain ⟨K27_2, eK27_2, hm⟩ := bnd_ex hm
  have J27_2 : ∀ (u1 : OS) (H : Heap) (locs : List Loc) (ls : Array Slot), K27_2 u1 = some o → va_P (dC, dI) vwCl (wM cI cJ aM hM u1) H → va_D A (wM cI cJ aM hM u1) → va_S A s.heap H locs → lv_has ls 2 [(0, .ref aM)] → W p l e ({ frames := 2, cells := 0, slots := 0, locals := 41 } : Room) s m ([.ref aM] : List Value).toArray below meth c H locs 0 0 Q (F0 m 27 ls []) := by
    intro u1 H locs ls hm hP hD hS hl
    have hm := ap1 eK27_2 hm
    refine lv_aload_n hx hb dX7_nextBit_27 rfl (lv_at hl 0 rfl) ?_
    refine lv_dup hx hb dX7_nextBit_28 rfl ?_
    refine va_get (D := (dC, dI)) (ci := 8) (v := .int (u1.1 29)) (C := RX7) (T := TX7) (N := 34) hx hb ht inX7 hown hK hP 0 rfl rfl 29 (by decide) (ht _ kw_17) (fun _ h9 => h9) rfl dX7_nextBit_29 ?_
    refine lv_iconst (v := (1 : Int32)) hx hb dX7_nextBit_32 (by decide) ?_
    refine lv_isub hx hb dX7_nextBit_33 ?_
    refine va_put (D := (dC, dI)) (ci := 8) (v := .int ((u1.1 29) - (1 : Int32))) (ty := .int) (C := RX7) (T := TX7) (N := 34) hx hb ht inX7 tyX7 tyX7_ok nmX7 hown hK hP hD hS 0 rfl rfl 29 (by decide) (ht _ kw_17) (fun _ h9 => h9) rfl (by decide +kernel) rfl rfl (Nat.le_of_ble_eq_true rfl) dX7_nextBit_34 (fun H locs hP hD hS => ?_)
    obtain ⟨u3, eu3, hm⟩ := bnd_ex hm
    have hP : va_P (dC, dI) vwCl (wM cI cJ aM hM u3) H := by rw [eu3]; exact hP
    have hD : va_D A (wM cI cJ aM hM u3) := by rw [eu3]; exact hD
    refine lv_aload_n hx hb dX7_nextBit_37 rfl (lv_at hl 0 rfl) ?_
    refine va_get (D := (dC, dI)) (ci := 8) (v := .ref (hM 14)) (C := RX7) (T := TX7) (N := 34) hx hb ht inX7 hown hK hP 0 rfl rfl 14 (by decide) (ht _ kw_7) (fun _ h9 => h9) rfl dX7_nextBit_38 ?_
    refine lv_aload_n hx hb dX7_nextBit_41 rfl (lv_at hl 0 rfl) ?_
    refine va_get (D := (dC, dI)) (ci := 8) (v := .int (u3.1 26)) (C := RX7) (T := TX7) (N := 34) hx hb ht inX7 hown hK hP 0 rfl rfl 26 (by decide) (ht _ kw_5) (fun _ h9 => h9) rfl dX7_nextBit_42 ?_
    refine lv_iconst (v := (1 : Int32)) hx hb dX7_nextBit_45 (by decide) ?_
    refine lv_isub hx hb dX7_nextBit_46 ?_
    obtain ⟨g4, hm⟩ := gdi_of hm
    refine va_iald hx hb hK hP 9 0 rfl rfl g4 dX7_nextBit_47 ?_
    refine lv_aload_n hx hb dX7_nextBit_48 rfl (lv_at hl 0 rfl) ?_
    refine va_get (D := (dC, dI)) (ci := 8) (v := .int (u3.1 29)) (C := RX7) (T := TX7) (N := 34) hx hb ht inX7 hown hK hP 0 rfl rfl 29 (by decide) (ht _ kw_17) (fun _ h9 => h9) rfl dX7_nextBit_49 ?_
    refine lv_ishr hx hb dX7_nextBit_52 ?_
    refine lv_iconst (v := (1 : Int32)) hx hb dX7_nextBit_53 (by decide) ?_
    refine lv_iand hx hb dX7_nextBit_54 ?_
    rw [← hQ]
    exact W.iret (v := (((u3.2.1 14 (((u3.1 26) - (1 : Int32))).toNatClampNeg) >>> ((u3.1 29) &&& (31 : Int32))) &&& (1 : Int32))) hx hb hr (fun t ht1 hW => ⟨⟨_, u3, rfl, hm, by rw [ht1]; exact hP, hD⟩, hS.F ht1⟩) hS.2.2 dX7_nextBit_55
  refine lv_if_ne (tgt := 27) hx hb dX7_nextBit_4 (by decide) (fun c5 => ?_) (fun c5 => ?_)
  · have hm := ite_f c5 hm
    exact J27_2 uM _ _ _ hm hP hD hS (lv_sub hl [0] rfl)
  · have hm := ite_t c5 hm
    refine lv_aload_n hx hb dX7_nextBit_7 rfl (lv_at hl 0 rfl) ?_
    have hPc : va_P (dC, dI) vwCl (wM cI cJ aM hM uM) _ := hP
    have hDc : va_D A (wM cI cJ aM hM uM) := hD
    have hFc := va_free (wc := (wM cI cJ aM hM uM)) hD hS hA [0, 1, 2, 3, 4, 5, 6, 7, 8, 9, 10, 11, 12, 13, 14] rfl
    obtain ⟨u6o, r7o, e8, hm⟩ := oC2_of hm
    refine va_calli (va_runV (As := []) (rest := []) ⟨hx, hb, hml, hown, ht⟩ (c_X7_next l dC dI cI cJ aM hM H.size uM (u6o, r7o) e8) (cwV 0 ht (gdV kw_16 kw_14 kw_15 kw_9 kw_13) rfl rfl rfl ⟨rfl, nd_X7_next⟩ ⟨Nat.le_of_ble_eq_true rfl, Nat.le_of_ble_eq_true rfl⟩) ⟨pcW_blind, va_recv hK hPc (ci := 8) (q0 := 0) rfl rfl, pcW_pre hPc hK hDc hN⟩ rfl rfl hl.1 rfl (lv_room (Nat.le_of_ble_eq_true rfl)) dX7_nextBit_8 ⟨Nat.zero_le _, Nat.zero_le _⟩) hS (fun q _ z => hFc q z) hFc (fun r7 uu t H1 locs ht1 hvm hw hB hz1 hk1 hS => ?_)
    obtain ⟨u6, rfl⟩ : ∃ z, z = uu := ⟨_, rfl⟩
    obtain ⟨hP1, hD1⟩ := hB
    rw [ht1] at hP1
    obtain ⟨q0, q1⟩ := inj2 hw
    subst q0
    subst q1
    have hP : va_P (dC, dI) vwCl (wM cI cJ aM hM u6) H1 := hP1
    have hD : va_D A (wM cI cJ aM hM u6) := hD1.weaken (fun _ q _ z => hFc q.1 z)
    generalize H1 = H at hP hS ⊢
    refine lv_istore_n (lv' := [(1, .int r7), (0, .ref aM)]) hx hb dX7_nextBit_11 rfl hl (by decide) rfl (fun ls hl => ?_)
    refine lv_aload_n hx hb dX7_nextBit_12 rfl (lv_at hl 1 rfl) ?_
    refine va_get (D := (dC, dI)) (ci := 8) (v := .int (u6.1 27)) (C := RX7) (T := TX7) (N := 34) hx hb ht inX7 hown hK hP 0 rfl rfl 27 (by decide) (ht _ kw_4) (fun _ h9 => h9) rfl dX7_nextBit_13 ?_
    refine lv_if_le (tgt := 21) hx hb dX7_nextBit_16 (by decide) (fun c9 => ?_) (fun c9 => ?_)
    · have hm := ite_t c9 hm
      refine lv_aload_n hx hb dX7_nextBit_21 rfl (lv_at hl 1 rfl) ?_
      refine lv_bipush (v := (8 : Int32)) hx hb dX7_nextBit_22 (by decide) ?_
      refine va_put (D := (dC, dI)) (ci := 8) (v := .int (8 : Int32)) (ty := .int) (C := RX7) (T := TX7) (N := 34) hx hb ht inX7 tyX7 tyX7_ok nmX7 hown hK hP hD hS 0 rfl rfl 29 (by decide) (ht _ kw_17) (fun _ h9 => h9) rfl (by decide +kernel) rfl rfl (Nat.le_of_ble_eq_true rfl) dX7_nextBit_24 (fun H locs hP hD hS => ?_)
      obtain ⟨u10, eu10, hm⟩ := bnd_ex hm
      have hP : va_P (dC, dI) vwCl (wM cI cJ aM hM u10) H := by rw [eu10]; exact hP
      have hD : va_D A (wM cI cJ aM hM u10) := by rw [eu10]; exact hD
      exact J27_2 u10 _ _ _ hm hP hD hS (lv_sub hl [1] rfl)
    · have hm := ite_f c9 hm
      refine lv_iconst (v := (0 : Int32)) hx hb dX7_nextBit_19 (by decide) ?_
      rw [← hQ]
      exact W.iret (v := (0 : Int32)) hx hb hr (fun t ht1 hW => ⟨⟨_, u6, rfl, hm, by rw [ht1]; exact hP, hD⟩, hS.F ht1⟩) hS.2.2 dX7_nextBit_20

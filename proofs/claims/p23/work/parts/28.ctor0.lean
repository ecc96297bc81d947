def mlog (p1 : Int32) : Int32 := if (12 : Int32) < (if p1 < (5 : Int32) then (5 : Int32) else p1) then (12 : Int32) else (if p1 < (5 : Int32) then (5 : Int32) else p1)
theorem mlog_k (p1 : Int32) : ∃ k : Nat, 5 ≤ k ∧ k ≤ 12 ∧ mlog p1 = nI k := by
  by_cases h1 : p1 < (5 : Int32)
  · exact ⟨5, by decide, by decide, by unfold mlog; rw [if_pos h1]; decide⟩
  · by_cases h2 : (12 : Int32) < p1
    · exact ⟨12, by decide, by decide, by unfold mlog; rw [if_neg h1, if_pos h2]; decide⟩
    · have h0 : ¬ p1 < 0 := fun q => h1 (Int32.lt_trans q (by decide))
      obtain ⟨j, hj, e⟩ := nI_of2 (x := p1) (M := 12) (n := 12) (by decide) h0 (Int32.not_lt.mp h2)
      refine ⟨j, ?_, hj, by unfold mlog; rw [if_neg h1, if_neg h2]; exact e⟩
      rcases Nat.lt_or_ge j 5 with q | q
      · exact absurd (by rw [e]; exact (nI_ltI (by omega) (by decide)).mpr q : p1 < nI 5) h1
      · exact q
theorem mlog_lg (p1 : Int32) : (¬ (((1 : Int32) <<< ((mlog p1) &&& (31 : Int32))) + (1 : Int32)) < 0) ∧ (((1 : Int32) <<< ((mlog p1) &&& (31 : Int32))) + (1 : Int32)).toNatClampNeg * componentBytes .long ≤ 536870912 := by
  obtain ⟨k, h1, h2, e⟩ := mlog_k p1
  rw [e]
  rcases (show k = 5 ∨ k = 6 ∨ k = 7 ∨ k = 8 ∨ k = 9 ∨ k = 10 ∨ k = 11 ∨ k = 12 by omega) with rfl | rfl | rfl | rfl | rfl | rfl | rfl | rfl <;> decide
def i_X1 : OS := (fun _ => 0, fun _ _ => 0, fun _ _ => 0, fun _ => 256)
set_option maxHeartbeats 4000000 in
set_option maxRecDepth 100000 in
theorem c_X1_init (l : Launch) (dC : Nat → ClassId) (dI : Nat → Nat → Nat) (cI cJ : ClassId) (a sz : Nat) : Met l yX1_init (wq yX1_init cX1_init 1 none) ({ frames := 1, cells := 1, slots := (256), locals := 20 } : Room) (va_Pc [.ref a] (pcW dC dI cI cJ sz [(a, .inr (2, [.null, .int (0 : Int32), .int (0 : Int32)]))])) (va_Qv (S := Unit) (fun _ => True) (fun _ t => ∃ hO : Nat → Nat, va_P (dC, dI) vwCl (wO cI cJ a hO i_X1) t.heap ∧ va_D (va_A [(a, .inr (2, [.null, .int (0 : Int32), .int (0 : Int32)]))] sz) (wO cI cJ a hO i_X1)) (va_A [(a, .inr (2, [.null, .int (0 : Int32), .int (0 : Int32)]))] sz)) 1 (256) (va_A [(a, .inr (2, [.null, .int (0 : Int32), .int (0 : Int32)]))] sz) := by
  refine Met.ofW (cc := cX1_init) (maxL := 1) (ret := none) (by decide) rfl ?_
  intro p e s m args below meth c s₁ B hml hv
  obtain ⟨rfl, hsz, hP, hK, hD0, hN⟩ := hv
  have hx := B.exec
  have hb := B.bytes
  have hr := B.returns
  have ht : ∀ w ∈ lw_good, w.before _ s = true := fun w h => atoms_spec (ws := wq yX1_init cX1_init 1 none) B.pre w (wq_mem h)
  have hown : s.vm.findClass RX1 = some m.cls := findClass_of_methodNamed B.named
  have hlocks := B.notSynchronized
  have hin : meth.name = "<init>" := (name_of_methodNamed B.named B.method).1
  subst hsz
  have hD := hD0.self (sz := s.heap.size)
  generalize hAe : va_A [(a, .inr (2, [.null, .int (0 : Int32), .int (0 : Int32)]))] s.heap.size = A at hD ⊢
  have hA : ∀ q : Nat, s.heap.size ≤ q → A q := fun q h => by rw [← hAe]; exact Or.inr h
  have hl := lv_entry ([.ref a]) (n := 1) (Nat.le_of_ble_eq_true rfl)
  rw [lg_entry_eq]
  generalize (lg_sl ([.ref a]) ++ List.replicate (1 - (lg_sl ([.ref a])).length) Slot.unset).toArray = ls at hl ⊢
  have hl : lv_has ls 1 [(0, .ref a)] := hl
  generalize hQ : MQ below _ _ s _ _ _ = Q
  generalize hH : s.heap = H at hP ⊢
  have hS : va_S A s.heap H [] := by rw [← hH]; exact va_S.rf
  show W p l e ({ frames := 1, cells := 1, slots := (256), locals := 20 } : Room) s m ([.ref a] : List Value).toArray below meth c H [] 0 0 Q (F0 m 0 ls [])
  refine lv_aload_n hx hb dX1_init_0 rfl (lv_at hl 0 rfl) ?_
  refine W.objInit hx hb hown (ht _ kw_663) (ht _ kw_664) (ht _ kw_665) rfl (by rw [hml]; exact hl.1) rfl dX1_init_1 (Nat.le_of_ble_eq_true rfl) (Nat.le_of_ble_eq_true rfl) ?_
  refine W.eq (g2 := F0 m 4 ls []) rfl ?_
  refine lv_aload_n hx hb dX1_init_4 rfl (lv_at hl 0 rfl) ?_
  refine lv_sipush (v := (256 : Int32)) hx hb dX1_init_5 (by decide) ?_
  refine va_newa (atype := .int) (a0 := (256, .inl (fun _ => 0))) hx hb (ht _ kw_253) rfl hK hP hD hS hA (vpc_i 256) (by decide) (by decide) (by decide) (by show _ ≤ 1; omega) (by show _ ≤ (256); omega) dX1_init_8 (fun q1 cA H hKn hP hD hS => ?_)
  obtain rfl := cA_eq hK hKn
  have hP : va_P (dC, dI) vwCl ([(a, .inr (2, [.null, .int (0 : Int32), .int (0 : Int32)])), (q1, .inl (cI, 256, .inl (fun _ => 0)))]) H := hP
  have hD : va_D A ([(a, .inr (2, [.null, .int (0 : Int32), .int (0 : Int32)])), (q1, .inl (cI, 256, .inl (fun _ => 0)))]) := hD
  refine va_put (D := (dC, dI)) (ci := 2) (v := .ref q1) (ty := .array .int) (C := RX1) (T := TX1) (N := 3) hx hb ht inX1 tyX1 tyX1_ok nmX1 hown hK hP hD hS 0 rfl rfl 0 (by decide) (ht _ kw_169) (fun _ h9 => h9) rfl (by decide +kernel) rfl rfl (Nat.le_of_ble_eq_true rfl) dX1_init_10 (fun H locs hP hD hS => ?_)
  have hP : va_P (dC, dI) vwCl ([(a, .inr (2, [.ref q1, .int (0 : Int32), .int (0 : Int32)])), (q1, .inl (cI, 256, .inl (fun _ => 0)))]) H := hP
  have hD : va_D A ([(a, .inr (2, [.ref q1, .int (0 : Int32), .int (0 : Int32)])), (q1, .inl (cI, 256, .inl (fun _ => 0)))]) := hD
  have hP := hP.sub (ws' := (wO cI cJ a (va_up (fun _ => 0) 0 q1) i_X1)) [0, 1] rfl
  have hD := hD.sub (ws' := (wO cI cJ a (va_up (fun _ => 0) 0 q1) i_X1)) [0, 1] (by decide) rfl
  refine W.widen (k := 1) (n := (256)) (by omega) (by omega) ?_
  rw [← hQ]
  exact W.vret hx hb hr (fun t ht1 hW => ⟨⟨(), rfl, trivial, (va_up (fun _ => 0) 0 q1), by rw [ht1]; exact hP, hD⟩, hS.F ht1⟩) hS.2.2 dX1_init_13

def i_X2 : OS := (fun _ => 0, fun _ _ => 0, fun _ _ => 0, fun _ => 256)
set_option maxHeartbeats 4000000 in
set_option maxRecDepth 100000 in
theorem c_X2_init (l : Launch) (dC : Nat → ClassId) (dI : Nat → Nat → Nat) (cI cJ : ClassId) (a sz : Nat) : Met l yX2_init (wq yX2_init cX2_init 1 none) ({ frames := 1, cells := 1, slots := (256), locals := 20 } : Room) (va_Pc [.ref a] (pcW dC dI cI cJ sz [(a, .inr (3, [.null, .int (0 : Int32)]))])) (va_Qv (S := Unit) (fun _ => True) (fun _ t => ∃ hP : Nat → Nat, va_P (dC, dI) vwCl (wP cI cJ a hP i_X2) t.heap ∧ va_D (va_A [(a, .inr (3, [.null, .int (0 : Int32)]))] sz) (wP cI cJ a hP i_X2)) (va_A [(a, .inr (3, [.null, .int (0 : Int32)]))] sz)) 1 (256) (va_A [(a, .inr (3, [.null, .int (0 : Int32)]))] sz) := by
  refine Met.ofW (cc := cX2_init) (maxL := 1) (ret := none) (by decide) rfl ?_
  intro p e s m args below meth c s₁ B hml hv
  obtain ⟨rfl, hsz, hP, hK, hD0, hN⟩ := hv
  have hx := B.exec
  have hb := B.bytes
  have hr := B.returns
  have ht : ∀ w ∈ lw_good, w.before _ s = true := fun w h => atoms_spec (ws := wq yX2_init cX2_init 1 none) B.pre w (wq_mem h)
  have hown : s.vm.findClass RX2 = some m.cls := findClass_of_methodNamed B.named
  have hlocks := B.notSynchronized
  have hin : meth.name = "<init>" := (name_of_methodNamed B.named B.method).1
  subst hsz
  have hD := hD0.self (sz := s.heap.size)
  generalize hAe : va_A [(a, .inr (3, [.null, .int (0 : Int32)]))] s.heap.size = A at hD ⊢
  have hA : ∀ q : Nat, s.heap.size ≤ q → A q := fun q h => by rw [← hAe]; exact Or.inr h
  have hl := lv_entry ([.ref a]) (n := 1) (Nat.le_of_ble_eq_true rfl)
  rw [lg_entry_eq]
  generalize (lg_sl ([.ref a]) ++ List.replicate (1 - (lg_sl ([.ref a])).length) Slot.unset).toArray = ls at hl ⊢
  have hl : lv_has ls 1 [(0, .ref a)] := hl
  generalize hQ : MQ below _ _ s _ _ _ = Q
  generalize hH : s.heap = H at hP ⊢
  have hS : va_S A s.heap H [] := by rw [← hH]; exact va_S.rf
  show W p l e ({ frames := 1, cells := 1, slots := (256), locals := 20 } : Room) s m ([.ref a] : List Value).toArray below meth c H [] 0 0 Q (F0 m 0 ls [])
  refine lv_aload_n hx hb dX2_init_0 rfl (lv_at hl 0 rfl) ?_
  refine W.objInit hx hb hown (ht _ kw_666) (ht _ kw_664) (ht _ kw_665) rfl (by rw [hml]; exact hl.1) rfl dX2_init_1 (Nat.le_of_ble_eq_true rfl) (Nat.le_of_ble_eq_true rfl) ?_
  refine W.eq (g2 := F0 m 4 ls []) rfl ?_
  refine lv_aload_n hx hb dX2_init_4 rfl (lv_at hl 0 rfl) ?_
  refine lv_sipush (v := (256 : Int32)) hx hb dX2_init_5 (by decide) ?_
  refine va_newa (atype := .int) (a0 := (256, .inl (fun _ => 0))) hx hb (ht _ kw_253) rfl hK hP hD hS hA (vpc_i 256) (by decide) (by decide) (by decide) (by show _ ≤ 1; omega) (by show _ ≤ (256); omega) dX2_init_8 (fun q1 cA H hKn hP hD hS => ?_)
  obtain rfl := cA_eq hK hKn
  have hP : va_P (dC, dI) vwCl ([(a, .inr (3, [.null, .int (0 : Int32)])), (q1, .inl (cI, 256, .inl (fun _ => 0)))]) H := hP
  have hD : va_D A ([(a, .inr (3, [.null, .int (0 : Int32)])), (q1, .inl (cI, 256, .inl (fun _ => 0)))]) := hD
  refine va_put (D := (dC, dI)) (ci := 3) (v := .ref q1) (ty := .array .int) (C := RX2) (T := TX2) (N := 2) hx hb ht inX2 tyX2 tyX2_ok nmX2 hown hK hP hD hS 0 rfl rfl 0 (by decide) (ht _ kw_178) (fun _ h9 => h9) rfl (by decide +kernel) rfl rfl (Nat.le_of_ble_eq_true rfl) dX2_init_10 (fun H locs hP hD hS => ?_)
  have hP : va_P (dC, dI) vwCl ([(a, .inr (3, [.ref q1, .int (0 : Int32)])), (q1, .inl (cI, 256, .inl (fun _ => 0)))]) H := hP
  have hD : va_D A ([(a, .inr (3, [.ref q1, .int (0 : Int32)])), (q1, .inl (cI, 256, .inl (fun _ => 0)))]) := hD
  have hP := hP.sub (ws' := (wP cI cJ a (va_up (fun _ => 0) 0 q1) i_X2)) [0, 1] rfl
  have hD := hD.sub (ws' := (wP cI cJ a (va_up (fun _ => 0) 0 q1) i_X2)) [0, 1] (by decide) rfl
  refine W.widen (k := 1) (n := (256)) (by omega) (by omega) ?_
  rw [← hQ]
  exact W.vret hx hb hr (fun t ht1 hW => ⟨⟨(), rfl, trivial, (va_up (fun _ => 0) 0 q1), by rw [ht1]; exact hP, hD⟩, hS.F ht1⟩) hS.2.2 dX2_init_13

def i_X0 (p1 : Int32) : OS := (fun _ => 0, fun _ _ => 0, fun _ => flL (p1 + (1 : Int32)).toNatClampNeg (fun _ => 0) (-1 : Int64), fun _ => (p1 + (1 : Int32)).toNatClampNeg)
set_option maxHeartbeats 4000000 in
set_option maxRecDepth 100000 in
theorem c_X0_init (l : Launch) (dC : Nat → ClassId) (dI : Nat → Nat → Nat) (cI cJ : ClassId) (a sz : Nat) (p1 : Int32) (hneg : ¬ (p1 + (1 : Int32)) < 0) (hbyt : (p1 + (1 : Int32)).toNatClampNeg * componentBytes .long ≤ 536870912) : Met l yX0_init (wq yX0_init cX0_init 2 none) ({ frames := 1, cells := 1, slots := ((p1 + (1 : Int32)).toNatClampNeg), locals := 30 } : Room) (va_Pc [.ref a, .int p1] (pcW dC dI cI cJ sz [(a, .inr (1, [.null]))])) (va_Qv (S := Unit) (fun _ => True) (fun _ t => ∃ hL : Nat → Nat, va_P (dC, dI) vwCl (wL cI cJ a hL (i_X0 p1)) t.heap ∧ va_D (va_A [(a, .inr (1, [.null]))] sz) (wL cI cJ a hL (i_X0 p1))) (va_A [(a, .inr (1, [.null]))] sz)) 1 ((p1 + (1 : Int32)).toNatClampNeg) (va_A [(a, .inr (1, [.null]))] sz) := by
  refine Met.ofW (cc := cX0_init) (maxL := 2) (ret := none) (by decide) rfl ?_
  intro p e s m args below meth c s₁ B hml hv
  obtain ⟨rfl, hsz, hP, hK, hD0, hN⟩ := hv
  have hx := B.exec
  have hb := B.bytes
  have hr := B.returns
  have ht : ∀ w ∈ lw_good, w.before _ s = true := fun w h => atoms_spec (ws := wq yX0_init cX0_init 2 none) B.pre w (wq_mem h)
  have hown : s.vm.findClass RX0 = some m.cls := findClass_of_methodNamed B.named
  have hlocks := B.notSynchronized
  have hin : meth.name = "<init>" := (name_of_methodNamed B.named B.method).1
  subst hsz
  have hD := hD0.self (sz := s.heap.size)
  generalize hAe : va_A [(a, .inr (1, [.null]))] s.heap.size = A at hD ⊢
  have hA : ∀ q : Nat, s.heap.size ≤ q → A q := fun q h => by rw [← hAe]; exact Or.inr h
  have hl := lv_entry ([.ref a, .int p1]) (n := 2) (Nat.le_of_ble_eq_true rfl)
  rw [lg_entry_eq]
  generalize (lg_sl ([.ref a, .int p1]) ++ List.replicate (2 - (lg_sl ([.ref a, .int p1])).length) Slot.unset).toArray = ls at hl ⊢
  have hl : lv_has ls 2 [(0, .ref a), (1, .int p1)] := hl
  generalize hQ : MQ below _ _ s _ _ _ = Q
  generalize hH : s.heap = H at hP ⊢
  have hS : va_S A s.heap H [] := by rw [← hH]; exact va_S.rf
  show W p l e ({ frames := 1, cells := 1, slots := ((p1 + (1 : Int32)).toNatClampNeg), locals := 30 } : Room) s m ([.ref a, .int p1] : List Value).toArray below meth c H [] 0 0 Q (F0 m 0 ls [])
  have hlen : (p1 + (1 : Int32)).toNatClampNeg < 2 ^ 31 := by have h9 : (p1 + (1 : Int32)).toNatClampNeg * 8 ≤ 536870912 := hbyt; omega
  refine lv_aload_n hx hb dX0_init_0 rfl (lv_at hl 0 rfl) ?_
  refine W.objInit hx hb hown (ht _ kw_667) (ht _ kw_664) (ht _ kw_665) rfl (by rw [hml]; exact hl.1) rfl dX0_init_1 (Nat.le_of_ble_eq_true rfl) (Nat.le_of_ble_eq_true rfl) ?_
  refine W.eq (g2 := F0 m 4 ls []) rfl ?_
  refine lv_aload_n hx hb dX0_init_4 rfl (lv_at hl 0 rfl) ?_
  refine lv_iload_n hx hb dX0_init_5 rfl (lv_at hl 1 rfl) ?_
  refine lv_iconst (v := (1 : Int32)) hx hb dX0_init_6 (by decide) ?_
  refine lv_iadd hx hb dX0_init_7 ?_
  refine va_newa (atype := .long) (a0 := (((p1 + (1 : Int32))).toNatClampNeg, .inr (.inl (fun _ => 0)))) hx hb (ht _ kw_668) rfl hK hP hD hS hA (vpc_l ((p1 + (1 : Int32))).toNatClampNeg) hneg rfl hbyt (by show _ ≤ 1; omega) (by show _ ≤ ((p1 + (1 : Int32)).toNatClampNeg); omega) dX0_init_8 (fun q1 cA H hKn hP hD hS => ?_)
  obtain rfl := cA_eqL hK hKn
  have hP : va_P (dC, dI) vwCl ([(a, .inr (1, [.null])), (q1, .inl (cJ, ((p1 + (1 : Int32))).toNatClampNeg, .inr (.inl (fun _ => 0))))]) H := hP
  have hD : va_D A ([(a, .inr (1, [.null])), (q1, .inl (cJ, ((p1 + (1 : Int32))).toNatClampNeg, .inr (.inl (fun _ => 0))))]) := hD
  refine va_putF (D := (dC, dI)) (ci := 1) (v := .ref q1) (ty := .array .long) (C := RX0) (T := TX0) (N := 1) hx hb ht inX0 tyX0 tyX0_ok nmX0 hown hK hP hD hS 0 rfl rfl 0 (by decide) (ht _ kw_158) (fun _ h9 => h9) rfl hin rfl (by decide +kernel) rfl rfl (Nat.le_of_ble_eq_true rfl) dX0_init_10 (fun H locs hP hD hS => ?_)
  have hP : va_P (dC, dI) vwCl ([(a, .inr (1, [.ref q1])), (q1, .inl (cJ, ((p1 + (1 : Int32))).toNatClampNeg, .inr (.inl (fun _ => 0))))]) H := hP
  have hD : va_D A ([(a, .inr (1, [.ref q1])), (q1, .inl (cJ, ((p1 + (1 : Int32))).toNatClampNeg, .inr (.inl (fun _ => 0))))]) := hD
  refine lv_aload_n hx hb dX0_init_13 rfl (lv_at hl 0 rfl) ?_
  refine va_get (D := (dC, dI)) (ci := 1) (v := .ref q1) (C := RX0) (T := TX0) (N := 1) hx hb ht inX0 hown hK hP 0 rfl rfl 0 (by decide) (ht _ kw_158) (fun _ h9 => h9) rfl dX0_init_14 ?_
  refine lv_ldc2 (v := (-1 : Int64)) hx hb hown (ht _ kw_157) dX0_init_17 ?_
  have hPc : va_P (dC, dI) vwCl [(q1, .inl (cJ, ((p1 + (1 : Int32))).toNatClampNeg, .inr (.inl (fun _ => 0))))] _ := hP.sub [1] rfl
  have hDc : va_D A [(q1, .inl (cJ, ((p1 + (1 : Int32))).toNatClampNeg, .inr (.inl (fun _ => 0))))] := hD.sub [1] (by decide) rfl
  have hFc := va_free (wc := [(q1, .inl (cJ, ((p1 + (1 : Int32))).toNatClampNeg, .inr (.inl (fun _ => 0))))]) hD hS hA [1] rfl
  refine va_callv (va_runS (As := [.ref q1, .long (-1 : Int64)]) (rest := []) ⟨hx, hb, hml, hown, ht⟩ (c_fillL l dC dI cI cJ q1 H.size ((p1 + (1 : Int32))).toNatClampNeg hlen (fun _ => 0) (-1 : Int64)) (va_cwS 2 ht (gdS kw_669 kw_399 kw_194 kw_398) rfl rfl rfl nd_J7_fill_d0a16 ⟨Nat.le_of_ble_eq_true rfl, Nat.le_of_ble_eq_true rfl⟩) ⟨pcW_blind, pcW_pre hPc hK hDc hN⟩ rfl rfl hl.1 rfl (lv_room (Nat.le_of_ble_eq_true rfl)) dX0_init_20 ⟨by show _ ≤ 1; omega, by show _ ≤ ((p1 + (1 : Int32)).toNatClampNeg); omega⟩) hS (fun q _ z => hFc q z) hFc (fun uu t H1 locs ht1 hvm hw hB hz1 hk1 hS => ?_)
  obtain ⟨hP1, hD1⟩ := hB
  rw [ht1] at hP1
  subst hw
  obtain ⟨hP, hD⟩ := va_join (wr := [(([(a, .inr (1, [.ref q1])), (q1, .inl (cJ, ((p1 + (1 : Int32))).toNatClampNeg, .inr (.inl (fun _ => 0))))]))[0]]) (w1 := [(q1, .inl (cJ, ((p1 + (1 : Int32))).toNatClampNeg, .inr (.inl (flL ((p1 + (1 : Int32))).toNatClampNeg (fun _ => 0) (-1 : Int64)))))]) hP hD [1] [0] rfl rfl (by decide) (by decide) hk1 hFc hP1 hD1
  generalize H1 = H at hP hS ⊢
  have hP := hP.sub (ws' := ([(a, .inr (1, [.ref q1])), (q1, .inl (cJ, ((p1 + (1 : Int32))).toNatClampNeg, .inr (.inl (flL ((p1 + (1 : Int32))).toNatClampNeg (fun _ => 0) (-1 : Int64)))))])) [0, 1] rfl
  have hD := hD.sub (ws' := ([(a, .inr (1, [.ref q1])), (q1, .inl (cJ, ((p1 + (1 : Int32))).toNatClampNeg, .inr (.inl (flL ((p1 + (1 : Int32))).toNatClampNeg (fun _ => 0) (-1 : Int64)))))])) [0, 1] (by decide) rfl
  have hP := hP.sub (ws' := (wL cI cJ a (va_up (fun _ => 0) 0 q1) (i_X0 p1))) [0, 1] rfl
  have hD := hD.sub (ws' := (wL cI cJ a (va_up (fun _ => 0) 0 q1) (i_X0 p1))) [0, 1] (by decide) rfl
  refine W.widen (k := 1) (n := ((p1 + (1 : Int32)).toNatClampNeg)) (by omega) (by omega) ?_
  rw [← hQ]
  exact W.vret hx hb hr (fun t ht1 hW => ⟨⟨(), rfl, trivial, (va_up (fun _ => 0) 0 q1), by rw [ht1]; exact hP, hD⟩, hS.F ht1⟩) hS.2.2 dX0_init_23

def i_X4 (p1 : Int32) : OS := (va_up (va_up (fun _ => 0) 0 p1) 1 ((1 : Int32) <<< (p1 &&& (31 : Int32))), fun _ _ => 0, fun _ _ => 0, fun _ => 0)
set_option maxHeartbeats 4000000 in
set_option maxRecDepth 100000 in
theorem c_X4_init (l : Launch) (dC : Nat → ClassId) (dI : Nat → Nat → Nat) (cI cJ : ClassId) (a sz : Nat) (p1 : Int32) : Met l yX4_init (wq yX4_init cX4_init 2 none) ({ frames := 1, cells := 7, slots := (129), locals := 20 } : Room) (va_Pc [.ref a, .int p1] (pcW dC dI cI cJ sz [(a, .inr (5, [.int (0 : Int32), .int (0 : Int32), .int (0 : Int32), .null, .null, .null, .null, .int (0 : Int32), .null, .null, .null]))])) (va_Qv (S := Unit) (fun _ => True) (fun _ t => ∃ hS : Nat → Nat, va_P (dC, dI) vwCl (wS cI cJ a hS (i_X4 p1)) t.heap ∧ va_D (va_A [(a, .inr (5, [.int (0 : Int32), .int (0 : Int32), .int (0 : Int32), .null, .null, .null, .null, .int (0 : Int32), .null, .null, .null]))] sz) (wS cI cJ a hS (i_X4 p1))) (va_A [(a, .inr (5, [.int (0 : Int32), .int (0 : Int32), .int (0 : Int32), .null, .null, .null, .null, .int (0 : Int32), .null, .null, .null]))] sz)) 7 (129) (va_A [(a, .inr (5, [.int (0 : Int32), .int (0 : Int32), .int (0 : Int32), .null, .null, .null, .null, .int (0 : Int32), .null, .null, .null]))] sz) := by
  refine Met.ofW (cc := cX4_init) (maxL := 2) (ret := none) (by decide) rfl ?_
  intro p e s m args below meth c s₁ B hml hv
  obtain ⟨rfl, hsz, hP, hK, hD0, hN⟩ := hv
  have hx := B.exec
  have hb := B.bytes
  have hr := B.returns
  have ht : ∀ w ∈ lw_good, w.before _ s = true := fun w h => atoms_spec (ws := wq yX4_init cX4_init 2 none) B.pre w (wq_mem h)
  have hown : s.vm.findClass RX4 = some m.cls := findClass_of_methodNamed B.named
  have hlocks := B.notSynchronized
  have hin : meth.name = "<init>" := (name_of_methodNamed B.named B.method).1
  subst hsz
  have hD := hD0.self (sz := s.heap.size)
  generalize hAe : va_A [(a, .inr (5, [.int (0 : Int32), .int (0 : Int32), .int (0 : Int32), .null, .null, .null, .null, .int (0 : Int32), .null, .null, .null]))] s.heap.size = A at hD ⊢
  have hA : ∀ q : Nat, s.heap.size ≤ q → A q := fun q h => by rw [← hAe]; exact Or.inr h
  have hl := lv_entry ([.ref a, .int p1]) (n := 2) (Nat.le_of_ble_eq_true rfl)
  rw [lg_entry_eq]
  generalize (lg_sl ([.ref a, .int p1]) ++ List.replicate (2 - (lg_sl ([.ref a, .int p1])).length) Slot.unset).toArray = ls at hl ⊢
  have hl : lv_has ls 2 [(0, .ref a), (1, .int p1)] := hl
  generalize hQ : MQ below _ _ s _ _ _ = Q
  generalize hH : s.heap = H at hP ⊢
  have hS : va_S A s.heap H [] := by rw [← hH]; exact va_S.rf
  show W p l e ({ frames := 1, cells := 7, slots := (129), locals := 20 } : Room) s m ([.ref a, .int p1] : List Value).toArray below meth c H [] 0 0 Q (F0 m 0 ls [])
  refine lv_aload_n hx hb dX4_init_0 rfl (lv_at hl 0 rfl) ?_
  refine W.objInit hx hb hown (ht _ kw_670) (ht _ kw_664) (ht _ kw_665) rfl (by rw [hml]; exact hl.1) rfl dX4_init_1 (Nat.le_of_ble_eq_true rfl) (Nat.le_of_ble_eq_true rfl) ?_
  refine W.eq (g2 := F0 m 4 ls []) rfl ?_
  refine lv_aload_n hx hb dX4_init_4 rfl (lv_at hl 0 rfl) ?_
  refine lv_bipush (v := (32 : Int32)) hx hb dX4_init_5 (by decide) ?_
  refine va_newa (atype := .int) (a0 := (32, .inl (fun _ => 0))) hx hb (ht _ kw_253) rfl hK hP hD hS hA (vpc_i 32) (by decide) (by decide) (by decide) (by show _ ≤ 7; omega) (by show _ ≤ (129); omega) dX4_init_7 (fun q1 cA H hKn hP hD hS => ?_)
  obtain rfl := cA_eq hK hKn
  have hP : va_P (dC, dI) vwCl ([(a, .inr (5, [.int (0 : Int32), .int (0 : Int32), .int (0 : Int32), .null, .null, .null, .null, .int (0 : Int32), .null, .null, .null])), (q1, .inl (cI, 32, .inl (fun _ => 0)))]) H := hP
  have hD : va_D A ([(a, .inr (5, [.int (0 : Int32), .int (0 : Int32), .int (0 : Int32), .null, .null, .null, .null, .int (0 : Int32), .null, .null, .null])), (q1, .inl (cI, 32, .inl (fun _ => 0)))]) := hD
  refine va_putF (D := (dC, dI)) (ci := 5) (v := .ref q1) (ty := .array .int) (C := RX4) (T := TX4) (N := 11) hx hb ht inX4 tyX4 tyX4_ok nmX4 hown hK hP hD hS 0 rfl rfl 3 (by decide) (ht _ kw_189) (fun _ h9 => h9) rfl hin rfl (by decide +kernel) rfl rfl (Nat.le_of_ble_eq_true rfl) dX4_init_9 (fun H locs hP hD hS => ?_)
  have hP : va_P (dC, dI) vwCl ([(a, .inr (5, [.int (0 : Int32), .int (0 : Int32), .int (0 : Int32), .ref q1, .null, .null, .null, .int (0 : Int32), .null, .null, .null])), (q1, .inl (cI, 32, .inl (fun _ => 0)))]) H := hP
  have hD : va_D A ([(a, .inr (5, [.int (0 : Int32), .int (0 : Int32), .int (0 : Int32), .ref q1, .null, .null, .null, .int (0 : Int32), .null, .null, .null])), (q1, .inl (cI, 32, .inl (fun _ => 0)))]) := hD
  refine lv_aload_n hx hb dX4_init_12 rfl (lv_at hl 0 rfl) ?_
  refine lv_bipush (v := (33 : Int32)) hx hb dX4_init_13 (by decide) ?_
  refine va_newa (atype := .int) (a0 := (33, .inl (fun _ => 0))) hx hb (ht _ kw_253) rfl hK hP hD hS hA (vpc_i 33) (by decide) (by decide) (by decide) (by show _ ≤ 7; omega) (by show _ ≤ (129); omega) dX4_init_15 (fun q2 cA H hKn hP hD hS => ?_)
  obtain rfl := cA_eq hK hKn
  have hP : va_P (dC, dI) vwCl ([(a, .inr (5, [.int (0 : Int32), .int (0 : Int32), .int (0 : Int32), .ref q1, .null, .null, .null, .int (0 : Int32), .null, .null, .null])), (q1, .inl (cI, 32, .inl (fun _ => 0))), (q2, .inl (cI, 33, .inl (fun _ => 0)))]) H := hP
  have hD : va_D A ([(a, .inr (5, [.int (0 : Int32), .int (0 : Int32), .int (0 : Int32), .ref q1, .null, .null, .null, .int (0 : Int32), .null, .null, .null])), (q1, .inl (cI, 32, .inl (fun _ => 0))), (q2, .inl (cI, 33, .inl (fun _ => 0)))]) := hD
  refine va_putF (D := (dC, dI)) (ci := 5) (v := .ref q2) (ty := .array .int) (C := RX4) (T := TX4) (N := 11) hx hb ht inX4 tyX4 tyX4_ok nmX4 hown hK hP hD hS 0 rfl rfl 4 (by decide) (ht _ kw_216) (fun _ h9 => h9) rfl hin rfl (by decide +kernel) rfl rfl (Nat.le_of_ble_eq_true rfl) dX4_init_17 (fun H locs hP hD hS => ?_)
  have hP : va_P (dC, dI) vwCl ([(a, .inr (5, [.int (0 : Int32), .int (0 : Int32), .int (0 : Int32), .ref q1, .ref q2, .null, .null, .int (0 : Int32), .null, .null, .null])), (q1, .inl (cI, 32, .inl (fun _ => 0))), (q2, .inl (cI, 33, .inl (fun _ => 0)))]) H := hP
  have hD : va_D A ([(a, .inr (5, [.int (0 : Int32), .int (0 : Int32), .int (0 : Int32), .ref q1, .ref q2, .null, .null, .int (0 : Int32), .null, .null, .null])), (q1, .inl (cI, 32, .inl (fun _ => 0))), (q2, .inl (cI, 33, .inl (fun _ => 0)))]) := hD
  refine lv_aload_n hx hb dX4_init_20 rfl (lv_at hl 0 rfl) ?_
  refine lv_bipush (v := (32 : Int32)) hx hb dX4_init_21 (by decide) ?_
  refine va_newa (atype := .long) (a0 := (32, .inr (.inl (fun _ => 0)))) hx hb (ht _ kw_668) rfl hK hP hD hS hA (vpc_l 32) (by decide) (by decide) (by decide) (by show _ ≤ 7; omega) (by show _ ≤ (129); omega) dX4_init_23 (fun q3 cA H hKn hP hD hS => ?_)
  obtain rfl := cA_eqL hK hKn
  have hP : va_P (dC, dI) vwCl ([(a, .inr (5, [.int (0 : Int32), .int (0 : Int32), .int (0 : Int32), .ref q1, .ref q2, .null, .null, .int (0 : Int32), .null, .null, .null])), (q1, .inl (cI, 32, .inl (fun _ => 0))), (q2, .inl (cI, 33, .inl (fun _ => 0))), (q3, .inl (cJ, 32, .inr (.inl (fun _ => 0))))]) H := hP
  have hD : va_D A ([(a, .inr (5, [.int (0 : Int32), .int (0 : Int32), .int (0 : Int32), .ref q1, .ref q2, .null, .null, .int (0 : Int32), .null, .null, .null])), (q1, .inl (cI, 32, .inl (fun _ => 0))), (q2, .inl (cI, 33, .inl (fun _ => 0))), (q3, .inl (cJ, 32, .inr (.inl (fun _ => 0))))]) := hD
  refine va_putF (D := (dC, dI)) (ci := 5) (v := .ref q3) (ty := .array .long) (C := RX4) (T := TX4) (N := 11) hx hb ht inX4 tyX4 tyX4_ok nmX4 hown hK hP hD hS 0 rfl rfl 5 (by decide) (ht _ kw_335) (fun _ h9 => h9) rfl hin rfl (by decide +kernel) rfl rfl (Nat.le_of_ble_eq_true rfl) dX4_init_25 (fun H locs hP hD hS => ?_)
  have hP : va_P (dC, dI) vwCl ([(a, .inr (5, [.int (0 : Int32), .int (0 : Int32), .int (0 : Int32), .ref q1, .ref q2, .ref q3, .null, .int (0 : Int32), .null, .null, .null])), (q1, .inl (cI, 32, .inl (fun _ => 0))), (q2, .inl (cI, 33, .inl (fun _ => 0))), (q3, .inl (cJ, 32, .inr (.inl (fun _ => 0))))]) H := hP
  have hD : va_D A ([(a, .inr (5, [.int (0 : Int32), .int (0 : Int32), .int (0 : Int32), .ref q1, .ref q2, .ref q3, .null, .int (0 : Int32), .null, .null, .null])), (q1, .inl (cI, 32, .inl (fun _ => 0))), (q2, .inl (cI, 33, .inl (fun _ => 0))), (q3, .inl (cJ, 32, .inr (.inl (fun _ => 0))))]) := hD
  refine lv_aload_n hx hb dX4_init_28 rfl (lv_at hl 0 rfl) ?_
  refine lv_bipush (v := (32 : Int32)) hx hb dX4_init_29 (by decide) ?_
  refine va_newa (atype := .int) (a0 := (32, .inl (fun _ => 0))) hx hb (ht _ kw_253) rfl hK hP hD hS hA (vpc_i 32) (by decide) (by decide) (by decide) (by show _ ≤ 7; omega) (by show _ ≤ (129); omega) dX4_init_31 (fun q4 cA H hKn hP hD hS => ?_)
  obtain rfl := cA_eq hK hKn
  have hP : va_P (dC, dI) vwCl ([(a, .inr (5, [.int (0 : Int32), .int (0 : Int32), .int (0 : Int32), .ref q1, .ref q2, .ref q3, .null, .int (0 : Int32), .null, .null, .null])), (q1, .inl (cI, 32, .inl (fun _ => 0))), (q2, .inl (cI, 33, .inl (fun _ => 0))), (q3, .inl (cJ, 32, .inr (.inl (fun _ => 0)))), (q4, .inl (cI, 32, .inl (fun _ => 0)))]) H := hP
  have hD : va_D A ([(a, .inr (5, [.int (0 : Int32), .int (0 : Int32), .int (0 : Int32), .ref q1, .ref q2, .ref q3, .null, .int (0 : Int32), .null, .null, .null])), (q1, .inl (cI, 32, .inl (fun _ => 0))), (q2, .inl (cI, 33, .inl (fun _ => 0))), (q3, .inl (cJ, 32, .inr (.inl (fun _ => 0)))), (q4, .inl (cI, 32, .inl (fun _ => 0)))]) := hD
  refine va_putF (D := (dC, dI)) (ci := 5) (v := .ref q4) (ty := .array .int) (C := RX4) (T := TX4) (N := 11) hx hb ht inX4 tyX4 tyX4_ok nmX4 hown hK hP hD hS 0 rfl rfl 6 (by decide) (ht _ kw_248) (fun _ h9 => h9) rfl hin rfl (by decide +kernel) rfl rfl (Nat.le_of_ble_eq_true rfl) dX4_init_33 (fun H locs hP hD hS => ?_)
  have hP : va_P (dC, dI) vwCl ([(a, .inr (5, [.int (0 : Int32), .int (0 : Int32), .int (0 : Int32), .ref q1, .ref q2, .ref q3, .ref q4, .int (0 : Int32), .null, .null, .null])), (q1, .inl (cI, 32, .inl (fun _ => 0))), (q2, .inl (cI, 33, .inl (fun _ => 0))), (q3, .inl (cJ, 32, .inr (.inl (fun _ => 0)))), (q4, .inl (cI, 32, .inl (fun _ => 0)))]) H := hP
  have hD : va_D A ([(a, .inr (5, [.int (0 : Int32), .int (0 : Int32), .int (0 : Int32), .ref q1, .ref q2, .ref q3, .ref q4, .int (0 : Int32), .null, .null, .null])), (q1, .inl (cI, 32, .inl (fun _ => 0))), (q2, .inl (cI, 33, .inl (fun _ => 0))), (q3, .inl (cJ, 32, .inr (.inl (fun _ => 0)))), (q4, .inl (cI, 32, .inl (fun _ => 0)))]) := hD
  refine lv_aload_n hx hb dX4_init_36 rfl (lv_at hl 0 rfl) ?_
  refine lv_iconst (v := (0 : Int32)) hx hb dX4_init_37 (by decide) ?_
  refine va_newa (atype := .int) (a0 := (0, .inl (fun _ => 0))) hx hb (ht _ kw_253) rfl hK hP hD hS hA (vpc_i 0) (by decide) (by decide) (by decide) (by show _ ≤ 7; omega) (by show _ ≤ (129); omega) dX4_init_38 (fun q5 cA H hKn hP hD hS => ?_)
  obtain rfl := cA_eq hK hKn
  have hP : va_P (dC, dI) vwCl ([(a, .inr (5, [.int (0 : Int32), .int (0 : Int32), .int (0 : Int32), .ref q1, .ref q2, .ref q3, .ref q4, .int (0 : Int32), .null, .null, .null])), (q1, .inl (cI, 32, .inl (fun _ => 0))), (q2, .inl (cI, 33, .inl (fun _ => 0))), (q3, .inl (cJ, 32, .inr (.inl (fun _ => 0)))), (q4, .inl (cI, 32, .inl (fun _ => 0))), (q5, .inl (cI, 0, .inl (fun _ => 0)))]) H := hP
  have hD : va_D A ([(a, .inr (5, [.int (0 : Int32), .int (0 : Int32), .int (0 : Int32), .ref q1, .ref q2, .ref q3, .ref q4, .int (0 : Int32), .null, .null, .null])), (q1, .inl (cI, 32, .inl (fun _ => 0))), (q2, .inl (cI, 33, .inl (fun _ => 0))), (q3, .inl (cJ, 32, .inr (.inl (fun _ => 0)))), (q4, .inl (cI, 32, .inl (fun _ => 0))), (q5, .inl (cI, 0, .inl (fun _ => 0)))]) := hD
  refine va_put (D := (dC, dI)) (ci := 5) (v := .ref q5) (ty := .array .int) (C := RX4) (T := TX4) (N := 11) hx hb ht inX4 tyX4 tyX4_ok nmX4 hown hK hP hD hS 0 rfl rfl 8 (by decide) (ht _ kw_245) (fun _ h9 => h9) rfl (by decide +kernel) rfl rfl (Nat.le_of_ble_eq_true rfl) dX4_init_40 (fun H locs hP hD hS => ?_)
  have hP : va_P (dC, dI) vwCl ([(a, .inr (5, [.int (0 : Int32), .int (0 : Int32), .int (0 : Int32), .ref q1, .ref q2, .ref q3, .ref q4, .int (0 : Int32), .ref q5, .null, .null])), (q1, .inl (cI, 32, .inl (fun _ => 0))), (q2, .inl (cI, 33, .inl (fun _ => 0))), (q3, .inl (cJ, 32, .inr (.inl (fun _ => 0)))), (q4, .inl (cI, 32, .inl (fun _ => 0))), (q5, .inl (cI, 0, .inl (fun _ => 0)))]) H := hP
  have hD : va_D A ([(a, .inr (5, [.int (0 : Int32), .int (0 : Int32), .int (0 : Int32), .ref q1, .ref q2, .ref q3, .ref q4, .int (0 : Int32), .ref q5, .null, .null])), (q1, .inl (cI, 32, .inl (fun _ => 0))), (q2, .inl (cI, 33, .inl (fun _ => 0))), (q3, .inl (cJ, 32, .inr (.inl (fun _ => 0)))), (q4, .inl (cI, 32, .inl (fun _ => 0))), (q5, .inl (cI, 0, .inl (fun _ => 0)))]) := hD
  refine lv_aload_n hx hb dX4_init_43 rfl (lv_at hl 0 rfl) ?_
  refine lv_iconst (v := (0 : Int32)) hx hb dX4_init_44 (by decide) ?_
  refine va_newa (atype := .int) (a0 := (0, .inl (fun _ => 0))) hx hb (ht _ kw_253) rfl hK hP hD hS hA (vpc_i 0) (by decide) (by decide) (by decide) (by show _ ≤ 7; omega) (by show _ ≤ (129); omega) dX4_init_45 (fun q6 cA H hKn hP hD hS => ?_)
  obtain rfl := cA_eq hK hKn
  have hP : va_P (dC, dI) vwCl ([(a, .inr (5, [.int (0 : Int32), .int (0 : Int32), .int (0 : Int32), .ref q1, .ref q2, .ref q3, .ref q4, .int (0 : Int32), .ref q5, .null, .null])), (q1, .inl (cI, 32, .inl (fun _ => 0))), (q2, .inl (cI, 33, .inl (fun _ => 0))), (q3, .inl (cJ, 32, .inr (.inl (fun _ => 0)))), (q4, .inl (cI, 32, .inl (fun _ => 0))), (q5, .inl (cI, 0, .inl (fun _ => 0))), (q6, .inl (cI, 0, .inl (fun _ => 0)))]) H := hP
  have hD : va_D A ([(a, .inr (5, [.int (0 : Int32), .int (0 : Int32), .int (0 : Int32), .ref q1, .ref q2, .ref q3, .ref q4, .int (0 : Int32), .ref q5, .null, .null])), (q1, .inl (cI, 32, .inl (fun _ => 0))), (q2, .inl (cI, 33, .inl (fun _ => 0))), (q3, .inl (cJ, 32, .inr (.inl (fun _ => 0)))), (q4, .inl (cI, 32, .inl (fun _ => 0))), (q5, .inl (cI, 0, .inl (fun _ => 0))), (q6, .inl (cI, 0, .inl (fun _ => 0)))]) := hD
  refine va_put (D := (dC, dI)) (ci := 5) (v := .ref q6) (ty := .array .int) (C := RX4) (T := TX4) (N := 11) hx hb ht inX4 tyX4 tyX4_ok nmX4 hown hK hP hD hS 0 rfl rfl 9 (by decide) (ht _ kw_246) (fun _ h9 => h9) rfl (by decide +kernel) rfl rfl (Nat.le_of_ble_eq_true rfl) dX4_init_47 (fun H locs hP hD hS => ?_)
  have hP : va_P (dC, dI) vwCl ([(a, .inr (5, [.int (0 : Int32), .int (0 : Int32), .int (0 : Int32), .ref q1, .ref q2, .ref q3, .ref q4, .int (0 : Int32), .ref q5, .ref q6, .null])), (q1, .inl (cI, 32, .inl (fun _ => 0))), (q2, .inl (cI, 33, .inl (fun _ => 0))), (q3, .inl (cJ, 32, .inr (.inl (fun _ => 0)))), (q4, .inl (cI, 32, .inl (fun _ => 0))), (q5, .inl (cI, 0, .inl (fun _ => 0))), (q6, .inl (cI, 0, .inl (fun _ => 0)))]) H := hP
  have hD : va_D A ([(a, .inr (5, [.int (0 : Int32), .int (0 : Int32), .int (0 : Int32), .ref q1, .ref q2, .ref q3, .ref q4, .int (0 : Int32), .ref q5, .ref q6, .null])), (q1, .inl (cI, 32, .inl (fun _ => 0))), (q2, .inl (cI, 33, .inl (fun _ => 0))), (q3, .inl (cJ, 32, .inr (.inl (fun _ => 0)))), (q4, .inl (cI, 32, .inl (fun _ => 0))), (q5, .inl (cI, 0, .inl (fun _ => 0))), (q6, .inl (cI, 0, .inl (fun _ => 0)))]) := hD
  refine lv_aload_n hx hb dX4_init_50 rfl (lv_at hl 0 rfl) ?_
  refine lv_iconst (v := (0 : Int32)) hx hb dX4_init_51 (by decide) ?_
  refine va_newa (atype := .int) (a0 := (0, .inl (fun _ => 0))) hx hb (ht _ kw_253) rfl hK hP hD hS hA (vpc_i 0) (by decide) (by decide) (by decide) (by show _ ≤ 7; omega) (by show _ ≤ (129); omega) dX4_init_52 (fun q7 cA H hKn hP hD hS => ?_)
  obtain rfl := cA_eq hK hKn
  have hP : va_P (dC, dI) vwCl ([(a, .inr (5, [.int (0 : Int32), .int (0 : Int32), .int (0 : Int32), .ref q1, .ref q2, .ref q3, .ref q4, .int (0 : Int32), .ref q5, .ref q6, .null])), (q1, .inl (cI, 32, .inl (fun _ => 0))), (q2, .inl (cI, 33, .inl (fun _ => 0))), (q3, .inl (cJ, 32, .inr (.inl (fun _ => 0)))), (q4, .inl (cI, 32, .inl (fun _ => 0))), (q5, .inl (cI, 0, .inl (fun _ => 0))), (q6, .inl (cI, 0, .inl (fun _ => 0))), (q7, .inl (cI, 0, .inl (fun _ => 0)))]) H := hP
  have hD : va_D A ([(a, .inr (5, [.int (0 : Int32), .int (0 : Int32), .int (0 : Int32), .ref q1, .ref q2, .ref q3, .ref q4, .int (0 : Int32), .ref q5, .ref q6, .null])), (q1, .inl (cI, 32, .inl (fun _ => 0))), (q2, .inl (cI, 33, .inl (fun _ => 0))), (q3, .inl (cJ, 32, .inr (.inl (fun _ => 0)))), (q4, .inl (cI, 32, .inl (fun _ => 0))), (q5, .inl (cI, 0, .inl (fun _ => 0))), (q6, .inl (cI, 0, .inl (fun _ => 0))), (q7, .inl (cI, 0, .inl (fun _ => 0)))]) := hD
  refine va_put (D := (dC, dI)) (ci := 5) (v := .ref q7) (ty := .array .int) (C := RX4) (T := TX4) (N := 11) hx hb ht inX4 tyX4 tyX4_ok nmX4 hown hK hP hD hS 0 rfl rfl 10 (by decide) (ht _ kw_247) (fun _ h9 => h9) rfl (by decide +kernel) rfl rfl (Nat.le_of_ble_eq_true rfl) dX4_init_54 (fun H locs hP hD hS => ?_)
  have hP : va_P (dC, dI) vwCl ([(a, .inr (5, [.int (0 : Int32), .int (0 : Int32), .int (0 : Int32), .ref q1, .ref q2, .ref q3, .ref q4, .int (0 : Int32), .ref q5, .ref q6, .ref q7])), (q1, .inl (cI, 32, .inl (fun _ => 0))), (q2, .inl (cI, 33, .inl (fun _ => 0))), (q3, .inl (cJ, 32, .inr (.inl (fun _ => 0)))), (q4, .inl (cI, 32, .inl (fun _ => 0))), (q5, .inl (cI, 0, .inl (fun _ => 0))), (q6, .inl (cI, 0, .inl (fun _ => 0))), (q7, .inl (cI, 0, .inl (fun _ => 0)))]) H := hP
  have hD : va_D A ([(a, .inr (5, [.int (0 : Int32), .int (0 : Int32), .int (0 : Int32), .ref q1, .ref q2, .ref q3, .ref q4, .int (0 : Int32), .ref q5, .ref q6, .ref q7])), (q1, .inl (cI, 32, .inl (fun _ => 0))), (q2, .inl (cI, 33, .inl (fun _ => 0))), (q3, .inl (cJ, 32, .inr (.inl (fun _ => 0)))), (q4, .inl (cI, 32, .inl (fun _ => 0))), (q5, .inl (cI, 0, .inl (fun _ => 0))), (q6, .inl (cI, 0, .inl (fun _ => 0))), (q7, .inl (cI, 0, .inl (fun _ => 0)))]) := hD
  refine lv_aload_n hx hb dX4_init_57 rfl (lv_at hl 0 rfl) ?_
  refine lv_iload_n hx hb dX4_init_58 rfl (lv_at hl 1 rfl) ?_
  refine va_put (D := (dC, dI)) (ci := 5) (v := .int p1) (ty := .int) (C := RX4) (T := TX4) (N := 11) hx hb ht inX4 tyX4 tyX4_ok nmX4 hown hK hP hD hS 0 rfl rfl 0 (by decide) (ht _ kw_196) (fun _ h9 => h9) rfl (by decide +kernel) rfl rfl (Nat.le_of_ble_eq_true rfl) dX4_init_59 (fun H locs hP hD hS => ?_)
  have hP : va_P (dC, dI) vwCl ([(a, .inr (5, [.int p1, .int (0 : Int32), .int (0 : Int32), .ref q1, .ref q2, .ref q3, .ref q4, .int (0 : Int32), .ref q5, .ref q6, .ref q7])), (q1, .inl (cI, 32, .inl (fun _ => 0))), (q2, .inl (cI, 33, .inl (fun _ => 0))), (q3, .inl (cJ, 32, .inr (.inl (fun _ => 0)))), (q4, .inl (cI, 32, .inl (fun _ => 0))), (q5, .inl (cI, 0, .inl (fun _ => 0))), (q6, .inl (cI, 0, .inl (fun _ => 0))), (q7, .inl (cI, 0, .inl (fun _ => 0)))]) H := hP
  have hD : va_D A ([(a, .inr (5, [.int p1, .int (0 : Int32), .int (0 : Int32), .ref q1, .ref q2, .ref q3, .ref q4, .int (0 : Int32), .ref q5, .ref q6, .ref q7])), (q1, .inl (cI, 32, .inl (fun _ => 0))), (q2, .inl (cI, 33, .inl (fun _ => 0))), (q3, .inl (cJ, 32, .inr (.inl (fun _ => 0)))), (q4, .inl (cI, 32, .inl (fun _ => 0))), (q5, .inl (cI, 0, .inl (fun _ => 0))), (q6, .inl (cI, 0, .inl (fun _ => 0))), (q7, .inl (cI, 0, .inl (fun _ => 0)))]) := hD
  refine lv_aload_n hx hb dX4_init_62 rfl (lv_at hl 0 rfl) ?_
  refine lv_iconst (v := (1 : Int32)) hx hb dX4_init_63 (by decide) ?_
  refine lv_iload_n hx hb dX4_init_64 rfl (lv_at hl 1 rfl) ?_
  refine lv_ishl hx hb dX4_init_65 ?_
  refine va_put (D := (dC, dI)) (ci := 5) (v := .int ((1 : Int32) <<< (p1 &&& (31 : Int32)))) (ty := .int) (C := RX4) (T := TX4) (N := 11) hx hb ht inX4 tyX4 tyX4_ok nmX4 hown hK hP hD hS 0 rfl rfl 1 (by decide) (ht _ kw_197) (fun _ h9 => h9) rfl (by decide +kernel) rfl rfl (Nat.le_of_ble_eq_true rfl) dX4_init_66 (fun H locs hP hD hS => ?_)
  have hP : va_P (dC, dI) vwCl ([(a, .inr (5, [.int p1, .int ((1 : Int32) <<< (p1 &&& (31 : Int32))), .int (0 : Int32), .ref q1, .ref q2, .ref q3, .ref q4, .int (0 : Int32), .ref q5, .ref q6, .ref q7])), (q1, .inl (cI, 32, .inl (fun _ => 0))), (q2, .inl (cI, 33, .inl (fun _ => 0))), (q3, .inl (cJ, 32, .inr (.inl (fun _ => 0)))), (q4, .inl (cI, 32, .inl (fun _ => 0))), (q5, .inl (cI, 0, .inl (fun _ => 0))), (q6, .inl (cI, 0, .inl (fun _ => 0))), (q7, .inl (cI, 0, .inl (fun _ => 0)))]) H := hP
  have hD : va_D A ([(a, .inr (5, [.int p1, .int ((1 : Int32) <<< (p1 &&& (31 : Int32))), .int (0 : Int32), .ref q1, .ref q2, .ref q3, .ref q4, .int (0 : Int32), .ref q5, .ref q6, .ref q7])), (q1, .inl (cI, 32, .inl (fun _ => 0))), (q2, .inl (cI, 33, .inl (fun _ => 0))), (q3, .inl (cJ, 32, .inr (.inl (fun _ => 0)))), (q4, .inl (cI, 32, .inl (fun _ => 0))), (q5, .inl (cI, 0, .inl (fun _ => 0))), (q6, .inl (cI, 0, .inl (fun _ => 0))), (q7, .inl (cI, 0, .inl (fun _ => 0)))]) := hD
  have hP := hP.sub (ws' := (wS cI cJ a (va_up (va_up (va_up (va_up (va_up (va_up (va_up (fun _ => 0) 3 q1) 4 q2) 5 q3) 6 q4) 8 q5) 9 q6) 10 q7) (i_X4 p1))) [0, 1, 2, 3, 4, 5, 6, 7] rfl
  have hD := hD.sub (ws' := (wS cI cJ a (va_up (va_up (va_up (va_up (va_up (va_up (va_up (fun _ => 0) 3 q1) 4 q2) 5 q3) 6 q4) 8 q5) 9 q6) 10 q7) (i_X4 p1))) [0, 1, 2, 3, 4, 5, 6, 7] (by decide) rfl
  refine W.widen (k := 7) (n := (129)) (by omega) (by omega) ?_
  rw [← hQ]
  exact W.vret hx hb hr (fun t ht1 hW => ⟨⟨(), rfl, trivial, (va_up (va_up (va_up (va_up (va_up (va_up (va_up (fun _ => 0) 3 q1) 4 q2) 5 q3) 6 q4) 8 q5) 9 q6) 10 q7), by rw [ht1]; exact hP, hD⟩, hS.F ht1⟩) hS.2.2 dX4_init_69

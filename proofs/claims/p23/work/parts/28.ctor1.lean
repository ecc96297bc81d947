def i_X5 : OS := (fun _ => 0, fun _ _ => 0, fun _ _ => 0, fun _ => 0)
set_option maxHeartbeats 4000000 in
set_option maxRecDepth 100000 in
theorem c_X5_init (l : Launch) (dC : Nat → ClassId) (dI : Nat → Nat → Nat) (cI cJ : ClassId) (a sz : Nat) : Met l yX5_init (wq yX5_init cX5_init 1 none) ({ frames := 2, cells := 3, slots := (4 + 2 + 256), locals := 40 } : Room) (va_Pc [.ref a] (pcW dC dI cI cJ sz [(a, .inr (6, [.null, .null, .int (0 : Int32), .int (0 : Int32)]))])) (va_Qv (S := Unit) (fun _ => True) (fun _ t => ∃ hW : Nat → Nat, ∃ aP : Nat, ∃ hP : Nat → Nat, va_P (dC, dI) vwCl (wW cI cJ a hW aP i_X5 ++ (wP cI cJ aP hP i_X2)) t.heap ∧ va_D (va_A [(a, .inr (6, [.null, .null, .int (0 : Int32), .int (0 : Int32)]))] sz) (wW cI cJ a hW aP i_X5 ++ (wP cI cJ aP hP i_X2))) (va_A [(a, .inr (6, [.null, .null, .int (0 : Int32), .int (0 : Int32)]))] sz)) 3 (4 + 2 + 256) (va_A [(a, .inr (6, [.null, .null, .int (0 : Int32), .int (0 : Int32)]))] sz) := by
  refine Met.ofW (cc := cX5_init) (maxL := 1) (ret := none) (by decide) rfl ?_
  intro p e s m args below meth c s₁ B hml hv
  obtain ⟨rfl, hsz, hP, hK, hD0, hN⟩ := hv
  have hx := B.exec
  have hb := B.bytes
  have hr := B.returns
  have ht : ∀ w ∈ lw_good, w.before _ s = true := fun w h => atoms_spec (ws := wq yX5_init cX5_init 1 none) B.pre w (wq_mem h)
  have hown : s.vm.findClass RX5 = some m.cls := findClass_of_methodNamed B.named
  have hlocks := B.notSynchronized
  have hin : meth.name = "<init>" := (name_of_methodNamed B.named B.method).1
  subst hsz
  have hD := hD0.self (sz := s.heap.size)
  generalize hAe : va_A [(a, .inr (6, [.null, .null, .int (0 : Int32), .int (0 : Int32)]))] s.heap.size = A at hD ⊢
  have hA : ∀ q : Nat, s.heap.size ≤ q → A q := fun q h => by rw [← hAe]; exact Or.inr h
  have hl := lv_entry ([.ref a]) (n := 1) (Nat.le_of_ble_eq_true rfl)
  rw [lg_entry_eq]
  generalize (lg_sl ([.ref a]) ++ List.replicate (1 - (lg_sl ([.ref a])).length) Slot.unset).toArray = ls at hl ⊢
  have hl : lv_has ls 1 [(0, .ref a)] := hl
  generalize hQ : MQ below _ _ s _ _ _ = Q
  generalize hH : s.heap = H at hP ⊢
  have hS : va_S A s.heap H [] := by rw [← hH]; exact va_S.rf
  show W p l e ({ frames := 2, cells := 3, slots := (4 + 2 + 256), locals := 40 } : Room) s m ([.ref a] : List Value).toArray below meth c H [] 0 0 Q (F0 m 0 ls [])
  refine lv_aload_n hx hb dX5_init_0 rfl (lv_at hl 0 rfl) ?_
  refine W.objInit hx hb hown (ht _ kw_671) (ht _ kw_664) (ht _ kw_665) rfl (by rw [hml]; exact hl.1) rfl dX5_init_1 (Nat.le_of_ble_eq_true rfl) (Nat.le_of_ble_eq_true rfl) ?_
  refine W.eq (g2 := F0 m 4 ls []) rfl ?_
  refine lv_aload_n hx hb dX5_init_4 rfl (lv_at hl 0 rfl) ?_
  refine lv_iconst (v := (4 : Int32)) hx hb dX5_init_5 (by decide) ?_
  refine va_newa (atype := .long) (a0 := (4, .inr (.inl (fun _ => 0)))) hx hb (ht _ kw_668) rfl hK hP hD hS hA (vpc_l 4) (by decide) (by decide) (by decide) (by show _ ≤ 3; omega) (by show _ ≤ (4 + 2 + 256); omega) dX5_init_6 (fun q1 cA H hKn hP hD hS => ?_)
  obtain rfl := cA_eqL hK hKn
  have hP : va_P (dC, dI) vwCl ([(a, .inr (6, [.null, .null, .int (0 : Int32), .int (0 : Int32)])), (q1, .inl (cJ, 4, .inr (.inl (fun _ => 0))))]) H := hP
  have hD : va_D A ([(a, .inr (6, [.null, .null, .int (0 : Int32), .int (0 : Int32)])), (q1, .inl (cJ, 4, .inr (.inl (fun _ => 0))))]) := hD
  refine va_putF (D := (dC, dI)) (ci := 6) (v := .ref q1) (ty := .array .long) (C := RX5) (T := TX5) (N := 4) hx hb ht inX5 tyX5 tyX5_ok nmX5 hown hK hP hD hS 0 rfl rfl 0 (by decide) (ht _ kw_354) (fun _ h9 => h9) rfl hin rfl (by decide +kernel) rfl rfl (Nat.le_of_ble_eq_true rfl) dX5_init_8 (fun H locs hP hD hS => ?_)
  have hP : va_P (dC, dI) vwCl ([(a, .inr (6, [.ref q1, .null, .int (0 : Int32), .int (0 : Int32)])), (q1, .inl (cJ, 4, .inr (.inl (fun _ => 0))))]) H := hP
  have hD : va_D A ([(a, .inr (6, [.ref q1, .null, .int (0 : Int32), .int (0 : Int32)])), (q1, .inl (cJ, 4, .inr (.inl (fun _ => 0))))]) := hD
  refine lv_aload_n hx hb dX5_init_11 rfl (lv_at hl 0 rfl) ?_
  refine va_new (ci := 3) (fs := [.null, .int (0 : Int32)]) (C := RX2) (T := TX2) (N := 2) hx hb ht inX2 tyX2 tyX2_ok hown (ht _ kw_672) (ht _ kw_673) (ht _ kw_361) hK hP hD hS hA rfl (fun j hj => by rcases (show j = 0 ∨ j = 1 by omega) with rfl | rfl <;> rfl) (by show _ ≤ 3; omega) (by show _ ≤ (4 + 2 + 256); omega) dX5_init_12 (fun q2 H hP hD hS => ?_)
  have hP : va_P (dC, dI) vwCl ([(a, .inr (6, [.ref q1, .null, .int (0 : Int32), .int (0 : Int32)])), (q1, .inl (cJ, 4, .inr (.inl (fun _ => 0)))), (q2, .inr (3, [.null, .int (0 : Int32)]))]) H := hP
  have hD : va_D A ([(a, .inr (6, [.ref q1, .null, .int (0 : Int32), .int (0 : Int32)])), (q1, .inl (cJ, 4, .inr (.inl (fun _ => 0)))), (q2, .inr (3, [.null, .int (0 : Int32)]))]) := hD
  refine lv_dup hx hb dX5_init_15 rfl ?_
  have hPc : va_P (dC, dI) vwCl [(q2, .inr (3, [.null, .int (0 : Int32)]))] _ := hP.sub [2] rfl
  have hDc : va_D A [(q2, .inr (3, [.null, .int (0 : Int32)]))] := hD.sub [2] (by decide) rfl
  have hFc := va_free (wc := [(q2, .inr (3, [.null, .int (0 : Int32)]))]) hD hS hA [2] rfl
  refine va_callv (va_runIN (As := []) (rest := [.ref q2, .ref a]) ⟨hx, hb, hml, hown, ht⟩ (c_X2_init l dC dI cI cJ q2 H.size) ⟨va_cnB 0 ht (gdC kw_674) rfl rfl rfl (hN _ kn_30) (ht _ kw_361) nd_X2_init ⟨Nat.le_of_ble_eq_true rfl, Nat.le_of_ble_eq_true rfl⟩, rfl, ht _ kw_675⟩ ⟨pcW_blind, pcW_pre hPc hK hDc hN⟩ rfl rfl hl.1 rfl (lv_room (Nat.le_of_ble_eq_true rfl)) dX5_init_16 ⟨by show _ ≤ 3; omega, by show _ ≤ (4 + 2 + 256); omega⟩) hS (fun q _ z => hFc q z) hFc (fun uu t H1 locs ht1 hvm hw hB hz1 hk1 hS => ?_)
  obtain ⟨hP3, hP1, hD1⟩ := hB
  rw [ht1] at hP1
  obtain ⟨hP, hD⟩ := va_join (wr := [(([(a, .inr (6, [.ref q1, .null, .int (0 : Int32), .int (0 : Int32)])), (q1, .inl (cJ, 4, .inr (.inl (fun _ => 0)))), (q2, .inr (3, [.null, .int (0 : Int32)]))]))[0], (([(a, .inr (6, [.ref q1, .null, .int (0 : Int32), .int (0 : Int32)])), (q1, .inl (cJ, 4, .inr (.inl (fun _ => 0)))), (q2, .inr (3, [.null, .int (0 : Int32)]))]))[1]]) (w1 := (wP cI cJ q2 hP3 i_X2)) hP hD [2] [0, 1] rfl rfl (by decide) (by decide) hk1 hFc hP1 hD1
  generalize H1 = H at hP hS ⊢
  have hP : va_P (dC, dI) vwCl ([(a, .inr (6, [.ref q1, .null, .int (0 : Int32), .int (0 : Int32)])), (q1, .inl (cJ, 4, .inr (.inl (fun _ => 0))))] ++ ((wP cI cJ q2 hP3 i_X2))) H := hP
  have hD : va_D A ([(a, .inr (6, [.ref q1, .null, .int (0 : Int32), .int (0 : Int32)])), (q1, .inl (cJ, 4, .inr (.inl (fun _ => 0))))] ++ ((wP cI cJ q2 hP3 i_X2))) := hD
  refine va_putF (D := (dC, dI)) (ci := 6) (v := .ref q2) (ty := .object "AnsTables$Pile") (C := RX5) (T := TX5) (N := 4) hx hb ht inX5 tyX5 tyX5_ok nmX5 hown hK hP hD hS 0 rfl rfl 1 (by decide) (ht _ kw_353) (fun _ h9 => h9) rfl hin rfl (by decide +kernel) rfl rfl (Nat.le_of_ble_eq_true rfl) dX5_init_19 (fun H locs hP hD hS => ?_)
  have hP : va_P (dC, dI) vwCl ([(a, .inr (6, [.ref q1, .ref q2, .int (0 : Int32), .int (0 : Int32)])), (q1, .inl (cJ, 4, .inr (.inl (fun _ => 0))))] ++ ((wP cI cJ q2 hP3 i_X2))) H := hP
  have hD : va_D A ([(a, .inr (6, [.ref q1, .ref q2, .int (0 : Int32), .int (0 : Int32)])), (q1, .inl (cJ, 4, .inr (.inl (fun _ => 0))))] ++ ((wP cI cJ q2 hP3 i_X2))) := hD
  have hP := hP.sub (ws' := (wW cI cJ a (va_up (fun _ => 0) 0 q1) q2 i_X5 ++ ((wP cI cJ q2 hP3 i_X2)))) [0, 1, 2, 3] rfl
  have hD := hD.sub (ws' := (wW cI cJ a (va_up (fun _ => 0) 0 q1) q2 i_X5 ++ ((wP cI cJ q2 hP3 i_X2)))) [0, 1, 2, 3] (by decide) rfl
  refine W.widen (k := 3) (n := (4 + 2 + 256)) (by omega) (by omega) ?_
  rw [← hQ]
  exact W.vret hx hb hr (fun t ht1 hW => ⟨⟨(), rfl, trivial, (va_up (fun _ => 0) 0 q1), q2, hP3, by rw [ht1]; exact hP, hD⟩, hS.F ht1⟩) hS.2.2 dX5_init_22

def i_X3 : OS := (fun _ => 0, fun _ _ => 0, fun _ _ => 0, va_up (fun _ => 0) 2 256)
set_option maxHeartbeats 4000000 in
set_option maxRecDepth 100000 in
theorem c_X3_init (l : Launch) (dC : Nat → ClassId) (dI : Nat → Nat → Nat) (cI cJ : ClassId) (a sz : Nat) : Met l yX3_init (wq yX3_init cX3_init 1 none) ({ frames := 2, cells := 10, slots := (11 + 129 + 4 + 256), locals := 41 } : Room) (va_Pc [.ref a] (pcW dC dI cI cJ sz [(a, .inr (4, [.null, .null, .null, .int (0 : Int32), .int (0 : Int32), .int (0 : Int32), .int (0 : Int32), .int (0 : Int32), .int (0 : Int32), .int (0 : Int32), .int (0 : Int32), .int (0 : Int32)]))])) (va_Qv (S := Unit) (fun _ => True) (fun _ t => ∃ hR : Nat → Nat, ∃ aZ : Nat, ∃ hZ : Nat → Nat, va_P (dC, dI) vwCl (wR cI cJ a hR aZ i_X3 ++ (wS cI cJ aZ hZ (i_X4 (5 : Int32)))) t.heap ∧ va_D (va_A [(a, .inr (4, [.null, .null, .null, .int (0 : Int32), .int (0 : Int32), .int (0 : Int32), .int (0 : Int32), .int (0 : Int32), .int (0 : Int32), .int (0 : Int32), .int (0 : Int32), .int (0 : Int32)]))] sz) (wR cI cJ a hR aZ i_X3 ++ (wS cI cJ aZ hZ (i_X4 (5 : Int32))))) (va_A [(a, .inr (4, [.null, .null, .null, .int (0 : Int32), .int (0 : Int32), .int (0 : Int32), .int (0 : Int32), .int (0 : Int32), .int (0 : Int32), .int (0 : Int32), .int (0 : Int32), .int (0 : Int32)]))] sz)) 10 (11 + 129 + 4 + 256) (va_A [(a, .inr (4, [.null, .null, .null, .int (0 : Int32), .int (0 : Int32), .int (0 : Int32), .int (0 : Int32), .int (0 : Int32), .int (0 : Int32), .int (0 : Int32), .int (0 : Int32), .int (0 : Int32)]))] sz) := by
  refine Met.ofW (cc := cX3_init) (maxL := 1) (ret := none) (by decide) rfl ?_
  intro p e s m args below meth c s₁ B hml hv
  obtain ⟨rfl, hsz, hP, hK, hD0, hN⟩ := hv
  have hx := B.exec
  have hb := B.bytes
  have hr := B.returns
  have ht : ∀ w ∈ lw_good, w.before _ s = true := fun w h => atoms_spec (ws := wq yX3_init cX3_init 1 none) B.pre w (wq_mem h)
  have hown : s.vm.findClass RX3 = some m.cls := findClass_of_methodNamed B.named
  have hlocks := B.notSynchronized
  have hin : meth.name = "<init>" := (name_of_methodNamed B.named B.method).1
  subst hsz
  have hD := hD0.self (sz := s.heap.size)
  generalize hAe : va_A [(a, .inr (4, [.null, .null, .null, .int (0 : Int32), .int (0 : Int32), .int (0 : Int32), .int (0 : Int32), .int (0 : Int32), .int (0 : Int32), .int (0 : Int32), .int (0 : Int32), .int (0 : Int32)]))] s.heap.size = A at hD ⊢
  have hA : ∀ q : Nat, s.heap.size ≤ q → A q := fun q h => by rw [← hAe]; exact Or.inr h
  have hl := lv_entry ([.ref a]) (n := 1) (Nat.le_of_ble_eq_true rfl)
  rw [lg_entry_eq]
  generalize (lg_sl ([.ref a]) ++ List.replicate (1 - (lg_sl ([.ref a])).length) Slot.unset).toArray = ls at hl ⊢
  have hl : lv_has ls 1 [(0, .ref a)] := hl
  generalize hQ : MQ below _ _ s _ _ _ = Q
  generalize hH : s.heap = H at hP ⊢
  have hS : va_S A s.heap H [] := by rw [← hH]; exact va_S.rf
  show W p l e ({ frames := 2, cells := 10, slots := (11 + 129 + 4 + 256), locals := 41 } : Room) s m ([.ref a] : List Value).toArray below meth c H [] 0 0 Q (F0 m 0 ls [])
  refine lv_aload_n hx hb dX3_init_0 rfl (lv_at hl 0 rfl) ?_
  refine W.objInit hx hb hown (ht _ kw_676) (ht _ kw_664) (ht _ kw_665) rfl (by rw [hml]; exact hl.1) rfl dX3_init_1 (Nat.le_of_ble_eq_true rfl) (Nat.le_of_ble_eq_true rfl) ?_
  refine W.eq (g2 := F0 m 4 ls []) rfl ?_
  refine lv_aload_n hx hb dX3_init_4 rfl (lv_at hl 0 rfl) ?_
  refine va_new (ci := 5) (fs := [.int (0 : Int32), .int (0 : Int32), .int (0 : Int32), .null, .null, .null, .null, .int (0 : Int32), .null, .null, .null]) (C := RX4) (T := TX4) (N := 11) hx hb ht inX4 tyX4 tyX4_ok hown (ht _ kw_677) (ht _ kw_678) (ht _ kw_199) hK hP hD hS hA rfl (fun j hj => by rcases (show j = 0 ∨ j = 1 ∨ j = 2 ∨ j = 3 ∨ j = 4 ∨ j = 5 ∨ j = 6 ∨ j = 7 ∨ j = 8 ∨ j = 9 ∨ j = 10 by omega) with rfl | rfl | rfl | rfl | rfl | rfl | rfl | rfl | rfl | rfl | rfl <;> rfl) (by show _ ≤ 10; omega) (by show _ ≤ (11 + 129 + 4 + 256); omega) dX3_init_5 (fun q1 H hP hD hS => ?_)
  have hP : va_P (dC, dI) vwCl ([(a, .inr (4, [.null, .null, .null, .int (0 : Int32), .int (0 : Int32), .int (0 : Int32), .int (0 : Int32), .int (0 : Int32), .int (0 : Int32), .int (0 : Int32), .int (0 : Int32), .int (0 : Int32)])), (q1, .inr (5, [.int (0 : Int32), .int (0 : Int32), .int (0 : Int32), .null, .null, .null, .null, .int (0 : Int32), .null, .null, .null]))]) H := hP
  have hD : va_D A ([(a, .inr (4, [.null, .null, .null, .int (0 : Int32), .int (0 : Int32), .int (0 : Int32), .int (0 : Int32), .int (0 : Int32), .int (0 : Int32), .int (0 : Int32), .int (0 : Int32), .int (0 : Int32)])), (q1, .inr (5, [.int (0 : Int32), .int (0 : Int32), .int (0 : Int32), .null, .null, .null, .null, .int (0 : Int32), .null, .null, .null]))]) := hD
  refine lv_dup hx hb dX3_init_8 rfl ?_
  refine lv_iconst (v := (5 : Int32)) hx hb dX3_init_9 (by decide) ?_
  have hPc : va_P (dC, dI) vwCl [(q1, .inr (5, [.int (0 : Int32), .int (0 : Int32), .int (0 : Int32), .null, .null, .null, .null, .int (0 : Int32), .null, .null, .null]))] _ := hP.sub [1] rfl
  have hDc : va_D A [(q1, .inr (5, [.int (0 : Int32), .int (0 : Int32), .int (0 : Int32), .null, .null, .null, .null, .int (0 : Int32), .null, .null, .null]))] := hD.sub [1] (by decide) rfl
  have hFc := va_free (wc := [(q1, .inr (5, [.int (0 : Int32), .int (0 : Int32), .int (0 : Int32), .null, .null, .null, .null, .int (0 : Int32), .null, .null, .null]))]) hD hS hA [1] rfl
  refine va_callv (va_runI (As := [.int (5 : Int32)]) (rest := [.ref q1, .ref a]) ⟨hx, hb, hml, hown, ht⟩ (c_X4_init l dC dI cI cJ q1 H.size (5 : Int32)) (cwI 1 ht (gdC kw_679) rfl rfl rfl (ht _ kw_199) (ht _ kw_681) (ht _ kw_680) rfl nd_X4_init ⟨Nat.le_of_ble_eq_true rfl, Nat.le_of_ble_eq_true rfl⟩) ⟨pcW_blind, pcW_pre hPc hK hDc hN⟩ rfl rfl hl.1 rfl (lv_room (Nat.le_of_ble_eq_true rfl)) dX3_init_10 ⟨by show _ ≤ 10; omega, by show _ ≤ (11 + 129 + 4 + 256); omega⟩) hS (fun q _ z => hFc q z) hFc (fun uu t H1 locs ht1 hvm hw hB hz1 hk1 hS => ?_)
  obtain ⟨hS2, hP1, hD1⟩ := hB
  rw [ht1] at hP1
  obtain ⟨hP, hD⟩ := va_join (wr := [(([(a, .inr (4, [.null, .null, .null, .int (0 : Int32), .int (0 : Int32), .int (0 : Int32), .int (0 : Int32), .int (0 : Int32), .int (0 : Int32), .int (0 : Int32), .int (0 : Int32), .int (0 : Int32)])), (q1, .inr (5, [.int (0 : Int32), .int (0 : Int32), .int (0 : Int32), .null, .null, .null, .null, .int (0 : Int32), .null, .null, .null]))]))[0]]) (w1 := (wS cI cJ q1 hS2 (i_X4 (5 : Int32)))) hP hD [1] [0] rfl rfl (by decide) (by decide) hk1 hFc hP1 hD1
  generalize H1 = H at hP hS ⊢
  have hP : va_P (dC, dI) vwCl ([(a, .inr (4, [.null, .null, .null, .int (0 : Int32), .int (0 : Int32), .int (0 : Int32), .int (0 : Int32), .int (0 : Int32), .int (0 : Int32), .int (0 : Int32), .int (0 : Int32), .int (0 : Int32)]))] ++ ((wS cI cJ q1 hS2 (i_X4 (5 : Int32))))) H := hP
  have hD : va_D A ([(a, .inr (4, [.null, .null, .null, .int (0 : Int32), .int (0 : Int32), .int (0 : Int32), .int (0 : Int32), .int (0 : Int32), .int (0 : Int32), .int (0 : Int32), .int (0 : Int32), .int (0 : Int32)]))] ++ ((wS cI cJ q1 hS2 (i_X4 (5 : Int32))))) := hD
  refine va_putF (D := (dC, dI)) (ci := 4) (v := .ref q1) (ty := .object "AnsTables$Shares") (C := RX3) (T := TX3) (N := 12) hx hb ht inX3 tyX3 tyX3_ok nmX3 hown hK hP hD hS 0 rfl rfl 0 (by decide) (ht _ kw_188) (fun _ h9 => h9) rfl hin rfl (by decide +kernel) rfl rfl (Nat.le_of_ble_eq_true rfl) dX3_init_13 (fun H locs hP hD hS => ?_)
  have hP : va_P (dC, dI) vwCl ([(a, .inr (4, [.ref q1, .null, .null, .int (0 : Int32), .int (0 : Int32), .int (0 : Int32), .int (0 : Int32), .int (0 : Int32), .int (0 : Int32), .int (0 : Int32), .int (0 : Int32), .int (0 : Int32)]))] ++ ((wS cI cJ q1 hS2 (i_X4 (5 : Int32))))) H := hP
  have hD : va_D A ([(a, .inr (4, [.ref q1, .null, .null, .int (0 : Int32), .int (0 : Int32), .int (0 : Int32), .int (0 : Int32), .int (0 : Int32), .int (0 : Int32), .int (0 : Int32), .int (0 : Int32), .int (0 : Int32)]))] ++ ((wS cI cJ q1 hS2 (i_X4 (5 : Int32))))) := hD
  refine lv_aload_n hx hb dX3_init_16 rfl (lv_at hl 0 rfl) ?_
  refine lv_iconst (v := (4 : Int32)) hx hb dX3_init_17 (by decide) ?_
  refine va_newa (atype := .long) (a0 := (4, .inr (.inl (fun _ => 0)))) hx hb (ht _ kw_668) rfl hK hP hD hS hA (vpc_l 4) (by decide) (by decide) (by decide) (by show _ ≤ 10; omega) (by show _ ≤ (11 + 129 + 4 + 256); omega) dX3_init_18 (fun q3 cA H hKn hP hD hS => ?_)
  obtain rfl := cA_eqL hK hKn
  have hP : va_P (dC, dI) vwCl ([(a, .inr (4, [.ref q1, .null, .null, .int (0 : Int32), .int (0 : Int32), .int (0 : Int32), .int (0 : Int32), .int (0 : Int32), .int (0 : Int32), .int (0 : Int32), .int (0 : Int32), .int (0 : Int32)]))] ++ ((wS cI cJ q1 hS2 (i_X4 (5 : Int32))) ++ ([(q3, .inl (cJ, 4, .inr (.inl (fun _ => 0))))]))) H := hP
  have hD : va_D A ([(a, .inr (4, [.ref q1, .null, .null, .int (0 : Int32), .int (0 : Int32), .int (0 : Int32), .int (0 : Int32), .int (0 : Int32), .int (0 : Int32), .int (0 : Int32), .int (0 : Int32), .int (0 : Int32)]))] ++ ((wS cI cJ q1 hS2 (i_X4 (5 : Int32))) ++ ([(q3, .inl (cJ, 4, .inr (.inl (fun _ => 0))))]))) := hD
  refine va_putF (D := (dC, dI)) (ci := 4) (v := .ref q3) (ty := .array .long) (C := RX3) (T := TX3) (N := 12) hx hb ht inX3 tyX3 tyX3_ok nmX3 hown hK hP hD hS 0 rfl rfl 1 (by decide) (ht _ kw_238) (fun _ h9 => h9) rfl hin rfl (by decide +kernel) rfl rfl (Nat.le_of_ble_eq_true rfl) dX3_init_20 (fun H locs hP hD hS => ?_)
  have hP : va_P (dC, dI) vwCl ([(a, .inr (4, [.ref q1, .ref q3, .null, .int (0 : Int32), .int (0 : Int32), .int (0 : Int32), .int (0 : Int32), .int (0 : Int32), .int (0 : Int32), .int (0 : Int32), .int (0 : Int32), .int (0 : Int32)]))] ++ ((wS cI cJ q1 hS2 (i_X4 (5 : Int32))) ++ ([(q3, .inl (cJ, 4, .inr (.inl (fun _ => 0))))]))) H := hP
  have hD : va_D A ([(a, .inr (4, [.ref q1, .ref q3, .null, .int (0 : Int32), .int (0 : Int32), .int (0 : Int32), .int (0 : Int32), .int (0 : Int32), .int (0 : Int32), .int (0 : Int32), .int (0 : Int32), .int (0 : Int32)]))] ++ ((wS cI cJ q1 hS2 (i_X4 (5 : Int32))) ++ ([(q3, .inl (cJ, 4, .inr (.inl (fun _ => 0))))]))) := hD
  refine lv_aload_n hx hb dX3_init_23 rfl (lv_at hl 0 rfl) ?_
  refine lv_sipush (v := (256 : Int32)) hx hb dX3_init_24 (by decide) ?_
  refine va_newa (atype := .int) (a0 := (256, .inl (fun _ => 0))) hx hb (ht _ kw_253) rfl hK hP hD hS hA (vpc_i 256) (by decide) (by decide) (by decide) (by show _ ≤ 10; omega) (by show _ ≤ (11 + 129 + 4 + 256); omega) dX3_init_27 (fun q4 cA H hKn hP hD hS => ?_)
  obtain rfl := cA_eq hK hKn
  have hP : va_P (dC, dI) vwCl ([(a, .inr (4, [.ref q1, .ref q3, .null, .int (0 : Int32), .int (0 : Int32), .int (0 : Int32), .int (0 : Int32), .int (0 : Int32), .int (0 : Int32), .int (0 : Int32), .int (0 : Int32), .int (0 : Int32)]))] ++ ((wS cI cJ q1 hS2 (i_X4 (5 : Int32))) ++ ([(q3, .inl (cJ, 4, .inr (.inl (fun _ => 0)))), (q4, .inl (cI, 256, .inl (fun _ => 0)))]))) H := hP
  have hD : va_D A ([(a, .inr (4, [.ref q1, .ref q3, .null, .int (0 : Int32), .int (0 : Int32), .int (0 : Int32), .int (0 : Int32), .int (0 : Int32), .int (0 : Int32), .int (0 : Int32), .int (0 : Int32), .int (0 : Int32)]))] ++ ((wS cI cJ q1 hS2 (i_X4 (5 : Int32))) ++ ([(q3, .inl (cJ, 4, .inr (.inl (fun _ => 0)))), (q4, .inl (cI, 256, .inl (fun _ => 0)))]))) := hD
  refine va_put (D := (dC, dI)) (ci := 4) (v := .ref q4) (ty := .array .int) (C := RX3) (T := TX3) (N := 12) hx hb ht inX3 tyX3 tyX3_ok nmX3 hown hK hP hD hS 0 rfl rfl 2 (by decide) (ht _ kw_302) (fun _ h9 => h9) rfl (by decide +kernel) rfl rfl (Nat.le_of_ble_eq_true rfl) dX3_init_29 (fun H locs hP hD hS => ?_)
  have hP : va_P (dC, dI) vwCl ([(a, .inr (4, [.ref q1, .ref q3, .ref q4, .int (0 : Int32), .int (0 : Int32), .int (0 : Int32), .int (0 : Int32), .int (0 : Int32), .int (0 : Int32), .int (0 : Int32), .int (0 : Int32), .int (0 : Int32)]))] ++ ((wS cI cJ q1 hS2 (i_X4 (5 : Int32))) ++ ([(q3, .inl (cJ, 4, .inr (.inl (fun _ => 0)))), (q4, .inl (cI, 256, .inl (fun _ => 0)))]))) H := hP
  have hD : va_D A ([(a, .inr (4, [.ref q1, .ref q3, .ref q4, .int (0 : Int32), .int (0 : Int32), .int (0 : Int32), .int (0 : Int32), .int (0 : Int32), .int (0 : Int32), .int (0 : Int32), .int (0 : Int32), .int (0 : Int32)]))] ++ ((wS cI cJ q1 hS2 (i_X4 (5 : Int32))) ++ ([(q3, .inl (cJ, 4, .inr (.inl (fun _ => 0)))), (q4, .inl (cI, 256, .inl (fun _ => 0)))]))) := hD
  have hP := hP.sub (ws' := (wR cI cJ a (va_up (va_up (fun _ => 0) 1 q3) 2 q4) q1 i_X3 ++ ((wS cI cJ q1 hS2 (i_X4 (5 : Int32)))))) [0, 9, 10, 1, 2, 3, 4, 5, 6, 7, 8] rfl
  have hD := hD.sub (ws' := (wR cI cJ a (va_up (va_up (fun _ => 0) 1 q3) 2 q4) q1 i_X3 ++ ((wS cI cJ q1 hS2 (i_X4 (5 : Int32)))))) [0, 9, 10, 1, 2, 3, 4, 5, 6, 7, 8] (by decide) rfl
  refine W.widen (k := 10) (n := (11 + 129 + 4 + 256)) (by omega) (by omega) ?_
  rw [← hQ]
  exact W.vret hx hb hr (fun t ht1 hW => ⟨⟨(), rfl, trivial, (va_up (va_up (fun _ => 0) 1 q3) 2 q4), q1, hS2, by rw [ht1]; exact hP, hD⟩, hS.F ht1⟩) hS.2.2 dX3_init_32

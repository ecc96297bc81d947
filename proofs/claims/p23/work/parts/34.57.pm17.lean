theorem IM_20 {g : GH} {u : OS} {x : Int32} (h : IM g u) : IM g (sF u 20 x) := h
theorem IM_21 {g : GH} {u : OS} {x : Int32} (h : IM g u) : IM g (sF u 21 x) := h
theorem IM_18 {g : GH} {u : OS} (h : IM g u) : IM g (sF u 18 (u.1 3)) := by
  obtain ⟨h0, h2, h3, h4, h5, h10, h7, h15, h14, h18, h25, h32, h11, h13⟩ := h
  refine ⟨h0, h2, h3, h4, h5, h10, h7, h15, h14, ⟨?_, ?_, h18.2.2⟩, h25, h32, h11, h13⟩
  · show 0 ≤ (u.1 3).toInt
    omega
  · show (u.1 3).toInt ≤ 4
    omega
theorem lg_ex {g : GH} {u : OS} (h : IM g u) : ∃ k, 5 ≤ k ∧ k ≤ 12 ∧ u.1 0 = nI k := by
  have h0 := h.1
  obtain ⟨k, e, e2, _⟩ := nI_ex (x := u.1 0) (by omega)
  exact ⟨k, by omega, by omega, e⟩
set_option maxHeartbeats 1000000 in
theorem s_X7_writeForm {g : GH} (u : OS) (p1 : Int32) (h : IM g u) (hp0 : 0 ≤ p1.toInt) (hp3 : p1.toInt ≤ 3) (z : u.1 7 = 1) (hP : POS u (u.1 5).toInt) : ok (f_X7_writeForm u p1) (fun v => IM g v ∧ WF u v) := by
  obtain ⟨k, h1, h2, hl⟩ := lg_ex h
  obtain ⟨lo, hi, hS⟩ := SPN_ex p1 k
  have h5 := h.2.2.2.2.1
  unfold f_X7_writeForm
  refine ok_bnd (ok_bnd ?_)
  have i1 : IM g (sF u 15 (0 : Int32)) := IM_15 h (by decide) (by decide)
  have o1 : ((sF u 15 (0 : Int32)).1 15).toInt = 0 := li_0
  have w1 : WF u (sF u 15 (0 : Int32)) := WF.sF (Or.inl rfl)
  have key : ∀ x2 : Int32, ok (oC1 (f_X7_putByte (sF u 15 (0 : Int32)) (((4 : Int32) * p1) + x2)) fun u4 =>
  oC1 (f_X7_putByte u4 (u4.1 0)) fun u6 =>
  oC1 (f_X7_putWide u6 ((u6.1 5)).toInt64 (2 : Int32)) fun u8 =>
  oC1 (f_X7_writeTable u8) fun u10 =>
  bnd (fun (x14 : Int32) (u15 : OS) =>
  bnd (sF u15 20 (0 : Int32)) fun u17 =>
  bnd ((u17.1 5) - (1 : Int32)) fun x18 =>
  bnd (fun (x21 : Int32) (u22 : OS) =>
  bnd (fun (x26 : Int32) (u27 : OS) =>
  bnd (sF u27 18 (u27.1 3)) fun u29 =>
  bnd (sF u29 21 (0 : Int32)) fun u30 =>
  bnd ((u30.1 20) - (1 : Int32)) fun x31 =>
  bnd (fun (x34 : Int32) (u35 : OS) =>
  some u35) fun K353_36 =>
  f_X7_writeForm_L294 p1 FU K353_36 x31 u30) fun K274_28 =>
  f_X7_writeForm_L218 p1 FU K274_28 (0 : Int32) u22) fun K216_23 =>
  f_X7_writeForm_L92 p1 FU K216_23 x18 u17) fun K80_16 =>
  f_X7_writeForm_L55 p1 FU K80_16 (0 : Int32) u10) (fun v => IM g v ∧ WF u v) := by
    intro x2
    refine ok_oC1 (s_X7_putByte _ _ i1 (by rw [o1]; decide)) (fun u4 k4 => ok_oC1 (s_X7_putByte _ _ k4.1 (by rw [k4.2.2.1, o1]; decide)) (fun u6 k6 => ok_oC1 (s_X7_putWide _ _ 2 k6.1 (by decide) (by decide) (by rw [k6.2.2.1, k4.2.2.1, o1]; decide)) (fun u8 k8 => ?_)))
    have o8 : (u8.1 15).toInt ≤ 4 := by
      have q := k8.1.2.2.2
      rw [k6.2.2.1, k4.2.2.1, o1, li_2] at q
      exact q
    have w8 : WF u u8 := ((w1.tr k4.2.1.wf).tr k6.2.1.wf).tr k8.1.2.1.wf
    have z8 : u8.1 7 = 1 := by rw [w8.1 7 (by decide) (by decide) (by decide) (by decide) (by decide) (by decide), z]
    refine ok_oC1 (s_X7_writeTable u8 k8.1.1 z8 (by omega)) (fun u10 k10 => ?_)
    have o10 : (u10.1 15).toInt ≤ 420 := by
      have q := k10.1.2.2.2
      omega
    have w10 : WF u u10 := w8.tr k10.1.2.1.wf
    have l10 : u10.1 0 = nI k := by rw [w10.1 0 (by decide) (by decide) (by decide) (by decide) (by decide) (by decide), hl]
    refine ok_bnd (s_X7_writeForm_L55 h1 h2 hS u10 l10 _ ?_ FU _ _ (by decide) (by decide) (by decide) k10.1.1 rfl rfl (fun i hi2 => by rw [li_0] at hi2; omega))
    intro x14 u15 i15 e15 a15 t15
    have w15 : WF u u15 := by
      unfold WF at *
      rw [e15, a15]
      exact w10
    have w17 : WF u (sF u15 20 (0 : Int32)) := w15.tr (WF.sF (Or.inr (Or.inr (Or.inl rfl))))
    have e5 : u15.1 5 = u.1 5 := w15.1 5 (by decide) (by decide) (by decide) (by decide) (by decide) (by decide)
    have e7 : u15.1 7 = 1 := by rw [w15.1 7 (by decide) (by decide) (by decide) (by decide) (by decide) (by decide), z]
    have l15 : u15.1 0 = nI k := by rw [e15, l10]
    have x18 : ((sF u15 20 (0 : Int32)).1 5 - (1 : Int32)).toInt = (u.1 5).toInt - 1 := by
      show (u15.1 5 - (1 : Int32)).toInt = _
      rw [e5, sub32 (by rw [li_1]; omega) (by rw [li_1]; omega), li_1]
    have f5 : (sF u15 20 (0 : Int32)).1 5 = u.1 5 := e5
    refine ok_bnd (ok_bnd (ok_bnd (s_X7_writeForm_L92 h1 h2 hS hp0 hp3 (sF u15 20 (0 : Int32)) l15 e7 (by rw [f5]; exact POS.wf w17 hP) _ ?_ FU _ _ (by rw [x18]; omega) (by rw [x18, f5]; omega) (by rw [x18]; show _ < 100000; omega) (IM_20 i15) WV.rf t15 (by show 0 ≤ (0 : Int32).toInt; decide) (fun _ => by show (0 : Int32).toInt ≤ _; rw [x18, f5, li_0]; omega) (by show (0 : Int32).toInt ≤ _; rw [x18, f5, li_0]; omega))))
    intro x21 u22 i22 w22 s0 s1 s2
    have o22 : (u22.1 15).toInt ≤ 420 := by
      rw [w22.1 15 (by decide) (by decide) (by decide)]
      show (u15.1 15).toInt ≤ 420
      rw [e15]
      exact o10
    refine ok_bnd (s_X7_writeForm_L218 u22 (by omega) _ ?_ FU _ _ (by decide) (by decide) (by decide) i22 WF.rf rfl (by rw [li_0]; omega))
    intro x26 u27 i27 w27 e20 o27
    have x31 : ((sF (sF u27 18 (u27.1 3)) 21 (0 : Int32)).1 20 - (1 : Int32)).toInt = (u22.1 20).toInt - 1 := by
      show (u27.1 20 - (1 : Int32)).toInt = _
      rw [e20, sub32 (by rw [li_1]; omega) (by rw [li_1]; omega), li_1]
    have w30 : WF u (sF (sF u27 18 (u27.1 3)) 21 (0 : Int32)) := (((w17.tr w22.wf).tr w27).tr (WF.sF (Or.inr (Or.inl rfl)))).tr (WF.sF (Or.inr (Or.inr (Or.inr rfl))))
    refine ok_bnd (ok_bnd (ok_bnd (ok_bnd (s_X7_writeForm_L294 (u22.1 20).toInt s2 s1 (sF (sF u27 18 (u27.1 3)) 21 (0 : Int32)) (by show (u27.1 15).toInt ≤ 1000; omega) _ (fun x v iv wv => ok_some ⟨iv, w30.tr wv⟩) FU _ _ (by rw [x31]; omega) (by rw [x31]; omega) (by rw [x31]; show _ < 100000; omega) (IM_21 (IM_18 i27)) WF.rf (fun _ => by rw [x31]; omega) (fun _ => by rw [x31]; omega) (fun _ => ?_)))))
    exact ⟨by show 0 ≤ (0 : Int32).toInt; decide, by show (0 : Int32).toInt ≤ 7; decide, Or.inl (by show (0 : Int32).toInt = 0; decide)⟩
  exact ok_ite (fun _ => key _) (fun _ => key _)
theorem s_X7_write {g : GH} (u : OS) (h : IM g u) : ok (f_X7_write u) (fun q => IM g q.1) := by
  unfold f_X7_write
  refine ok_bnd (ok_oC1 (s_X7_mayWrite _ (IM_1 h)) (fun a ha => ok_ite (fun _ => ok_some (IM_1 h)) (fun c => ?_)))
  rcases ha with q | ⟨q1, q2, q3⟩
  · exact absurd q c
  · have h2 := h.2.1
    exact ok_oC1 (s_X7_writeForm _ _ (IM_1 h) h2.1 h2.2 q2 q3) (fun v hv => ok_some hv.1)
theorem s_X7_spread {g : GH} (u : OS) (p : Int32) (h : IM g u) : ok (f_X7_spread u p) (fun q => IM g q.1) := by
  have sz := sz32 h.1.1 h.1.2
  unfold f_X7_spread
  refine ok_bnd (ok_ite (fun _ => ok_some (IM_1 h)) (fun _ => ok_bnd ?_))
  have k1 : ok (bnd (sF (sF u 1 (0 : Int32)) 1 (1 : Int32)) fun u5 => if (u5.1 1) ≤ (0 : Int32) then gdi p 8192 <| some (u5, (u5.2.1 11 (p).toNatClampNeg)) else some (u5, (0 : Int32))) (fun q => IM g q.1) := by
    refine ok_bnd (ok_ite (fun c => ?_) (fun _ => ok_some h))
    have c : (1 : Int32) ≤ (0 : Int32) := c
    exact absurd c (by decide)
  refine ok_bnd (ok_ite (fun _ => k1) (fun c1 => ok_ite (fun c2 => ?_) (fun _ => k1)))
  have c2 : p < ((1 : Int32) <<< ((u.1 0) &&& (31 : Int32))) := c2
  have d1 := mt Int32.lt_iff_toInt_lt.mpr c1
  have d2 := Int32.lt_iff_toInt_lt.mp c2
  rw [li_0] at d1
  exact ok_bnd (ok_ite (fun _ => ok_gdi (by omega) (by omega) (ok_some h)) (fun _ => ok_some h))

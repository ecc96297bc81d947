set_option maxHeartbeats 200000 in
theorem s_X7_writeForm_L218 {g : GH} {p1 : Int32} (u0 : OS) (hd : (u0.1 15).toInt ≤ 19000) {Q : OS → Prop} (K : Int32 → OS → Option OS) (hK : ∀ x u, IM g u → WF u0 u → u.1 20 = u0.1 20 → (u.1 15).toInt ≤ (u0.1 15).toInt + 32 → ok (K x u) Q) : ∀ (n : Nat) (x : Int32) (u : OS), 0 ≤ x.toInt → x.toInt ≤ 4 → (4 - x.toInt).toNat < n → IM g u → WF u0 u → u.1 20 = u0.1 20 → (u.1 15).toInt ≤ (u0.1 15).toInt + 8 * x.toInt → ok (f_X7_writeForm_L218 p1 n K x u) Q := by
  intro n
  induction n with
  | zero => intro x u _ _ hn; omega
  | succ n ih =>
    intro x u hx hx2 hn h hW e20 hb
    unfold f_X7_writeForm_L218
    have h3 := h.2.2.1
    refine ok_ite (fun c => hK _ _ h hW e20 (by omega)) (fun c => ?_)
    have c1 := mt Int32.le_iff_toInt_le.mpr c
    have e1 := inc32 (x := x) (by omega)
    refine ok_gdi hx (by clear hK ih; omega) (ok_bnd ?_)
    have key : ∀ q : Int32, 0 ≤ q.toInt → q.toInt ≤ 8 → ok (oC1 (f_X7_putWide u (u.2.2.1 16 x.toNatClampNeg) q) fun u56 => gdi x 4 <| gdi x 4 <| bnd (sL u56 17 x (u56.2.2.1 16 x.toNatClampNeg)) fun u60 => bnd (x + (1 : Int32)) fun x61 => f_X7_writeForm_L218 p1 n K x61 u60) Q := by
      intro q q0 q1
      refine ok_oC1 (s_X7_putWide u _ q h q0 q1 (by clear hK ih; omega)) (fun v hv => ok_gdi hx (by clear hK ih; omega) (ok_gdi hx (by clear hK ih; omega) (ok_bnd (ok_bnd (ih _ _ (by clear hK ih; omega) (by clear hK ih; omega) (by clear hK ih; omega) hv.1.1 ((hW.tr hv.1.2.1.wf).tr WF.sL) ?_ ?_)))))
      · show v.1 20 = _
        rw [hv.1.2.1.1 20 (by decide) (by decide), e20]
      · show (v.1 15).toInt ≤ _
        have := hv.1.2.2.2
        clear hK ih
        omega
    exact ok_ite (fun _ => key 8 (by decide) (by decide)) (fun _ => ok_ite (fun _ => key 2 (by decide) (by decide)) (fun _ => key 4 (by decide) (by decide)))
set_option maxHeartbeats 200000 in
theorem s_X7_writeForm_L294 {g : GH} {p1 : Int32} (c : Int) (hc : c ≤ 12000) (hc1 : p1 = 1 → c ≤ 1000) (u0 : OS) (hd : (u0.1 15).toInt ≤ 1000) {Q : OS → Prop} (K : Int32 → OS → Option OS) (hK : ∀ x u, IM g u → WF u0 u → ok (K x u) Q) : ∀ (n : Nat) (x : Int32) (u : OS), -1 ≤ x.toInt → x.toInt < c → (x.toInt + 1).toNat < n → IM g u → WF u0 u → (p1 = 1 → (u.1 15).toInt ≤ (u0.1 15).toInt + 4 * (c - 1 - x.toInt)) → (p1 ≠ 1 → (u.1 15).toInt ≤ (u0.1 15).toInt + (c - 1 - x.toInt)) → (p1 = 2 → BI u) → ok (f_X7_writeForm_L294 p1 n K x u) Q := by
  intro n
  induction n with
  | zero => intro x u _ _ hn; omega
  | succ n ih =>
    intro x u hx hx2 hn h hW b1 b2 hB
    unfold f_X7_writeForm_L294
    refine ok_ite (fun c => hK _ _ h hW) (fun d => ?_)
    have c1 := mt Int32.lt_iff_toInt_lt.mpr d
    rw [li_0] at c1
    have e1 := dec32 (x := x) (by omega)
    have m1 : -1 ≤ (x + (-1 : Int32)).toInt := by rw [e1]; clear hK ih; omega
    have m2 : (x + (-1 : Int32)).toInt < c := by rw [e1]; clear hK ih; omega
    have m3 : ((x + (-1 : Int32)).toInt + 1).toNat < n := by rw [e1]; clear hK ih; omega
    refine ok_ite (fun f1 => ok_gdi (by clear hK ih; omega) (by clear hK ih; omega) ?_) (fun f1 => ok_ite (fun f2 => ok_gdi (by clear hK ih; omega) (by clear hK ih; omega) ?_) (fun f2 => ok_gdi (by clear hK ih; omega) (by clear hK ih; omega) ?_))
    · have b := b1 f1
      have hc2 := hc1 f1
      have q2 : p1 ≠ 2 := by rw [f1]; decide
      refine ok_oC1 (s_X7_putWide u _ 4 h (by decide) (by decide) (by rw [li_4]; clear hK ih; omega)) (fun v hv => ok_bnd (ih _ _ m1 m2 m3 hv.1.1 (hW.tr hv.1.2.1.wf) (fun _ => ?_) (fun q => absurd f1 q) (fun q => absurd q q2)))
      have := hv.1.2.2.2
      rw [li_4] at this
      rw [e1]; clear hK ih; omega
    · have b := b2 f1
      refine ok_oC1 (s_X7_putBits u _ 1 h (hB f2) (by decide) (by decide) (by rw [li_1]; clear hK ih; omega)) (fun v hv => ok_bnd (ih _ _ m1 m2 m3 hv.1.1 (hW.tr hv.1.2.1.wf) (fun q => absurd q f1) (fun _ => ?_) (fun _ => hv.2)))
      have := hv.1.2.2.2
      rw [li_1] at this
      rw [e1]; clear hK ih; omega
    · have b := b2 f1
      refine ok_oC1 (s_X7_putByte u _ h (by clear hK ih; omega)) (fun v hv => ok_bnd (ih _ _ m1 m2 m3 hv.1 (hW.tr hv.2.1.wf) (fun q => absurd q f1) (fun _ => ?_) (fun q => absurd q f2)))
      have := hv.2.2.1
      rw [e1]; clear hK ih; omega

set_option maxHeartbeats 1000000 in
theorem s_X7_readAll {g : GH} (u : OS) (h : IM g u) : ok (f_X7_readAll u) (fun v => IM g v ∧ RD u v) := by
  have h15 := h.2.2.2.2.2.2.2.1
  have hh : H14 u := h.2.2.2.2.2.2.2.2.1
  have r11 : R11 u := h.2.2.2.2.2.2.2.2.2.2.2.2.1
  have r13 : R13 u := h.2.2.2.2.2.2.2.2.2.2.2.2.2
  unfold f_X7_readAll
  refine ok_bnd (ok_bnd (ok_bnd (ok_bnd ?_)))
  have D4 : RD u (sF (sF (sF (sF u 25 (0 : Int32)) 26 (0 : Int32)) 27 (0 : Int32)) 32 (0 : Int32)) := ((((RD.rf r11 r13).sF (by decide)).sF (by decide)).sF (by decide)).sF (by decide)
  have P4 : RP (sF (sF (sF (sF u 25 (0 : Int32)) 26 (0 : Int32)) 27 (0 : Int32)) 32 (0 : Int32)) := ⟨by show 0 ≤ (0 : Int32).toInt; decide, by show (0 : Int32).toInt ≤ (u.1 15).toInt; rw [li_0]; omega, h15.2, by show 0 ≤ (0 : Int32).toInt; decide⟩
  have H4 : H14 (sF (sF (sF (sF u 25 (0 : Int32)) 26 (0 : Int32)) 27 (0 : Int32)) 32 (0 : Int32)) := hh
  have z25 : (sF (sF (sF (sF u 25 (0 : Int32)) 26 (0 : Int32)) 27 (0 : Int32)) 32 (0 : Int32)).1 25 = 0 := rfl
  have z32 : (sF (sF (sF (sF u 25 (0 : Int32)) 26 (0 : Int32)) 27 (0 : Int32)) 32 (0 : Int32)).1 32 = 0 := rfl
  generalize (sF (sF (sF (sF u 25 (0 : Int32)) 26 (0 : Int32)) 27 (0 : Int32)) 32 (0 : Int32)) = u4 at D4 P4 H4 z25 z32
  refine ok_oC2 (s_X7_readHead u4 H4 P4) (fun u5 r6 k5 => ?_)
  have R5 : RH u4 u5 := k5.1
  have G5 : (u5.1 27).toInt = 0 → HG u5 := k5.2.1
  have r0 : 0 ≤ r6.toInt := k5.2.2.1
  have r1 : r6.toInt ≤ 65535 := k5.2.2.2
  have D5 : RD u u5 := D4.rh R5
  have H5 := R5.h14 H4
  have z25' : u5.1 25 = 0 := (R5.1 25 (by decide) (by decide) (by decide) (by decide) (by decide)).trans z25
  have z32' : u5.1 32 = 0 := (R5.1 32 (by decide) (by decide) (by decide) (by decide) (by decide)).trans z32
  clear k5 z25 z32
  have i25 : ∀ v : OS, v.1 25 = 0 → 0 ≤ (v.1 25).toInt ∧ (v.1 25).toInt ≤ 65535 := fun v q => by rw [q]; decide
  refine ok_bnd ?_
  have key : ∀ u8 : OS, RD u u8 → RP u8 → H14 u8 → u8.1 25 = 0 → u8.1 32 = 0 → ((u8.1 27).toInt = 0 → HG u8 ∧ ∃ k, 5 ≤ k ∧ k ≤ 12 ∧ u8.2.1 10 1 = nI k ∧ SH u8 1 ((2 ^ k : Nat) : Int)) → ok (if (u8.1 27) ≤ (0 : Int32) then (
  oC1 (f_X7_lay u8 (1 : Int32)) fun u11 =>
  bnd (fun (x15 : Int32) (u16 : OS) =>
  bnd (fun (x18 : Int32) =>
  gdb x18 <|
  bnd (sF u16 32 x18) fun u20 =>
  bnd (sF u20 29 (0 : Int32)) fun u22 =>
  bnd (fun (x25 : Int32) (u26 : OS) =>
  bnd (fun (x30 : Int32) (u31 : OS) =>
  if (u31.1 27) = (0 : Int32) then (
  bnd (fun (x36 : Int32) (u37 : OS) =>
  if x36 = (0 : Int32) then (
  oC1 (f_X7_fail u37 (6 : Int32)) fun u40 =>
  some u40) else (
  if (u37.1 15) ≤ (u37.1 26) then (
  some u37) else (
  oC1 (f_X7_fail u37 (6 : Int32)) fun u43 =>
  some u43))) fun K271_38 =>
  f_X7_readAll_L244 FU K271_38 (1 : Int32) u31) else (
  some u31)) fun K235_32 =>
  f_X7_readAll_L186 FU K235_32 (0 : Int32) u26) fun K184_27 =>
  f_X7_readAll_L156 r6 FU K184_27 (0 : Int32) u22) fun K146_19 =>
  if (u16.1 27) = (0 : Int32) then (
  K146_19 (1 : Int32)) else (
  K146_19 (0 : Int32))) fun K133_17 =>
  f_X7_readAll_L51 FU K133_17 (0 : Int32) u11) else (
  some u8)) (fun v => IM g v ∧ RD u v) := by
    intro u8 D8 P8 H8 z25 z32 G8
    refine ok_ite (fun c => ?_) (fun c => ok_some ⟨D8.im h (i25 u8 z25) (Or.inl z32), D8⟩)
    have z8 : (u8.1 27).toInt = 0 := by
      have := Int32.le_iff_toInt_le.mp c
      rw [li_0] at this
      have := P8.2.2.2
      omega
    obtain ⟨⟨l31, g1, g2⟩, k, k1, k2, ek, hSH⟩ := G8 z8
    have ek2 : (nI k).toInt = k := nI_toInt (by omega)
    have hN : ((2 ^ k : Nat) : Int) = 2 ^ (u8.2.1 10 1).toInt.toNat := by
      rw [ek, ek2, Int.toNat_natCast]
      exact Int.natCast_pow 2 k
    refine ok_oC1 (s_X7_lay u8 (p := 1) (N := 2 ^ k) (by decide) (by decide) g1 g2 hN D8.2.2.2.2.2.1 D8.2.2.2.2.2.2 hSH) (fun u11 y11 => ?_)
    have D11 : RD u u11 := D8.ly y11
    have f11 : u11.1 = u8.1 := y11.1
    have a11 := y11.2.1
    have rk : RK k u11 := by
      refine ⟨by rw [a11 10 (by decide) (by decide) (by decide) (by decide)]; exact ek, ?_, y11.2.2.2.1, y11.2.2.2.2.2.2.2, y11.2.2.2.2.2.1, ?_⟩
      · unfold SH
        rw [shr_eq (a11 8 (by decide) (by decide) (by decide) (by decide))]
        exact hSH
      · unfold H14
        rw [a11 14 (by decide) (by decide) (by decide) (by decide)]
        exact H8
    have P11 : RP u11 := by
      unfold RP
      rw [f11]
      exact P8
    have l31' : (u11.1 31).toInt = 1 ∨ (u11.1 31).toInt = 2 ∨ (u11.1 31).toInt = 4 := by rw [f11]; exact l31
    have z25a : u11.1 25 = 0 := by rw [f11]; exact z25
    clear y11 a11 f11 hSH G8 P8 H8 D8 hN z8 c l31
    refine ok_bnd (s_X7_readAll_L51 k1 k2 u11 rk (by omega) (by omega) _ ?_ FU _ _ (by decide) (by rw [li_0]; omega) (by rw [li_0]; show _ < 100000; omega) (RS.rf P11) rfl (fun _ _ i hi => by rw [li_0] at hi; omega))
    intro x15 u16 R16 e25 hs
    have e31 : u16.1 31 = u11.1 31 := R16.1 31 (by decide) (by decide) (by decide) (by decide) (by decide) (by decide)
    refine ok_bnd ?_
    have D16 : RD u u16 := D11.rs R16
    have rk16 := R16.rk rk
    have go : ∀ x18 : Int32, (x18 = 0 ∨ x18 = 1) → ok (gdb x18 <|
  bnd (sF u16 32 x18) fun u20 =>
  bnd (sF u20 29 (0 : Int32)) fun u22 =>
  bnd (fun (x25 : Int32) (u26 : OS) =>
  bnd (fun (x30 : Int32) (u31 : OS) =>
  if (u31.1 27) = (0 : Int32) then (
  bnd (fun (x36 : Int32) (u37 : OS) =>
  if x36 = (0 : Int32) then (
  oC1 (f_X7_fail u37 (6 : Int32)) fun u40 =>
  some u40) else (
  if (u37.1 15) ≤ (u37.1 26) then (
  some u37) else (
  oC1 (f_X7_fail u37 (6 : Int32)) fun u43 =>
  some u43))) fun K271_38 =>
  f_X7_readAll_L244 FU K271_38 (1 : Int32) u31) else (
  some u31)) fun K235_32 =>
  f_X7_readAll_L186 FU K235_32 (0 : Int32) u26) fun K184_27 =>
  f_X7_readAll_L156 r6 FU K184_27 (0 : Int32) u22) (fun v => IM g v ∧ RD u v) := by
      intro x18 hx18
      refine ok_gdb hx18 (ok_bnd (ok_bnd ?_))
      have D22 : RD u (sF (sF u16 32 x18) 29 (0 : Int32)) := (D16.sF (by decide)).sF (by decide)
      have K22 : RK k (sF (sF u16 32 x18) 29 (0 : Int32)) := rk16.eq (fun _ _ => rfl)
      have P22 : RP (sF (sF u16 32 x18) 29 (0 : Int32)) := R16.2.2.1
      have N22 : R29 (sF (sF u16 32 x18) 29 (0 : Int32)) := ⟨by show 0 ≤ (0 : Int32).toInt; decide, by show (0 : Int32).toInt ≤ 8; decide, Or.inl (by show (0 : Int32).toInt = 0; decide)⟩
      have L22 : (sF (sF u16 32 x18) 29 (0 : Int32)).1 31 = u11.1 31 := e31
      have C22 : (sF (sF u16 32 x18) 29 (0 : Int32)).1 25 = 0 := e25.trans z25a
      have S22 : ((sF (sF u16 32 x18) 29 (0 : Int32)).1 27).toInt = 0 → SP k (sF (sF u16 32 x18) 29 (0 : Int32)) := hs
      generalize (sF (sF u16 32 x18) 29 (0 : Int32)) = u22 at D22 K22 P22 N22 L22 C22 S22
      have l22 : (u22.1 31).toInt = 1 ∨ (u22.1 31).toInt = 2 ∨ (u22.1 31).toInt = 4 := by rw [L22]; exact l31'
      clear hs rk16 D16 e25 e31 R16 P11 rk D11 z25 z32 L22 l31'
      refine ok_bnd (s_X7_readAll_L156 k1 k2 u22 K22 l22 r1 _ ?_ FU _ _ (by decide) (by decide) (by decide) (RS.rf P22) N22 (by rw [C22]; decide) (by rw [C22]; decide) S22)
      intro x25 u26 R26 N26 c0 c1
      have D26 := D22.rs R26
      have e31 : u26.1 31 = u22.1 31 := R26.1 31 (by decide) (by decide) (by decide) (by decide) (by decide) (by decide)
      have l26 : (u26.1 31).toInt ≤ 4 := by rw [e31]; omega
      have fin : ∀ v, NX u26 v → IM g v ∧ RD u v := by
        intro v hv
        have dv := D26.rs hv.rs
        have e25 : v.1 25 = u26.1 25 := hv.1 25 (by decide) (by decide) (by decide)
        have e31 : v.1 31 = u26.1 31 := hv.1 31 (by decide) (by decide) (by decide)
        exact ⟨dv.im h (by rw [e25]; exact ⟨c0, c1⟩) (Or.inr (by rw [e31]; exact l26)), dv⟩
      refine ok_bnd (s_X7_readAll_L186 u26 l26 _ ?_ FU _ _ (by decide) (by decide) (by decide) (NX.rf R26.2.2.1))
      intro x30 u31 N31
      refine ok_ite (fun c => ok_bnd ?_) (fun c => ok_some (fin _ N31))
      have n9 : R29 u31 := N31.2.2.2.2.2 N26
      refine s_X7_readAll_L244 u31 _ ?_ FU _ _ (by have := n9.2.1; show _ < 100000; omega) (N31.h14 ((R26.rk K22).2.2.2.2.2)) (NX.rf N31.2.2.1) n9
      intro x36 u37 N37 n37
      have N37' := N31.tr N37
      exact ok_ite (fun _ => ok_oC1 (s_X7_fail u37 6 (by decide) N37.2.2.1) (fun v hv => ok_some (fin _ (N37'.tr hv.1)))) (fun _ => ok_ite (fun _ => ok_some (fin _ N37')) (fun _ => ok_oC1 (s_X7_fail u37 6 (by decide) N37.2.2.1) (fun v hv => ok_some (fin _ (N37'.tr hv.1)))))
    exact ok_ite (fun _ => go 1 (Or.inr rfl)) (fun _ => go 0 (Or.inl rfl))
  refine ok_ite (fun c => ?_) (fun c => key u5 D5 R5.2.2.2.2 H5 z25' z32' (fun q => absurd (Int32.toInt_inj.mp (by rw [q, li_0])) c))
  obtain ⟨l31, g1, g2⟩ := G5 (z27 c)
  obtain ⟨k, ek, ek2, _⟩ := nI_ex (x := u5.2.1 10 1) (by omega)
  have k1 : 5 ≤ k := by omega
  have k2 : k ≤ 12 := by omega
  refine ok_oC1 (s_X7_readTable u5 k1 k2 ek H5 R5.2.2.2.2) (fun v hv => key v (D5.rt hv.1) hv.1.2.2.2.2.1 (hv.1.h14 H5) ((hv.1.1 25 (by decide) (by decide) (by decide)).trans z25') ((hv.1.1 32 (by decide) (by decide) (by decide)).trans z32') (fun q => ⟨?_, k, k1, k2, ?_, hv.2.2 q⟩))
  · unfold HG
    rw [hv.1.1 31 (by decide) (by decide) (by decide), hv.1.2.1 10 (by decide)]
    exact ⟨l31, g1, g2⟩
  · rw [hv.1.2.1 10 (by decide)]
    exact ek
theorem IM_28 {g : GH} {u : OS} {x : Int32} (h : IM g u) : IM g (sF u 28 x) := h
theorem s_X7_read {g : GH} (u : OS) (h : IM g u) : ok (f_X7_read u) (fun q => IM g q.1) := by
  unfold f_X7_read
  exact ok_bnd (ok_oC1 (s_X7_readAll _ (IM_1 h)) (fun v hv => ok_bnd (ok_ite (fun _ => ok_some (IM_28 hv.1)) (fun _ => ok_some (IM_28 hv.1)))))
theorem s_X7_agree_L68 {g : GH} (u : OS) (h : IM g u) {Q : OS × Int32 → Prop} (K : Int32 → Int32 → Option (OS × Int32)) (hK : ∀ a b, ok (K a b) Q) : ∀ (n : Nat) (x y : Int32), 0 ≤ x.toInt → x.toInt ≤ 1000 → (1000 - x.toInt).toNat < n → ok (f_X7_agree_L68 u n K x y) Q := by
  intro n
  have h5 := h.2.2.2.2.1
  induction n with
  | zero => intro x y _ _ hn; omega
  | succ n ih =>
    intro x y hx hx2 hn
    unfold f_X7_agree_L68
    refine ok_ite (fun _ => hK _ _) (fun c => ok_ite (fun _ => hK _ _) (fun _ => ?_))
    have c1 := mt Int32.le_iff_toInt_le.mpr c
    have e1 := inc32 (x := x) (by omega)
    exact ok_gdi hx (by omega) (ok_gdi hx (by omega) (ok_ite (fun _ => ok_bnd (ih _ _ (by omega) (by omega) (by omega))) (fun _ => ok_bnd (ih _ _ (by omega) (by omega) (by omega)))))
set_option maxHeartbeats 1000000 in
theorem s_X7_agree_L19 {g : GH} {Q : OS × Int32 → Prop} (K : Int32 → Int32 → OS → Option (OS × Int32)) (hK : ∀ a b u, IM g u → ok (K a b u) Q) : ∀ (n : Nat) (x y : Int32) (u : OS), 0 ≤ x.toInt → x.toInt ≤ 4 → (4 - x.toInt).toNat < n → IM g u → u.1 7 = 1 → POS u (u.1 5).toInt → ok (f_X7_agree_L19 n K x y u) Q := by
  intro n
  induction n with
  | zero => intro x y u _ _ hn; omega
  | succ n ih =>
    intro x y u hx hx2 hn h z hP
    unfold f_X7_agree_L19
    refine ok_ite (fun _ => hK _ _ _ h) (fun c => ?_)
    have c1 := mt Int32.le_iff_toInt_le.mpr c
    rw [li_4] at c1
    have e1 := inc32 (x := x) (by omega)
    have m1 : 0 ≤ (x + (1 : Int32)).toInt ∧ (x + (1 : Int32)).toInt ≤ 4 ∧ (4 - (x + (1 : Int32)).toInt).toNat < n := by
      clear hK ih
      omega
    refine ok_oC1 (s_X7_writeForm u x h hx (by clear hK ih; omega) z hP) (fun v hv => ok_oC1 (s_X7_readAll v hv.1) (fun w hw => ok_bnd ?_))
    have h28 : IM g (sF w 28 (w.1 27)) := IM_28 hw.1
    have e5 : w.1 5 = u.1 5 := (hw.2.1 5 (by decide)).trans (hv.2.1 5 (by decide) (by decide) (by decide) (by decide) (by decide) (by decide))
    have e7 : w.1 7 = 1 := ((hw.2.1 7 (by decide)).trans (hv.2.1 7 (by decide) (by decide) (by decide) (by decide) (by decide) (by decide))).trans z
    have e4 : w.2.1 4 = u.2.1 4 := (hw.2.2.1 4 (by decide) (by decide) (by decide) (by decide) (by decide) (by decide) (by decide)).trans (hv.2.2 4 (by decide) (by decide))
    have hPw : POS w (w.1 5).toInt := by
      intro i hi
      rw [e5] at hi
      have r := h.2.2.2.1 i
      have rn : (u.2.1 4 i).toNatClampNeg < 32 := by
        show (u.2.1 4 i).toInt.toNat < 32
        clear hK ih
        omega
      rw [e4, hw.2.2.2.1 _ rn, hv.2.2 8 (by decide) (by decide)]
      exact hP i hi
    have go : ∀ y2 : Int32, ok (f_X7_agree_L19 n K (x + (1 : Int32)) y2 (sF w 28 (w.1 27))) Q := fun y2 => ih _ _ _ m1.1 m1.2.1 m1.2.2 h28 e7 hPw
    have key : ∀ a : Int32, ok (bnd (fun (x22 : Int32) (x23 : Int32) =>
    if x22 = (0 : Int32) then (
    bnd (x + (1 : Int32)) fun x26 =>
    f_X7_agree_L19 n K x26 (0 : Int32) (sF w 28 (w.1 27))) else (
    bnd (x + (1 : Int32)) fun x27 =>
    f_X7_agree_L19 n K x27 y (sF w 28 (w.1 27)))) fun K110_24 =>
    f_X7_agree_L68 (sF w 28 (w.1 27)) FU K110_24 (0 : Int32) a) Q := fun a => ok_bnd (s_X7_agree_L68 _ h28 _ (fun a b => ok_ite (fun _ => ok_bnd (go _)) (fun _ => ok_bnd (go _))) FU _ _ (by decide) (by decide) (by decide))
    exact ok_bnd (ok_bnd (ok_ite (fun _ => ok_ite (fun _ => key _) (fun _ => key _)) (fun _ => key _)))
theorem s_X7_agree {g : GH} (u : OS) (h : IM g u) : ok (f_X7_agree u) (fun q => IM g q.1) := by
  unfold f_X7_agree
  refine ok_bnd (ok_oC1 (s_X7_mayWrite _ (IM_1 h)) (fun a ha => ok_ite (fun _ => ok_some (IM_1 h)) (fun c => ok_bnd ?_)))
  rcases ha with q | ⟨q1, q2, q3⟩
  · exact absurd q c
  · exact s_X7_agree_L19 _ (fun a b v hv => ok_some hv) FU _ _ _ (by decide) (by decide) (by decide) (IM_1 h) q2 q3

set_option maxHeartbeats 1000000 in
theorem s_X4_numberPlaces_L10 {Q : OS → Prop} (K : Int32 → OS → Option OS) (pS : Nat) (hK : ∀ a v, IS v → phS v = pS → ok (K a v) Q) : ∀ (n : Nat) (x : Int32) (u : OS), 0 ≤ x.toInt → x.toInt ≤ 4096 → (4096 - x.toInt).toNat < n → IS u → phS u = pS → (∀ j, j < 32 → 0 ≤ (u.2.1 6 j).toInt ∧ (u.2.1 6 j).toInt ≤ x.toInt) → ok (f_X4_numberPlaces_L10 n K x u) Q := by
  intro n
  induction n with
  | zero => intro x u _ _ hn; omega
  | succ n ih =>
    intro x u hx hx2 hn h hp h6
    obtain ⟨N, hN, eN, _⟩ := IS_sz h
    have bN := two_b hN
    have hle : u.2.2.2 8 ≤ 4096 := by
      rcases h.2.2.2.2.2.2.2 with q | q
      · omega
      · exact (two_b q).2
    have en := nIt (n := u.2.2.2 8) (by omega)
    have en10 := nIt (n := u.2.2.2 10) (by rw [h.2.2.2.2.2.2.1]; omega)
    unfold f_X4_numberPlaces_L10
    refine ok_ite (fun _ => hK _ _ h hp) (fun c => ok_ite (fun _ => hK _ _ h hp) (fun d => ?_))
    have c1 := mt Int32.le_iff_toInt_le.mpr c
    have d1 := mt Int32.le_iff_toInt_le.mpr d
    rw [en] at d1
    have e1 := inc32 (x := x) (by omega)
    have r := h.2.2.2.2.1 x.toNatClampNeg
    have g8 : x.toInt < ((u.2.2.2 8 : Nat) : Int) := by omega
    have g9 : x.toInt < ((u.2.2.2 9 : Nat) : Int) := by rw [h.2.2.2.2.2.1]; exact g8
    refine ok_gdi hx g8 (ok_bnd ?_)
    generalize hx11 : u.2.1 8 x.toNatClampNeg = x11 at r
    have jn : x11.toNatClampNeg < 32 := by
      show x11.toInt.toNat < 32
      omega
    have r6 := h6 _ jn
    have r4 := h.2.2.2.1 x11.toNatClampNeg
    have e14 : ((u.2.1 4 x11.toNatClampNeg) + (u.2.1 6 x11.toNatClampNeg)).toInt = (u.2.1 4 x11.toNatClampNeg).toInt + (u.2.1 6 x11.toNatClampNeg).toInt := add32 (by omega) (by omega)
    have e6 := inc32 (x := u.2.1 6 x11.toNatClampNeg) (by omega)
    have q32 : x11.toInt < (32 : Nat) := r.2
    have q33 : x11.toInt < (33 : Nat) := by omega
    have m1 : 0 ≤ (x + (1 : Int32)).toInt ∧ (x + (1 : Int32)).toInt ≤ 4096 ∧ (4096 - (x + (1 : Int32)).toInt).toNat < n := by
      clear hK ih h6
      omega
    refine ok_gdi r.1 q33 (ok_gdi r.1 q32 (ok_bnd (ok_gdi r.1 q32 (ok_gdi r.1 q32 (ok_gdi hx g9 (ok_bnd (ok_bnd ?_)))))))
    have key : ∀ w : OS, IS w → phS w = pS → w.2.1 6 = u.2.1 6 → ok (gdi x11 32 <|
    gdi x11 32 <|
    bnd (sA w 6 x11 ((w.2.1 6 (x11).toNatClampNeg) + (1 : Int32))) fun u23 =>
    bnd (x + (1 : Int32)) fun x24 =>
    f_X4_numberPlaces_L10 n K x24 u23) Q := by
      intro w hw pw ew
      refine ok_gdi r.1 q32 (ok_gdi r.1 q32 (ok_bnd (ok_bnd (ih _ _ m1.1 m1.2.1 m1.2.2 hw pw ?_))))
      intro j hj
      show 0 ≤ (upd (w.2.1 6) x11.toNatClampNeg (w.2.1 6 x11.toNatClampNeg + (1 : Int32)) j).toInt ∧ (upd (w.2.1 6) x11.toNatClampNeg (w.2.1 6 x11.toNatClampNeg + (1 : Int32)) j).toInt ≤ (x + (1 : Int32)).toInt
      unfold upd
      rw [ew]
      by_cases e : j = x11.toNatClampNeg
      · rw [if_pos e]
        clear hK ih h6
        omega
      · rw [if_neg e]
        have := h6 j hj
        clear hK ih h6
        omega
    refine ok_ite (fun _ => key _ h hp rfl) (fun d2 => ?_)
    have d2 : ¬ nI (u.2.2.2 10) ≤ ((u.2.1 4 x11.toNatClampNeg) + (u.2.1 6 x11.toNatClampNeg)) := d2
    have d3 := mt Int32.le_iff_toInt_le.mpr d2
    rw [en10] at d3
    exact ok_gdi (by clear hK ih h6; omega) (by show _ < ((u.2.2.2 10 : Nat) : Int); clear hK ih h6; omega) (ok_bnd (key _ h hp rfl))
theorem s_X4_numberPlaces (u : OS) (h : IS u) : ok (f_X4_numberPlaces u) (fun v => IS v ∧ phS v = phS u) := by
  unfold f_X4_numberPlaces
  refine ok_bnd (ok_bnd (s_X4_numberPlaces_L10 _ (phS u) (fun a v hv hp => ok_some ⟨hv, hp⟩) FU _ _ (by decide) (by decide) (by decide) h rfl ?_))
  intro j hj
  show 0 ≤ (flI 32 (u.2.1 6) (0 : Int32) j).toInt ∧ (flI 32 (u.2.1 6) (0 : Int32) j).toInt ≤ (0 : Int32).toInt
  unfold flI
  rw [if_pos hj]
  decide
theorem IS_8 {u : OS} {i v : Int32} (h : IS u) (h0 : 0 ≤ v.toInt) (h1 : v.toInt < 32) : IS (sA u 8 i v) := ⟨h.1, h.2.1, h.2.2.1, h.2.2.2.1, upd_R (f := u.2.1 8) h.2.2.2.2.1 h0 h1, h.2.2.2.2.2⟩
set_option maxHeartbeats 1000000 in
theorem s_X4_makeSpread_L80 {x5 x7 : Int32} (s0 : 0 ≤ x7.toInt) (s1 : x7.toInt < 32) {N : Nat} (hN : two N) {Q : OS × Nat × Nat → Prop} (K : Int32 → Int32 → OS → Option (OS × Nat × Nat)) (pS : Nat) (hK : ∀ (a b : Int32) (v : OS), IS v → phS v = pS → (v.1 1).toInt = N → N ≤ v.2.2.2 8 → 0 ≤ a.toInt → a.toInt < N → ok (K a b v) Q) : ∀ (n : Nat) (x y : Int32) (u : OS), 0 ≤ x.toInt → x.toInt ≤ N → (N - x.toInt).toNat < n → 0 ≤ y.toInt → y.toInt < N → IS u → phS u = pS → (u.1 1).toInt = N → N ≤ u.2.2.2 8 → ok (f_X4_makeSpread_L80 x5 x7 n K x y u) Q := by
  intro n
  have bN := two_b hN
  induction n with
  | zero => intro x y u _ _ hn; omega
  | succ n ih =>
    intro x y u hx hx2 hn y0 y1 h hp eN le
    unfold f_X4_makeSpread_L80
    refine ok_gdi s0 (by omega) (ok_ite (fun _ => hK _ _ _ h hp eN le y0 y1) (fun _ => ok_ite (fun _ => hK _ _ _ h hp eN le y0 y1) (fun c => ?_)))
    have c1 := mt Int32.le_iff_toInt_le.mpr c
    rw [eN] at c1
    have e1 := inc32 (x := x) (by omega)
    have es : ((u.1 1) - (1 : Int32)).toInt = N - 1 := by rw [sub32 (by rw [li_1]; omega) (by rw [li_1]; omega), li_1, eN]
    have a := and32 (y + x5) ((u.1 1) - (1 : Int32)) (by rw [es]; omega)
    rw [es] at a
    exact ok_gdi y0 (by omega) (ok_bnd (ok_bnd (ok_bnd (ih _ _ _ (by omega) (by omega) (by omega) a.1 (by have := a.2; show ((y + x5) &&& ((u.1 1) - (1 : Int32))).toInt < N; omega) (IS_8 h s0 s1) hp eN le))))
theorem s_X4_makeSpread_L71 {x5 : Int32} {N : Nat} (hN : two N) {Q : OS × Nat × Nat → Prop} (K : Int32 → Int32 → OS → Option (OS × Nat × Nat)) (pS : Nat) (hK : ∀ a b v, IS v → phS v = pS → ok (K a b v) Q) : ∀ (n : Nat) (x y : Int32) (u : OS), 0 ≤ x.toInt → x.toInt ≤ 32 → (32 - x.toInt).toNat < n → 0 ≤ y.toInt → y.toInt < N → IS u → phS u = pS → (u.1 1).toInt = N → N ≤ u.2.2.2 8 → ok (f_X4_makeSpread_L71 x5 n K x y u) Q := by
  intro n
  have bN := two_b hN
  induction n with
  | zero => intro x y u _ _ hn; omega
  | succ n ih =>
    intro x y u hx hx2 hn y0 y1 h hp eN le
    unfold f_X4_makeSpread_L71
    refine ok_ite (fun _ => hK _ _ _ h hp) (fun c => ok_bnd ?_)
    have c1 := mt Int32.le_iff_toInt_le.mpr c
    rw [li_32] at c1
    have e1 := inc32 (x := x) (by omega)
    exact s_X4_makeSpread_L80 hx (by omega) hN _ pS (fun a b v hv pv ev lv a0 a1 => ok_bnd (ih _ _ _ (by omega) (by omega) (by omega) a0 a1 hv pv ev lv)) FU _ _ _ (by decide) (by rw [li_0]; omega) (by rw [li_0]; show _ < 100000; omega) y0 y1 h hp eN le
set_option maxHeartbeats 1000000 in
theorem s_X4_makeSpread (u : OS) (h : IS u) : ok (f_X4_makeSpread u) (CQ IS phS (phS u)) := by
  obtain ⟨N, hN, eN, _⟩ := IS_sz h
  have bN := two_b hN
  have hle : u.2.2.2 8 ≤ 4096 := by
    rcases h.2.2.2.2.2.2.2 with q | q
    · omega
    · exact (two_b q).2
  have en := nIt (n := u.2.2.2 8) (by omega)
  unfold f_X4_makeSpread
  refine ok_ite (fun _ => ok_bnd ?_) (fun _ => CQ_some h (Nat.le_refl _))
  have key : ∀ w : OS, IS w → (w.1 1).toInt = N → N ≤ w.2.2.2 8 → ok (bnd ((((w.1 1) / (2 : Int32)) + ((w.1 1) / (8 : Int32))) + (3 : Int32)) fun x5 =>
  bnd (fun (x11 : Int32) (x12 : Int32) (u13 : OS) =>
  oC1 (f_X4_numberPlaces u13) fun u15 =>
  bnd (sF u15 7 (1 : Int32)) fun u17 =>
  some (u17, 0, 0)) fun K130_14 =>
  f_X4_makeSpread_L71 x5 FU K130_14 (0 : Int32) (0 : Int32) w) (CQ IS phS (phS w)) := by
    intro w hw ew lw
    refine ok_bnd_eq (fun x5 _ => ok_bnd ?_)
    refine s_X4_makeSpread_L71 (x5 := x5) hN _ (phS w) ?_ FU (0 : Int32) (0 : Int32) w (by decide) (by decide) (by decide) (by decide) (by rw [li_0]; omega) hw rfl ew lw
    intro a b v hv pv
    refine ok_oC1 (s_X4_numberPlaces v hv) (fun t ht => ok_bnd (CQ_some ht.1 ?_))
    show phS w ≤ phS t
    rw [ht.2, pv]
    exact Nat.le_refl _
  refine ok_ite (fun c => key u h eN ?_) (fun c => ?_)
  · have := Int32.le_iff_toInt_le.mp c
    rw [en, eN] at this
    omega
  · have c1 := mt Int32.le_iff_toInt_le.mpr c
    rw [en, eN] at c1
    have eNn : (u.1 1).toNatClampNeg = N := by
      show (u.1 1).toInt.toNat = N
      omega
    have g0 : 0 ≤ (u.1 1).toInt := by omega
    have g1 : (u.1 1).toInt ≤ 100000 := by omega
    refine ok_gdn g0 g1 ?_
    rw [eNn]
    refine CQ_add (b' := phS u + N) (by omega) (Nat.le_refl _) (ok_bnd (ok_gdn g0 g1 ?_))
    have eNn1 : ((sR u 8 N (fun _ => 0)).1 1).toNatClampNeg = N := eNn
    rw [eNn1]
    refine CQ_add (b' := phS u + N + N) (by omega) (Nat.le_refl _) (ok_bnd (ok_gdn g0 g1 ?_))
    have eNn2 : ((sR (sR u 8 N (fun _ => 0)) 9 N (fun _ => 0)).1 1).toNatClampNeg = N := eNn
    rw [eNn2]
    refine CQ_add (b' := phS u + N + N + N) (by omega) (Nat.le_refl _) (ok_bnd (CQ_le ?_ (key _ ?_ eN (Nat.le_refl _))))
    · show 6 * u.2.2.2 8 + N + N + N ≤ 6 * N
      rcases h.2.2.2.2.2.2.2 with q | q
      · omega
      · have := two_d q hN (by omega)
        omega
    · refine ⟨h.1, h.2.1, h.2.2.1, h.2.2.2.1, fun i => ?_, rfl, rfl, Or.inr hN⟩
      show 0 ≤ (0 : Int32).toInt ∧ (0 : Int32).toInt < 32
      decide
theorem s_X4_signOver_L5 (u : OS) (p : Int32) {Q : Int32 → Prop} (K : Int32 → Int32 → Option Int32) (hK : ∀ a b, ok (K a b) Q) : ∀ (n : Nat) (x y : Int32), 0 ≤ x.toInt → x.toInt.toNat < n → 0 ≤ y.toInt → y.toInt + 2 * x.toInt ≤ 32 → ok (f_X4_signOver_L5 u p n K x y) Q := by
  intro n
  induction n with
  | zero => intro x y _ hn; omega
  | succ n ih =>
    intro x y hx hn y0 hs
    unfold f_X4_signOver_L5
    refine ok_ite (fun _ => hK _ _) (fun c => ?_)
    have c1 := mt Int32.le_iff_toInt_le.mpr c
    rw [li_0] at c1
    have e1 : (y + x).toInt = y.toInt + x.toInt := add32 (by omega) (by omega)
    have e2 : (x / (2 : Int32)).toInt = x.toInt / 2 := by rw [div32 hx (by decide), li_2]
    exact ok_gdi (by omega) (by omega) (ok_ite (fun _ => ok_bnd (ih _ _ (by omega) (by omega) y0 (by omega))) (fun _ => ok_bnd (ok_bnd (ih _ _ (by omega) (by omega) (by omega) (by omega)))))
theorem s_X4_signOver (u : OS) (p : Int32) : ok (f_X4_signOver u p) (fun _ => True) := by
  unfold f_X4_signOver
  exact ok_bnd (s_X4_signOver_L5 u p _ (fun _ _ => ok_some trivial) FU _ _ (by decide) (by decide) (by decide) (by decide))
theorem s_X4_shareOf (u : OS) (p : Int32) (h : IS u) : ok (f_X4_shareOf u p) (fun r => 0 ≤ r.toInt ∧ r.toInt < 8192) := by
  unfold f_X4_shareOf
  refine ok_oC1 (s_X6_isSign p) (fun r hr => ok_ite (fun _ => ok_some (by decide)) (fun c => ?_))
  have g := hr c
  exact ok_gdi g.1 (by omega) (ok_some (h.2.2.1 _))
theorem s_X4_fromOf (u : OS) (p : Int32) : ok (f_X4_fromOf u p) (fun _ => True) := by
  unfold f_X4_fromOf
  refine ok_oC1 (s_X6_isSign p) (fun r hr => ok_ite (fun _ => ok_some trivial) (fun c => ?_))
  have g := hr c
  exact ok_gdi g.1 (by omega) (ok_some trivial)
theorem s_X4_shareOfZero (u : OS) (p q : Int32) : ok (f_X4_shareOfZero u p q) (fun _ => True) := by
  unfold f_X4_shareOfZero
  refine ok_ite (fun _ => ok_some trivial) (fun c1 => ok_ite (fun _ => ok_some trivial) (fun c2 => ok_ite (fun _ => ok_some trivial) (fun c3 => ok_ite (fun c4 => ?_) (fun _ => ok_some trivial))))
  have d1 := mt Int32.lt_iff_toInt_lt.mpr c1
  have d2 := mt Int32.lt_iff_toInt_lt.mpr c2
  have d3 := mt Int32.lt_iff_toInt_lt.mpr c3
  have d4 := Int32.le_iff_toInt_le.mp c4
  rw [li_0] at d1
  rw [li_1] at d2
  rw [li_16] at d3
  have e2 : ((2 : Int32) * q).toInt = 2 * q.toInt := by rw [mul32 (by rw [li_2]; omega) (by rw [li_2]; omega), li_2]
  have e3 : ((32 : Int32) - ((2 : Int32) * q)).toInt = 32 - 2 * q.toInt := by rw [sub32 (by rw [e2, li_32]; omega) (by rw [e2, li_32]; omega), e2, li_32]
  rw [e3] at d4
  have e4 : (p + ((2 : Int32) * q)).toInt = p.toInt + 2 * q.toInt := by rw [add32 (by rw [e2]; omega) (by rw [e2]; omega), e2]
  have e5 : (p + q).toInt = p.toInt + q.toInt := add32 (by omega) (by omega)
  refine ok_gdi (by omega) (by omega) (ok_gdi (by omega) (by omega) (ok_bnd (ok_gdi (by omega) (by omega) (ok_gdi (by omega) (by omega) (ok_bnd (ok_ite (fun _ => ok_some trivial) (fun c5 => ok_ite (fun _ => ok_some trivial) (fun _ => ok_ite (fun _ => ok_some trivial) (fun _ => ok_gdz ?_ (ok_bnd (ok_some trivial)))))))))))
  have := mt Int32.le_iff_toInt_le.mpr c5
  rw [li_0] at this
  omega
theorem IS_n {u : OS} (h : IS u) : u.2.2.2 8 ≤ 4096 ∧ u.2.2.2 9 ≤ 4096 ∧ u.2.2.2 10 ≤ 4096 := by
  have a := h.2.2.2.2.2
  rw [a.1, a.2.1]
  rcases a.2.2 with q | q
  · omega
  · have := (two_b q).2
    omega
theorem s_gat {f : Nat → Int32} {n : Nat} {p N w : Int32} (hn : n ≤ 4096) : ok (if p < (0 : Int32) then some w else (if N ≤ p then some w else (if (nI n) ≤ p then some w else (gdi p n <| some (f p.toNatClampNeg))))) (fun _ => True) := by
  have e := nIt (n := n) (by omega)
  refine ok_ite (fun _ => ok_some trivial) (fun c => ok_ite (fun _ => ok_some trivial) (fun _ => ok_ite (fun _ => ok_some trivial) (fun d => ?_)))
  have c1 := mt Int32.lt_iff_toInt_lt.mpr c
  have d1 := mt Int32.le_iff_toInt_le.mpr d
  rw [li_0] at c1
  rw [e] at d1
  exact ok_gdi (by omega) (by omega) (ok_some trivial)
theorem s_X4_numberAt (u : OS) (p : Int32) (h : IS u) : ok (f_X4_numberAt u p) (fun _ => True) := s_gat (IS_n h).2.1
theorem s_X4_signAt (u : OS) (p : Int32) (h : IS u) : ok (f_X4_signAt u p) (fun _ => True) := s_gat (IS_n h).1
theorem s_X4_placeOf (u : OS) (p q : Int32) (h : IS u) : ok (f_X4_placeOf u p q) (fun _ => True) := by
  unfold f_X4_placeOf
  exact ok_oC1 (s_X4_fromOf u p) (fun r _ => ok_oC1 (s_X4_shareOf u p h) (fun r2 _ => ok_bnd (s_gat (IS_n h).2.2)))
theorem s_X4_howMany_L4 (u : OS) {Q : Int32 → Prop} (K : Int32 → Int32 → Option Int32) (hK : ∀ a b, ok (K a b) Q) : ∀ (n : Nat) (x y : Int32), 0 ≤ x.toInt → x.toInt ≤ 32 → (32 - x.toInt).toNat < n → ok (f_X4_howMany_L4 u n K x y) Q := by
  intro n
  induction n with
  | zero => intro x y _ _ hn; omega
  | succ n ih =>
    intro x y hx hx2 hn
    unfold f_X4_howMany_L4
    refine ok_ite (fun _ => hK _ _) (fun c => ?_)
    have c1 := mt Int32.le_iff_toInt_le.mpr c
    rw [li_32] at c1
    have e1 := inc32 (x := x) (by omega)
    exact ok_gdi hx (by omega) (ok_ite (fun _ => ok_bnd (ok_bnd (ih _ _ (by omega) (by omega) (by omega)))) (fun _ => ok_bnd (ok_bnd (ih _ _ (by omega) (by omega) (by omega)))))
theorem s_X4_howMany (u : OS) : ok (f_X4_howMany u) (fun _ => True) := by
  unfold f_X4_howMany
  exact ok_bnd (s_X4_howMany_L4 u _ (fun _ _ => ok_some trivial) FU _ _ (by decide) (by decide) (by decide))
theorem s_X4_gainOf (uL u : OS) (p q : Int32) (h : IL uL) (p0 : 0 ≤ p.toInt) (p1 : p.toInt < 32) : ok (f_X4_gainOf uL u p q) (fun o => IL o.1) := by
  unfold f_X4_gainOf
  exact ok_ite (fun _ => ok_some h) (fun _ => ok_gdi p0 (by omega) (ok_ite (fun _ => ok_gdi p0 (by omega) (ok_oC2 (s_X0_of uL _ h) (fun v r hv => ok_gdi p0 (by omega) (ok_oC2 (s_X0_of v _ hv) (fun w r2 hw => ok_some hw))))) (fun _ => ok_some h)))
theorem s_X4_greatestGain_L4 (u : OS) {Q : Int32 → Prop} (K : Int32 → Int32 → Option Int32) (hK : ∀ a b, 0 ≤ a.toInt → a.toInt < 32 → ok (K a b) Q) : ∀ (n : Nat) (x y : Int32), 0 ≤ x.toInt → x.toInt ≤ 32 → (32 - x.toInt).toNat < n → 0 ≤ y.toInt → y.toInt < 32 → ok (f_X4_greatestGain_L4 u n K x y) Q := by
  intro n
  induction n with
  | zero => intro x y _ _ hn; omega
  | succ n ih =>
    intro x y hx hx2 hn y0 y1
    unfold f_X4_greatestGain_L4
    refine ok_ite (fun _ => hK _ _ y0 y1) (fun c => ?_)
    have c1 := mt Int32.le_iff_toInt_le.mpr c
    rw [li_32] at c1
    have e1 := inc32 (x := x) (by omega)
    exact ok_gdi hx (by omega) (ok_gdi y0 (by omega) (ok_ite (fun _ => ok_bnd (ih _ _ (by omega) (by omega) (by omega) y0 y1)) (fun _ => ok_bnd (ih _ _ (by omega) (by omega) (by omega) hx (by omega)))))
theorem s_X4_greatestGain (u : OS) : ok (f_X4_greatestGain u) (fun r => 0 ≤ r.toInt ∧ r.toInt < 32) := by
  unfold f_X4_greatestGain
  exact ok_bnd (s_X4_greatestGain_L4 u _ (fun a b h1 h2 => ok_some ⟨h1, h2⟩) FU _ _ (by decide) (by decide) (by decide) (by decide) (by decide))
theorem IS_5 {u : OS} {i : Int32} {v : Int64} (h : IS u) : IS (sL u 5 i v) := h
set_option maxHeartbeats 1000000 in
theorem s_X4_makeOf_L84 (uA : OS) (hA : uA.2.2.2 0 ≤ 100000) {Q : OS × OS → Prop} (K : Int32 → OS → OS → Option (OS × OS)) (pS N : Nat) (hN : N ≤ 4096) (hK : ∀ x v w, IS v → IL w → phS v = pS → ok (K x v w) Q) : ∀ (n : Nat) (x : Int32) (u w : OS), 0 ≤ x.toInt → x.toInt ≤ 4096 → (4096 - x.toInt).toNat < n → IS u → IL w → phS u = pS → (u.1 1).toInt = N → (∀ i, i < 32 → (u.2.1 3 i).toInt ≤ x.toInt + 1) → ok (f_X4_makeOf_L84 uA n K x u w) Q := by
  intro n
  have en := nIt hA
  induction n with
  | zero => intro x u w _ _ hn; omega
  | succ n ih =>
    intro x u w hx hx2 hn h hw hp eN h3
    unfold f_X4_makeOf_L84
    refine ok_ite (fun _ => hK _ _ _ h hw hp) (fun c => ?_)
    have c1 := mt Int32.le_iff_toInt_le.mpr c
    rw [eN] at c1
    have e1 := inc32 (x := x) (by omega)
    refine ok_oC1 (s_X4_greatestGain u) (fun r hr => ?_)
    have g1 : r.toInt < (32 : Nat) := hr.2
    have r3 := h.2.2.1 r.toNatClampNeg
    have r3' := h3 r.toNatClampNeg (by show r.toInt.toNat < 32; clear hK ih h3; omega)
    have e3 := inc32 (x := u.2.1 3 r.toNatClampNeg) (by omega)
    have m1 : 0 ≤ (x + (1 : Int32)).toInt ∧ (x + (1 : Int32)).toInt ≤ 4096 ∧ (4096 - (x + (1 : Int32)).toInt).toNat < n := by
      clear hK ih h3
      omega
    have h27 : IS (sA u 3 r ((u.2.1 3 r.toNatClampNeg) + (1 : Int32))) := IS_3 h (by clear hK ih h3; omega) (by clear hK ih h3; omega)
    have b27 : ∀ i, i < 32 → ((sA u 3 r ((u.2.1 3 r.toNatClampNeg) + (1 : Int32))).2.1 3 i).toInt ≤ (x + (1 : Int32)).toInt + 1 := by
      intro i hi
      show (upd (u.2.1 3) r.toNatClampNeg ((u.2.1 3 r.toNatClampNeg) + (1 : Int32)) i).toInt ≤ _
      unfold upd
      have := h3 i hi
      by_cases e : i = r.toNatClampNeg
      · rw [if_pos e]
        clear hK ih h3
        omega
      · rw [if_neg e]
        clear hK ih h3
        omega
    refine ok_gdi hr.1 g1 (ok_gdi hr.1 g1 (ok_bnd (ok_ite (fun _ => ?_) (fun d => ?_))))
    · exact ok_oC2 (s_X4_gainOf w _ r _ hw hr.1 hr.2) (fun a b ha => ok_gdi hr.1 g1 (ok_bnd (ok_bnd (ih _ _ _ m1.1 m1.2.1 m1.2.2 (IS_5 h27) ha hp eN b27))))
    · have d1 := mt Int32.le_iff_toInt_le.mpr d
      rw [en] at d1
      exact ok_gdi hr.1 (by clear hK ih h3; omega) (ok_oC2 (s_X4_gainOf w _ r _ hw hr.1 hr.2) (fun a b ha => ok_gdi hr.1 g1 (ok_bnd (ok_bnd (ih _ _ _ m1.1 m1.2.1 m1.2.2 (IS_5 h27) ha hp eN b27)))))
set_option maxHeartbeats 1000000 in
theorem s_X4_makeOf_L9 (uA : OS) (hA : uA.2.2.2 0 ≤ 100000) {Q : OS × OS → Prop} (K : Int32 → Int32 → OS → OS → Option (OS × OS)) (pS N : Nat) (hK : ∀ x y v w, IS v → IL w → phS v = pS → (v.1 1).toInt = N → (∀ i, i < 32 → (v.2.1 3 i).toInt ≤ 1) → 0 ≤ x.toInt → x.toInt ≤ 32 → ok (K x y v w) Q) : ∀ (n : Nat) (x y : Int32) (u w : OS), 0 ≤ x.toInt → x.toInt ≤ 32 → (32 - x.toInt).toNat < n → 0 ≤ y.toInt → y.toInt ≤ x.toInt → IS u → IL w → phS u = pS → (u.1 1).toInt = N → (∀ i, i < 32 → (u.2.1 3 i).toInt ≤ 1) → ok (f_X4_makeOf_L9 uA n K x y u w) Q := by
  intro n
  have en := nIt hA
  induction n with
  | zero => intro x y u w _ _ hn; omega
  | succ n ih =>
    intro x y u w hx hx2 hn y0 y1 h hw hp eN h3
    unfold f_X4_makeOf_L9
    refine ok_ite (fun _ => hK _ _ _ _ h hw hp eN h3 y0 (by omega)) (fun c => ok_ite (fun _ => hK _ _ _ _ h hw hp eN h3 y0 (by omega)) (fun d => ?_))
    have c1 := mt Int32.le_iff_toInt_le.mpr c
    have d1 := mt Int32.le_iff_toInt_le.mpr d
    rw [li_32] at c1
    rw [en] at d1
    have e1 := inc32 (x := x) (by omega)
    have gA : x.toInt < ((uA.2.2.2 0 : Nat) : Int) := by clear hK ih h3; omega
    have g32 : x.toInt < (32 : Nat) := by clear hK ih h3; omega
    have m1 : 0 ≤ (x + (1 : Int32)).toInt ∧ (x + (1 : Int32)).toInt ≤ 32 ∧ (32 - (x + (1 : Int32)).toInt).toNat < n := by
      clear hK ih h3
      omega
    refine ok_gdi hx gA (ok_bnd ?_)
    have key : ∀ t : Int32, 0 ≤ t.toInt → t.toInt ≤ 1 → ok (gdi x 32 <|
    bnd (sA u 3 x t) fun u48 =>
    gdi x (uA.2.2.2 0) <|
    oC2 (f_X4_gainOf w u48 x (uA.2.1 0 (x).toNatClampNeg)) fun u50 r51 =>
    gdi x 32 <|
    bnd (sL u48 5 x r51) fun u54 =>
    gdi x 32 <|
    bnd (y + (u54.2.1 3 (x).toNatClampNeg)) fun x56 =>
    bnd (x + (1 : Int32)) fun x57 =>
    f_X4_makeOf_L9 uA n K x57 x56 u54 u50) Q := by
      intro t t0 t1
      have hI : IS (sA u 3 x t) := IS_3 h t0 (by clear hK ih h3; omega)
      have et : ∀ r : Int64, (sL (sA u 3 x t) 5 x r).2.1 3 x.toNatClampNeg = t := by
        intro r
        show upd (u.2.1 3) x.toNatClampNeg t x.toNatClampNeg = t
        unfold upd
        rw [if_pos rfl]
      have ey : (y + t).toInt = y.toInt + t.toInt := add32 (by clear hK ih h3; omega) (by clear hK ih h3; omega)
      refine ok_gdi hx g32 (ok_bnd (ok_gdi hx gA (ok_oC2 (s_X4_gainOf w _ x _ hw hx (by clear hK ih h3; omega)) (fun a b ha => ok_gdi hx g32 (ok_bnd (ok_gdi hx g32 (ok_bnd (ok_bnd ?_))))))))
      refine ih _ _ _ _ m1.1 m1.2.1 m1.2.2 (by rw [et, ey]; clear hK ih h3; omega) (by rw [et, ey, e1]; clear hK ih h3; omega) (IS_5 hI) ha hp eN (fun i hi => ?_)
      show (upd (u.2.1 3) x.toNatClampNeg t i).toInt ≤ 1
      unfold upd
      by_cases e : i = x.toNatClampNeg
      · rw [if_pos e]; exact t1
      · rw [if_neg e]; exact h3 i hi
    exact ok_ite (fun _ => key 0 (by decide) (by decide)) (fun _ => key 1 (by decide) (by decide))
set_option maxHeartbeats 1000000 in
theorem s_X4_makeOf (uL u uA : OS) (hA : uA.2.2.2 0 ≤ 100000) (hL : IL uL) (h : IS u) : ok (f_X4_makeOf uL u uA) (fun q => IL q.1 ∧ IS q.2 ∧ phS q.2 = phS u) := by
  unfold f_X4_makeOf
  obtain ⟨N, hN, eN, _⟩ := IS_sz h
  have bN := two_b hN
  refine ok_oC1 (s_X4_forget u h) (fun v hv => ok_bnd ?_)
  refine s_X4_makeOf_L9 uA hA _ (phS u) N ?_ FU _ _ _ _ (by decide) (by decide) (by decide) (by decide) (by decide) hv.1 hL hv.2.1 (by rw [hv.2.2.2.1]; exact eN) (fun i hi => ?_)
  · intro x y a b ha hb pa na h3 x0 x1
    refine ok_ite (fun _ => ok_some ⟨hb, ha, pa⟩) (fun _ => ok_bnd ?_)
    refine s_X4_makeOf_L84 uA hA _ (phS u) N bN.2 (fun x v w hv hw pv => ok_oC1 (s_X4_finish v hv) (fun t ht => ok_some ⟨hw, ht.1, ht.2.trans pv⟩)) FU _ _ _ x0 (by omega) (by show _ < 100000; omega) ha hb pa na (fun i hi => ?_)
    have := h3 i hi
    omega
  · rw [hv.2.2.1]
    unfold flI
    rw [if_pos hi]
    decide

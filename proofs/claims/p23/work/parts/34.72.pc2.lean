set_option maxHeartbeats 1000000 in
theorem s_X4_numberPlaces_L10 {Q : OS → Prop} (K : Int32 → OS → Option OS) (pS : KT) (hK : ∀ a v, IS v → KP pS v → ok (K a v) Q) : ∀ (n : Nat) (x : Int32) (u : OS), 0 ≤ x.toInt → x.toInt ≤ 4096 → (4096 - x.toInt).toNat < n → IS u → KP pS u → (∀ j, j < 32 → 0 ≤ (u.2.1 6 j).toInt ∧ (u.2.1 6 j).toInt ≤ x.toInt) → ok (f_X4_numberPlaces_L10 n K x u) Q := by
  intro n
  induction n with
  | zero => intro x u _ _ hn; omega
  | succ n ih =>
    intro x u hx hx2 hn h hp h6
    obtain ⟨N, hN, eN, _⟩ := IS_sz h
    have bN := two_b hN
    have hle : u.2.2.2 8 ≤ 4096 := by
      rcases h.2.2.2.2.2.2.2 with q | q
      · omega
      · exact (two_b q).2
    have en := nIt (n := u.2.2.2 8) (by omega)
    have en10 := nIt (n := u.2.2.2 10) (by rw [h.2.2.2.2.2.2.1]; omega)
    unfold f_X4_numberPlaces_L10
    refine ok_ite (fun _ => hK _ _ h hp) (fun c => ok_ite (fun _ => hK _ _ h hp) (fun d => ?_))
    have c1 := mt Int32.le_iff_toInt_le.mpr c
    have d1 := mt Int32.le_iff_toInt_le.mpr d
    rw [en] at d1
    have e1 := inc32 (x := x) (by omega)
    have r := h.2.2.2.2.1 x.toNatClampNeg
    have g8 : x.toInt < ((u.2.2.2 8 : Nat) : Int) := by omega
    have g9 : x.toInt < ((u.2.2.2 9 : Nat) : Int) := by rw [h.2.2.2.2.2.1]; exact g8
    refine ok_gdi hx g8 (ok_bnd ?_)
    generalize hx11 : u.2.1 8 x.toNatClampNeg = x11 at r
    have jn : x11.toNatClampNeg < 32 := by
      show x11.toInt.toNat < 32
      omega
    have r6 := h6 _ jn
    have r4 := h.2.2.2.1 x11.toNatClampNeg
    have e14 : ((u.2.1 4 x11.toNatClampNeg) + (u.2.1 6 x11.toNatClampNeg)).toInt = (u.2.1 4 x11.toNatClampNeg).toInt + (u.2.1 6 x11.toNatClampNeg).toInt := add32 (by omega) (by omega)
    have e6 := inc32 (x := u.2.1 6 x11.toNatClampNeg) (by omega)
    have q32 : x11.toInt < (32 : Nat) := r.2
    have q33 : x11.toInt < (33 : Nat) := by omega
    have m1 : 0 ≤ (x + (1 : Int32)).toInt ∧ (x + (1 : Int32)).toInt ≤ 4096 ∧ (4096 - (x + (1 : Int32)).toInt).toNat < n := by
      clear hK ih h6
      omega
    refine ok_gdi r.1 q33 (ok_gdi r.1 q32 (ok_bnd (ok_gdi r.1 q32 (ok_gdi r.1 q32 (ok_gdi hx g9 (ok_bnd (ok_bnd ?_)))))))
    have key : ∀ w : OS, IS w → KP pS w → w.2.1 6 = u.2.1 6 → ok (gdi x11 32 <|
    gdi x11 32 <|
    bnd (sA w 6 x11 ((w.2.1 6 (x11).toNatClampNeg) + (1 : Int32))) fun u23 =>
    bnd (x + (1 : Int32)) fun x24 =>
    f_X4_numberPlaces_L10 n K x24 u23) Q := by
      intro w hw pw ew
      refine ok_gdi r.1 q32 (ok_gdi r.1 q32 (ok_bnd (ok_bnd (ih _ _ m1.1 m1.2.1 m1.2.2 hw pw ?_))))
      intro j hj
      show 0 ≤ (upd (w.2.1 6) x11.toNatClampNeg (w.2.1 6 x11.toNatClampNeg + (1 : Int32)) j).toInt ∧ (upd (w.2.1 6) x11.toNatClampNeg (w.2.1 6 x11.toNatClampNeg + (1 : Int32)) j).toInt ≤ (x + (1 : Int32)).toInt
      unfold upd
      rw [ew]
      by_cases e : j = x11.toNatClampNeg
      · rw [if_pos e]
        clear hK ih h6
        omega
      · rw [if_neg e]
        have := h6 j hj
        clear hK ih h6
        omega
    refine ok_ite (fun _ => key _ h hp rfl) (fun d2 => ?_)
    have d2 : ¬ nI (u.2.2.2 10) ≤ ((u.2.1 4 x11.toNatClampNeg) + (u.2.1 6 x11.toNatClampNeg)) := d2
    have d3 := mt Int32.le_iff_toInt_le.mpr d2
    rw [en10] at d3
    exact ok_gdi (by clear hK ih h6; omega) (by show _ < ((u.2.2.2 10 : Nat) : Int); clear hK ih h6; omega) (ok_bnd (key _ h hp rfl))
theorem s_X4_numberPlaces (u : OS) (h : IS u) : ok (f_X4_numberPlaces u) (fun v => IS v ∧ KP (kpo u) v) := by
  unfold f_X4_numberPlaces
  refine ok_bnd (ok_bnd (s_X4_numberPlaces_L10 _ (kpo u) (fun a v hv hp => ok_some ⟨hv, hp⟩) FU _ _ (by decide) (by decide) (by decide) h KP.rf ?_))
  intro j hj
  show 0 ≤ (flI 32 (u.2.1 6) (0 : Int32) j).toInt ∧ (flI 32 (u.2.1 6) (0 : Int32) j).toInt ≤ (0 : Int32).toInt
  unfold flI
  rw [if_pos hj]
  decide
theorem IS_8 {u : OS} {i v : Int32} (h : IS u) (h0 : 0 ≤ v.toInt) (h1 : v.toInt < 32) : IS (sA u 8 i v) := ⟨h.1, h.2.1, h.2.2.1, h.2.2.2.1, upd_R (f := u.2.1 8) h.2.2.2.2.1 h0 h1, h.2.2.2.2.2⟩
set_option maxHeartbeats 1000000 in
theorem s_X4_makeSpread_L80 {x5 x7 : Int32} (s0 : 0 ≤ x7.toInt) (s1 : x7.toInt < 32) {N : Nat} (hN : two N) {Q : OS × Nat × Nat → Prop} (K : Int32 → Int32 → OS → Option (OS × Nat × Nat)) (pS : KT) (hK : ∀ (a b : Int32) (v : OS), IS v → KP pS v → (v.1 1).toInt = N → N ≤ v.2.2.2 8 → 0 ≤ a.toInt → a.toInt < N → ok (K a b v) Q) : ∀ (n : Nat) (x y : Int32) (u : OS), 0 ≤ x.toInt → x.toInt ≤ N → (N - x.toInt).toNat < n → 0 ≤ y.toInt → y.toInt < N → IS u → KP pS u → (u.1 1).toInt = N → N ≤ u.2.2.2 8 → ok (f_X4_makeSpread_L80 x5 x7 n K x y u) Q := by
  intro n
  have bN := two_b hN
  induction n with
  | zero => intro x y u _ _ hn; omega
  | succ n ih =>
    intro x y u hx hx2 hn y0 y1 h hp eN le
    unfold f_X4_makeSpread_L80
    refine ok_gdi s0 (by omega) (ok_ite (fun _ => hK _ _ _ h hp eN le y0 y1) (fun _ => ok_ite (fun _ => hK _ _ _ h hp eN le y0 y1) (fun c => ?_)))
    have c1 := mt Int32.le_iff_toInt_le.mpr c
    rw [eN] at c1
    have e1 := inc32 (x := x) (by omega)
    have es : ((u.1 1) - (1 : Int32)).toInt = N - 1 := by rw [sub32 (by rw [li_1]; omega) (by rw [li_1]; omega), li_1, eN]
    have a := and32 (y + x5) ((u.1 1) - (1 : Int32)) (by rw [es]; omega)
    rw [es] at a
    exact ok_gdi y0 (by omega) (ok_bnd (ok_bnd (ok_bnd (ih _ _ _ (by omega) (by omega) (by omega) a.1 (by have := a.2; show ((y + x5) &&& ((u.1 1) - (1 : Int32))).toInt < N; omega) (IS_8 h s0 s1) hp eN le))))
theorem s_X4_makeSpread_L71 {x5 : Int32} {N : Nat} (hN : two N) {Q : OS × Nat × Nat → Prop} (K : Int32 → Int32 → OS → Option (OS × Nat × Nat)) (pS : KT) (hK : ∀ a b v, IS v → KP pS v → ok (K a b v) Q) : ∀ (n : Nat) (x y : Int32) (u : OS), 0 ≤ x.toInt → x.toInt ≤ 32 → (32 - x.toInt).toNat < n → 0 ≤ y.toInt → y.toInt < N → IS u → KP pS u → (u.1 1).toInt = N → N ≤ u.2.2.2 8 → ok (f_X4_makeSpread_L71 x5 n K x y u) Q := by
  intro n
  have bN := two_b hN
  induction n with
  | zero => intro x y u _ _ hn; omega
  | succ n ih =>
    intro x y u hx hx2 hn y0 y1 h hp eN le
    unfold f_X4_makeSpread_L71
    refine ok_ite (fun _ => hK _ _ _ h hp) (fun c => ok_bnd ?_)
    have c1 := mt Int32.le_iff_toInt_le.mpr c
    rw [li_32] at c1
    have e1 := inc32 (x := x) (by omega)
    exact s_X4_makeSpread_L80 hx (by omega) hN _ pS (fun a b v hv pv ev lv a0 a1 => ok_bnd (ih _ _ _ (by omega) (by omega) (by omega) a0 a1 hv pv ev lv)) FU _ _ _ (by decide) (by rw [li_0]; omega) (by rw [li_0]; show _ < 100000; omega) y0 y1 h hp eN le
set_option maxHeartbeats 1000000 in
theorem s_X4_makeSpread (u : OS) (h : IS u) : ok (f_X4_makeSpread u) (CQ (fun v => IS v ∧ SFr u v) phS (phS u)) := by
  obtain ⟨N, hN, eN, _⟩ := IS_sz h
  have bN := two_b hN
  have hle : u.2.2.2 8 ≤ 4096 := by
    rcases h.2.2.2.2.2.2.2 with q | q
    · omega
    · exact (two_b q).2
  have en := nIt (n := u.2.2.2 8) (by omega)
  unfold f_X4_makeSpread
  refine ok_ite (fun _ => ok_bnd ?_) (fun _ => CQ_some ⟨h, SFr.rf⟩ (Nat.le_refl _))
  have key : ∀ w : OS, IS w → SFr u w → (w.1 1).toInt = N → N ≤ w.2.2.2 8 → ok (bnd ((((w.1 1) / (2 : Int32)) + ((w.1 1) / (8 : Int32))) + (3 : Int32)) fun x5 =>
  bnd (fun (x11 : Int32) (x12 : Int32) (u13 : OS) =>
  oC1 (f_X4_numberPlaces u13) fun u15 =>
  bnd (sF u15 7 (1 : Int32)) fun u17 =>
  some (u17, 0, 0)) fun K130_14 =>
  f_X4_makeSpread_L71 x5 FU K130_14 (0 : Int32) (0 : Int32) w) (CQ (fun v => IS v ∧ SFr u v) phS (phS w)) := by
    intro w hw sw ew lw
    refine ok_bnd_eq (fun x5 _ => ok_bnd ?_)
    refine s_X4_makeSpread_L71 (x5 := x5) hN _ (kpo w) ?_ FU (0 : Int32) (0 : Int32) w (by decide) (by decide) (by decide) (by decide) (by rw [li_0]; omega) hw KP.rf ew lw
    intro a b v hv pv
    refine ok_oC1 (s_X4_numberPlaces v hv) (fun t ht => ok_bnd (CQ_some ⟨ht.1, ?_⟩ ?_))
    · obtain ⟨q1, q2, q3, q4⟩ := ht.2
      obtain ⟨p1, p2, p3, p4⟩ := pv
      refine sw.tr ⟨?_, ?_, ?_⟩
      · show t.1 0 = w.1 0
        exact q2.trans p2
      · show t.1 2 = w.1 2
        exact q3.trans p3
      · show t.2.1 3 = w.2.1 3
        exact q4.trans p4
    · show phS w ≤ phS t
      have q1 : phS t = phS v := ht.2.1
      have p1 : phS v = phS w := pv.1
      rw [q1, p1]
      exact Nat.le_refl _
  refine ok_ite (fun c => key u h SFr.rf eN ?_) (fun c => ?_)
  · have := Int32.le_iff_toInt_le.mp c
    rw [en, eN] at this
    omega
  · have c1 := mt Int32.le_iff_toInt_le.mpr c
    rw [en, eN] at c1
    have eNn : (u.1 1).toNatClampNeg = N := by
      show (u.1 1).toInt.toNat = N
      omega
    have g0 : 0 ≤ (u.1 1).toInt := by omega
    have g1 : (u.1 1).toInt ≤ 100000 := by omega
    refine ok_gdn g0 g1 ?_
    rw [eNn]
    refine CQ_add (b' := phS u + N) (by omega) (Nat.le_refl _) (ok_bnd (ok_gdn g0 g1 ?_))
    have eNn1 : ((sR u 8 N (fun _ => 0)).1 1).toNatClampNeg = N := eNn
    rw [eNn1]
    refine CQ_add (b' := phS u + N + N) (by omega) (Nat.le_refl _) (ok_bnd (ok_gdn g0 g1 ?_))
    have eNn2 : ((sR (sR u 8 N (fun _ => 0)) 9 N (fun _ => 0)).1 1).toNatClampNeg = N := eNn
    rw [eNn2]
    refine CQ_add (b' := phS u + N + N + N) (by omega) (Nat.le_refl _) (ok_bnd (CQ_le ?_ (key _ ?_ SFr.rf eN (Nat.le_refl _))))
    · show 6 * u.2.2.2 8 + N + N + N ≤ 6 * N
      rcases h.2.2.2.2.2.2.2 with q | q
      · omega
      · have := two_d q hN (by omega)
        omega
    · refine ⟨h.1, h.2.1, h.2.2.1, h.2.2.2.1, fun i => ?_, rfl, rfl, Or.inr hN⟩
      show 0 ≤ (0 : Int32).toInt ∧ (0 : Int32).toInt < 32
      decide
theorem s_X4_signOver_L5 (u : OS) (p : Int32) {Q : Int32 → Prop} (K : Int32 → Int32 → Option Int32) (hK : ∀ a b, ok (K a b) Q) : ∀ (n : Nat) (x y : Int32), 0 ≤ x.toInt → x.toInt.toNat < n → 0 ≤ y.toInt → y.toInt + 2 * x.toInt ≤ 32 → ok (f_X4_signOver_L5 u p n K x y) Q := by
  intro n
  induction n with
  | zero => intro x y _ hn; omega
  | succ n ih =>
    intro x y hx hn y0 hs
    unfold f_X4_signOver_L5
    refine ok_ite (fun _ => hK _ _) (fun c => ?_)
    have c1 := mt Int32.le_iff_toInt_le.mpr c
    rw [li_0] at c1
    have e1 : (y + x).toInt = y.toInt + x.toInt := add32 (by omega) (by omega)
    have e2 : (x / (2 : Int32)).toInt = x.toInt / 2 := by rw [div32 hx (by decide), li_2]
    exact ok_gdi (by omega) (by omega) (ok_ite (fun _ => ok_bnd (ih _ _ (by omega) (by omega) y0 (by omega))) (fun _ => ok_bnd (ok_bnd (ih _ _ (by omega) (by omega) (by omega) (by omega)))))
theorem s_X4_signOver (u : OS) (p : Int32) : ok (f_X4_signOver u p) (fun _ => True) := by
  unfold f_X4_signOver
  exact ok_bnd (s_X4_signOver_L5 u p _ (fun _ _ => ok_some trivial) FU _ _ (by decide) (by decide) (by decide) (by decide))
theorem s_X4_shareOf (u : OS) (p : Int32) (h : IS u) : ok (f_X4_shareOf u p) (fun r => 0 ≤ r.toInt ∧ r.toInt < 8192) := by
  unfold f_X4_shareOf
  refine ok_oC1 (s_X6_isSign p) (fun r hr => ok_ite (fun _ => ok_some (by decide)) (fun c => ?_))
  have g := hr c
  exact ok_gdi g.1 (by omega) (ok_some (h.2.2.1 _))
theorem s_X4_fromOf (u : OS) (p : Int32) : ok (f_X4_fromOf u p) (fun _ => True) := by
  unfold f_X4_fromOf
  refine ok_oC1 (s_X6_isSign p) (fun r hr => ok_ite (fun _ => ok_some trivial) (fun c => ?_))
  have g := hr c
  exact ok_gdi g.1 (by omega) (ok_some trivial)
theorem s_X4_shareOfZero (u : OS) (p q : Int32) : ok (f_X4_shareOfZero u p q) (fun _ => True) := by
  unfold f_X4_shareOfZero
  refine ok_ite (fun _ => ok_some trivial) (fun c1 => ok_ite (fun _ => ok_some trivial) (fun c2 => ok_ite (fun _ => ok_some trivial) (fun c3 => ok_ite (fun c4 => ?_) (fun _ => ok_some trivial))))
  have d1 := mt Int32.lt_iff_toInt_lt.mpr c1
  have d2 := mt Int32.lt_iff_toInt_lt.mpr c2
  have d3 := mt Int32.lt_iff_toInt_lt.mpr c3
  have d4 := Int32.le_iff_toInt_le.mp c4
  rw [li_0] at d1
  rw [li_1] at d2
  rw [li_16] at d3
  have e2 : ((2 : Int32) * q).toInt = 2 * q.toInt := by rw [mul32 (by rw [li_2]; omega) (by rw [li_2]; omega), li_2]
  have e3 : ((32 : Int32) - ((2 : Int32) * q)).toInt = 32 - 2 * q.toInt := by rw [sub32 (by rw [e2, li_32]; omega) (by rw [e2, li_32]; omega), e2, li_32]
  rw [e3] at d4
  have e4 : (p + ((2 : Int32) * q)).toInt = p.toInt + 2 * q.toInt := by rw [add32 (by rw [e2]; omega) (by rw [e2]; omega), e2]
  have e5 : (p + q).toInt = p.toInt + q.toInt := add32 (by omega) (by omega)
  refine ok_gdi (by omega) (by omega) (ok_gdi (by omega) (by omega) (ok_bnd (ok_gdi (by omega) (by omega) (ok_gdi (by omega) (by omega) (ok_bnd (ok_ite (fun _ => ok_some trivial) (fun c5 => ok_ite (fun _ => ok_some trivial) (fun _ => ok_ite (fun _ => ok_some trivial) (fun _ => ok_gdz ?_ (ok_bnd (ok_some trivial)))))))))))
  have := mt Int32.le_iff_toInt_le.mpr c5
  rw [li_0] at this
  omega
theorem IS_n {u : OS} (h : IS u) : u.2.2.2 8 ≤ 4096 ∧ u.2.2.2 9 ≤ 4096 ∧ u.2.2.2 10 ≤ 4096 := by
  have a := h.2.2.2.2.2
  rw [a.1, a.2.1]
  rcases a.2.2 with q | q
  · omega
  · have := (two_b q).2
    omega
theorem s_gat {f : Nat → Int32} {n : Nat} {p N w : Int32} (hn : n ≤ 4096) : ok (if p < (0 : Int32) then some w else (if N ≤ p then some w else (if (nI n) ≤ p then some w else (gdi p n <| some (f p.toNatClampNeg))))) (fun _ => True) := by
  have e := nIt (n := n) (by omega)
  refine ok_ite (fun _ => ok_some trivial) (fun c => ok_ite (fun _ => ok_some trivial) (fun _ => ok_ite (fun _ => ok_some trivial) (fun d => ?_)))
  have c1 := mt Int32.lt_iff_toInt_lt.mpr c
  have d1 := mt Int32.le_iff_toInt_le.mpr d
  rw [li_0] at c1
  rw [e] at d1
  exact ok_gdi (by omega) (by omega) (ok_some trivial)
theorem s_X4_numberAt (u : OS) (p : Int32) (h : IS u) : ok (f_X4_numberAt u p) (fun _ => True) := s_gat (IS_n h).2.1
theorem s_X4_signAt (u : OS) (p : Int32) (h : IS u) : ok (f_X4_signAt u p) (fun _ => True) := s_gat (IS_n h).1
theorem s_X4_placeOf (u : OS) (p q : Int32) (h : IS u) : ok (f_X4_placeOf u p q) (fun _ => True) := by
  unfold f_X4_placeOf
  exact ok_oC1 (s_X4_fromOf u p) (fun r _ => ok_oC1 (s_X4_shareOf u p h) (fun r2 _ => ok_bnd (s_gat (IS_n h).2.2)))
theorem s_X4_howMany_L4 (u : OS) {Q : Int32 → Prop} (K : Int32 → Int32 → Option Int32) (hK : ∀ a b : Int32, a.toInt = cpos (u.2.1 3) 32 → ok (K a b) Q) : ∀ (n : Nat) (x y : Int32), 0 ≤ x.toInt → x.toInt ≤ 32 → (32 - x.toInt).toNat < n → y.toInt = cpos (u.2.1 3) x.toNatClampNeg → ok (f_X4_howMany_L4 u n K x y) Q := by
  intro n
  induction n with
  | zero => intro x y _ _ hn; omega
  | succ n ih =>
    intro x y hx hx2 hn hs
    unfold f_X4_howMany_L4
    have e0 : x.toNatClampNeg = x.toInt.toNat := rfl
    refine ok_ite (fun c => hK _ _ ?_) (fun c => ?_)
    · have c1 := Int32.le_iff_toInt_le.mp c
      rw [li_32] at c1
      rw [hs]
      congr 1
      omega
    · have c1 := mt Int32.le_iff_toInt_le.mpr c
      rw [li_32] at c1
      have e1 := inc32 (x := x) (by omega)
      have e2 : (x + (1 : Int32)).toNatClampNeg = x.toNatClampNeg + 1 := by
        show (x + (1 : Int32)).toInt.toNat = x.toInt.toNat + 1
        omega
      have b := cpos_b (u.2.1 3) x.toNatClampNeg
      refine ok_gdi hx (by omega) (ok_ite (fun d => ok_bnd (ok_bnd ?_)) (fun d => ok_bnd (ok_bnd ?_)))
      · have d1 : ¬ 0 < (u.2.1 3 x.toNatClampNeg).toInt := by
          have := i0_le.mp d
          omega
        have e0 : y + (0 : Int32) = y := Int32.add_zero y
        rw [e0]
        refine ih _ _ (by omega) (by omega) (by omega) ?_
        rw [e2]
        unfold cpos
        rw [if_neg d1, hs]
        omega
      · have d1 : 0 < (u.2.1 3 x.toNatClampNeg).toInt := by
          have := mt i0_le.mpr d
          omega
        have e3 := inc32 (x := y) (by omega)
        refine ih _ _ (by omega) (by omega) (by omega) ?_
        rw [e2]
        unfold cpos
        rw [if_pos d1, e3, hs]
theorem s_X4_howMany (u : OS) : ok (f_X4_howMany u) (fun a => a.toInt = cpos (u.2.1 3) 32) := by
  unfold f_X4_howMany
  exact ok_bnd (s_X4_howMany_L4 u _ (fun _ _ h => ok_some h) FU _ _ (by decide) (by decide) (by decide) (by rw [li_0]; rfl))
theorem OFV.v {lg p : Int32} {y : Int64} (h : OFV lg p y) (h1 : ¬ p < (1 : Int32)) (h2 : p ≤ ((1 : Int32) <<< (lg &&& (31 : Int32)))) : y = lgv p := by
  rcases h with ⟨a, _⟩ | ⟨_, _, c⟩ | ⟨_, b, _⟩
  · exact absurd a h1
  · exact Option.some.inj (c.symm.trans (lgv_eq p))
  · exact absurd h2 b
theorem s_X4_gainOf {lg : Int32} (uL u : OS) (p q : Int32) (h : IL lg uL) (p0 : 0 ≤ p.toInt) (p1 : p.toInt < 32) (hS : IS u) (hl : u.1 0 = lg) (hs : q ≤ (0 : Int32) ∨ 1 ≤ (u.2.1 3 p.toNatClampNeg).toInt) : ok (f_X4_gainOf uL u p q) (fun o => IL lg o.1 ∧ o.2 = if q ≤ (0 : Int32) then 0 else if u.2.1 3 p.toNatClampNeg < u.1 1 then q.toInt64 * (lgv (u.2.1 3 p.toNatClampNeg + (1 : Int32)) - lgv (u.2.1 3 p.toNatClampNeg)) else 0) := by
  have e1 : u.1 1 = (1 : Int32) <<< (lg &&& (31 : Int32)) := by rw [hS.2.1, hl]
  have r := hS.2.2.1 p.toNatClampNeg
  unfold f_X4_gainOf
  refine ok_ite (fun c => by rw [if_pos c]; exact ok_some ⟨h, rfl⟩) (fun c => ?_)
  rw [if_neg c]
  have s1 : 1 ≤ (u.2.1 3 p.toNatClampNeg).toInt := by
    rcases hs with z | z
    · exact absurd z c
    · exact z
  refine ok_gdi p0 (by omega) (ok_ite (fun d => ?_) (fun d => by rw [if_neg d]; exact ok_some ⟨h, rfl⟩))
  rw [if_pos d]
  have d1 := Int32.lt_iff_toInt_lt.mp d
  have i1 := inc32 (x := u.2.1 3 p.toNatClampNeg) (by omega)
  refine ok_gdi p0 (by omega) (ok_oC2 (s_X0_of uL _ h) (fun v r6 hv => ok_gdi p0 (by omega) (ok_oC2 (s_X0_of v _ hv.1) (fun w r10 hw => ok_some ⟨hw.1, ?_⟩))))
  have v6 : r6 = lgv (u.2.1 3 p.toNatClampNeg + (1 : Int32)) := hv.2.v (fun z => by have := Int32.lt_iff_toInt_lt.mp z; rw [li_1] at this; omega) (by rw [← e1]; exact Int32.le_iff_toInt_le.mpr (by omega))
  have v10 : r10 = lgv (u.2.1 3 p.toNatClampNeg) := hw.2.v (fun z => by have := Int32.lt_iff_toInt_lt.mp z; rw [li_1] at this; omega) (by rw [← e1]; exact Int32.le_iff_toInt_le.mpr (by omega))
  show q.toInt64 * (r6 - r10) = _
  rw [v6, v10]
def GN (c s : Nat → Int32) (N : Int32) (i : Nat) : Int64 := if c i ≤ (0 : Int32) then 0 else if s i < N then gain c s i else 0
set_option maxHeartbeats 1000000 in
theorem s_X4_greatestGain_L4 (u : OS) (c s : Nat → Int32) (N : Int32) (hG : ∀ i, i < 32 → u.2.2.1 5 i = GN c s N i) (hcs : ∀ i, s i ≤ (0 : Int32) ↔ c i ≤ (0 : Int32)) (hsN : ∀ i, i < 32 → s i < N) (hpos : ∀ i, i < 32 → ¬ c i ≤ (0 : Int32) → 0 < (gain c s i).toInt) {Q : Int32 → Prop} (K : Int32 → Int32 → Option Int32) (hK : ∀ (a : Int32) (k : Nat) b, a = nI k → k < 32 → (amf c s 32 = some k ∨ amf c s 32 = none) → ok (K a b) Q) : ∀ (n : Nat) (x y : Int32) (j : Nat), x = nI j → 1 ≤ j → j ≤ 32 → 32 - j < n → ((amf c s j = none ∧ y = nI 0) ∨ (∃ k, amf c s j = some k ∧ k < 32 ∧ y = nI k)) → ok (f_X4_greatestGain_L4 u n K x y) Q := by
  have z0 : ((0 : Int64)).toInt = 0 := by decide
  have G1 : ∀ i, i < 32 → ¬ s i ≤ (0 : Int32) → u.2.2.1 5 i = gain c s i := by
    intro i hi q
    rw [hG i hi]
    unfold GN
    rw [if_neg (fun r => q ((hcs i).mpr r)), if_pos (hsN i hi)]
  have G0 : ∀ i, i < 32 → s i ≤ (0 : Int32) → u.2.2.1 5 i = 0 := by
    intro i hi q
    rw [hG i hi]
    unfold GN
    rw [if_pos ((hcs i).mp q)]
  intro n
  induction n with
  | zero => intro x y j _ _ _ hn; omega
  | succ n ih =>
    intro x y j hx hj1 hj hn hA
    have ex : x.toInt = j := by rw [hx, nI_toInt (by omega)]
    have exn : x.toNatClampNeg = j := by
      show x.toInt.toNat = j
      omega
    unfold f_X4_greatestGain_L4
    refine ok_ite (fun d => ?_) (fun d => ?_)
    · have d1 := Int32.le_iff_toInt_le.mp d
      rw [li_32, ex] at d1
      have : j = 32 := by omega
      subst this
      rcases hA with ⟨q1, q2⟩ | ⟨k, q1, q2, q3⟩
      · exact hK _ 0 _ q2 (by decide) (Or.inr q1)
      · exact hK _ k _ q3 q2 (Or.inl q1)
    · have d1 := mt Int32.le_iff_toInt_le.mpr d
      rw [li_32, ex] at d1
      have hj32 : j < 32 := by omega
      have e1 : x + (1 : Int32) = nI (j + 1) := by rw [hx, nI_1]
      obtain ⟨k, hk32, hky⟩ : ∃ k, k < 32 ∧ y = nI k := by
        rcases hA with ⟨_, q2⟩ | ⟨k, _, q2, q3⟩
        · exact ⟨0, by decide, q2⟩
        · exact ⟨k, q2, q3⟩
      have ey : y.toInt = k := by rw [hky, nI_toInt (by omega)]
      have eyn : y.toNatClampNeg = k := by
        show y.toInt.toNat = k
        omega
      have am1 : amf c s (j + 1) = if s j ≤ (0 : Int32) then amf c s j else (amf c s j).elim (some j) (fun b => if gain c s j ≤ gain c s b then some b else some j) := rfl
      refine ok_gdi (by omega) (by omega) (ok_gdi (by omega) (by omega) ?_)
      rw [exn, eyn]
      refine ok_ite (fun q => ok_bnd (ih _ _ (j + 1) e1 (by omega) (by omega) (by omega) ?_)) (fun q => ok_bnd (ih _ _ (j + 1) e1 (by omega) (by omega) (by omega) ?_))
      · have q1 := Int64.le_iff_toInt_le.mp q
        by_cases a : s j ≤ (0 : Int32)
        · rw [am1, if_pos a]
          exact hA
        · rw [if_neg a] at am1
          rw [G1 j hj32 a] at q1
          have pj := hpos j hj32 (fun r => a ((hcs j).mpr r))
          rcases hA with ⟨r1, r2⟩ | ⟨k', r1, r2, r3⟩
          · exfalso
            have k0 : k = 0 := by
              have : (nI k).toInt = (nI 0).toInt := by rw [← hky, r2]
              rw [nI_toInt (by omega), nI_toInt (by omega)] at this
              omega
            rw [k0] at q1
            have s0 : s 0 ≤ (0 : Int32) := by
              rcases Classical.em (s 0 ≤ (0 : Int32)) with t | t
              · exact t
              · obtain ⟨b, eb⟩ := amf_ex c s j 0 hj1 t
                rw [r1] at eb
                cases eb
            rw [G0 0 (by decide) s0, z0] at q1
            omega
          · have kk : k = k' := by
              have : (nI k).toInt = (nI k').toInt := by rw [← hky, r3]
              rw [nI_toInt (by omega), nI_toInt (by omega)] at this
              omega
            have hk := (amf_lt c s j k' r1).2
            rw [kk, G1 k' r2 hk] at q1
            rw [r1] at am1
            have am1 : amf c s (j + 1) = if gain c s j ≤ gain c s k' then some k' else some j := am1
            rw [if_pos (Int64.le_iff_toInt_le.mpr q1)] at am1
            exact Or.inr ⟨k', am1, r2, r3⟩
      · have q1 := mt Int64.le_iff_toInt_le.mpr q
        by_cases a : s j ≤ (0 : Int32)
        · exfalso
          rw [G0 j hj32 a, z0] at q1
          by_cases b : s k ≤ (0 : Int32)
          · rw [G0 k hk32 b, z0] at q1
            omega
          · rw [G1 k hk32 b] at q1
            have := hpos k hk32 (fun r => b ((hcs k).mpr r))
            omega
        · rw [if_neg a] at am1
          rcases hA with ⟨r1, r2⟩ | ⟨k', r1, r2, r3⟩
          · rw [r1] at am1
            exact Or.inr ⟨j, am1, hj32, hx⟩
          · have kk : k = k' := by
              have : (nI k).toInt = (nI k').toInt := by rw [← hky, r3]
              rw [nI_toInt (by omega), nI_toInt (by omega)] at this
              omega
            have hk := (amf_lt c s j k' r1).2
            rw [kk, G1 k' r2 hk, G1 j hj32 a] at q1
            rw [r1] at am1
            have am1 : amf c s (j + 1) = if gain c s j ≤ gain c s k' then some k' else some j := am1
            rw [if_neg (fun t => q1 (Int64.le_iff_toInt_le.mp t))] at am1
            exact Or.inr ⟨j, am1, hj32, hx⟩
theorem s_X4_greatestGain (u : OS) (c s : Nat → Int32) (N : Int32) (hG : ∀ i, i < 32 → u.2.2.1 5 i = GN c s N i) (hcs : ∀ i, s i ≤ (0 : Int32) ↔ c i ≤ (0 : Int32)) (hsN : ∀ i, i < 32 → s i < N) (hpos : ∀ i, i < 32 → ¬ c i ≤ (0 : Int32) → 0 < (gain c s i).toInt) : ok (f_X4_greatestGain u) (fun a => ∃ k, a = nI k ∧ k < 32 ∧ (amf c s 32 = some k ∨ amf c s 32 = none)) := by
  unfold f_X4_greatestGain
  refine ok_bnd (s_X4_greatestGain_L4 u c s N hG hcs hsN hpos _ (fun a k b e h1 h2 => ok_some ⟨k, e, h1, h2⟩) FU _ _ 1 rfl (by decide) (by decide) (by decide) ?_)
  have am1 : amf c s 1 = if s 0 ≤ (0 : Int32) then none else some 0 := rfl
  by_cases a : s 0 ≤ (0 : Int32)
  · rw [if_pos a] at am1
    exact Or.inl ⟨am1, rfl⟩
  · rw [if_neg a] at am1
    exact Or.inr ⟨0, am1, by decide, rfl⟩
theorem IS_5 {u : OS} {i : Int32} {v : Int64} (h : IS u) : IS (sL u 5 i v) := h
-- the shares' object while they are made: c the counts, s the shares so far, j signs seen
def MK (lg : Int32) (c s : Nat → Int32) (j : Nat) (u : OS) : Prop := u.1 0 = lg ∧ u.1 2 = 0 ∧ (∀ i, i < 32 → u.2.1 3 i = if i < j then s i else 0) ∧ (∀ i, i < j → u.2.2.1 5 i = GN c s (u.1 1) i)
set_option maxHeartbeats 2000000 in
theorem s_X4_makeOf_L84 {lg : Int32} (uA : OS) (hA : uA.2.2.2 0 = 32) (c : Nat → Int32) (hc : uA.2.1 0 = c) (hcb : ∀ i, (c i).toInt ≤ 1000000) (hcp : 0 < cpos c 32) {Q : OS × OS → Prop} (K : Int32 → OS → OS → Option (OS × OS)) (pS N : Nat) (hN : N ≤ 4096) (hK : ∀ x v w, IS v → IL lg w → phS v = pS → (v.1 1).toInt = N → MK lg c (GS c ((N : Int) - cpos c 32).toNat) 32 v → ok (K x v w) Q) : ∀ (n : Nat) (x : Int32) (u w : OS) (m : Nat), x.toInt = cpos c 32 + m → x.toInt ≤ N → (4096 - x.toInt).toNat < n → IS u → IL lg w → phS u = pS → (u.1 1).toInt = N → MK lg c (GS c m) 32 u → ok (f_X4_makeOf_L84 uA n K x u w) Q := by
  intro n
  have en := nIt (n := uA.2.2.2 0) (by rw [hA]; decide)
  have cb := cpos_b c 32
  induction n with
  | zero => intro x u w m _ _ hn; omega
  | succ n ih =>
    intro x u w m hm hx2 hn h hw hp eN hMK
    obtain ⟨k0, k2, k3, k5⟩ := hMK
    have k3' : ∀ i, i < 32 → u.2.1 3 i = GS c m i := fun i hi => by rw [k3 i hi, if_pos hi]
    have hm5 : m ≤ 5000 := by omega
    have gb := GS_b c m hm5
    have gsum := GS_sum c hcp m hm5
    unfold f_X4_makeOf_L84
    refine ok_ite (fun d => hK _ _ _ h hw hp eN ?_) (fun d => ?_)
    · have d1 := Int32.le_iff_toInt_le.mp d
      rw [eN] at d1
      have : ((N : Int) - cpos c 32).toNat = m := by omega
      rw [this]
      exact ⟨k0, k2, k3, k5⟩
    have c1 := mt Int32.le_iff_toInt_le.mpr d
    rw [eN] at c1
    have e1 := inc32 (x := x) (by omega)
    have ssz : ∀ i, i < 32 → (GS c m i).toInt ≤ cpos c 32 + m := by
      intro i hi
      have := psum_el (f := GS c m) (N := 32) (s := i) (fun s _ => (gb.1 s).1) hi
      rw [gsum] at this
      omega
    have hsN : ∀ i, i < 32 → GS c m i < u.1 1 := fun i hi => Int32.lt_iff_toInt_lt.mpr (by have := ssz i hi; rw [eN]; omega)
    have hpos : ∀ i, i < 32 → ¬ c i ≤ (0 : Int32) → 0 < (gain c (GS c m) i).toInt := by
      intro i hi q
      have q1 := mt i0_le.mpr q
      have q2 := mt i0_le.mpr (fun r => q ((gb.2 i).mp r))
      have q3 := ssz i hi
      exact gain_pos (by omega) (hcb i) (by omega) (by omega)
    refine ok_oC1 (s_X4_greatestGain u c (GS c m) (u.1 1) k5 gb.2 hsN hpos) (fun r hr => ?_)
    obtain ⟨k, ek, hk32, ham⟩ := hr
    have ham : amf c (GS c m) 32 = some k := by
      rcases ham with q | q
      · exact q
      · obtain ⟨a, ea, _⟩ := GS_am c hcp hm5
        rw [q] at ea
        cases ea
    have er : r.toInt = k := by rw [ek, nI_toInt (by omega)]
    have ern : r.toNatClampNeg = k := by
      show r.toInt.toNat = k
      omega
    have g0 : 0 ≤ r.toInt := by omega
    have g1 : r.toInt < (32 : Nat) := by omega
    have gk := gb.1 k
    have eGS : GS c (m + 1) = upd (GS c m) k (GS c m k + (1 : Int32)) := by
      show gst c (GS c m) = _
      unfold gst
      rw [ham]
      rfl
    have m1 : (x + (1 : Int32)).toInt = cpos c 32 + ((m + 1 : Nat) : Int) ∧ (x + (1 : Int32)).toInt ≤ N ∧ (4096 - (x + (1 : Int32)).toInt).toNat < n := by
      clear hK ih k3 k3' k5 gb ssz hsN hpos
      omega
    refine ok_gdi g0 g1 (ok_gdi g0 g1 ?_)
    rw [ern, k3' k hk32]
    have ei := inc32 (x := GS c m k) (by omega)
    have h27 : IS (sA u 3 r (GS c m k + (1 : Int32))) := IS_3 h (by rw [ei]; omega) (by rw [ei]; omega)
    have s27 : (sA u 3 r (GS c m k + (1 : Int32))).2.1 3 r.toNatClampNeg = GS c (m + 1) k := by
      show upd (u.2.1 3) r.toNatClampNeg (GS c m k + (1 : Int32)) r.toNatClampNeg = _
      rw [eGS]
      unfold upd
      rw [if_pos rfl, if_pos rfl]
    have s1 : 1 ≤ ((sA u 3 r (GS c m k + (1 : Int32))).2.1 3 r.toNatClampNeg).toInt := by
      rw [s27, eGS]
      unfold upd
      rw [if_pos rfl, ei]
      omega
    refine ok_bnd (ok_ite (fun z => ?_) (fun z => ?_))
    · exfalso
      have z1 := Int32.le_iff_toInt_le.mp z
      rw [en, hA] at z1
      omega
    · refine ok_gdi g0 (by rw [hA]; exact g1) ?_
      rw [hc]
      refine ok_oC2 (s_X4_gainOf w (sA u 3 r (GS c m k + (1 : Int32))) r (c k) hw g0 (by omega) h27 k0 (Or.inr s1)) (fun a b ha => ok_gdi g0 g1 (ok_bnd (ok_bnd (ih _ _ _ (m + 1) m1.1 m1.2.1 m1.2.2 (IS_5 h27) ha.1 hp eN ⟨k0, k2, fun i hi => ?_, fun i hi => ?_⟩))))
      · show upd (u.2.1 3) r.toNatClampNeg (GS c m k + (1 : Int32)) i = if i < 32 then GS c (m + 1) i else 0
        rw [if_pos hi, eGS, ern]
        unfold upd
        by_cases q : i = k
        · rw [if_pos q, if_pos q]
        · rw [if_neg q, if_neg q]; exact k3' i hi
      · have hb : b = _ := ha.2
        rw [s27] at hb
        show vp_updL (u.2.2.1 5) r.toNatClampNeg b i = GN c (GS c (m + 1)) (u.1 1) i
        unfold vp_updL
        rw [ern]
        by_cases q : i = k
        · rw [if_pos q, hb, q]
          unfold GN gain
          rfl
        · rw [if_neg q, k5 i hi]
          have e2 : GS c (m + 1) i = GS c m i := by
            rw [eGS]
            unfold upd
            rw [if_neg q]
          unfold GN gain
          rw [e2]
set_option maxHeartbeats 2000000 in
theorem s_X4_makeOf_L9 {lg : Int32} (uA : OS) (hA : uA.2.2.2 0 = 32) (c : Nat → Int32) (hc : uA.2.1 0 = c) {Q : OS × OS → Prop} (K : Int32 → Int32 → OS → OS → Option (OS × OS)) (pS N : Nat) (hN : 32 ≤ N) (hK : ∀ x y v w, IS v → IL lg w → phS v = pS → (v.1 1).toInt = N → MK lg c (gs0 c) 32 v → x.toInt = cpos c 32 → ok (K x y v w) Q) : ∀ (n : Nat) (x y : Int32) (u w : OS) (j : Nat), x = nI j → j ≤ 32 → 32 - j < n → y.toInt = cpos c j → IS u → IL lg w → phS u = pS → (u.1 1).toInt = N → MK lg c (gs0 c) j u → ok (f_X4_makeOf_L9 uA n K x y u w) Q := by
  intro n
  have en := nIt (n := uA.2.2.2 0) (by rw [hA]; decide)
  induction n with
  | zero => intro x y u w j _ _ hn; omega
  | succ n ih =>
    intro x y u w j hx hj hn hy h hw hp eN hMK
    have ex : x.toInt = j := by rw [hx, nI_toInt (by omega)]
    have exn : x.toNatClampNeg = j := by
      show x.toInt.toNat = j
      omega
    obtain ⟨k0, k2, k3, k5⟩ := hMK
    unfold f_X4_makeOf_L9
    refine ok_ite (fun d => ?_) (fun d => ?_)
    · have d1 := Int32.le_iff_toInt_le.mp d
      rw [li_32, ex] at d1
      have : j = 32 := by omega
      subst this
      exact hK _ _ _ _ h hw hp eN ⟨k0, k2, k3, k5⟩ hy
    have c1 := mt Int32.le_iff_toInt_le.mpr d
    rw [li_32, ex] at c1
    have hj32 : j < 32 := by omega
    have g0 : 0 ≤ x.toInt := by omega
    have g32 : x.toInt < (32 : Nat) := by omega
    have gA : x.toInt < ((uA.2.2.2 0 : Nat) : Int) := by rw [hA]; exact g32
    have e1 : x + (1 : Int32) = nI (j + 1) := by rw [hx, nI_1]
    have cb := cpos_b c j
    refine ok_ite (fun z => ?_) (fun z => ok_gdi g0 gA (ok_bnd ?_))
    · exfalso
      have z1 := Int32.le_iff_toInt_le.mp z
      rw [en, hA] at z1
      omega
    rw [exn, hc]
    have key : ∀ t : Int32, t = gs0 c j → ok (gdi x 32 <|
    bnd (sA u 3 x t) fun u48 =>
    gdi x (uA.2.2.2 0) <|
    oC2 (f_X4_gainOf w u48 x (c j)) fun u50 r51 =>
    gdi x 32 <|
    bnd (sL u48 5 x r51) fun u54 =>
    gdi x 32 <|
    bnd (y + (u54.2.1 3 j)) fun x56 =>
    bnd (x + (1 : Int32)) fun x57 =>
    f_X4_makeOf_L9 uA n K x57 x56 u54 u50) Q := by
      intro t ht
      have tb := (GS_b c 0 (by decide)).1 j
      have tb : 0 ≤ (gs0 c j).toInt ∧ (gs0 c j).toInt ≤ ((0 : Nat) : Int) + 1 := tb
      rw [← ht] at tb
      have hI : IS (sA u 3 x t) := IS_3 h tb.1 (by omega)
      have st : (sA u 3 x t).2.1 3 j = t := by
        show upd (u.2.1 3) x.toNatClampNeg t j = t
        unfold upd
        rw [exn, if_pos rfl]
      have st2 : (sA u 3 x t).2.1 3 x.toNatClampNeg = t := by rw [exn]; exact st
      have hs : c j ≤ (0 : Int32) ∨ 1 ≤ ((sA u 3 x t).2.1 3 x.toNatClampNeg).toInt := by
        by_cases q : c j ≤ (0 : Int32)
        · exact Or.inl q
        · right
          rw [st2, ht]
          unfold gs0
          rw [if_neg q]
          decide
      have ty : t.toInt = if 0 < (c j).toInt then 1 else 0 := by
        rw [ht]
        unfold gs0
        by_cases q : c j ≤ (0 : Int32)
        · have := i0_le.mp q
          rw [if_pos q, if_neg (by omega), li_0]
        · have := mt i0_le.mpr q
          rw [if_neg q, if_pos (by omega), li_1]
      have ey : (y + t).toInt = cpos c (j + 1) := by
        rw [add32 (by omega) (by omega), hy, ty]
        rfl
      have upd3 : ∀ i, i < 32 → upd (u.2.1 3) x.toNatClampNeg t i = if i < j + 1 then gs0 c i else 0 := by
        intro i hi
        unfold upd
        rw [exn]
        by_cases q : i = j
        · rw [if_pos q, if_pos (by omega), q, ht]
        · rw [if_neg q, k3 i hi]
          by_cases q2 : i < j
          · rw [if_pos q2, if_pos (by omega)]
          · rw [if_neg q2, if_neg (by omega)]
      refine ok_gdi g0 g32 (ok_bnd (ok_gdi g0 gA (ok_oC2 (s_X4_gainOf w (sA u 3 x t) x (c j) hw g0 (by omega) hI k0 hs) (fun a b ha => ok_gdi g0 g32 (ok_bnd (ok_gdi g0 g32 (ok_bnd (ok_bnd ?_))))))))
      have hb : b = _ := ha.2
      rw [st2] at hb
      refine ih _ _ _ _ (j + 1) e1 (by omega) (by omega) ?_ (IS_5 hI) ha.1 hp eN ⟨k0, k2, upd3, fun i hi => ?_⟩
      · show (y + (sA u 3 x t).2.1 3 j).toInt = _
        rw [st]
        exact ey
      · show vp_updL (u.2.2.1 5) x.toNatClampNeg b i = GN c (gs0 c) (u.1 1) i
        unfold vp_updL
        rw [exn]
        by_cases q : i = j
        · rw [if_pos q, hb, q, ht]
          unfold GN gain
          rfl
        · rw [if_neg q]
          exact k5 i (by omega)
    refine ok_ite (fun q => key 0 ?_) (fun q => key 1 ?_)
    · unfold gs0
      rw [if_pos q]
    · unfold gs0
      rw [if_neg q]
set_option maxHeartbeats 1000000 in
theorem s_X4_makeOf {lg : Int32} (uL u uA : OS) (hA : uA.2.2.2 0 = 32) (c : Nat → Int32) (hc : uA.2.1 0 = c) (hcb : ∀ i, (c i).toInt ≤ 1000000) (hL : IL lg uL) (h : IS u) (hl : u.1 0 = lg) : ok (f_X4_makeOf uL u uA) (fun q => IL lg q.1 ∧ IS q.2 ∧ phS q.2 = phS u ∧ q.2.1 0 = lg ∧ ((cpos c 32 = 0 ∧ q.2.1 2 = 0 ∧ ∀ i, i < 32 → q.2.2.1 3 i = 0) ∨ (¬ cpos c 32 = 0 ∧ q.2.1 2 = 1 ∧ ∀ i, i < 32 → q.2.2.1 3 i = GSF c lg i))) := by
  unfold f_X4_makeOf
  obtain ⟨N, hN, eN, eN2⟩ := IS_sz h
  have bN := two_b hN
  have cb := cpos_b c 32
  have eGSF : GSF c lg = GS c ((N : Int) - cpos c 32).toNat := by
    unfold GSF
    rw [← hl, ← eN2]
  refine ok_oC1 (s_X4_forget u h) (fun v hv => ok_bnd ?_)
  obtain ⟨v1, v2, v3, v4, v5, v6⟩ := hv
  refine s_X4_makeOf_L9 uA hA c hc _ (phS u) N bN.1 ?_ FU _ _ _ _ 0 rfl (by decide) (by decide) (by rw [li_0]; rfl) v1 hL v2 (by rw [v4]; exact eN) ⟨v5.trans hl, v6, fun i hi => ?_, fun i hi => absurd hi (Nat.not_lt_zero i)⟩
  · intro x y a b ha hb pa na hMK ex
    refine ok_ite (fun z => ok_some ⟨hb, ha, pa, hMK.1, Or.inl ⟨?_, hMK.2.1, fun i hi => ?_⟩⟩) (fun z => ok_bnd ?_)
    · rw [← ex, z, li_0]
    · have e0 : cpos c 32 = 0 := by rw [← ex, z, li_0]
      rw [hMK.2.2.1 i hi, if_pos hi]
      unfold gs0
      by_cases q : c i ≤ (0 : Int32)
      · rw [if_pos q]
      · exfalso
        have q1 := mt i0_le.mpr q
        have : cpos (gs0 c) 32 = 0 := by
          have := GS_cpos c (m := 0) (by decide)
          have e : GS c 0 = gs0 c := rfl
          rw [e] at this
          omega
        have s0 := gs0_sum c 32
        have el := psum_el (f := gs0 c) (N := 32) (s := i) (fun s _ => ((GS_b c 0 (by decide)).1 s).1) hi
        rw [s0, e0] at el
        have : (gs0 c i).toInt = 1 := by
          unfold gs0
          rw [if_neg q, li_1]
        omega
    · have z1 := ne32 z
      rw [li_0] at z1
      have hcp : 0 < cpos c 32 := by omega
      refine s_X4_makeOf_L84 uA hA c hc hcb hcp _ (phS u) N bN.2 ?_ FU _ _ _ 0 (by rw [ex]; omega) (by omega) (by show _ < 100000; omega) ha hb pa na hMK
      intro x2 v w hv hw pv nv hM2
      refine ok_oC1 (s_X4_finish v hv) (fun t ht => ok_some ⟨hw, ht.1, ht.2.1.trans pv, ht.2.2.1.trans hM2.1, Or.inr ⟨by omega, ht.2.2.2.2 ?_, fun i hi => ?_⟩⟩)
      · rw [nv, psum_congr (g := GS c ((N : Int) - cpos c 32).toNat) 32 (fun s hs => by rw [hM2.2.2.1 s hs, if_pos hs]), GS_sum c hcp _ (by omega)]
        omega
      · show t.2.1 3 i = _
        rw [ht.2.2.2.1, hM2.2.2.1 i hi, if_pos hi, eGSF]
  · rw [v3]
    unfold flI
    rw [if_pos hi, if_neg (Nat.not_lt_zero i)]

def RD (u v : OS) : Prop := (∀ j, j ≤ 21 → v.1 j = u.1 j) ∧ (∀ j, j ≠ 8 → j ≠ 9 → j ≠ 10 → j ≠ 11 → j ≠ 12 → j ≠ 13 → j ≠ 24 → v.2.1 j = u.2.1 j) ∧ (∀ i, i < 32 → v.2.1 8 i = u.2.1 8 i) ∧ (∀ i, i < 32 → v.2.1 9 i = u.2.1 9 i) ∧ v.2.1 10 0 = u.2.1 10 0 ∧ R11 v ∧ R13 v
theorem RD.tr {u v w : OS} (h1 : RD u v) (h2 : RD v w) : RD u w := by
  obtain ⟨a, b, c, d, e, f, g⟩ := h1
  obtain ⟨a', b', c', d', e', f', g'⟩ := h2
  exact ⟨fun j x => (a' j x).trans (a j x), fun j x1 x2 x3 x4 x5 x6 x7 => (b' j x1 x2 x3 x4 x5 x6 x7).trans (b j x1 x2 x3 x4 x5 x6 x7), fun i x => (c' i x).trans (c i x), fun i x => (d' i x).trans (d i x), e'.trans e, f', g'⟩
theorem R11.eq {u v : OS} (h : R11 u) (e : v.2.1 11 = u.2.1 11) : R11 v := by
  unfold R11 at *
  rw [e]
  exact h
theorem R13.eq {u v : OS} (h : R13 u) (e : v.2.1 13 = u.2.1 13) : R13 v := by
  unfold R13 at *
  rw [e]
  exact h
theorem RD.mk' {u v : OS} (h1 : R11 u) (h3 : R13 u) (a : ∀ j, j ≤ 21 → v.1 j = u.1 j) (b : ∀ j, j ≠ 24 → v.2.1 j = u.2.1 j) : RD u v := ⟨a, fun j _ _ _ _ _ _ x => b j x, fun i _ => by rw [b 8 (by decide)], fun i _ => by rw [b 9 (by decide)], by rw [b 10 (by decide)], h1.eq (b 11 (by decide)), h3.eq (b 13 (by decide))⟩
theorem RD.rf {u : OS} (h1 : R11 u) (h3 : R13 u) : RD u u := RD.mk' h1 h3 (fun _ _ => rfl) (fun _ _ => rfl)
theorem RD.rs {u v w : OS} (h : RD u v) (g : RS v w) : RD u w := h.tr (RD.mk' h.2.2.2.2.2.1 h.2.2.2.2.2.2 (fun j x => g.1 j (by omega) (by omega) (by omega) (by omega) (by omega) (by omega)) g.2.1)
theorem RD.sF {u v : OS} {i : Nat} {x : Int32} (h : RD u v) (hi : 22 ≤ i) : RD u (sF v i x) := h.tr (RD.mk' h.2.2.2.2.2.1 h.2.2.2.2.2.2 (fun j y => va_ne (f := v.1) (by omega)) (fun _ _ => rfl))
theorem RD.rh {u v w : OS} (h : RD u v) (g : RH v w) : RD u w := by
  obtain ⟨a, b, c, d, e, f, k⟩ := h
  obtain ⟨a', b', c', d', e'⟩ := g
  exact ⟨fun j x => (a' j (by omega) (by omega) (by omega) (by omega) (by omega)).trans (a j x), fun j x1 x2 x3 x4 x5 x6 x7 => (b' j x3).trans (b j x1 x2 x3 x4 x5 x6 x7), fun i x => by rw [b' 8 (by decide)]; exact c i x, fun i x => by rw [b' 9 (by decide)]; exact d i x, c'.trans e, f.eq (b' 11 (by decide)), k.eq (b' 13 (by decide))⟩
theorem RD.rt {u v w : OS} (h : RD u v) (g : RT v w) : RD u w := by
  obtain ⟨a, b, c, d, e, f, k⟩ := h
  obtain ⟨a', b', c', d', e'⟩ := g
  exact ⟨fun j x => (a' j (by omega) (by omega) (by omega)).trans (a j x), fun j x1 x2 x3 x4 x5 x6 x7 => (b' j x1).trans (b j x1 x2 x3 x4 x5 x6 x7), fun i x => (c' i x).trans (c i x), fun i x => by rw [b' 9 (by decide)]; exact d i x, by rw [b' 10 (by decide)]; exact e, f.eq (b' 11 (by decide)), k.eq (b' 13 (by decide))⟩
theorem RD.ly {u v w : OS} {N : Nat} (h : RD u v) (g : LYP 1 N v w) : RD u w := by
  obtain ⟨a, b, c, d, e, f, k⟩ := h
  obtain ⟨a', b', c', d', e', f', k', _⟩ := g
  exact ⟨fun j x => by rw [a']; exact a j x, fun j x1 x2 x3 x4 x5 x6 x7 => (b' j x2 x4 x5 x6).trans (b j x1 x2 x3 x4 x5 x6 x7), fun i x => by rw [b' 8 (by decide) (by decide) (by decide) (by decide)]; exact c i x, fun i x => (e' i x).trans (d i x), by rw [b' 10 (by decide) (by decide) (by decide) (by decide)]; exact e, f', k'⟩
theorem RD.im {g : GH} {u v : OS} (h : IM g u) (hd : RD u v) (h25 : 0 ≤ (v.1 25).toInt ∧ (v.1 25).toInt ≤ 65535) (h32 : v.1 32 = 0 ∨ (v.1 31).toInt ≤ 4) : IM g v := by
  obtain ⟨i0, i2, i3, i4, i5, i10, i7, i15, i14, i18, _, _, _, _⟩ := h
  obtain ⟨a, b, c, d, e, f, k⟩ := hd
  have es : ∀ s, s < 32 → shr v 0 s = shr u 0 s := fun s hs => by rw [shr0, shr0]; exact c s hs
  refine ⟨?_, ?_, ?_, ?_, ?_, ?_, ?_, ?_, ?_, ?_, h25, h32, f, k⟩
  · rw [a 0 (by decide)]; exact i0
  · rw [a 2 (by decide)]; exact i2
  · rw [a 3 (by decide)]; exact i3
  · rw [b 4 (by decide) (by decide) (by decide) (by decide) (by decide) (by decide) (by decide)]; exact i4
  · rw [a 5 (by decide)]; exact i5
  · exact ⟨by rw [e, a 0 (by decide)]; exact i10.1, by rw [a 0 (by decide)]; exact i10.2⟩
  · refine ⟨?_, by rw [a 7 (by decide)]; exact i7.2.1, fun i hi => by rw [c i hi]; exact i7.2.2 i hi⟩
    rw [a 7 (by decide), a 0 (by decide)]
    rcases i7.1 with q | ⟨q1, q2, q3⟩
    · exact Or.inl q
    · refine Or.inr ⟨q1, ⟨fun s hs => by rw [es s hs]; exact q2.1 s hs, by rw [psum_congr 32 es]; exact q2.2⟩, fun s hs => ?_⟩
      rw [psum_congr s (fun t ht => es t (by omega)), d (32 * 0 + s) (by omega)]
      exact q3 s hs
  · rw [a 15 (by decide)]; exact i15
  · rw [b 14 (by decide) (by decide) (by decide) (by decide) (by decide) (by decide) (by decide)]; exact i14
  · refine ⟨by rw [a 18 (by decide)]; exact i18.1, by rw [a 18 (by decide)]; exact i18.2.1, ?_⟩
    obtain ⟨x1, x2, x3, x4, x5⟩ := i18.2.2
    exact ⟨(a 2 (by decide)).trans x1, (a 3 (by decide)).trans x2, (a 5 (by decide)).trans x3, (b 4 (by decide) (by decide) (by decide) (by decide) (by decide) (by decide) (by decide)).trans x4, (b 6 (by decide) (by decide) (by decide) (by decide) (by decide) (by decide) (by decide)).trans x5⟩
set_option maxHeartbeats 1000000 in
theorem s_X7_readAll_L51 {k : Nat} (h1 : 5 ≤ k) (h2 : k ≤ 12) (u0 : OS) (hK0 : RK k u0) (l2 : (u0.1 31).toInt ≤ 4) (l1 : 0 ≤ (u0.1 31).toInt) {Q : OS → Prop} (K : Int32 → OS → Option OS) (hK : ∀ x u, RS u0 u → u.1 25 = u0.1 25 → ((u.1 27).toInt = 0 → SP k u) → ok (K x u) Q) : ∀ (n : Nat) (x : Int32) (u : OS), 0 ≤ x.toInt → x.toInt ≤ (u0.1 31).toInt → ((u0.1 31).toInt - x.toInt).toNat < n → RS u0 u → u.1 25 = u0.1 25 → ((u.1 27).toInt = 0 → u.1 30 = 2 → ∀ i : Nat, (i : Int) < x.toInt → ((2 ^ k : Nat) : Int) ≤ (u.2.2.1 33 i).toInt ∧ (u.2.2.1 33 i).toInt < 2 * ((2 ^ k : Nat) : Int)) → ok (f_X7_readAll_L51 n K x u) Q := by
  intro n
  induction n with
  | zero => intro x u _ _ hn; omega
  | succ n ih =>
    intro x u hx hx2 hn hR e25 hs
    have e31 : u.1 31 = u0.1 31 := hR.1 31 (by decide) (by decide) (by decide) (by decide) (by decide) (by decide)
    unfold f_X7_readAll_L51
    refine ok_ite (fun c => hK _ _ hR e25 (fun q r i hi => hs q r i ?_)) (fun c => ok_ite (fun z => ok_bnd ?_) (fun z => hK _ _ hR e25 (fun q => absurd (Int32.toInt_inj.mp (by rw [q, li_0])) z)))
    · have := Int32.le_iff_toInt_le.mp c
      omega
    · have c1 := mt Int32.le_iff_toInt_le.mpr c
      rw [e31] at c1
      have e1 := inc32 (x := x) (by omega)
      have m1 : 0 ≤ (x + (1 : Int32)).toInt ∧ (x + (1 : Int32)).toInt ≤ (u0.1 31).toInt ∧ ((u0.1 31).toInt - (x + (1 : Int32)).toInt).toNat < n := by
        clear hK ih hs
        omega
      have l4 : x.toInt < (4 : Nat) := by
        clear hK ih hs
        omega
      have rk := hR.rk hK0
      have key : ∀ w : Int32, 0 ≤ w.toInt → w.toInt ≤ 8 → ok (oC2 (f_X7_nextWide u w) fun u73 r74 =>
    gdi x 4 <|
    bnd (sL u73 33 x r74) fun u77 =>
    if (u77.1 27) = (0 : Int32) then (
    gdi x 4 <|
    oC1 (f_X7_isInSpan u77 (u77.2.2.1 33 (x).toNatClampNeg)) fun r81 =>
    if r81 = (0 : Int32) then (
    oC1 (f_X7_fail u77 (4 : Int32)) fun u85 =>
    bnd (x + (1 : Int32)) fun x87 =>
    f_X7_readAll_L51 n K x87 u85) else (
    bnd (x + (1 : Int32)) fun x84 =>
    f_X7_readAll_L51 n K x84 u77)) else (
    bnd (x + (1 : Int32)) fun x79 =>
    f_X7_readAll_L51 n K x79 u77)) Q := by
        intro w w0 w1
        refine ok_oC2 (s_X7_nextWide u w w0 w1 rk.2.2.2.2.2 hR.2.2.1) (fun v y hv => ok_gdi hx l4 (ok_bnd ?_))
        have hv1 : NX u v := hv.1
        have hRv : RS u0 (sL v 33 x y) := (hR.tr hv1.rs).sL
        have e25v : (sL v 33 x y).1 25 = u0.1 25 := (hv1.1 25 (by decide) (by decide) (by decide)).trans e25
        have rkv := hRv.rk hK0
        refine ok_ite (fun zz => ok_gdi hx l4 (ok_oC1 (s_X7_isInSpan (sL v 33 x y) _ h1 h2 rkv.1) (fun r hr => ok_ite (fun _ => ok_oC1 (s_X7_fail (sL v 33 x y) 4 (by decide) hRv.2.2.1) (fun t ht => ok_bnd (ih _ _ m1.1 m1.2.1 m1.2.2 (hRv.tr ht.1.rs) ((ht.1.1 25 (by decide) (by decide) (by decide)).trans e25v) (fun q => absurd ht.2.1 (by rw [q]; decide))))) (fun rz => ok_bnd (ih _ _ m1.1 m1.2.1 m1.2.2 hRv e25v (fun q q2 i hi => ?_)))))) (fun zz => ok_bnd (ih _ _ m1.1 m1.2.1 m1.2.2 hRv e25v (fun q => absurd (Int32.toInt_inj.mp (by rw [q, li_0])) zz)))
        rw [e1] at hi
        have hr := hr rz q2
        by_cases qi : i = x.toNatClampNeg
        · rw [qi]
          exact hr
        · have ei : (sL v 33 x y).2.2.1 33 i = u.2.2.1 33 i := by
            show vp_updL (v.2.2.1 33) x.toNatClampNeg y i = _
            unfold vp_updL
            rw [if_neg qi, hv1.2.1]
          rw [ei]
          have e30 : v.1 30 = u.1 30 := hv1.1 30 (by decide) (by decide) (by decide)
          have q2 : v.1 30 = 2 := q2
          refine hs (z27 z) (by rw [← e30]; exact q2) i ?_
          have : ¬ i = x.toInt.toNat := qi
          clear hK ih hs
          omega
      exact ok_ite (fun _ => key 8 (by decide) (by decide)) (fun _ => ok_ite (fun _ => key 2 (by decide) (by decide)) (fun _ => key 4 (by decide) (by decide)))
set_option maxHeartbeats 1000000 in
theorem s_X7_readAll_L156 {k : Nat} (h1 : 5 ≤ k) (h2 : k ≤ 12) (u0 : OS) (hK0 : RK k u0) (l2 : (u0.1 31).toInt = 1 ∨ (u0.1 31).toInt = 2 ∨ (u0.1 31).toInt = 4) {r6 : Int32} (r1 : r6.toInt ≤ 65535) {Q : OS → Prop} (K : Int32 → OS → Option OS) (hK : ∀ x u, RS u0 u → R29 u → 0 ≤ (u.1 25).toInt → (u.1 25).toInt ≤ 65535 → ok (K x u) Q) : ∀ (n : Nat) (x : Int32) (u : OS), 0 ≤ x.toInt → x.toInt ≤ 65535 → (65535 - x.toInt).toNat < n → RS u0 u → R29 u → 0 ≤ (u.1 25).toInt → (u.1 25).toInt ≤ x.toInt → ((u.1 27).toInt = 0 → SP k u) → ok (f_X7_readAll_L156 r6 n K x u) Q := by
  intro n
  induction n with
  | zero => intro x u _ _ hn; omega
  | succ n ih =>
    intro x u hx hx2 hn hR h9 c0 c1 hs
    have e31 : u.1 31 = u0.1 31 := hR.1 31 (by decide) (by decide) (by decide) (by decide) (by decide) (by decide)
    unfold f_X7_readAll_L156
    refine ok_ite (fun c => hK _ _ hR h9 c0 (by omega)) (fun c => ok_ite (fun z => ?_) (fun z => hK _ _ hR h9 c0 (by omega)))
    have d1 := mt Int32.le_iff_toInt_le.mpr c
    have e1 := inc32 (x := x) (by omega)
    have m1 : 0 ≤ (x + (1 : Int32)).toInt ∧ (x + (1 : Int32)).toInt ≤ 65535 ∧ (65535 - (x + (1 : Int32)).toInt).toNat < n := by
      clear hK ih hs
      omega
    have m2 : (u.1 25).toInt < 65535 := by
      clear hK ih hs
      omega
    have l2u : (u.1 31).toInt = 1 ∨ (u.1 31).toInt = 2 ∨ (u.1 31).toInt = 4 := by rw [e31]; exact l2
    obtain ⟨nz, ln0, _⟩ := lan hx l2u
    have ln1 : (x - x / u.1 31 * u.1 31).toInt < (u.1 31).toInt := by
      rw [rem32 hx (by clear hK ih hs; omega)]
      exact Int.emod_lt_of_pos _ (by clear hK ih hs; omega)
    refine ok_gdz nz (ok_oC1 (s_X7_readSign u _ h1 h2 (hR.rk hK0) hR.2.2.1 h9 ln0 ln1 (by clear hK ih hs; omega) (hs (z27 z)) c0 m2) (fun v hv => ok_bnd (ih _ _ m1.1 m1.2.1 m1.2.2 (hR.tr hv.1) (hv.1.2.2.2.2.2 h9) ?_ ?_ (fun _ => hv.2.2))))
    · rcases hv.2.1 with q | q
      · rw [q]; exact c0
      · rw [q]; clear hK ih hs; omega
    · rw [e1]
      rcases hv.2.1 with q | q
      · rw [q]; clear hK ih hs; omega
      · rw [q]; clear hK ih hs; omega
theorem s_X7_firstState0 (p q : Int32) : ok (f_X7_firstState p q) (fun _ => True) := by
  unfold f_X7_firstState
  exact ok_ite (fun _ => ok_some trivial) (fun _ => ok_ite (fun _ => ok_some trivial) (fun _ => ok_some trivial))
theorem s_X7_readAll_L186 (u0 : OS) (l2 : (u0.1 31).toInt ≤ 4) {Q : OS → Prop} (K : Int32 → OS → Option OS) (hK : ∀ x u, NX u0 u → ok (K x u) Q) : ∀ (n : Nat) (x : Int32) (u : OS), 0 ≤ x.toInt → x.toInt ≤ 4 → (4 - x.toInt).toNat < n → NX u0 u → ok (f_X7_readAll_L186 n K x u) Q := by
  intro n
  induction n with
  | zero => intro x u _ _ hn; omega
  | succ n ih =>
    intro x u hx hx2 hn hN
    have e31 : u.1 31 = u0.1 31 := hN.1 31 (by decide) (by decide) (by decide)
    unfold f_X7_readAll_L186
    refine ok_ite (fun c => hK _ _ hN) (fun c => ok_ite (fun z => ?_) (fun z => hK _ _ hN))
    have c1 := mt Int32.le_iff_toInt_le.mpr c
    rw [e31] at c1
    have e1 := inc32 (x := x) (by omega)
    refine ok_gdi hx (by omega) (ok_gdi (by decide) (by decide) (ok_oC1 (s_X7_firstState0 _ _) (fun y _ => ok_ite (fun _ => ok_bnd (ih _ _ (by omega) (by omega) (by omega) hN)) (fun _ => ok_oC1 (s_X7_fail u 5 (by decide) hN.2.2.1) (fun v hv => ok_bnd (ih _ _ (by omega) (by omega) (by omega) (hN.tr hv.1)))))))
theorem s_X7_readAll_L244 (u0 : OS) {Q : OS → Prop} (K : Int32 → OS → Option OS) (hK : ∀ x u, NX u0 u → R29 u → ok (K x u) Q) : ∀ (n : Nat) (x : Int32) (u : OS), (u.1 29).toInt.toNat < n → H14 u → NX u0 u → R29 u → ok (f_X7_readAll_L244 n K x u) Q := by
  intro n
  induction n with
  | zero => intro x u hn; omega
  | succ n ih =>
    intro x u hn hh hN h9
    unfold f_X7_readAll_L244
    refine ok_ite (fun c => hK _ _ hN h9) (fun c => ?_)
    have c1 := mt Int32.le_iff_toInt_le.mpr c
    rw [li_0] at c1
    refine ok_oC2 (s_X7_nextBit u hh hN.2.2.1 h9) (fun v r hv => ?_)
    have e : (v.1 29).toInt = (u.1 29).toInt - 1 := hv.2.2.2 (by omega)
    have g : ∀ x, ok (f_X7_readAll_L244 n K x v) Q := fun x => ih x v (by clear hK ih; omega) (hv.1.h14 hh) (hN.tr hv.1) hv.2.1
    exact ok_ite (fun _ => ok_ite (fun _ => g _) (fun _ => g _)) (fun _ => g _)

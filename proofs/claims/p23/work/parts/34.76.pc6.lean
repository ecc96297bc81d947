-- AnsTables
def IX (g : GH) (u : OS) : Prop := (u.1 8 = g.1.1.1 ∧ u.1 9 = g.1.1.2.1 ∧ u.1 7 = g.1.1.2.2) ∧ (0 ≤ (u.1 7).toInt ∧ (u.1 7).toInt ≤ u.2.2.2 6) ∧ (1 ≤ u.2.2.2 6 ∧ u.2.2.2 6 ≤ 1000) ∧ ((u.1 9).toInt = 1 ∨ (u.1 9).toInt = 2 ∨ (u.1 9).toInt = 4) ∧ u.2.1 5 = g.1.2.2 ∧ (∀ i : Nat, (i : Int) < (u.1 7).toInt → u.2.1 6 i = g.1.2.1 i ∧ 0 ≤ (g.1.2.1 i).toInt ∧ (g.1.2.1 i).toInt < 32)
abbrev EX : Type := Int32 × Int32 × (Nat → Int32)
def IG (e : EX) (u : OS) : Prop := u.1 0 = e.1 ∧ u.1 2 = e.2.1 ∧ (∀ i, i < 32 → u.2.1 3 i = if e.2.1 = (0 : Int32) then 0 else e.2.2 i)
theorem IG.fr {e : EX} {u v : OS} (h : IG e u) (f : SFr u v) : IG e v := ⟨f.1.trans h.1, f.2.1.trans h.2.1, fun i hi => by rw [f.2.2]; exact h.2.2 i hi⟩
def LK (c : Nat → Int32) (e : EX) : Prop := (∀ i, 0 ≤ (c i).toInt ∧ (c i).toInt ≤ 1000000) ∧ (e.2.1 = 0 ∨ (e.2.1 = 1 ∧ ¬ cpos c 32 = 0 ∧ ∀ i, i < 32 → e.2.2 i = GSF c e.1 i))
theorem LK.fl {c : Nat → Int32} {e : EX} (h : LK c e) : e.2.1 = 0 ∨ e.2.1 = 1 := by
  rcases h.2 with q | q
  · exact Or.inl q
  · exact Or.inr q.1
def phX (u : OS) : Nat := ph 1000 (u.2.2.2 6)
theorem s_isSign (p : Int32) : ok (f_X6_isSign p) (fun r => (r = 0 ∧ (p < (0 : Int32) ∨ (32 : Int32) ≤ p)) ∨ (r = 1 ∧ ¬ p < (0 : Int32) ∧ ¬ (32 : Int32) ≤ p)) := by
  unfold f_X6_isSign
  exact ok_ite (fun c => ok_some (Or.inl ⟨rfl, Or.inl c⟩)) (fun c => ok_ite (fun d => ok_some (Or.inl ⟨rfl, Or.inr d⟩)) (fun d => ok_some (Or.inr ⟨rfl, c, d⟩)))
theorem s_X6_isSign' (x : Int32) (j : Nat) (ex : x.toInt = j) (hj : j < 32) : ok (f_X6_isSign x) (fun r => r = 1) := by
  unfold f_X6_isSign
  refine ok_ite (fun c => ?_) (fun c => ok_ite (fun d => ?_) (fun d => ok_some rfl))
  · exfalso
    have := Int32.lt_iff_toInt_lt.mp c
    rw [li_0] at this
    omega
  · exfalso
    have := Int32.le_iff_toInt_le.mp d
    rw [li_32] at this
    omega
set_option maxHeartbeats 1000000 in
theorem s_X6_add {g : GH} (u : OS) (p : Int32) (h : IX g u) : ok (f_X6_add u p) (CQ (fun q => IX (g_add g p).1 q.1 ∧ q.2 = (g_add g p).2) (fun q => phX q.1) (phX u)) := by
  have hI := h
  obtain ⟨⟨e8, e9, e7⟩, l7, l6, l9, h5, h6⟩ := h
  unfold f_X6_add
  refine ok_oC1 (s_isSign p) (fun r hr => ok_ite (fun c => ?_) (fun c => ?_))
  · have hp : p < (0 : Int32) ∨ (32 : Int32) ≤ p := by
      rcases hr with q | q
      · exact q.2
      · rw [q.1] at c; exact absurd c (by decide)
    have eg : g_add g p = (g, -1) := by
      unfold g_add
      by_cases q : p < (0 : Int32)
      · rw [if_pos q]
      · rw [if_neg q, if_neg]
        rcases hp with z | z
        · exact absurd z q
        · intro y
          have z1 := Int32.le_iff_toInt_le.mp z
          have y1 := Int32.lt_iff_toInt_lt.mp y
          omega
    rw [eg]
    exact CQ_some ⟨hI, rfl⟩ (Nat.le_refl _)
  · have hp : ¬ p < (0 : Int32) ∧ ¬ (32 : Int32) ≤ p := by
      rcases hr with q | q
      · exact absurd q.1 c
      · exact q.2
    have p0 := mt Int32.lt_iff_toInt_lt.mpr hp.1
    have p1 := mt Int32.le_iff_toInt_le.mpr hp.2
    rw [li_0] at p0
    rw [li_32] at p1
    have hlt : p < (32 : Int32) := Int32.lt_iff_toInt_lt.mpr (by rw [li_32]; omega)
    refine ok_oA2 (s_withRoom (lm := 1000) (u.2.1 6) l6.1 li_1000 l6.2 (by decide) (by omega)) (fun n f kc ks hw => ?_)
    obtain ⟨r1, r2, r3, r4, r5, r6⟩ := hw
    have r1 : u.2.2.2 6 ≤ n := r1
    have r2 : n ≤ 1000 := r2
    have r3 : (u.1 7).toInt < (n : Int) ∨ (1000 : Int32).toInt ≤ (u.1 7).toInt := r3
    have r4 : ∀ i, i < u.2.2.2 6 → f i = u.2.1 6 i := r4
    rw [li_1000] at r3
    have en := nIt (n := n) (by omega)
    refine CQ_add (b' := ph 1000 n) r5 r6 (ok_bnd (ok_ite (fun d => ?_) (fun d => ?_)))
    · have d : u.1 7 < nI n := d
      have d1 := Int32.lt_iff_toInt_lt.mp d
      rw [en] at d1
      have e1 := inc32 (x := u.1 7) (by omega)
      have ne : ¬ g.1.1.2.2 = (1000 : Int32) := by
        intro q
        rw [← e7] at q
        rw [q, li_1000] at d1
        omega
      have eg : g_add g p = ((((g.1.1.1, g.1.1.2.1, g.1.1.2.2 + (1 : Int32)), upd g.1.2.1 g.1.1.2.2.toNatClampNeg p, g.1.2.2), g.2), g.1.1.2.2 + (1 : Int32)) := by
        unfold g_add
        rw [if_neg hp.1, if_pos hlt, if_neg ne]
      rw [eg]
      have h7n : (u.1 7).toNatClampNeg = (u.1 7).toInt.toNat := rfl
      refine ok_gdi l7.1 d1 (ok_bnd (ok_bnd (CQ_some ⟨⟨⟨e8, e9, by show u.1 7 + (1 : Int32) = g.1.1.2.2 + (1 : Int32); rw [e7]⟩, ⟨by show 0 ≤ (u.1 7 + (1 : Int32)).toInt; omega, by show (u.1 7 + (1 : Int32)).toInt ≤ (n : Int); omega⟩, ⟨by show 1 ≤ n; omega, r2⟩, l9, h5, fun i hi => ?_⟩, by show u.1 7 + (1 : Int32) = g.1.1.2.2 + (1 : Int32); rw [e7]⟩ (Nat.le_refl _))))
      have hi : (i : Int) < (u.1 7 + (1 : Int32)).toInt := hi
      rw [e1] at hi
      show upd f (u.1 7).toNatClampNeg p i = upd g.1.2.1 g.1.1.2.2.toNatClampNeg p i ∧ 0 ≤ (upd g.1.2.1 g.1.1.2.2.toNatClampNeg p i).toInt ∧ (upd g.1.2.1 g.1.1.2.2.toNatClampNeg p i).toInt < 32
      rw [← e7]
      unfold upd
      by_cases q : i = (u.1 7).toNatClampNeg
      · rw [if_pos q, if_pos q]
        exact ⟨rfl, by omega, by omega⟩
      · rw [if_neg q, if_neg q]
        rw [h7n] at q
        have hi2 : (i : Int) < (u.1 7).toInt := by omega
        rw [r4 i (by omega)]
        exact h6 i hi2
    · have d : ¬ u.1 7 < nI n := d
      have d1 := mt Int32.lt_iff_toInt_lt.mpr d
      rw [en] at d1
      have q : g.1.1.2.2 = (1000 : Int32) := by
        rw [← e7]
        refine Int32.toInt_inj.mp ?_
        rw [li_1000]
        omega
      have eg : g_add g p = (g, -3) := by
        unfold g_add
        rw [if_neg hp.1, if_pos hlt, if_pos q]
      rw [eg]
      refine CQ_some ⟨⟨⟨e8, e9, e7⟩, ⟨l7.1, by show (u.1 7).toInt ≤ (n : Int); omega⟩, ⟨by show 1 ≤ n; omega, r2⟩, l9, h5, fun i hi => ?_⟩, rfl⟩ (Nat.le_refl _)
      have hi : (i : Int) < (u.1 7).toInt := hi
      show f i = g.1.2.1 i ∧ _
      rw [r4 i (by omega)]
      exact h6 i hi
theorem s_X6_clear {g : GH} (u : OS) (h : IX g u) : ok (f_X6_clear u) (fun q => IX (g_clear g).1 q.1 ∧ q.2 = (g_clear g).2 ∧ phX q.1 = phX u) := by
  obtain ⟨⟨e8, e9, e7⟩, l7, l6, l9, h5, h6⟩ := h
  unfold f_X6_clear g_clear
  refine ok_bnd (ok_bnd (ok_some ⟨⟨⟨e8, e9, rfl⟩, ⟨by show 0 ≤ (0 : Int32).toInt; decide, ?_⟩, l6, l9, h5, fun i hi => ?_⟩, e7, rfl⟩))
  · show (0 : Int32).toInt ≤ ((u.2.2.2 6 : Nat) : Int)
    rw [li_0]
    omega
  · have hi : (i : Int) < (0 : Int32).toInt := hi
    rw [li_0] at hi
    omega
theorem s_X6_count {g : GH} (u uS : OS) (p q : Int32) (h : IX g u) (hS : IS uS) (hG : IG g.2 uS) (hK : LK g.1.2.2 g.2) : ok (f_X6_count u uS p q) (fun o => IX (g_count g p q).1 o.1 ∧ o.2.2 = (g_count g p q).2 ∧ IS o.2.1 ∧ phS o.2.1 = phS uS ∧ phX o.1 = phX u ∧ IG (g_count g p q).1.2 o.2.1 ∧ LK (g_count g p q).1.1.2.2 (g_count g p q).1.2) := by
  have hI := h
  obtain ⟨⟨e8, e9, e7⟩, l7, l6, l9, h5, h6⟩ := h
  unfold f_X6_count g_count
  refine ok_oC1 (s_isSign p) (fun r hr => ok_ite (fun c => ?_) (fun c => ?_))
  · have hp : p < (0 : Int32) ∨ (32 : Int32) ≤ p := by
      rcases hr with q | q
      · exact q.2
      · rw [q.1] at c; exact absurd c (by decide)
    by_cases z : p < (0 : Int32)
    · rw [if_pos z]; exact ok_some ⟨hI, rfl, hS, rfl, rfl, hG, hK⟩
    · rw [if_neg z, if_pos (by rcases hp with y | y; exact absurd y z; exact y)]; exact ok_some ⟨hI, rfl, hS, rfl, rfl, hG, hK⟩
  · have hp : ¬ p < (0 : Int32) ∧ ¬ (32 : Int32) ≤ p := by
      rcases hr with q | q
      · exact absurd q.1 c
      · exact q.2
    rw [if_neg hp.1, if_neg hp.2]
    have p0 := mt Int32.lt_iff_toInt_lt.mpr hp.1
    have p1 := mt Int32.le_iff_toInt_le.mpr hp.2
    rw [li_0] at p0
    rw [li_32] at p1
    refine ok_ite (fun d => by rw [if_pos d]; exact ok_some ⟨hI, rfl, hS, rfl, rfl, hG, hK⟩) (fun d => ok_ite (fun d2 => ?_) (fun d2 => by rw [if_neg d, if_neg d2]; exact ok_some ⟨hI, rfl, hS, rfl, rfl, hG, hK⟩))
    rw [if_neg d, if_pos d2]
    refine ok_gdi (by omega) (by omega) (ok_bnd (ok_gdi (by omega) (by omega) (ok_bnd (ok_oC1 (s_X4_forget uS hS) (fun v hv => ok_some ⟨⟨⟨e8, e9, e7⟩, l7, l6, l9, ?_, h6⟩, ?_, hv.1, hv.2.1, rfl, ⟨hv.2.2.2.2.1.trans hG.1, hv.2.2.2.2.2, fun i hi => ?_⟩, fun i => ?_, Or.inl rfl⟩)))))
    · show upd (u.2.1 5) p.toNatClampNeg q = upd g.1.2.2 p.toNatClampNeg q
      rw [h5]
    · show u.2.1 5 p.toNatClampNeg = _
      rw [h5]
    · show v.2.1 3 i = if (0 : Int32) = (0 : Int32) then 0 else _
      rw [if_pos rfl, hv.2.2.1]
      unfold flI
      rw [if_pos hi]
    · show 0 ≤ (upd g.1.2.2 p.toNatClampNeg q i).toInt ∧ (upd g.1.2.2 p.toNatClampNeg q i).toInt ≤ 1000000
      unfold upd
      by_cases e : i = p.toNatClampNeg
      · rw [if_pos e]
        have q0 := mt Int32.lt_iff_toInt_lt.mpr d
        have q1 := Int32.le_iff_toInt_le.mp d2
        rw [li_0] at q0
        rw [li_1000000] at q1
        omega
      · rw [if_neg e]; exact hK.1 i
theorem s_X6_counts_L71 (u : OS) {Q : OS × OS × Int32 → Prop} (K : Int32 → Int32 → Option (OS × OS × Int32)) (hK : ∀ a b : Int32, a.toInt = cpos (u.2.1 5) 32 → ok (K a b) Q) : ∀ (n : Nat) (x y : Int32), 0 ≤ x.toInt → x.toInt ≤ 32 → (32 - x.toInt).toNat < n → y.toInt = cpos (u.2.1 5) x.toNatClampNeg → ok (f_X6_counts_L71 u n K x y) Q := by
  intro n
  induction n with
  | zero => intro x y _ _ hn; omega
  | succ n ih =>
    intro x y hx hx2 hn hs
    unfold f_X6_counts_L71
    have e0 : x.toNatClampNeg = x.toInt.toNat := rfl
    refine ok_ite (fun c => hK _ _ ?_) (fun c => ?_)
    · have c1 := Int32.le_iff_toInt_le.mp c
      rw [li_32] at c1
      rw [hs]
      congr 1
      omega
    · have c1 := mt Int32.le_iff_toInt_le.mpr c
      rw [li_32] at c1
      have e1 := inc32 (x := x) (by omega)
      have e2 : (x + (1 : Int32)).toNatClampNeg = x.toNatClampNeg + 1 := by
        show (x + (1 : Int32)).toInt.toNat = x.toInt.toNat + 1
        omega
      have b := cpos_b (u.2.1 5) x.toNatClampNeg
      refine ok_gdi hx (by omega) (ok_ite (fun d => ok_bnd (ok_bnd ?_)) (fun d => ok_bnd (ok_bnd ?_)))
      · have d1 : ¬ 0 < (u.2.1 5 x.toNatClampNeg).toInt := by
          have := Int32.le_iff_toInt_le.mp d
          rw [li_0] at this
          omega
        have e0 : y + (0 : Int32) = y := Int32.add_zero y
        rw [e0]
        refine ih _ _ (by omega) (by omega) (by omega) ?_
        rw [e2]
        unfold cpos
        rw [if_neg d1, hs]
        omega
      · have d1 : 0 < (u.2.1 5 x.toNatClampNeg).toInt := by
          have := mt Int32.le_iff_toInt_le.mpr d
          rw [li_0] at this
          omega
        have e3 := inc32 (x := y) (by omega)
        refine ih _ _ (by omega) (by omega) (by omega) ?_
        rw [e2]
        unfold cpos
        rw [if_pos d1, e3, hs]
set_option maxHeartbeats 1000000 in
theorem s_X6_counts_L10 {g : GH} {Q : OS × OS × Int32 → Prop} (pX : Nat) (K : Int32 → OS → Option (OS × OS × Int32)) (hK : ∀ x u, IX ((g.1.1, g.1.2.1, cntr g.1.2.1 g.1.2.2 g.1.1.2.2.toNatClampNeg), g.2) u → phX u = pX → ok (K x u) Q) : ∀ (n : Nat) (x : Int32) (u : OS), IX ((g.1.1, g.1.2.1, cntr g.1.2.1 g.1.2.2 x.toNatClampNeg), g.2) u → phX u = pX → 0 ≤ x.toInt → x.toInt ≤ (u.1 7).toInt → (1000 - x.toInt).toNat < n → ok (f_X6_counts_L10 n K x u) Q := by
  intro n
  induction n with
  | zero =>
    intro x u h _ _ _ hn
    omega
  | succ n ih =>
    intro x u h hp hx hx2 hn
    have hI := h
    obtain ⟨⟨e8, e9, e7⟩, l7, l6, l9, h5, h6⟩ := h
    have e7 : u.1 7 = g.1.1.2.2 := e7
    have h5 : u.2.1 5 = cntr g.1.2.1 g.1.2.2 x.toNatClampNeg := h5
    have en := nIt (n := u.2.2.2 6) (by omega)
    unfold f_X6_counts_L10
    refine ok_ite (fun c => hK _ _ ?_ hp) (fun c => ?_)
    · have c1 := Int32.le_iff_toInt_le.mp c
      have ex : x.toNatClampNeg = g.1.1.2.2.toNatClampNeg := by
        rw [← e7]
        show x.toInt.toNat = (u.1 7).toInt.toNat
        omega
      rw [← ex]
      exact hI
    · have c1 := mt Int32.le_iff_toInt_le.mpr c
      have ci : ((x.toNatClampNeg : Nat) : Int) < (u.1 7).toInt := by
        show ((x.toInt.toNat : Nat) : Int) < _
        omega
      have hr := h6 x.toNatClampNeg ci
      have hr1 : u.2.1 6 x.toNatClampNeg = g.1.2.1 x.toNatClampNeg := hr.1
      have hr2 : 0 ≤ (u.2.1 6 x.toNatClampNeg).toInt ∧ (u.2.1 6 x.toNatClampNeg).toInt < 32 := by
        rw [hr1]
        exact hr.2
      have g6 : x.toInt < ((u.2.2.2 6 : Nat) : Int) := by clear hK ih h6; omega
      have e1 := inc32 (x := x) (by omega)
      have en2 : (x + (1 : Int32)).toNatClampNeg = x.toNatClampNeg + 1 := by
        show (x + (1 : Int32)).toInt.toNat = x.toInt.toNat + 1
        clear hK ih h6
        omega
      have m1 : 0 ≤ (x + (1 : Int32)).toInt ∧ (x + (1 : Int32)).toInt ≤ (u.1 7).toInt ∧ (1000 - (x + (1 : Int32)).toInt).toNat < n := by
        clear hK ih h6
        omega
      refine ok_ite (fun d => ?_) (fun d => ok_gdi hx g6 (ok_oC1 (s_isSign _) (fun r hq => ok_ite (fun z => ?_) (fun z => ok_gdi hx g6 (ok_gdi hr2.1 hr2.2 (ok_gdi hr2.1 hr2.2 (ok_bnd (ok_bnd (ih _ _ ?_ hp m1.1 m1.2.1 m1.2.2)))))))))
      · exfalso
        have d1 := Int32.le_iff_toInt_le.mp d
        rw [en] at d1
        clear hK ih h6
        omega
      · exfalso
        rcases hq with q | q
        · rcases q.2 with y | y
          · have y1 := Int32.lt_iff_toInt_lt.mp y
            rw [li_0] at y1
            clear hK ih h6
            omega
          · have y1 := Int32.le_iff_toInt_le.mp y
            rw [li_32] at y1
            clear hK ih h6
            omega
        · rw [q.1] at z
          exact absurd z (by decide)
      · rw [en2]
        refine ⟨⟨e8, e9, e7⟩, l7, l6, l9, ?_, h6⟩
        show upd (u.2.1 5) (u.2.1 6 x.toNatClampNeg).toNatClampNeg (u.2.1 5 (u.2.1 6 x.toNatClampNeg).toNatClampNeg + (1 : Int32)) = cntr g.1.2.1 g.1.2.2 (x.toNatClampNeg + 1)
        rw [hr1, h5]
        rfl
theorem cntr_b {row c0 : Nat → Int32} (h0 : ∀ i, i < 32 → (c0 i).toInt = 0) : ∀ n : Nat, n ≤ 1000 → (∀ k, k < n → 0 ≤ (row k).toInt ∧ (row k).toInt < 32) → (∀ i, i < 32 → 0 ≤ (cntr row c0 n i).toInt ∧ (cntr row c0 n i).toInt ≤ n) ∧ (∀ i, 32 ≤ i → cntr row c0 n i = c0 i) := by
  intro n
  induction n with
  | zero =>
    intro _ _
    refine ⟨fun i hi => ?_, fun i _ => rfl⟩
    show 0 ≤ (c0 i).toInt ∧ (c0 i).toInt ≤ ((0 : Nat) : Int)
    rw [h0 i hi]
    exact ⟨Int.le_refl _, Int.le_refl _⟩
  | succ n ih =>
    intro hn hr
    obtain ⟨a, b⟩ := ih (by omega) (fun k hk => hr k (by omega))
    have r := hr n (Nat.lt_succ_self n)
    have rn : (row n).toNatClampNeg < 32 := by
      show (row n).toInt.toNat < 32
      omega
    have ar := a _ rn
    have ei := inc32 (x := cntr row c0 n (row n).toNatClampNeg) (by omega)
    refine ⟨fun i hi => ?_, fun i hi => ?_⟩
    · show 0 ≤ (upd (cntr row c0 n) (row n).toNatClampNeg (cntr row c0 n (row n).toNatClampNeg + (1 : Int32)) i).toInt ∧ (upd (cntr row c0 n) (row n).toNatClampNeg (cntr row c0 n (row n).toNatClampNeg + (1 : Int32)) i).toInt ≤ ((n + 1 : Nat) : Int)
      have ai := a i hi
      unfold upd
      by_cases q : i = (row n).toNatClampNeg
      · rw [if_pos q]; omega
      · rw [if_neg q]; omega
    · show upd (cntr row c0 n) (row n).toNatClampNeg (cntr row c0 n (row n).toNatClampNeg + (1 : Int32)) i = c0 i
      unfold upd
      rw [if_neg (by omega)]
      exact b i hi
theorem s_X6_counts {g : GH} (u uS : OS) (h : IX g u) (hS : IS uS) (hG : IG g.2 uS) (hK : LK g.1.2.2 g.2) : ok (f_X6_counts u uS) (fun o => IX (g_counts g) o.1 ∧ o.2.2.toInt = cpos (g_counts g).1.2.2 32 ∧ IS o.2.1 ∧ phS o.2.1 = phS uS ∧ phX o.1 = phX u ∧ IG (g_counts g).2 o.2.1 ∧ LK (g_counts g).1.2.2 (g_counts g).2) := by
  obtain ⟨⟨e8, e9, e7⟩, l7, l6, l9, h5, h6⟩ := h
  have hlk : LK (g_counts g).1.2.2 (g_counts g).2 := by
    refine ⟨fun i => ?_, Or.inl rfl⟩
    have cb := cntr_b (row := g.1.2.1) (c0 := flI 32 g.1.2.2 (0 : Int32)) (fun i hi => by unfold flI; rw [if_pos hi, li_0]) g.1.1.2.2.toNatClampNeg (by rw [← e7]; show (u.1 7).toInt.toNat ≤ 1000; omega) (fun k hk => by
      rw [← e7] at hk
      have hk : k < (u.1 7).toInt.toNat := hk
      exact (h6 k (by omega)).2)
    show 0 ≤ (cntr g.1.2.1 (flI 32 g.1.2.2 (0 : Int32)) g.1.1.2.2.toNatClampNeg i).toInt ∧ (cntr g.1.2.1 (flI 32 g.1.2.2 (0 : Int32)) g.1.1.2.2.toNatClampNeg i).toInt ≤ 1000000
    have ln : g.1.1.2.2.toNatClampNeg ≤ 1000 := by
      rw [← e7]
      show (u.1 7).toInt.toNat ≤ 1000
      omega
    rcases Nat.lt_or_ge i 32 with q | q
    · have := cb.1 i q
      omega
    · rw [cb.2 i q]
      unfold flI
      rw [if_neg (by omega)]
      exact hK.1 i
  unfold f_X6_counts
  refine ok_bnd (ok_bnd (s_X6_counts_L10 (g := ((g.1.1, g.1.2.1, flI 32 g.1.2.2 (0 : Int32)), g.2)) (phX u) _ ?_ FU _ _ ⟨⟨e8, e9, e7⟩, l7, l6, l9, ?_, h6⟩ rfl (by decide) (by rw [li_0]; exact l7.1) (by decide)))
  · intro x v hv pv
    refine ok_oC1 (s_X4_forget uS hS) (fun s hs => ok_bnd (s_X6_counts_L71 v _ (fun a b hab => ok_some ⟨hv, ?_, hs.1, hs.2.1, pv, ⟨hs.2.2.2.2.1.trans hG.1, hs.2.2.2.2.2, fun i hi => ?_⟩, hlk⟩) FU _ _ (by decide) (by decide) (by decide) ?_))
    · rw [li_0]
      rfl
    · have hc : v.2.1 5 = (g_counts g).1.2.2 := hv.2.2.2.2.1
      rw [← hc]
      exact hab
    · show s.2.1 3 i = if (0 : Int32) = (0 : Int32) then 0 else _
      rw [if_pos rfl, hs.2.2.1]
      unfold flI
      rw [if_pos hi]
  · show flI 32 (u.2.1 5) (0 : Int32) = cntr g.1.2.1 (flI 32 g.1.2.2 (0 : Int32)) 0
    rw [h5]
    rfl
theorem IG.nc {g : GH} {u : OS} (hG : IG g.2 u) (hK : LK g.1.2.2 g.2) (z : ¬ u.1 2 = (0 : Int32)) : g.2.2.1 = 1 ∧ (∀ i, i < 32 → u.2.1 3 i = GSF g.1.2.2 g.2.1 i) ∧ ¬ cpos g.1.2.2 32 = 0 := by
  rw [hG.2.1] at z
  rcases hK.2 with q | ⟨q1, q2, q3⟩
  · exact absurd q z
  · refine ⟨q1, fun i hi => ?_, q2⟩
    rw [hG.2.2 i hi, if_neg z]
    exact q3 i hi
set_option maxHeartbeats 1000000 in
theorem s_X6_normal {g : GH} (uX uL uS : OS) (h : IX g uX) (hL : IL g.2.1 uL) (hS : IS uS) (hG : IG g.2 uS) (hK : LK g.1.2.2 g.2) : ok (f_X6_normal uX uL uS) (fun q => IL g.2.1 q.1 ∧ IS q.2.1 ∧ phS q.2.1 = phS uS ∧ IG (g_normal g).2 q.2.1 ∧ LK g.1.2.2 (g_normal g).2 ∧ q.2.2.toInt = if cpos g.1.2.2 32 = 0 then -2 else cpos g.1.2.2 32) := by
  have hc : uX.2.1 5 = g.1.2.2 := h.2.2.2.2.1
  obtain ⟨N, hN, eN, eN2⟩ := IS_sz hS
  have bN := two_b hN
  have cb := cpos_b g.1.2.2 32
  have gsf : cpos (GSF g.1.2.2 g.2.1) 32 = cpos g.1.2.2 32 := by
    unfold GSF
    refine GS_cpos _ ?_
    have : (2 ^ g.2.1.toInt.toNat : Int) = N := by rw [← hG.1, ← eN2]
    rw [this]
    omega
  unfold f_X6_normal
  have key : ∀ a b : OS, IL g.2.1 a → IS b → phS b = phS uS → IG (g_normal g).2 b → LK g.1.2.2 (g_normal g).2 → ok (if (b.1 2) = (0 : Int32) then (some (a, b, (-2 : Int32))) else (oC1 (f_X4_howMany b) fun r5 => some (a, b, r5))) (fun q => IL g.2.1 q.1 ∧ IS q.2.1 ∧ phS q.2.1 = phS uS ∧ IG (g_normal g).2 q.2.1 ∧ LK g.1.2.2 (g_normal g).2 ∧ q.2.2.toInt = if cpos g.1.2.2 32 = 0 then -2 else cpos g.1.2.2 32) := by
    intro a b ha hb hp hg hk
    have e2 := hg.2.1
    unfold g_normal at e2
    by_cases z : cpos g.1.2.2 32 = 0
    · rw [if_pos z] at e2
      have e2 : b.1 2 = (0 : Int32) := e2
      rw [if_pos e2, if_pos z]
      exact ok_some ⟨ha, hb, hp, hg, hk, lim_2⟩
    · rw [if_neg z] at e2
      have e2 : b.1 2 = (1 : Int32) := e2
      have n2 : ¬ b.1 2 = (0 : Int32) := by rw [e2]; decide
      rw [if_neg n2, if_neg z]
      refine ok_oC1 (s_X4_howMany b) (fun r hr => ok_some ⟨ha, hb, hp, hg, hk, ?_⟩)
      show r.toInt = cpos g.1.2.2 32
      have e3 := hg.2.2
      unfold g_normal at e3
      rw [if_neg z] at e3
      rw [hr, ← gsf]
      refine cpos_congr 32 (fun i hi => ?_)
      rw [e3 i hi, if_neg (by show ¬ (1 : Int32) = 0; decide)]
  refine ok_bnd (ok_ite (fun z => ?_) (fun z => ?_))
  · refine ok_oC2 (s_X4_makeOf uL uS (mkA 32 (uX.2.1 5)) rfl g.1.2.2 hc (fun i => (hK.1 i).2) hL hS hG.1) (fun a b hab => ?_)
    obtain ⟨a1, a2, a3, a4, a5⟩ := hab
    have a4 : b.1 0 = g.2.1 := a4
    refine key a b a1 a2 a3 ?_ ?_
    · unfold g_normal
      rcases a5 with ⟨q1, q2, q3⟩ | ⟨q1, q2, q3⟩
      · rw [if_pos q1]
        refine ⟨a4, q2, fun i hi => ?_⟩
        show b.2.1 3 i = if (0 : Int32) = (0 : Int32) then 0 else _
        rw [if_pos rfl]
        exact q3 i hi
      · rw [if_neg q1]
        refine ⟨a4, q2, fun i hi => ?_⟩
        show b.2.1 3 i = if (1 : Int32) = (0 : Int32) then 0 else GSF g.1.2.2 g.2.1 i
        rw [if_neg (by decide)]
        exact q3 i hi
    · unfold g_normal
      by_cases q : cpos g.1.2.2 32 = 0
      · rw [if_pos q]
        exact ⟨hK.1, Or.inl rfl⟩
      · rw [if_neg q]
        exact ⟨hK.1, Or.inr ⟨rfl, q, fun i _ => rfl⟩⟩
  · obtain ⟨q1, q2, q3⟩ := hG.nc hK z
    refine key uL uS hL hS rfl ?_ ?_
    · unfold g_normal
      rw [if_neg q3]
      refine ⟨hG.1, hG.2.1.trans q1, fun i hi => ?_⟩
      show uS.2.1 3 i = if (1 : Int32) = (0 : Int32) then 0 else GSF g.1.2.2 g.2.1 i
      rw [if_neg (by decide)]
      exact q2 i hi
    · unfold g_normal
      rw [if_neg q3]
      exact ⟨hK.1, Or.inr ⟨rfl, q3, fun i _ => rfl⟩⟩
theorem s_X6_share {g : GH} (uX uS : OS) (p : Int32) (hS : IS uS) (hG : IG g.2 uS) : ok (f_X6_share uX uS p) (fun r => r = g_share g p) := by
  unfold f_X6_share g_share
  refine ok_oC1 (s_isSign p) (fun r hr => ok_ite (fun c => ?_) (fun c => ?_))
  · have hp : p < (0 : Int32) ∨ (32 : Int32) ≤ p := by
      rcases hr with q | q
      · exact q.2
      · rw [q.1] at c; exact absurd c (by decide)
    by_cases z : p < (0 : Int32)
    · rw [if_pos z]; exact ok_some rfl
    · rw [if_neg z, if_neg (by rcases hp with y | y; exact absurd y z; exact Int32.not_lt.mpr y)]; exact ok_some rfl
  · have hp : ¬ p < (0 : Int32) ∧ ¬ (32 : Int32) ≤ p := by
      rcases hr with q | q
      · exact absurd q.1 c
      · exact q.2
    rw [if_neg hp.1, if_pos (Int32.not_le.mp hp.2)]
    have p0 := mt Int32.lt_iff_toInt_lt.mpr hp.1
    have p1 := mt Int32.le_iff_toInt_le.mpr hp.2
    rw [li_0] at p0
    rw [li_32] at p1
    unfold f_X4_shareOf
    refine ok_oC1 (R := fun r => r = if g.2.2.1 = (0 : Int32) then 0 else g.2.2.2 p.toNatClampNeg) (ok_oC1 (s_isSign p) (fun r2 hr2 => ok_ite (fun c2 => ?_) (fun c2 => ok_gdi (by omega) (by omega) (ok_some (hG.2.2 _ (by show p.toInt.toNat < 32; omega)))))) (fun r4 h4 => ok_some h4)
    exfalso
    rcases hr2 with q | q
    · rcases q.2 with y | y
      · exact hp.1 y
      · exact hp.2 y
    · rw [q.1] at c2
      exact absurd c2 (by decide)
set_option maxHeartbeats 1000000 in
theorem s_X6_loss_L18 {lg : Int32} (uX uS : OS) (hS : IS uS) (c s : Nat → Int32) (hc : uX.2.1 5 = c) (hs : ∀ i, i < 32 → uS.2.1 3 i = s i) (hcs : ∀ i, s i ≤ (0 : Int32) ↔ c i ≤ (0 : Int32)) (hl : uS.1 0 = lg) (hsz : ∀ i, i < 32 → s i ≤ uS.1 1) (ht : lgv (uS.1 1) = lt30 lg) {Q : OS × Int64 → Prop} (K : Int64 → Int32 → OS → Option (OS × Int64)) (hK : ∀ x v, IL lg v → ok (K (LSS c s (lt30 lg) 32) x v) Q) : ∀ (n : Nat) (x : Int32) (y : Int64) (u : OS) (j : Nat), x = nI j → j ≤ 32 → 32 - j < n → y = LSS c s (lt30 lg) j → IL lg u → ok (f_X6_loss_L18 uX uS n K x y u) Q := by
  intro n
  obtain ⟨N, hN, eN, eN2⟩ := IS_sz hS
  have bN := two_b hN
  have e1s : uS.1 1 = (1 : Int32) <<< (lg &&& (31 : Int32)) := by rw [hS.2.1, hl]
  induction n with
  | zero => intro x y u j _ _ hn; omega
  | succ n ih =>
    intro x y u j hx hj hn hy h
    have ex : x.toInt = j := by rw [hx, nI_toInt (by omega)]
    have exn : x.toNatClampNeg = j := by
      show x.toInt.toNat = j
      omega
    unfold f_X6_loss_L18
    refine ok_ite (fun d => ?_) (fun d => ?_)
    · have c1 := Int32.le_iff_toInt_le.mp d
      rw [li_32, ex] at c1
      have : j = 32 := by omega
      subst this
      rw [hy]
      exact hK _ _ h
    have c1 := mt Int32.le_iff_toInt_le.mpr d
    rw [li_32, ex] at c1
    have hj32 : j < 32 := by omega
    have e1 : x + (1 : Int32) = nI (j + 1) := by rw [hx, nI_1]
    have g0 : 0 ≤ x.toInt := by omega
    have g32 : x.toInt < (32 : Nat) := by omega
    refine ok_gdi g0 g32 ?_
    rw [exn, hc]
    refine ok_ite (fun q => ok_bnd (ih _ _ _ (j + 1) e1 (by omega) (by omega) ?_ h)) (fun q => ok_gdi g0 g32 ?_)
    · unfold LSS
      rw [if_pos ((hcs j).mpr q)]
      exact hy
    · have q2 : ¬ s j ≤ (0 : Int32) := fun r => q ((hcs j).mp r)
      have q3 := mt i0_le.mpr q2
      have q4 := Int32.le_iff_toInt_le.mp (hsz j hj32)
      refine ok_oC2 (s_X0_of u _ h) (fun a r15 ha => ?_)
      have v15 : r15 = lt30 lg := (ha.2.v (fun z => by have := Int32.lt_iff_toInt_lt.mp z; rw [li_1, eN] at this; omega) (by rw [← e1s]; exact Int32.le_refl _)).trans ht
      unfold f_X4_shareOf
      refine ok_oC1 (R := fun r => r = s j) (ok_oC1 (s_X6_isSign' x j ex hj32) (fun r2 hr2 => ok_ite (fun c2 => absurd (hr2.symm.trans c2) (by decide)) (fun c2 => ok_gdi g0 g32 (ok_some (by rw [exn]; exact hs j hj32))))) (fun r17 h17 => ?_)
      rw [h17]
      refine ok_oC2 (s_X0_of a _ ha.1) (fun b r20 hb => ok_bnd (ok_bnd (ih _ _ _ (j + 1) e1 (by omega) (by omega) ?_ hb.1)))
      have v20 : r20 = lgv (s j) := hb.2.v (fun z => by have := Int32.lt_iff_toInt_lt.mp z; rw [li_1] at this; omega) (by rw [← e1s]; exact hsz j hj32)
      unfold LSS
      rw [if_neg q2, v15, v20, hy]
theorem s_X6_loss {g : GH} (uX uL uS : OS) (h : IX g uX) (hL : IL g.2.1 uL) (hS : IS uS) (hG : IG g.2 uS) (hK : LK g.1.2.2 g.2) : ok (f_X6_loss uX uL uS) (fun q => IL g.2.1 q.1 ∧ q.2 = g_loss g) := by
  have hc : uX.2.1 5 = g.1.2.2 := h.2.2.2.2.1
  obtain ⟨N, hN, eN, eN2⟩ := IS_sz hS
  have bN := two_b hN
  have cb := cpos_b g.1.2.2 32
  unfold f_X6_loss g_loss
  refine ok_ite (fun z => ?_) (fun z => ok_bnd ?_)
  · rw [hG.2.1] at z
    rw [if_pos z]
    exact ok_some ⟨hL, rfl⟩
  · obtain ⟨q1, q2, q3⟩ := hG.nc hK z
    have nz : ¬ g.2.2.1 = (0 : Int32) := by rw [q1]; decide
    rw [if_neg nz]
    have em : (2 ^ g.2.1.toInt.toNat : Int) = N := by rw [← hG.1, ← eN2]
    have hm : (((2 ^ g.2.1.toInt.toNat : Int) - cpos g.1.2.2 32).toNat) ≤ 5000 := by rw [em]; omega
    have gb := GS_b g.1.2.2 _ hm
    have gs := GS_sum g.1.2.2 (by omega) _ hm
    have hsz : ∀ i, i < 32 → GSF g.1.2.2 g.2.1 i ≤ uS.1 1 := by
      intro i hi
      have el := psum_el (f := GSF g.1.2.2 g.2.1) (N := 32) (s := i) (fun s _ => (gb.1 s).1) hi
      have el2 : psum (GSF g.1.2.2 g.2.1) 32 = cpos g.1.2.2 32 + ((((2 ^ g.2.1.toInt.toNat : Int) - cpos g.1.2.2 32).toNat : Nat) : Int) := gs
      rw [em] at el2
      refine Int32.le_iff_toInt_le.mpr ?_
      rw [eN]
      omega
    obtain ⟨k, ek, ek2, _⟩ := nI_ex (x := uS.1 0) (by have := hS.1; omega)
    have hk := hS.1
    have ht : lgv (uS.1 1) = lt30 g.2.1 := by
      rw [hS.2.1, ← hG.1]
      exact lgv_sz (by omega) (by omega) ek
    refine s_X6_loss_L18 uX uS hS g.1.2.2 (GSF g.1.2.2 g.2.1) hc q2 gb.2 hG.1 hsz ht _ (fun x v hv => ok_some ⟨hv, ?_⟩) FU _ _ _ 0 rfl (by decide) (by decide) rfl hL
    show LSS g.1.2.2 (GSF g.1.2.2 g.2.1) (lt30 g.2.1) 32 = _
    rcases hK.2 with w | w
    · exact absurd w nz
    · exact (LSS_congr 32 (fun i hi => (w.2.2 i hi))).symm
theorem s_X6_lg {lg : Int32} (uX uL : OS) (p : Int32) (hL : IL lg uL) : ok (f_X6_lg uX uL p) (fun q => IL lg q.1 ∧ OFV lg p q.2) := by
  unfold f_X6_lg
  exact ok_oC2 (s_X0_of uL p hL) (fun a r ha => ok_some ha)
theorem s_X6_form {g : GH} (u : OS) (p : Int32) (h : IX g u) : ok (f_X6_form u p) (fun q => IX (g_form g p).1 q.1 ∧ q.2 = (g_form g p).2 ∧ phX q.1 = phX u) := by
  have hI := h
  obtain ⟨⟨e8, e9, e7⟩, h⟩ := h
  unfold f_X6_form g_form
  refine ok_ite (fun c => by rw [if_pos c]; exact ok_some ⟨hI, rfl, rfl⟩) (fun c => ok_ite (fun d => ?_) (fun d => by rw [if_neg c, if_neg d]; exact ok_some ⟨hI, rfl, rfl⟩))
  rw [if_neg c, if_pos d]
  exact ok_bnd (ok_bnd (ok_some ⟨⟨⟨rfl, e9, e7⟩, h⟩, e8, rfl⟩))
theorem s_X6_lanes {g : GH} (u : OS) (p : Int32) (h : IX g u) : ok (f_X6_lanes u p) (fun q => IX (g_lanes g p).1 q.1 ∧ q.2 = (g_lanes g p).2 ∧ phX q.1 = phX u) := by
  unfold f_X6_lanes
  have hh : (p = 1 ∨ p = 2 ∨ p = 4) → ok (bnd (u.1 9) fun x2 => bnd (sF u 9 p) fun u3 => some (u3, x2)) (fun q => IX (g_lanes g p).1 q.1 ∧ q.2 = (g_lanes g p).2 ∧ phX q.1 = phX u) := by
    intro hp
    obtain ⟨⟨e8, e9, e7⟩, l7, l6, l9, h⟩ := h
    unfold g_lanes
    rw [if_pos hp]
    refine ok_bnd (ok_bnd (ok_some ⟨⟨⟨e8, rfl, e7⟩, l7, l6, ?_, h⟩, e9, rfl⟩))
    show p.toInt = 1 ∨ p.toInt = 2 ∨ p.toInt = 4
    rcases hp with q | q | q
    · rw [q]; decide
    · rw [q]; decide
    · rw [q]; decide
  refine ok_bnd (ok_ite (fun c => hh (Or.inl c)) (fun c1 => ok_ite (fun c => hh (Or.inr (Or.inl c))) (fun c2 => ok_ite (fun c => hh (Or.inr (Or.inr c))) (fun c3 => ok_some ?_))))
  unfold g_lanes
  rw [if_neg (fun q => by rcases q with q | q | q; exact c1 q; exact c2 q; exact c3 q)]
  exact ⟨h, rfl, rfl⟩
theorem s_X6_isWritable_L14 {g : GH} (uX uS : OS) (h : IX g uX) (hS : IS uS) : ∀ (n : Nat) (x : Int32), 0 ≤ x.toInt → x.toInt ≤ 1000 → (1000 - x.toInt).toNat < n → ok (f_X6_isWritable_L14 uX uS n x) (fun _ => True) := by
  intro n
  obtain ⟨_, l7, l6, _⟩ := h
  have en := nIt (n := uX.2.2.2 6) (by omega)
  induction n with
  | zero => intro x _ _ hn; omega
  | succ n ih =>
    intro x hx hx2 hn
    unfold f_X6_isWritable_L14
    refine ok_ite (fun _ => ok_some trivial) (fun c => ok_ite (fun _ => ok_some trivial) (fun d => ?_))
    have d1 := mt Int32.le_iff_toInt_le.mpr d
    rw [en] at d1
    have e1 := inc32 (x := x) (by omega)
    exact ok_gdi hx (by omega) (ok_oC1 (s_X4_shareOf uS _ hS) (fun r _ => ok_ite (fun _ => ok_some trivial) (fun _ => ok_bnd (ih _ (by omega) (by omega) (by omega)))))
theorem s_X6_isWritable {g : GH} (uX uS : OS) (h : IX g uX) (hS : IS uS) : ok (f_X6_isWritable uX uS) (fun _ => True) := by
  unfold f_X6_isWritable
  exact ok_ite (fun _ => ok_some trivial) (fun _ => s_X6_isWritable_L14 uX uS h hS FU _ (by decide) (by decide) (by decide))
def ph5 (q : OS × OS × OS × OS × Int32) : Nat := phS q.1 + phP q.2.2.1 + phO q.2.2.2.1
def I5 (q : OS × OS × OS × OS × Int32) : Prop := IS q.1 ∧ IW q.2.1 ∧ IP q.2.2.1 ∧ IO q.2.2.2.1
theorem s_X6_write {g : GH} (uX uS uW uP uO : OS) (h : IX g uX) (hS : IS uS) (hW : IW uW) (hP : IP uP) (hO : IO uO) : ok (f_X6_write uX uS uW uP uO) (CQ (fun q => I5 q ∧ SFr uS q.1) ph5 (phS uS + phP uP + phO uO)) := by
  unfold f_X6_write
  refine ok_oC1 (s_X6_isWritable uX uS h hS) (fun r _ => ok_ite (fun _ => CQ_some ⟨⟨hS, hW, hP, hO⟩, SFr.rf⟩ (Nat.le_refl _)) (fun _ => ok_oA4 (s_X5_writeRow uS uW uP uO _ _ _ _ hS hP hO h.2.2.1.2 h.2.1.1 h.2.2.2.1) (fun a b c d kc ks hq => CQ_add hq.2.1 hq.2.2 (CQ_some ⟨⟨hq.1.1.1, hq.1.1.2.1, hq.1.1.2.2.1, hq.1.1.2.2.2⟩, hq.1.2⟩ (Nat.le_refl _)))))
theorem s_X6_read (uX uR uZ uO : OS) (hR : IR uR) (hZ : IS uZ) (hO : IO uO) : ok (f_X6_read uX uR uZ uO) (CQ (fun q => IR q.1 ∧ IS q.2.1) phRZ3 (phR uR + phS uZ)) := by
  unfold f_X6_read
  exact ok_oA3 (s_X3_takeIn uR uZ uO hR hZ hO) (fun a b r kc ks hq => CQ_add hq.2.1 hq.2.2 (CQ_some hq.1 (Nat.le_refl _)))
theorem s_X6_sign (uX uR : OS) (p : Int32) (hR : IR uR) : ok (f_X6_sign uX uR p) (fun _ => True) := by
  unfold f_X6_sign
  exact ok_oC1 (s_X3_signAt uR p hR) (fun r _ => ok_some trivial)
theorem s_Lspread (uX uS uY : OS) (p : Int32) (hS : IS uS) : ok (f_Lspread uX uS uY p) (CQ (fun q => IS q.1 ∧ SFr uS q.1) (fun q => phS q.1 + 6) (phS uS)) := by
  unfold f_Lspread
  refine ok_ite (fun _ => ok_some ⟨⟨hS, SFr.rf⟩, by show 1 ≤ 6; decide, Nat.le_refl _⟩) (fun c => ?_)
  have c0 : ¬ p < (0 : Int32) := fun q => c (Or.inl q)
  have c1 : p < uS.1 1 := Classical.byContradiction (fun q => c (Or.inr q))
  unfold f_L_spread f_X6_spread
  rw [if_neg c0, if_pos c1]
  refine ok_oA2 (R := CQ (fun q => IS q.1 ∧ SFr uS q.1) (fun q => phS q.1) (phS uS)) (ok_ite (fun _ => CQ_some ⟨hS, SFr.rf⟩ (Nat.le_refl _)) (fun _ => ok_oA1 (s_X4_makeSpread uS hS) (fun s kc ks hs => CQ_add hs.2.1 hs.2.2 (ok_oC1 (s_X4_signAt s p hs.1.1) (fun r _ => CQ_some hs.1 (Nat.le_refl _)))))) (fun s r kc ks hs => CQ_add hs.2.1 hs.2.2 (ok_gdi (by decide) (by decide) (ok_bnd (CQ_some hs.1 (Nat.le_add_right _ _)))))
theorem s_X6_state (uX uW uR : OS) (p q : Int32) (hW : IW uW) (hR : IR uR) : ok (f_X6_state uX uW uR p q) (fun _ => True) := by
  have w := hW.2
  have r := hR.2.2.2.2
  unfold f_X6_state
  refine ok_ite (fun c => ok_ite (fun _ => ok_ite (fun _ => ok_some trivial) (fun _ => ok_ite (fun _ => ok_some trivial) (fun d => ?_))) (fun _ => ok_ite (fun _ => ok_ite (fun _ => ok_some trivial) (fun _ => ok_ite (fun _ => ok_some trivial) (fun d => ?_))) (fun _ => ok_some trivial))) (fun _ => ok_some trivial)
  · have c1 := Int32.le_iff_toInt_le.mp c
    have d1 := mt Int32.le_iff_toInt_le.mpr d
    rw [li_0] at c1
    exact ok_gdi c1 (by omega) (ok_some trivial)
  · have c1 := Int32.le_iff_toInt_le.mp c
    have d1 := mt Int32.le_iff_toInt_le.mpr d
    rw [li_0] at c1
    exact ok_gdi c1 (by omega) (ok_some trivial)
theorem s_X6_out (uX uO : OS) (p : Int32) (hO : IO uO) : ok (f_X6_out uX uO p) (fun _ => True) := by
  unfold f_X6_out
  exact ok_oC1 (s_X1_valueAt uO p hO) (fun r _ => ok_some trivial)
theorem s_X6_spoil (uX uO : OS) (p q : Int32) (hO : IO uO) : ok (f_X6_spoil uX uO p q) (fun o => IO o.1 ∧ phO o.1 = phO uO) := by
  unfold f_X6_spoil
  exact ok_ite (fun _ => ok_some ⟨hO, rfl⟩) (fun _ => ok_ite (fun _ => ok_oC2 (s_X1_change uO p q hO) (fun a b h => ok_some h)) (fun _ => ok_some ⟨hO, rfl⟩))
theorem s_X6_cut (uX uO : OS) (p : Int32) (hO : IO uO) : ok (f_X6_cut uX uO p) (fun o => IO o.1 ∧ phO o.1 = phO uO) := by
  unfold f_X6_cut
  refine ok_ite (fun _ => ok_some ⟨hO, rfl⟩) (fun c => ok_ite (fun d => ok_bnd (ok_some ⟨?_, rfl⟩)) (fun _ => ok_some ⟨hO, rfl⟩))
  have c1 := mt Int32.lt_iff_toInt_lt.mpr c
  have d1 := Int32.le_iff_toInt_le.mp d
  rw [li_0] at c1
  obtain ⟨h0, h1, h2, h3⟩ := hO
  have e : ((uO.1 1) - p).toInt = (uO.1 1).toInt - p.toInt := sub32 (by omega) (by omega)
  exact ⟨by show 0 ≤ ((uO.1 1) - p).toInt; omega, by show ((uO.1 1) - p).toInt ≤ ((uO.2.2.2 0 : Nat) : Int); omega, h2, h3⟩
theorem s_X6_octet (uX uO : OS) (p : Int32) (hO : IO uO) : ok (f_X6_octet uX uO p) (CQ (fun q => IO q.1) (fun q => phO q.1) (phO uO)) := by
  unfold f_X6_octet
  exact ok_oA2 (s_X1_append uO p hO) (fun a r kc ks ha => CQ_add ha.2.1 ha.2.2 (ok_ite (fun _ => CQ_some ha.1 (Nat.le_refl _)) (fun _ => CQ_some ha.1 (Nat.le_refl _))))
theorem s_X6_readIsRow_L2 {g : GH} (uX uR : OS) (h : IX g uX) (hR : IR uR) : ∀ (n : Nat) (x : Int32), 0 ≤ x.toInt → x.toInt ≤ 1000 → (1000 - x.toInt).toNat < n → ok (f_X6_readIsRow_L2 uX uR n x) (fun _ => True) := by
  intro n
  obtain ⟨_, l7, l6, _⟩ := h
  have en := nIt (n := uX.2.2.2 6) (by omega)
  induction n with
  | zero => intro x _ _ hn; omega
  | succ n ih =>
    intro x hx hx2 hn
    unfold f_X6_readIsRow_L2
    refine ok_ite (fun _ => ok_some trivial) (fun c => ok_ite (fun _ => ok_some trivial) (fun d => ?_))
    have d1 := mt Int32.le_iff_toInt_le.mpr d
    rw [en] at d1
    have e1 := inc32 (x := x) (by omega)
    exact ok_oC1 (s_X3_signAt uR x hR) (fun r _ => ok_gdi hx (by omega) (ok_ite (fun _ => ok_bnd (ih _ (by omega) (by omega) (by omega))) (fun _ => ok_some trivial)))
theorem s_X6_readIsRow {g : GH} (uX uR : OS) (h : IX g uX) (hR : IR uR) : ok (f_X6_readIsRow uX uR) (fun _ => True) := by
  unfold f_X6_readIsRow
  exact s_X6_readIsRow_L2 uX uR h hR FU _ (by decide) (by decide) (by decide)
def ph7 (q : OS × OS × OS × OS × OS × OS × Int32) : Nat := phS q.1 + phP q.2.2.1 + phR q.2.2.2.1 + phS q.2.2.2.2.1 + phO q.2.2.2.2.2.1
def I7 (q : OS × OS × OS × OS × OS × OS × Int32) : Prop := IS q.1 ∧ IW q.2.1 ∧ IP q.2.2.1 ∧ IR q.2.2.2.1 ∧ IS q.2.2.2.2.1 ∧ IO q.2.2.2.2.2.1
set_option maxHeartbeats 1000000 in
theorem s_X6_agree_L14 {g : GH} (uX : OS) (h : IX g uX) (K : Int32 → Int32 → OS → OS → OS → OS → OS → OS → Option ((OS × OS × OS × OS × OS × OS × Int32) × Nat × Nat)) (s0 : OS) (hK : ∀ a b s w p r z o, SFr s0 s → IS s → IW w → IP p → IR r → IS z → IO o → ok (K a b s w p r z o) (CQ (fun q => I7 q ∧ SFr s0 q.1) ph7 (phS s + phP p + phR r + phS z + phO o))) : ∀ (n : Nat) (x y : Int32) (s w p r z o : OS), 0 ≤ x.toInt → x.toInt ≤ 4 → (4 - x.toInt).toNat < n → SFr s0 s → IS s → IW w → IP p → IR r → IS z → IO o → ok (f_X6_agree_L14 uX n K x y s w p r z o) (CQ (fun q => I7 q ∧ SFr s0 q.1) ph7 (phS s + phP p + phR r + phS z + phO o)) := by
  intro n
  induction n with
  | zero => intro x y s w p r z o _ _ hn; omega
  | succ n ih =>
    intro x y s w p r z o hx hx2 hn hsf hs hw hp hr hz ho
    unfold f_X6_agree_L14
    refine ok_ite (fun _ => hK _ _ _ _ _ _ _ _ hsf hs hw hp hr hz ho) (fun c => ?_)
    have c1 := mt Int32.lt_iff_toInt_lt.mpr c
    rw [li_3] at c1
    have e1 := inc32 (x := x) (by omega)
    have m1 : 0 ≤ (x + (1 : Int32)).toInt ∧ (x + (1 : Int32)).toInt ≤ 4 ∧ (4 - (x + (1 : Int32)).toInt).toNat < n := by
      clear hK ih
      omega
    refine ok_oA4 (s_X5_writeRow s w p o _ _ _ _ hs hp ho h.2.2.1.2 h.2.1.1 h.2.2.2.1) (fun a b c d kc ks hq => CQ_add (b' := phS a + phP c + phR r + phS z + phO d) hq.2.1 ?_ (ok_oA3 (s_X3_takeIn r z d hr hz hq.1.1.2.2.2) (fun e f t kc2 ks2 ht => CQ_add (b' := phS a + phP c + phR e + phS f + phO d) ht.2.1 ?_ ?_)))
    · have q1 : phS s + phP p + phO o + ks ≤ phS a + phP c + phO d := hq.2.2
      clear hK ih
      omega
    · have q1 : phR r + phS z + ks2 ≤ phR e + phS f := ht.2.2
      clear hK ih
      omega
    · have go : ∀ y2 : Int32, ok (f_X6_agree_L14 uX n K (x + (1 : Int32)) y2 a b c e f d) (CQ (fun q => I7 q ∧ SFr s0 q.1) ph7 (phS a + phP c + phR e + phS f + phO d)) := fun y2 => ih _ _ _ _ _ _ _ _ m1.1 m1.2.1 m1.2.2 (hsf.tr hq.1.2) hq.1.1.1 hq.1.1.2.1 hq.1.1.2.2.1 ht.1.1 ht.1.2 hq.1.1.2.2.2
      exact ok_ite (fun _ => ok_oC1 (s_X6_readIsRow uX e h ht.1.1) (fun r _ => ok_ite (fun _ => ok_bnd (go _)) (fun _ => ok_bnd (go _)))) (fun _ => ok_bnd (go _))
theorem s_X6_agree {g : GH} (uX uS uW uP uR uZ uO : OS) (h : IX g uX) (hS : IS uS) (hW : IW uW) (hP : IP uP) (hR : IR uR) (hZ : IS uZ) (hO : IO uO) : ok (f_X6_agree uX uS uW uP uR uZ uO) (CQ (fun q => I7 q ∧ SFr uS q.1) ph7 (phS uS + phP uP + phR uR + phS uZ + phO uO)) := by
  unfold f_X6_agree
  exact ok_oC1 (s_X6_isWritable uX uS h hS) (fun r _ => ok_ite (fun _ => CQ_some ⟨⟨hS, hW, hP, hR, hZ, hO⟩, SFr.rf⟩ (Nat.le_refl _)) (fun _ => ok_bnd (s_X6_agree_L14 uX h _ uS (fun a b s w p r z o q0 q1 q2 q3 q4 q5 q6 => CQ_some ⟨⟨q1, q2, q3, q4, q5, q6⟩, q0⟩ (Nat.le_refl _)) FU _ _ _ _ _ _ _ _ (by decide) (by decide) (by decide) SFr.rf hS hW hP hR hZ hO)))
theorem s_X6_told (uX uS uR uO : OS) (p : Int32) : ok (f_X6_told uX uS uR uO p) (fun _ => True) := by
  unfold f_X6_told
  exact ok_ite (fun _ => ok_some trivial) (fun _ => ok_ite (fun _ => ok_some trivial) (fun _ => ok_ite (fun _ => ok_some trivial) (fun _ => ok_ite (fun _ => ok_some trivial) (fun _ => ok_ite (fun _ => ok_some trivial) (fun _ => ok_ite (fun _ => ok_some trivial) (fun _ => ok_ite (fun _ => ok_ite (fun _ => ok_some trivial) (fun _ => ok_some trivial)) (fun _ => ok_some trivial)))))))

-- ===== the model keeps its bounds =====
def psum (f : Nat → Int32) : Nat → Int
  | 0 => 0
  | n + 1 => psum f n + (f n).toInt
def shr (u : OS) (p : Nat) : Nat → Int32 := fun s => u.2.1 8 (32 * p + s)
def SH (u : OS) (p : Nat) (g : Int) : Prop := (∀ s, s < 32 → 0 ≤ (shr u p s).toInt) ∧ psum (shr u p) 32 = g
def LY (u : OS) (p : Nat) : Prop := ∀ s, s < 32 → (u.2.1 9 (32 * p + s)).toInt = psum (shr u p) s
-- what class and model share: form, lanes, the row's length, the row, the counts; the logarithm, whether there are shares, the shares
abbrev GH : Type := ((Int32 × Int32 × Int32) × (Nat → Int32) × (Nat → Int32)) × Int32 × Int32 × (Nat → Int32)
def GG (g : GH) (u : OS) : Prop := u.1 2 = g.1.1.1 ∧ u.1 3 = g.1.1.2.1 ∧ u.1 5 = g.1.1.2.2 ∧ u.2.1 4 = g.1.2.1 ∧ u.2.1 6 = g.1.2.2
def IM (g : GH) (u : OS) : Prop :=
  (5 ≤ (u.1 0).toInt ∧ (u.1 0).toInt ≤ 12) ∧ (0 ≤ (u.1 2).toInt ∧ (u.1 2).toInt ≤ 3) ∧ ((u.1 3).toInt = 1 ∨ (u.1 3).toInt = 2 ∨ (u.1 3).toInt = 4) ∧
  (∀ i, 0 ≤ (u.2.1 4 i).toInt ∧ (u.2.1 4 i).toInt < 32) ∧ (0 ≤ (u.1 5).toInt ∧ (u.1 5).toInt ≤ 1000) ∧ (u.2.1 10 0 = u.1 0 ∧ u.1 0 = g.2.1) ∧
  ((u.1 7 = 0 ∨ (u.1 7 = 1 ∧ SH u 0 (2 ^ (u.1 0).toInt.toNat) ∧ LY u 0)) ∧ u.1 7 = g.2.2.1 ∧ (∀ i, i < 32 → u.2.1 8 i = g.2.2.2 i)) ∧ (0 ≤ (u.1 15).toInt ∧ (u.1 15).toInt ≤ 20000) ∧
  (∀ i, 0 ≤ (u.2.1 14 i).toInt ∧ (u.2.1 14 i).toInt ≤ 255) ∧ (0 ≤ (u.1 18).toInt ∧ (u.1 18).toInt ≤ 4 ∧ GG g u) ∧ (0 ≤ (u.1 25).toInt ∧ (u.1 25).toInt ≤ 65535) ∧
  (u.1 32 = 0 ∨ (u.1 31).toInt ≤ 4) ∧ (∀ i, 0 ≤ (u.2.1 11 i).toInt ∧ (u.2.1 11 i).toInt < 32) ∧ (∀ i, 0 ≤ (u.2.1 13 i).toInt ∧ (u.2.1 13 i).toInt < 4096)
def g_add (g : GH) (p : Int32) : GH × Int32 := if p < (0 : Int32) then (g, -1) else if p < (32 : Int32) then (if g.1.1.2.2 = (1000 : Int32) then (g, -3) else ((((g.1.1.1, g.1.1.2.1, g.1.1.2.2 + (1 : Int32)), upd g.1.2.1 g.1.1.2.2.toNatClampNeg p, g.1.2.2), g.2), g.1.1.2.2 + (1 : Int32))) else (g, -1)
def g_count (g : GH) (p q : Int32) : GH × Int32 := if p < (0 : Int32) then (g, -1) else if (32 : Int32) ≤ p then (g, -1) else if q < (0 : Int32) then (g, -1) else if q ≤ (1000000 : Int32) then (((g.1.1, g.1.2.1, upd g.1.2.2 p.toNatClampNeg q), g.2.1, (0 : Int32), g.2.2.2), g.1.2.2 p.toNatClampNeg) else (g, -1)
def g_form (g : GH) (p : Int32) : GH × Int32 := if p < (0 : Int32) then (g, -1) else if p ≤ (3 : Int32) then ((((p, g.1.1.2.1, g.1.1.2.2), g.1.2.1, g.1.2.2), g.2), g.1.1.1) else (g, -1)
def g_lanes (g : GH) (p : Int32) : GH × Int32 := if p = (1 : Int32) ∨ p = (2 : Int32) ∨ p = (4 : Int32) then ((((g.1.1.1, p, g.1.1.2.2), g.1.2.1, g.1.2.2), g.2), g.1.1.2.1) else (g, -1)
def g_clear (g : GH) : GH × Int32 := ((((g.1.1.1, g.1.1.2.1, (0 : Int32)), g.1.2.1, g.1.2.2), g.2), g.1.1.2.2)
theorem g_add_2 (g : GH) (p : Int32) : (g_add g p).1.2 = g.2 := by
  unfold g_add
  by_cases a : p < (0 : Int32)
  · rw [if_pos a]
  · rw [if_neg a]
    by_cases b : p < (32 : Int32)
    · rw [if_pos b]
      by_cases c : g.1.1.2.2 = (1000 : Int32)
      · rw [if_pos c]
      · rw [if_neg c]
    · rw [if_neg b]
theorem g_count_2 (g : GH) (p q : Int32) : (g_count g p q).1.2.1 = g.2.1 := by
  unfold g_count
  by_cases a : p < (0 : Int32)
  · rw [if_pos a]
  · rw [if_neg a]
    by_cases b : (32 : Int32) ≤ p
    · rw [if_pos b]
    · rw [if_neg b]
      by_cases c : q < (0 : Int32)
      · rw [if_pos c]
      · rw [if_neg c]
        by_cases d : q ≤ (1000000 : Int32)
        · rw [if_pos d]
        · rw [if_neg d]
theorem g_form_2 (g : GH) (p : Int32) : (g_form g p).1.2 = g.2 := by
  unfold g_form
  by_cases a : p < (0 : Int32)
  · rw [if_pos a]
  · rw [if_neg a]
    by_cases b : p ≤ (3 : Int32)
    · rw [if_pos b]
    · rw [if_neg b]
theorem g_lanes_2 (g : GH) (p : Int32) : (g_lanes g p).1.2 = g.2 := by
  unfold g_lanes
  by_cases a : p = (1 : Int32) ∨ p = (2 : Int32) ∨ p = (4 : Int32)
  · rw [if_pos a]
  · rw [if_neg a]
theorem g_add_c (g : GH) (p : Int32) : (g_add g p).1.1.2.2 = g.1.2.2 := by
  unfold g_add
  by_cases a : p < (0 : Int32)
  · rw [if_pos a]
  · rw [if_neg a]
    by_cases b : p < (32 : Int32)
    · rw [if_pos b]
      by_cases c : g.1.1.2.2 = (1000 : Int32)
      · rw [if_pos c]
      · rw [if_neg c]
    · rw [if_neg b]
theorem g_form_c (g : GH) (p : Int32) : (g_form g p).1.1.2.2 = g.1.2.2 := by
  unfold g_form
  by_cases a : p < (0 : Int32)
  · rw [if_pos a]
  · rw [if_neg a]
    by_cases b : p ≤ (3 : Int32)
    · rw [if_pos b]
    · rw [if_neg b]
theorem g_lanes_c (g : GH) (p : Int32) : (g_lanes g p).1.1.2.2 = g.1.2.2 := by
  unfold g_lanes
  by_cases a : p = (1 : Int32) ∨ p = (2 : Int32) ∨ p = (4 : Int32)
  · rw [if_pos a]
  · rw [if_neg a]
theorem IM_g {g : GH} {u : OS} (h : IM g u) : GG g u := h.2.2.2.2.2.2.2.2.2.1.2.2
theorem s_X7_add {g : GH} (u : OS) (p : Int32) (h : IM g u) : ok (f_X7_add u p) (fun q => IM (g_add g p).1 q.1 ∧ q.2 = (g_add g p).2) := by
  have hg := IM_g h
  unfold f_X7_add g_add
  refine ok_bnd (ok_ite (fun c => by rw [if_pos c]; exact ok_some ⟨h, rfl⟩) (fun c => ok_ite (fun c2 => ok_ite (fun c3 => ?_) (fun c3 => ?_)) (fun c2 => by rw [if_neg c, if_neg c2]; exact ok_some ⟨h, rfl⟩)))
  · have c3 : u.1 5 = (1000 : Int32) := c3
    rw [if_neg c, if_pos c2, if_pos (hg.2.2.1.symm.trans c3)]
    exact ok_some ⟨h, rfl⟩
  have c3 : ¬ u.1 5 = (1000 : Int32) := c3
  rw [if_neg c, if_pos c2, if_neg (fun q => c3 (hg.2.2.1.trans q))]
  obtain ⟨h0, h2, h3, h4, h5, h10, h7, h15, h14, h18, h25, h32, h11, h13⟩ := h
  have c4 := ne32 c3
  refine ok_gdi (i := u.1 5) h5.1 (by ((try simp only [Int32.lt_iff_toInt_lt, Int32.le_iff_toInt_le, Int32.not_lt, Int32.not_le, li_0, li_1, li_2, li_3, li_4, li_5, li_6, li_7, li_8, li_10, li_12, li_15, li_16, li_20, li_30, li_31, li_32, li_33, li_63, li_64, li_128, li_255, li_256, li_1000, li_4096, li_8000, li_8192, li_20000, li_65535, li_65536, li_70000, li_1000000, lim_1, lim_2, lim_3, lim_10] at *) <;> omega)) ?_
  refine ok_bnd (ok_bnd (ok_some ⟨?_, ?_⟩))
  refine ⟨h0, h2, h3, ?_, ?_, h10, h7, h15, h14, ⟨h18.1, h18.2.1, ?_⟩, h25, h32, h11, h13⟩
  · intro i
    show 0 ≤ (upd (u.2.1 4) (u.1 5).toNatClampNeg p i).toInt ∧ (upd (u.2.1 4) (u.1 5).toNatClampNeg p i).toInt < 32
    unfold upd
    by_cases e : i = (u.1 5).toNatClampNeg
    · rw [if_pos e]
      constructor <;> ((try simp only [Int32.lt_iff_toInt_lt, Int32.le_iff_toInt_le, Int32.not_lt, Int32.not_le, li_0, li_1, li_2, li_3, li_4, li_5, li_6, li_7, li_8, li_10, li_12, li_15, li_16, li_20, li_30, li_31, li_32, li_33, li_63, li_64, li_128, li_255, li_256, li_1000, li_4096, li_8000, li_8192, li_20000, li_65535, li_65536, li_70000, li_1000000, lim_1, lim_2, lim_3, lim_10] at *) <;> omega)
    · rw [if_neg e]
      exact h4 i
  · show 0 ≤ (u.1 5 + (1 : Int32)).toInt ∧ (u.1 5 + (1 : Int32)).toInt ≤ 1000
    rw [inc32 (by omega)]
    constructor <;> ((try simp only [Int32.lt_iff_toInt_lt, Int32.le_iff_toInt_le, Int32.not_lt, Int32.not_le, li_0, li_1, li_2, li_3, li_4, li_5, li_6, li_7, li_8, li_10, li_12, li_15, li_16, li_20, li_30, li_31, li_32, li_33, li_63, li_64, li_128, li_255, li_256, li_1000, li_4096, li_8000, li_8192, li_20000, li_65535, li_65536, li_70000, li_1000000, lim_1, lim_2, lim_3, lim_10] at *) <;> omega)
  · obtain ⟨a, b, c, d, e⟩ := hg
    refine ⟨a, b, ?_, ?_, e⟩
    · show u.1 5 + (1 : Int32) = _
      rw [c]
    · show upd (u.2.1 4) (u.1 5).toNatClampNeg p = _
      rw [c, d]
  · show u.1 5 + (1 : Int32) = _
    rw [hg.2.2.1]
theorem s_X7_clear {g : GH} (u : OS) (h : IM g u) : ok (f_X7_clear u) (fun q => IM (g_clear g).1 q.1 ∧ q.2 = (g_clear g).2) := by
  have hg := IM_g h
  obtain ⟨h0, h2, h3, h4, h5, h10, h7, h15, h14, h18, h25, h32, h11, h13⟩ := h
  unfold f_X7_clear g_clear
  exact ok_bnd (ok_bnd (ok_bnd (ok_some ⟨⟨h0, h2, h3, h4, (by show 0 ≤ (0 : Int32).toInt ∧ (0 : Int32).toInt ≤ 1000; decide), h10, h7, h15, h14, ⟨h18.1, h18.2.1, hg.1, hg.2.1, rfl, hg.2.2.2.1, hg.2.2.2.2⟩, h25, h32, h11, h13⟩, hg.2.2.1⟩)))
theorem s_X7_count {g : GH} (u : OS) (p q : Int32) (h : IM g u) : ok (f_X7_count u p q) (fun o => IM (g_count g p q).1 o.1 ∧ o.2 = (g_count g p q).2) := by
  have hg := IM_g h
  unfold f_X7_count g_count
  refine ok_bnd (ok_ite (fun c => by rw [if_pos c]; exact ok_some ⟨h, rfl⟩) (fun c => ok_ite (fun c2 => by rw [if_neg c, if_pos c2]; exact ok_some ⟨h, rfl⟩) (fun c2 => ok_ite (fun c3 => by rw [if_neg c, if_neg c2, if_pos c3]; exact ok_some ⟨h, rfl⟩) (fun c3 => ok_ite (fun c4 => ?_) (fun c4 => by rw [if_neg c, if_neg c2, if_neg c3, if_neg c4]; exact ok_some ⟨h, rfl⟩)))))
  rw [if_neg c, if_neg c2, if_neg c3, if_pos c4]
  obtain ⟨h0, h2, h3, h4, h5, h10, h7, h15, h14, h18, h25, h32, h11, h13⟩ := h
  refine ok_gdi (by ((try simp only [Int32.lt_iff_toInt_lt, Int32.le_iff_toInt_le, Int32.not_lt, Int32.not_le, li_0, li_1, li_2, li_3, li_4, li_5, li_6, li_7, li_8, li_10, li_12, li_15, li_16, li_20, li_30, li_31, li_32, li_33, li_63, li_64, li_128, li_255, li_256, li_1000, li_4096, li_8000, li_8192, li_20000, li_65535, li_65536, li_70000, li_1000000, lim_1, lim_2, lim_3, lim_10] at *) <;> omega)) (by ((try simp only [Int32.lt_iff_toInt_lt, Int32.le_iff_toInt_le, Int32.not_lt, Int32.not_le, li_0, li_1, li_2, li_3, li_4, li_5, li_6, li_7, li_8, li_10, li_12, li_15, li_16, li_20, li_30, li_31, li_32, li_33, li_63, li_64, li_128, li_255, li_256, li_1000, li_4096, li_8000, li_8192, li_20000, li_65535, li_65536, li_70000, li_1000000, lim_1, lim_2, lim_3, lim_10] at *) <;> omega)) (ok_bnd (ok_gdi (by ((try simp only [Int32.lt_iff_toInt_lt, Int32.le_iff_toInt_le, Int32.not_lt, Int32.not_le, li_0, li_1, li_2, li_3, li_4, li_5, li_6, li_7, li_8, li_10, li_12, li_15, li_16, li_20, li_30, li_31, li_32, li_33, li_63, li_64, li_128, li_255, li_256, li_1000, li_4096, li_8000, li_8192, li_20000, li_65535, li_65536, li_70000, li_1000000, lim_1, lim_2, lim_3, lim_10] at *) <;> omega)) (by ((try simp only [Int32.lt_iff_toInt_lt, Int32.le_iff_toInt_le, Int32.not_lt, Int32.not_le, li_0, li_1, li_2, li_3, li_4, li_5, li_6, li_7, li_8, li_10, li_12, li_15, li_16, li_20, li_30, li_31, li_32, li_33, li_63, li_64, li_128, li_255, li_256, li_1000, li_4096, li_8000, li_8192, li_20000, li_65535, li_65536, li_70000, li_1000000, lim_1, lim_2, lim_3, lim_10] at *) <;> omega)) (ok_bnd (ok_bnd (ok_some ⟨?_, ?_⟩)))))
  · refine ⟨h0, h2, h3, h4, h5, h10, ⟨Or.inl rfl, rfl, h7.2.2⟩, h15, h14, ⟨h18.1, h18.2.1, hg.1, hg.2.1, hg.2.2.1, hg.2.2.2.1, ?_⟩, h25, h32, h11, h13⟩
    show upd (u.2.1 6) p.toNatClampNeg q = _
    rw [hg.2.2.2.2]
  · show u.2.1 6 p.toNatClampNeg = _
    rw [hg.2.2.2.2]
def cpos (f : Nat → Int32) : Nat → Int
  | 0 => 0
  | n + 1 => cpos f n + if 0 < (f n).toInt then 1 else 0
theorem cpos_b (f : Nat → Int32) : ∀ n : Nat, 0 ≤ cpos f n ∧ cpos f n ≤ n
  | 0 => ⟨Int.le_refl _, Int.le_refl _⟩
  | n + 1 => by
    have h := cpos_b f n
    unfold cpos
    by_cases c : 0 < (f n).toInt
    · rw [if_pos c]; omega
    · rw [if_neg c]; omega
theorem cpos_ex (f : Nat → Int32) : ∀ n : Nat, 0 < cpos f n → ∃ s, s < n ∧ 0 < (f s).toInt
  | 0 => fun h => absurd (show (0 : Int) < 0 from h) (by decide)
  | n + 1 => fun h => by
    by_cases c : 0 < (f n).toInt
    · exact ⟨n, Nat.lt_succ_self n, c⟩
    · unfold cpos at h
      rw [if_neg c] at h
      obtain ⟨s, h1, h2⟩ := cpos_ex f n (by omega)
      exact ⟨s, by omega, h2⟩
theorem s_X7_signsCounted_L4 (u : OS) {Q : Int32 → Prop} (K : Int32 → Int32 → Option Int32) (hK : ∀ a b : Int32, a.toInt = cpos (u.2.1 6) 32 → ok (K a b) Q) : ∀ (n : Nat) (x y : Int32), 0 ≤ x.toInt → x.toInt ≤ 32 → (32 - x.toInt).toNat < n → y.toInt = cpos (u.2.1 6) x.toNatClampNeg → ok (f_X7_signsCounted_L4 u n K x y) Q := by
  intro n
  induction n with
  | zero => intro x y _ _ hn; omega
  | succ n ih =>
    intro x y hx hx2 hn hs
    unfold f_X7_signsCounted_L4
    have e0 : x.toNatClampNeg = x.toInt.toNat := rfl
    refine ok_ite (fun c => hK _ _ ?_) (fun c => ?_)
    · have c1 : (32 : Int) ≤ x.toInt := by ((try simp only [Int32.lt_iff_toInt_lt, Int32.le_iff_toInt_le, Int32.not_lt, Int32.not_le, li_0, li_1, li_2, li_3, li_4, li_5, li_6, li_7, li_8, li_10, li_12, li_15, li_16, li_20, li_30, li_31, li_32, li_33, li_63, li_64, li_128, li_255, li_256, li_1000, li_4096, li_8000, li_8192, li_20000, li_65535, li_65536, li_70000, li_1000000, lim_1, lim_2, lim_3, lim_10] at *) <;> omega)
      rw [hs]
      congr 1
      omega
    · have c1 : x.toInt < 32 := by ((try simp only [Int32.lt_iff_toInt_lt, Int32.le_iff_toInt_le, Int32.not_lt, Int32.not_le, li_0, li_1, li_2, li_3, li_4, li_5, li_6, li_7, li_8, li_10, li_12, li_15, li_16, li_20, li_30, li_31, li_32, li_33, li_63, li_64, li_128, li_255, li_256, li_1000, li_4096, li_8000, li_8192, li_20000, li_65535, li_65536, li_70000, li_1000000, lim_1, lim_2, lim_3, lim_10] at *) <;> omega)
      have e1 := inc32 (x := x) (by omega)
      have e2 : (x + (1 : Int32)).toNatClampNeg = x.toNatClampNeg + 1 := by
        show (x + (1 : Int32)).toInt.toNat = x.toInt.toNat + 1
        omega
      have b := cpos_b (u.2.1 6) x.toNatClampNeg
      refine ok_gdi hx (by omega) (ok_ite (fun d => ok_bnd (ok_bnd ?_)) (fun d => ok_bnd (ok_bnd ?_)))
      · have d1 : ¬ 0 < (u.2.1 6 x.toNatClampNeg).toInt := by ((try simp only [Int32.lt_iff_toInt_lt, Int32.le_iff_toInt_le, Int32.not_lt, Int32.not_le, li_0, li_1, li_2, li_3, li_4, li_5, li_6, li_7, li_8, li_10, li_12, li_15, li_16, li_20, li_30, li_31, li_32, li_33, li_63, li_64, li_128, li_255, li_256, li_1000, li_4096, li_8000, li_8192, li_20000, li_65535, li_65536, li_70000, li_1000000, lim_1, lim_2, lim_3, lim_10] at *) <;> omega)
        have e0 : y + (0 : Int32) = y := Int32.add_zero y
        rw [e0]
        refine ih _ _ (by omega) (by omega) (by omega) ?_
        rw [e2]
        unfold cpos
        rw [if_neg d1, hs]
        omega
      · have d1 : 0 < (u.2.1 6 x.toNatClampNeg).toInt := by ((try simp only [Int32.lt_iff_toInt_lt, Int32.le_iff_toInt_le, Int32.not_lt, Int32.not_le, li_0, li_1, li_2, li_3, li_4, li_5, li_6, li_7, li_8, li_10, li_12, li_15, li_16, li_20, li_30, li_31, li_32, li_33, li_63, li_64, li_128, li_255, li_256, li_1000, li_4096, li_8000, li_8192, li_20000, li_65535, li_65536, li_70000, li_1000000, lim_1, lim_2, lim_3, lim_10] at *) <;> omega)
        have e3 := inc32 (x := y) (by omega)
        refine ih _ _ (by omega) (by omega) (by omega) ?_
        rw [e2]
        unfold cpos
        rw [if_pos d1, e3, hs]
theorem s_X7_signsCounted (u : OS) : ok (f_X7_signsCounted u) (fun a => a.toInt = cpos (u.2.1 6) 32) := by
  unfold f_X7_signsCounted
  exact ok_bnd (s_X7_signsCounted_L4 u _ (fun a b h => ok_some h) FU 0 0 (by decide) (by decide) (by decide) (show (0 : Int32).toInt = (0 : Int) by decide))

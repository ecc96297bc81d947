theorem shr32 (a : Int32) (k : Nat) (hk : k < 32) : (a >>> (nI k &&& (31 : Int32))).toInt = a.toInt / ((2 ^ k : Nat) : Int) := by
  have e : ∀ k, k < 32 → ((nI k &&& (31 : Int32)).toBitVec.smod 32).toNat = k := by decide
  show ((a >>> (nI k &&& (31 : Int32))).toBitVec).toInt = _
  rw [Int32.toBitVec_shiftRight, BitVec.toInt_sshiftRight', e k hk, Int.shiftRight_eq_div_pow]
  rfl
theorem nI_ex {x : Int32} (h : 0 ≤ x.toInt) : ∃ k : Nat, x = nI k ∧ (k : Int) = x.toInt ∧ k < 2 ^ 31 := by
  have h2 := i32_hi x
  have h3 : x.toInt.toNat < 2 ^ 31 := by omega
  refine ⟨x.toInt.toNat, ?_, by omega, h3⟩
  apply Int32.toInt_inj.mp
  rw [nI_toInt h3]
  omega
theorem IM_7 {g : GH} {u : OS} (h : IM g u) : IM (g.1, g.2.1, (0 : Int32), g.2.2.2) (sF u 7 (0 : Int32)) := by
  obtain ⟨h0, h2, h3, h4, h5, h10, h7, h15, h14, h18, h25, h32, h11, h13⟩ := h
  exact ⟨h0, h2, h3, h4, h5, h10, ⟨Or.inl rfl, rfl, h7.2.2⟩, h15, h14, h18, h25, h32, h11, h13⟩
theorem IM_1 {g : GH} {u : OS} {v : Int32} (h : IM g u) : IM g (sF u 1 v) := h
def cntr (row c0 : Nat → Int32) : Nat → Nat → Int32
  | 0 => c0
  | n + 1 => upd (cntr row c0 n) (row n).toNatClampNeg (cntr row c0 n (row n).toNatClampNeg + (1 : Int32))
def g_counts (g : GH) : GH := ((g.1.1, g.1.2.1, cntr g.1.2.1 (flI 32 g.1.2.2 (0 : Int32)) g.1.1.2.2.toNatClampNeg), g.2.1, (0 : Int32), g.2.2.2)
theorem flI_s (n : Nat) (f : Nat → Int32) (v : Int32) : upd (flI n f v) n v = flI (n + 1) f v := by
  funext j
  unfold upd flI
  by_cases e : j = n
  · rw [if_pos e, if_pos (by omega)]
  · rw [if_neg e]
    by_cases e2 : j < n
    · rw [if_pos e2, if_pos (by omega)]
    · rw [if_neg e2, if_neg (by omega)]
theorem IM_6 {g : GH} {u : OS} {i v : Int32} (h : IM g u) : IM ((g.1.1, g.1.2.1, upd g.1.2.2 i.toNatClampNeg v), g.2) (sA u 6 i v) := by
  have hg := IM_g h
  obtain ⟨h0, h2, h3, h4, h5, h10, h7, h15, h14, h18, h25, h32, h11, h13⟩ := h
  refine ⟨h0, h2, h3, h4, h5, h10, h7, h15, h14, ⟨h18.1, h18.2.1, hg.1, hg.2.1, hg.2.2.1, hg.2.2.2.1, ?_⟩, h25, h32, h11, h13⟩
  show upd (u.2.1 6) i.toNatClampNeg v = _
  rw [hg.2.2.2.2]
theorem s_X7_counts_L28 {g : GH} {Q : OS × Int32 → Prop} (K : Int32 → OS → Option (OS × Int32)) (hK : ∀ x u, IM ((g.1.1, g.1.2.1, cntr g.1.2.1 g.1.2.2 g.1.1.2.2.toNatClampNeg), g.2) u → ok (K x u) Q) : ∀ (n : Nat) (x : Int32) (u : OS), IM ((g.1.1, g.1.2.1, cntr g.1.2.1 g.1.2.2 x.toNatClampNeg), g.2) u → 0 ≤ x.toInt → x.toInt ≤ g.1.1.2.2.toInt → (1000 - x.toInt).toNat < n → ok (f_X7_counts_L28 n K x u) Q := by
  intro n
  induction n with
  | zero => intro x u _ _ _ hn; omega
  | succ n ih =>
    intro x u h hx hx2 hn
    have hg := IM_g h
    unfold f_X7_counts_L28
    have e5 : u.1 5 = g.1.1.2.2 := hg.2.2.1
    have h5 : (u.1 5).toInt ≤ 1000 := h.2.2.2.2.1.2
    refine ok_ite (fun c => hK _ _ ?_) (fun c => ?_)
    · have c1 := Int32.le_iff_toInt_le.mp c
      rw [e5] at c1
      have ex : x.toNatClampNeg = g.1.1.2.2.toNatClampNeg := by
        show x.toInt.toNat = g.1.1.2.2.toInt.toNat
        omega
      rw [← ex]
      exact h
    · have c1 : x.toInt < (u.1 5).toInt := by
        have := mt Int32.le_iff_toInt_le.mpr c
        omega
      have e1 := inc32 (x := x) (by omega)
      have en : (x + (1 : Int32)).toNatClampNeg = x.toNatClampNeg + 1 := by
        show (x + (1 : Int32)).toInt.toNat = x.toInt.toNat + 1
        omega
      have r := h.2.2.2.1 x.toNatClampNeg
      have e4 : u.2.1 4 = g.1.2.1 := hg.2.2.2.1
      have e6 : u.2.1 6 = cntr g.1.2.1 g.1.2.2 x.toNatClampNeg := hg.2.2.2.2
      refine ok_gdi hx (by omega) (ok_gdi r.1 r.2 (ok_gdi r.1 r.2 (ok_bnd (ok_bnd (ih _ _ ?_ (by omega) (by rw [← e5]; omega) (by omega))))))
      have q := IM_6 (i := u.2.1 4 x.toNatClampNeg) (v := u.2.1 6 (u.2.1 4 x.toNatClampNeg).toNatClampNeg + (1 : Int32)) h
      rw [en]
      have eq : cntr g.1.2.1 g.1.2.2 (x.toNatClampNeg + 1) = upd (cntr g.1.2.1 g.1.2.2 x.toNatClampNeg) (u.2.1 4 x.toNatClampNeg).toNatClampNeg (u.2.1 6 (u.2.1 4 x.toNatClampNeg).toNatClampNeg + (1 : Int32)) := by
        rw [e4, e6]
        rfl
      rw [eq]
      exact q
theorem s_X7_counts_L7 {g : GH} {Q : OS × Int32 → Prop} (K : Int32 → OS → Option (OS × Int32)) (hK : ∀ x u, IM ((g.1.1, g.1.2.1, flI 32 g.1.2.2 (0 : Int32)), g.2) u → ok (K x u) Q) : ∀ (n : Nat) (x : Int32) (u : OS), IM ((g.1.1, g.1.2.1, flI x.toNatClampNeg g.1.2.2 (0 : Int32)), g.2) u → 0 ≤ x.toInt → x.toInt ≤ 32 → (32 - x.toInt).toNat < n → ok (f_X7_counts_L7 n K x u) Q := by
  intro n
  induction n with
  | zero => intro x u _ _ _ hn; omega
  | succ n ih =>
    intro x u h hx hx2 hn
    unfold f_X7_counts_L7
    refine ok_ite (fun c => hK _ _ ?_) (fun c => ?_)
    · have c1 := Int32.le_iff_toInt_le.mp c
      rw [li_32] at c1
      have ex : x.toNatClampNeg = 32 := by
        show x.toInt.toNat = 32
        omega
      rw [ex] at h
      exact h
    · have c1 : x.toInt < 32 := by ((try simp only [Int32.lt_iff_toInt_lt, Int32.le_iff_toInt_le, Int32.not_lt, Int32.not_le, li_0, li_1, li_2, li_3, li_4, li_5, li_6, li_7, li_8, li_10, li_12, li_15, li_16, li_20, li_30, li_31, li_32, li_33, li_63, li_64, li_128, li_255, li_256, li_1000, li_4096, li_8000, li_8192, li_20000, li_65535, li_65536, li_70000, li_1000000, lim_1, lim_2, lim_3, lim_10] at *) <;> omega)
      have e1 := inc32 (x := x) (by omega)
      have en : (x + (1 : Int32)).toNatClampNeg = x.toNatClampNeg + 1 := by
        show (x + (1 : Int32)).toInt.toNat = x.toInt.toNat + 1
        omega
      refine ok_gdi hx (by omega) (ok_bnd (ok_bnd (ih _ _ ?_ (by omega) (by omega) (by omega))))
      have q := IM_6 (i := x) (v := (0 : Int32)) h
      rw [en, ← flI_s]
      exact q
theorem s_X7_counts {g : GH} (u : OS) (h : IM g u) : ok (f_X7_counts u) (fun q => IM (g_counts g) q.1 ∧ q.2.toInt = cpos (g_counts g).1.2.2 32) := by
  have h5 := h.2.2.2.2.1.1
  have hg := IM_g h
  rw [hg.2.2.1] at h5
  unfold f_X7_counts
  refine ok_bnd (ok_bnd (s_X7_counts_L7 (g := g) _ ?_ FU _ _ ?_ (by decide) (by decide) (by decide)))
  · intro x u h
    refine ok_bnd (s_X7_counts_L28 (g := ((g.1.1, g.1.2.1, flI 32 g.1.2.2 (0 : Int32)), g.2)) _ ?_ FU _ _ h (by decide) (by rw [li_0]; exact h5) (by decide))
    intro x u h
    have hc : u.2.1 6 = (g_counts g).1.2.2 := (IM_g h).2.2.2.2
    refine ok_bnd (ok_oC1 (s_X7_signsCounted _) (fun z hz => ok_some ⟨IM_7 h, ?_⟩))
    rw [← hc]
    exact hz
  · have e : flI (0 : Int32).toNatClampNeg g.1.2.2 (0 : Int32) = g.1.2.2 := by
      funext j
      exact if_neg (Nat.not_lt_zero j)
    rw [e]
    exact h
theorem s_X7_logarithm_L30 {Q : Int64 → Prop} (K : Int64 → Int64 → Int32 → Option Int64) (hK : ∀ a b x, ok (K a b x) Q) : ∀ (n : Nat) (x : Int32) (y z : Int64), 0 ≤ x.toInt → x.toInt ≤ 30 → (30 - x.toInt).toNat < n → ok (f_X7_logarithm_L30 n K x y z) Q := by
  intro n
  induction n with
  | zero => intro x _ _ _ _ hn; omega
  | succ n ih =>
    intro x y z hx hx2 hn
    unfold f_X7_logarithm_L30
    refine ok_ite (fun c => hK _ _ _) (fun c => ?_)
    have c1 : x.toInt < 30 := by ((try simp only [Int32.lt_iff_toInt_lt, Int32.le_iff_toInt_le, Int32.not_lt, Int32.not_le, li_0, li_1, li_2, li_3, li_4, li_5, li_6, li_7, li_8, li_10, li_12, li_15, li_16, li_20, li_30, li_31, li_32, li_33, li_63, li_64, li_128, li_255, li_256, li_1000, li_4096, li_8000, li_8192, li_20000, li_65535, li_65536, li_70000, li_1000000, lim_1, lim_2, lim_3, lim_10] at *) <;> omega)
    have e1 := inc32 (x := x) (by omega)
    refine ok_bnd (ok_bnd (ok_ite (fun _ => ok_bnd (ok_bnd (ok_bnd (ih _ _ _ (by omega) (by omega) (by omega))))) (fun _ => ok_bnd (ok_bnd (ok_bnd (ih _ _ _ (by omega) (by omega) (by omega)))))))
theorem s_X7_logarithm_L2 (p : Int32) {Q : Int64 → Prop} (K : Int32 → Option Int64) (hK : ∀ x, ok (K x) Q) : ∀ (n : Nat) (x : Int32), 0 ≤ x.toInt → x.toInt ≤ 31 → (31 - x.toInt).toNat < n → ok (f_X7_logarithm_L2 p n K x) Q := by
  intro n
  induction n with
  | zero => intro x _ _ hn; omega
  | succ n ih =>
    intro x hx hx2 hn
    unfold f_X7_logarithm_L2
    refine ok_ite (fun c => hK _) (fun c => ?_)
    have c1 : x.toInt < 31 := by
      rcases Int.lt_or_le x.toInt 31 with q | q
      · exact q
      · exfalso
        obtain ⟨k, e, e2, _⟩ := nI_ex hx
        subst e
        have hk : k = 31 := by omega
        subst hk
        have e3 := shr32 p 31 (by decide)
        have e4 := i32_hi p
        have e5 : ((2 ^ 31 : Nat) : Int) = 2147483648 := by decide
        rw [e5] at e3
        apply c
        rw [Int32.le_iff_toInt_le, li_1, e3]
        omega
    have e1 := inc32 (x := x) (by omega)
    exact ok_bnd (ih _ (by omega) (by omega) (by omega))
theorem s_X7_logarithm (p : Int32) : ok (f_X7_logarithm p) (fun _ => True) := by
  unfold f_X7_logarithm
  refine ok_bnd (s_X7_logarithm_L2 p _ ?_ FU _ (by decide) (by decide) (by decide))
  intro x
  refine ok_bnd (ok_bnd (ok_bnd (s_X7_logarithm_L30 _ (fun a b x => ok_some trivial) FU _ _ _ (by decide) (by decide) (by decide))))
-- what lg answers
def OFV (lg p : Int32) (y : Int64) : Prop := (p < (1 : Int32) ∧ y = -1) ∨ (¬ p < (1 : Int32) ∧ p ≤ ((1 : Int32) <<< (lg &&& (31 : Int32))) ∧ f_X7_logarithm p = some y) ∨ (¬ p < (1 : Int32) ∧ ¬ p ≤ ((1 : Int32) <<< (lg &&& (31 : Int32))) ∧ y = -1)
theorem OFV.eq {lg p : Int32} {y z : Int64} (h1 : OFV lg p y) (h2 : OFV lg p z) : y = z := by
  rcases h1 with ⟨a, b⟩ | ⟨a, b, c⟩ | ⟨a, b, c⟩
  · rcases h2 with ⟨a', b'⟩ | ⟨a', b', c'⟩ | ⟨a', b', c'⟩
    · rw [b, b']
    · exact absurd a a'
    · exact absurd a a'
  · rcases h2 with ⟨a', b'⟩ | ⟨a', b', c'⟩ | ⟨a', b', c'⟩
    · exact absurd a' a
    · exact Option.some.inj (c.symm.trans c')
    · exact absurd b b'
  · rcases h2 with ⟨a', b'⟩ | ⟨a', b', c'⟩ | ⟨a', b', c'⟩
    · exact absurd a' a
    · exact absurd b' b
    · rw [c, c']
theorem s_X7_lg {g : GH} (u : OS) (p : Int32) (h : IM g u) : ok (f_X7_lg u p) (fun q => IM g q.1 ∧ OFV g.2.1 p q.2) := by
  have e0 : u.1 0 = g.2.1 := h.2.2.2.2.2.1.2
  unfold f_X7_lg
  refine ok_bnd (ok_ite (fun c => ok_some ⟨h, Or.inl ⟨c, rfl⟩⟩) (fun c => ok_ite (fun d => ?_) (fun d => ok_some ⟨h, Or.inr (Or.inr ⟨c, ?_, rfl⟩)⟩)))
  · have d : p ≤ ((1 : Int32) <<< (u.1 0 &&& (31 : Int32))) := d
    rw [e0] at d
    obtain ⟨y, ey, _⟩ := s_X7_logarithm p
    rw [ey]
    exact ok_some ⟨h, Or.inr (Or.inl ⟨c, d, ey⟩)⟩
  · have d : ¬ p ≤ ((1 : Int32) <<< (u.1 0 &&& (31 : Int32))) := d
    rw [e0] at d
    exact d
def g_share (g : GH) (p : Int32) : Int32 := if p < (0 : Int32) then -1 else if p < (32 : Int32) then (if g.2.2.1 = (0 : Int32) then 0 else g.2.2.2 p.toNatClampNeg) else -1
theorem s_X7_share {g : GH} (u : OS) (p : Int32) (h : IM g u) : ok (f_X7_share u p) (fun q => IM g q.1 ∧ q.2 = g_share g p) := by
  have h7 := h.2.2.2.2.2.2.1.2
  unfold f_X7_share g_share
  refine ok_bnd (ok_ite (fun c => by rw [if_pos c]; exact ok_some ⟨h, rfl⟩) (fun c => ok_ite (fun c2 => ?_) (fun c2 => by rw [if_neg c, if_neg c2]; exact ok_some ⟨h, rfl⟩)))
  rw [if_neg c, if_pos c2]
  have c' := mt Int32.lt_iff_toInt_lt.mpr c
  have c2' := Int32.lt_iff_toInt_lt.mp c2
  rw [li_0] at c'
  rw [li_32] at c2'
  refine ok_ite (fun d => ?_) (fun d => ?_)
  · have d : u.1 7 = (0 : Int32) := d
    rw [h7.1] at d
    rw [if_pos d]
    exact ok_some ⟨h, rfl⟩
  · have d : ¬ u.1 7 = (0 : Int32) := d
    rw [h7.1] at d
    rw [if_neg d]
    refine ok_gdi (by omega) (by omega) (ok_some ⟨h, ?_⟩)
    show u.2.1 8 p.toNatClampNeg = _
    exact h7.2 _ (by show p.toInt.toNat < 32; omega)
theorem s_X7_form {g : GH} (u : OS) (p : Int32) (h : IM g u) : ok (f_X7_form u p) (fun q => IM (g_form g p).1 q.1 ∧ q.2 = (g_form g p).2) := by
  have hg := IM_g h
  unfold f_X7_form g_form
  refine ok_bnd (ok_ite (fun c => by rw [if_pos c]; exact ok_some ⟨h, rfl⟩) (fun c => ok_ite (fun c2 => ?_) (fun c2 => by rw [if_neg c, if_neg c2]; exact ok_some ⟨h, rfl⟩)))
  rw [if_neg c, if_pos c2]
  obtain ⟨h0, h2, h3, h4, h5, h10, h7, h15, h14, h18, h25, h32, h11, h13⟩ := h
  refine ok_bnd (ok_bnd (ok_some ⟨⟨h0, ?_, h3, h4, h5, h10, h7, h15, h14, ⟨h18.1, h18.2.1, rfl, hg.2⟩, h25, h32, h11, h13⟩, hg.1⟩))
  show 0 ≤ p.toInt ∧ p.toInt ≤ 3
  constructor <;> ((try simp only [Int32.lt_iff_toInt_lt, Int32.le_iff_toInt_le, Int32.not_lt, Int32.not_le, li_0, li_1, li_2, li_3, li_4, li_5, li_6, li_7, li_8, li_10, li_12, li_15, li_16, li_20, li_30, li_31, li_32, li_33, li_63, li_64, li_128, li_255, li_256, li_1000, li_4096, li_8000, li_8192, li_20000, li_65535, li_65536, li_70000, li_1000000, lim_1, lim_2, lim_3, lim_10] at *) <;> omega)
theorem s_X7_lanes {g : GH} (u : OS) (p : Int32) (h : IM g u) : ok (f_X7_lanes u p) (fun q => IM (g_lanes g p).1 q.1 ∧ q.2 = (g_lanes g p).2) := by
  have hg := IM_g h
  unfold f_X7_lanes
  have hh : (p = 1 ∨ p = 2 ∨ p = 4) → ok (bnd ((sF u 1 (0 : Int32)).1 3) fun x3 => bnd (sF (sF u 1 (0 : Int32)) 3 p) fun u4 => some (u4, x3)) (fun q => IM (g_lanes g p).1 q.1 ∧ q.2 = (g_lanes g p).2) := by
    intro hp
    unfold g_lanes
    rw [if_pos hp]
    obtain ⟨h0, h2, h3, h4, h5, h10, h7, h15, h14, h18, h25, h32, h11, h13⟩ := h
    refine ok_bnd (ok_bnd (ok_some ⟨⟨h0, h2, ?_, h4, h5, h10, h7, h15, h14, ⟨h18.1, h18.2.1, hg.1, rfl, hg.2.2⟩, h25, h32, h11, h13⟩, hg.2.1⟩))
    show p.toInt = 1 ∨ p.toInt = 2 ∨ p.toInt = 4
    rcases hp with q | q | q
    · rw [q]; decide
    · rw [q]; decide
    · rw [q]; decide
  refine ok_bnd (ok_bnd (ok_ite (fun c => hh (Or.inl c)) (fun c1 => ok_ite (fun c => hh (Or.inr (Or.inl c))) (fun c2 => ok_ite (fun c => hh (Or.inr (Or.inr c))) (fun c3 => ok_some ?_)))))
  unfold g_lanes
  rw [if_neg (fun q => by rcases q with q | q | q; exact c1 q; exact c2 q; exact c3 q)]
  exact ⟨h, rfl⟩
theorem s_X7_rule {g : GH} (u : OS) (h : IM g u) : ok (f_X7_rule u) (fun q => IM g q.1) := by
  unfold f_X7_rule
  exact ok_bnd (ok_some h)
theorem s_X7_sign {g : GH} (u : OS) (p : Int32) (h : IM g u) : ok (f_X7_sign u p) (fun q => IM g q.1) := by
  unfold f_X7_sign
  have h25 : (u.1 25).toInt ≤ 65535 := h.2.2.2.2.2.2.2.2.2.2.1.2
  refine ok_bnd (ok_ite (fun _ => ok_some h) (fun c => ok_ite (fun c2 => ?_) (fun _ => ok_some h)))
  have c2 : p < u.1 25 := c2
  exact ok_gdi (by ((try simp only [Int32.lt_iff_toInt_lt, Int32.le_iff_toInt_le, Int32.not_lt, Int32.not_le, li_0, li_1, li_2, li_3, li_4, li_5, li_6, li_7, li_8, li_10, li_12, li_15, li_16, li_20, li_30, li_31, li_32, li_33, li_63, li_64, li_128, li_255, li_256, li_1000, li_4096, li_8000, li_8192, li_20000, li_65535, li_65536, li_70000, li_1000000, lim_1, lim_2, lim_3, lim_10] at *) <;> omega)) (by ((try simp only [Int32.lt_iff_toInt_lt, Int32.le_iff_toInt_le, Int32.not_lt, Int32.not_le, li_0, li_1, li_2, li_3, li_4, li_5, li_6, li_7, li_8, li_10, li_12, li_15, li_16, li_20, li_30, li_31, li_32, li_33, li_63, li_64, li_128, li_255, li_256, li_1000, li_4096, li_8000, li_8192, li_20000, li_65535, li_65536, li_70000, li_1000000, lim_1, lim_2, lim_3, lim_10] at *) <;> omega)) (ok_some h)
theorem s_X7_state {g : GH} (u : OS) (p q : Int32) (h : IM g u) : ok (f_X7_state u p q) (fun q => IM g q.1) := by
  unfold f_X7_state
  have h18 : (u.1 18).toInt ≤ 4 := h.2.2.2.2.2.2.2.2.2.1.2.1
  have h32 := h.2.2.2.2.2.2.2.2.2.2.2.1
  refine ok_bnd (ok_ite (fun _ => ok_ite (fun _ => ok_some h) (fun c => ok_ite (fun c2 => ?_) (fun _ => ok_some h))) (fun _ => ok_ite (fun _ => ok_ite (fun _ => ok_some h) (fun d => ok_ite (fun _ => ok_some h) (fun c => ok_ite (fun c2 => ?_) (fun _ => ok_some h)))) (fun _ => ok_some h)))
  · have c2 : q < u.1 18 := c2
    exact ok_gdi (by ((try simp only [Int32.lt_iff_toInt_lt, Int32.le_iff_toInt_le, Int32.not_lt, Int32.not_le, li_0, li_1, li_2, li_3, li_4, li_5, li_6, li_7, li_8, li_10, li_12, li_15, li_16, li_20, li_30, li_31, li_32, li_33, li_63, li_64, li_128, li_255, li_256, li_1000, li_4096, li_8000, li_8192, li_20000, li_65535, li_65536, li_70000, li_1000000, lim_1, lim_2, lim_3, lim_10] at *) <;> omega)) (by ((try simp only [Int32.lt_iff_toInt_lt, Int32.le_iff_toInt_le, Int32.not_lt, Int32.not_le, li_0, li_1, li_2, li_3, li_4, li_5, li_6, li_7, li_8, li_10, li_12, li_15, li_16, li_20, li_30, li_31, li_32, li_33, li_63, li_64, li_128, li_255, li_256, li_1000, li_4096, li_8000, li_8192, li_20000, li_65535, li_65536, li_70000, li_1000000, lim_1, lim_2, lim_3, lim_10] at *) <;> omega)) (ok_some h)
  · have c2 : q < u.1 31 := c2
    have d1 : (u.1 31).toInt ≤ 4 := by
      rcases h32 with e | e
      · exact absurd e d
      · exact e
    exact ok_gdi (by ((try simp only [Int32.lt_iff_toInt_lt, Int32.le_iff_toInt_le, Int32.not_lt, Int32.not_le, li_0, li_1, li_2, li_3, li_4, li_5, li_6, li_7, li_8, li_10, li_12, li_15, li_16, li_20, li_30, li_31, li_32, li_33, li_63, li_64, li_128, li_255, li_256, li_1000, li_4096, li_8000, li_8192, li_20000, li_65535, li_65536, li_70000, li_1000000, lim_1, lim_2, lim_3, lim_10] at *) <;> omega)) (by ((try simp only [Int32.lt_iff_toInt_lt, Int32.le_iff_toInt_le, Int32.not_lt, Int32.not_le, li_0, li_1, li_2, li_3, li_4, li_5, li_6, li_7, li_8, li_10, li_12, li_15, li_16, li_20, li_30, li_31, li_32, li_33, li_63, li_64, li_128, li_255, li_256, li_1000, li_4096, li_8000, li_8192, li_20000, li_65535, li_65536, li_70000, li_1000000, lim_1, lim_2, lim_3, lim_10] at *) <;> omega)) (ok_some h)
theorem s_X7_out {g : GH} (u : OS) (p : Int32) (h : IM g u) : ok (f_X7_out u p) (fun q => IM g q.1) := by
  unfold f_X7_out
  have h15 : (u.1 15).toInt ≤ 20000 := h.2.2.2.2.2.2.2.1.2
  refine ok_bnd (ok_ite (fun _ => ok_some h) (fun c => ok_ite (fun c2 => ?_) (fun _ => ok_some h)))
  have c2 : p < u.1 15 := c2
  exact ok_gdi (by ((try simp only [Int32.lt_iff_toInt_lt, Int32.le_iff_toInt_le, Int32.not_lt, Int32.not_le, li_0, li_1, li_2, li_3, li_4, li_5, li_6, li_7, li_8, li_10, li_12, li_15, li_16, li_20, li_30, li_31, li_32, li_33, li_63, li_64, li_128, li_255, li_256, li_1000, li_4096, li_8000, li_8192, li_20000, li_65535, li_65536, li_70000, li_1000000, lim_1, lim_2, lim_3, lim_10] at *) <;> omega)) (by ((try simp only [Int32.lt_iff_toInt_lt, Int32.le_iff_toInt_le, Int32.not_lt, Int32.not_le, li_0, li_1, li_2, li_3, li_4, li_5, li_6, li_7, li_8, li_10, li_12, li_15, li_16, li_20, li_30, li_31, li_32, li_33, li_63, li_64, li_128, li_255, li_256, li_1000, li_4096, li_8000, li_8192, li_20000, li_65535, li_65536, li_70000, li_1000000, lim_1, lim_2, lim_3, lim_10] at *) <;> omega)) (ok_some h)
theorem s_X7_told {g : GH} (u : OS) (p : Int32) (h : IM g u) : ok (f_X7_told u p) (fun q => IM g q.1) := by
  unfold f_X7_told
  exact ok_bnd (ok_ite (fun _ => ok_some h) (fun _ => ok_ite (fun _ => ok_some h) (fun _ => ok_ite (fun _ => ok_some h) (fun _ => ok_ite (fun _ => ok_some h) (fun _ => ok_ite (fun _ => ok_some h) (fun _ => ok_ite (fun _ => ok_some h) (fun _ => ok_ite (fun _ => ok_ite (fun _ => ok_some h) (fun _ => ok_some h)) (fun _ => ok_some h))))))))

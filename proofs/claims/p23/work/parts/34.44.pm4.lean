theorem psum_congr {f g : Nat → Int32} : ∀ n : Nat, (∀ s, s < n → f s = g s) → psum f n = psum g n
  | 0 => fun _ => rfl
  | n + 1 => fun h => by
    unfold psum
    rw [psum_congr n (fun s hs => h s (by omega)), h n (by omega)]
theorem psum_upd {f g : Nat → Int32} {k : Nat} (h : ∀ s, s ≠ k → g s = f s) : ∀ n : Nat, k < n → psum g n = psum f n + ((g k).toInt - (f k).toInt)
  | 0 => fun hk => absurd hk (Nat.not_lt_zero _)
  | n + 1 => fun hk => by
    unfold psum
    by_cases e : k = n
    · subst e
      rw [psum_congr k (fun s hs => h s (by omega))]
      omega
    · rw [psum_upd h n (by omega), h n (fun q => e q.symm)]
      omega
theorem psum_le {f : Nat → Int32} {N : Nat} (h : ∀ s, s < N → 0 ≤ (f s).toInt) : ∀ (d m : Nat), m + d ≤ N → psum f m ≤ psum f (m + d)
  | 0, m, _ => Int.le_refl _
  | d + 1, m, hd => by
    have e := psum_le h d m (by omega)
    have q := h (m + d) (by omega)
    show psum f m ≤ psum f (m + d) + (f (m + d)).toInt
    omega
theorem psum_mono {f : Nat → Int32} {N m n : Nat} (h : ∀ s, s < N → 0 ≤ (f s).toInt) (h1 : m ≤ n) (h2 : n ≤ N) : psum f m ≤ psum f n := by
  have e := psum_le h (n - m) m (by omega)
  rw [show m + (n - m) = n by omega] at e
  exact e
theorem psum_el {f : Nat → Int32} {N s : Nat} (h : ∀ s, s < N → 0 ≤ (f s).toInt) (hs : s < N) : psum f s + (f s).toInt ≤ psum f N ∧ 0 ≤ psum f s := by
  constructor
  · exact psum_mono (m := s + 1) h hs (Nat.le_refl _)
  · exact psum_mono (m := 0) h (Nat.zero_le _) (by omega)
theorem shr0 (u : OS) (s : Nat) : shr u 0 s = u.2.1 8 s := by
  unfold shr
  rw [Nat.mul_zero, Nat.zero_add]
theorem shr_set {u : OS} {i v : Int32} {p k : Nat} (hi : i.toNatClampNeg = 32 * p + k) (s : Nat) : shr (sA u 8 i v) p s = if s = k then v else shr u p s := by
  show upd (u.2.1 8) i.toNatClampNeg v (32 * p + s) = _
  unfold upd shr
  rw [hi]
  by_cases e : s = k
  · subst e; rw [if_pos rfl, if_pos rfl]
  · rw [if_neg (by omega), if_neg e]
theorem sz32 {g : Int32} (h1 : 5 ≤ g.toInt) (h2 : g.toInt ≤ 12) : ((1 : Int32) <<< (g &&& (31 : Int32))).toInt = 2 ^ g.toInt.toNat ∧ 32 ≤ ((1 : Int32) <<< (g &&& (31 : Int32))).toInt ∧ ((1 : Int32) <<< (g &&& (31 : Int32))).toInt ≤ 4096 := by
  obtain ⟨k, e, e2, _⟩ := nI_ex (x := g) (by omega)
  subst e
  rcases (show k = 5 ∨ k = 6 ∨ k = 7 ∨ k = 8 ∨ k = 9 ∨ k = 10 ∨ k = 11 ∨ k = 12 by omega) with rfl | rfl | rfl | rfl | rfl | rfl | rfl | rfl <;> decide
theorem IM_8 {g : GH} {u : OS} {i v : Int32} (h : IM (sh8 g u) u) (z : u.1 7 = 0) : IM (sh8 g (sA u 8 i v)) (sA u 8 i v) := by
  obtain ⟨h0, h2, h3, h4, h5, h10, h7, h15, h14, h18, h25, h32, h11, h13⟩ := h
  exact ⟨h0, h2, h3, h4, h5, h10, ⟨Or.inl z, h7.2.1, fun _ _ => rfl⟩, h15, h14, h18, h25, h32, h11, h13⟩
theorem s_X7_normal_L24 {g : GH} (c : Nat → Int32) (lg : Int32) {Q : OS × Int32 → Prop} (K : Int32 → OS → Option (OS × Int32)) (hK : ∀ x u, IM (sh8 g u) u → u.1 7 = 0 → u.2.1 6 = c → u.1 0 = lg → (∀ s, s < 32 → 0 ≤ (shr u 0 s).toInt) → psum (shr u 0) 32 = cpos c 32 → (∀ s, s < 32 → shr u 0 s = gs0 c s) → ok (K x u) Q) : ∀ (n : Nat) (x : Int32) (u : OS), 0 ≤ x.toInt → x.toInt ≤ 32 → (32 - x.toInt).toNat < n → IM (sh8 g u) u → u.1 7 = 0 → u.2.1 6 = c → u.1 0 = lg → (∀ s, s < x.toInt.toNat → 0 ≤ (shr u 0 s).toInt) → psum (shr u 0) x.toInt.toNat = cpos c x.toInt.toNat → (∀ s, s < x.toInt.toNat → shr u 0 s = gs0 c s) → ok (f_X7_normal_L24 n K x u) Q := by
  intro n
  induction n with
  | zero => intro x u _ _ hn; omega
  | succ n ih =>
    intro x u hx hx2 hn h z hc hl ha hb hgs
    unfold f_X7_normal_L24
    refine ok_ite (fun d => hK _ _ h z hc hl ?_ ?_ ?_) (fun d => ?_)
    · have d1 : x.toInt.toNat = 32 := by clear hb ha hK ih; ((try simp only [Int32.lt_iff_toInt_lt, Int32.le_iff_toInt_le, Int32.not_lt, Int32.not_le, li_0, li_1, li_2, li_3, li_4, li_5, li_6, li_7, li_8, li_10, li_12, li_15, li_16, li_20, li_30, li_31, li_32, li_33, li_63, li_64, li_128, li_255, li_256, li_1000, li_4096, li_8000, li_8192, li_20000, li_65535, li_65536, li_70000, li_1000000, lim_1, lim_2, lim_3, lim_10] at *) <;> omega)
      rw [d1] at ha; exact ha
    · have d1 : x.toInt.toNat = 32 := by clear hb ha hK ih; ((try simp only [Int32.lt_iff_toInt_lt, Int32.le_iff_toInt_le, Int32.not_lt, Int32.not_le, li_0, li_1, li_2, li_3, li_4, li_5, li_6, li_7, li_8, li_10, li_12, li_15, li_16, li_20, li_30, li_31, li_32, li_33, li_63, li_64, li_128, li_255, li_256, li_1000, li_4096, li_8000, li_8192, li_20000, li_65535, li_65536, li_70000, li_1000000, lim_1, lim_2, lim_3, lim_10] at *) <;> omega)
      rw [d1] at hb; exact hb
    · have d1 : x.toInt.toNat = 32 := by clear hb ha hK ih hgs; ((try simp only [Int32.lt_iff_toInt_lt, Int32.le_iff_toInt_le, Int32.not_lt, Int32.not_le, li_0, li_1, li_2, li_3, li_4, li_5, li_6, li_7, li_8, li_10, li_12, li_15, li_16, li_20, li_30, li_31, li_32, li_33, li_63, li_64, li_128, li_255, li_256, li_1000, li_4096, li_8000, li_8192, li_20000, li_65535, li_65536, li_70000, li_1000000, lim_1, lim_2, lim_3, lim_10] at *) <;> omega)
      rw [d1] at hgs; exact hgs
    · have d1 : x.toInt < 32 := by clear hb ha hK ih; ((try simp only [Int32.lt_iff_toInt_lt, Int32.le_iff_toInt_le, Int32.not_lt, Int32.not_le, li_0, li_1, li_2, li_3, li_4, li_5, li_6, li_7, li_8, li_10, li_12, li_15, li_16, li_20, li_30, li_31, li_32, li_33, li_63, li_64, li_128, li_255, li_256, li_1000, li_4096, li_8000, li_8192, li_20000, li_65535, li_65536, li_70000, li_1000000, lim_1, lim_2, lim_3, lim_10] at *) <;> omega)
      have e1 := inc32 (x := x) (by omega)
      have e2 : (x + (1 : Int32)).toInt.toNat = x.toInt.toNat + 1 := by omega
      have key : ∀ v : Int32, (v.toInt = if 0 < (u.2.1 6 x.toNatClampNeg).toInt then 1 else 0) → v = gs0 c x.toInt.toNat → ok (f_X7_normal_L24 n K (x + (1 : Int32)) (sA u 8 x v)) Q := by
        intro v hv hv2
        have hs : ∀ s, shr (sA u 8 x v) 0 s = if s = x.toInt.toNat then v else shr u 0 s := shr_set (p := 0) (by show x.toInt.toNat = _; omega)
        have hv0 : 0 ≤ v.toInt := by
          by_cases q : 0 < (u.2.1 6 x.toNatClampNeg).toInt
          · rw [if_pos q] at hv; omega
          · rw [if_neg q] at hv; omega
        refine ih _ _ (by omega) (by omega) (by omega) (IM_8 h z) z hc hl ?_ ?_ ?_
        · intro s hs1
          rw [hs s]
          by_cases q : s = x.toInt.toNat
          · rw [if_pos q]; exact hv0
          · rw [if_neg q]; exact ha s (by omega)
        · rw [e2]
          show psum (shr (sA u 8 x v) 0) x.toInt.toNat + (shr (sA u 8 x v) 0 x.toInt.toNat).toInt = cpos c x.toInt.toNat + _
          rw [psum_congr x.toInt.toNat (g := shr u 0) (fun s q => by rw [hs s, if_neg (by omega)]), hb, hs, if_pos rfl, hv, hc]
          rfl
        · intro s hs1
          rw [hs s]
          by_cases q : s = x.toInt.toNat
          · rw [if_pos q, q]; exact hv2
          · rw [if_neg q]; exact hgs s (by omega)
      refine ok_gdi hx (by omega) (ok_ite (fun q => ok_gdi hx (by omega) (ok_bnd (ok_bnd (key 0 ?_ ?_)))) (fun q => ok_gdi hx (by omega) (ok_bnd (ok_bnd (key 1 ?_ ?_)))))
      · have q1 : ¬ 0 < (u.2.1 6 x.toNatClampNeg).toInt := by clear hb ha hK ih key; ((try simp only [Int32.lt_iff_toInt_lt, Int32.le_iff_toInt_le, Int32.not_lt, Int32.not_le, li_0, li_1, li_2, li_3, li_4, li_5, li_6, li_7, li_8, li_10, li_12, li_15, li_16, li_20, li_30, li_31, li_32, li_33, li_63, li_64, li_128, li_255, li_256, li_1000, li_4096, li_8000, li_8192, li_20000, li_65535, li_65536, li_70000, li_1000000, lim_1, lim_2, lim_3, lim_10] at *) <;> omega)
        rw [if_neg q1, li_0]
      · have q : u.2.1 6 x.toInt.toNat ≤ (0 : Int32) := q
        rw [hc] at q
        unfold gs0
        rw [if_pos q]
      · have q1 : 0 < (u.2.1 6 x.toNatClampNeg).toInt := by clear hb ha hK ih key; ((try simp only [Int32.lt_iff_toInt_lt, Int32.le_iff_toInt_le, Int32.not_lt, Int32.not_le, li_0, li_1, li_2, li_3, li_4, li_5, li_6, li_7, li_8, li_10, li_12, li_15, li_16, li_20, li_30, li_31, li_32, li_33, li_63, li_64, li_128, li_255, li_256, li_1000, li_4096, li_8000, li_8192, li_20000, li_65535, li_65536, li_70000, li_1000000, lim_1, lim_2, lim_3, lim_10] at *) <;> omega)
        rw [if_pos q1, li_1]
      · have q : ¬ u.2.1 6 x.toInt.toNat ≤ (0 : Int32) := q
        rw [hc] at q
        unfold gs0
        rw [if_neg q]
set_option maxHeartbeats 1000000 in
theorem s_X7_normal_L78 (u : OS) {Q : OS × Int32 → Prop} (K : Int32 → Int64 → Int32 → Option (OS × Int32)) (hex : ∃ s, s < 32 ∧ ¬ u.2.1 8 s ≤ (0 : Int32)) (hK : ∀ (a : Int32) (k : Nat) y b, a = nI k → k < 32 → amf (u.2.1 6) (u.2.1 8) 32 = some k → ok (K a y b) Q) : ∀ (n : Nat) (x : Int32) (y : Int64) (b : Int32) (j : Nat), x = nI j → j ≤ 32 → 32 - j < n → AMX (u.2.1 6) (u.2.1 8) j b y → ok (f_X7_normal_L78 u n K x y b) Q := by
  intro n
  induction n with
  | zero => intro x y b j _ _ hn; omega
  | succ n ih =>
    intro x y b j hx hj hn hA
    have ex : x.toInt = j := by rw [hx, nI_toInt (by omega)]
    have exn : x.toNatClampNeg = j := by
      show x.toInt.toNat = j
      omega
    unfold f_X7_normal_L78
    refine ok_ite (fun d => ?_) (fun d => ?_)
    · have d1 := Int32.le_iff_toInt_le.mp d
      rw [li_32, ex] at d1
      have : j = 32 := by omega
      subst this
      rcases hA with ⟨q, _⟩ | ⟨k, q1, q2, q3, _⟩
      · obtain ⟨s, s1, s2⟩ := hex
        obtain ⟨b, e⟩ := amf_ex (u.2.1 6) (u.2.1 8) 32 s s1 s2
        rw [q] at e
        cases e
      · exact hK _ k _ _ q3 q2 q1
    · have d1 := mt Int32.le_iff_toInt_le.mpr d
      rw [li_32, ex] at d1
      have e1 : x + (1 : Int32) = nI (j + 1) := by rw [hx, nI_1]
      have g0 : 0 ≤ x.toInt := by omega
      have g32 : x.toInt < (32 : Nat) := by omega
      have g64 : x.toInt < (64 : Nat) := by omega
      refine ok_gdi g0 g64 ?_
      rw [exn]
      have am1 : amf (u.2.1 6) (u.2.1 8) (j + 1) = if u.2.1 8 j ≤ (0 : Int32) then amf (u.2.1 6) (u.2.1 8) j else (amf (u.2.1 6) (u.2.1 8) j).elim (some j) (fun b => if gain (u.2.1 6) (u.2.1 8) j ≤ gain (u.2.1 6) (u.2.1 8) b then some b else some j) := rfl
      refine ok_ite (fun q => ok_bnd (ih _ _ _ (j + 1) e1 (by omega) (by omega) ?_)) (fun q => ok_gdi g0 g32 (ok_gdi g0 g64 ?_))
      · rw [if_pos q] at am1
        unfold AMX at *
        rw [am1]
        exact hA
      · rw [if_neg q] at am1
        rw [lgv_eq (u.2.1 8 j + (1 : Int32))]
        refine ok_oC1 (ok_some (Q := fun r => r = lgv (u.2.1 8 j + (1 : Int32))) rfl) (fun r38 h38 => ok_gdi g0 g64 ?_)
        rw [lgv_eq (u.2.1 8 j)]
        refine ok_oC1 (ok_some (Q := fun r => r = lgv (u.2.1 8 j)) rfl) (fun r41 h41 => ?_)
        rw [h38, h41]
        have eg : (u.2.1 6 j).toInt64 * (lgv (u.2.1 8 j + (1 : Int32)) - lgv (u.2.1 8 j)) = gain (u.2.1 6) (u.2.1 8) j := rfl
        rw [eg]
        refine ok_bnd (ok_ite (fun r => ok_bnd (ih _ _ _ (j + 1) e1 (by omega) (by omega) ?_)) (fun r => ok_ite (fun t => ok_bnd (ih _ _ _ (j + 1) e1 (by omega) (by omega) ?_)) (fun t => ok_bnd (ih _ _ _ (j + 1) e1 (by omega) (by omega) ?_))))
        · rcases hA with ⟨q1, _⟩ | ⟨k, q1, q2, q3, _⟩
          · rw [q1] at am1
            exact Or.inr ⟨j, am1, by omega, hx, rfl⟩
          · exfalso
            rw [q3] at r
            have r1 : (nI k).toInt = (-2 : Int32).toInt := by rw [r]
            rw [nI_toInt (by omega), lim_2] at r1
            omega
        · rcases hA with ⟨_, q1⟩ | ⟨k, q1, q2, q3, q4⟩
          · exact absurd q1 r
          · rw [q1] at am1
            have am1 : amf (u.2.1 6) (u.2.1 8) (j + 1) = if gain (u.2.1 6) (u.2.1 8) j ≤ gain (u.2.1 6) (u.2.1 8) k then some k else some j := am1
            rw [q4] at t
            rw [if_pos t] at am1
            exact Or.inr ⟨k, am1, q2, q3, q4⟩
        · rcases hA with ⟨_, q1⟩ | ⟨k, q1, q2, q3, q4⟩
          · exact absurd q1 r
          · rw [q1] at am1
            have am1 : amf (u.2.1 6) (u.2.1 8) (j + 1) = if gain (u.2.1 6) (u.2.1 8) j ≤ gain (u.2.1 6) (u.2.1 8) k then some k else some j := am1
            rw [q4] at t
            rw [if_neg t] at am1
            exact Or.inr ⟨j, am1, by omega, hx, rfl⟩
theorem gst_congr {c s t : Nat → Int32} (h : ∀ i, i < 32 → s i = t i) : ∀ i, i < 32 → gst c s i = gst c t i := by
  intro i hi
  unfold gst
  rw [amf_congr (c := c) 32 h]
  cases e : amf c t 32 with
  | none => exact h i hi
  | some a =>
    have ha := (amf_lt c t 32 a e).1
    show upd s a (s a + (1 : Int32)) i = upd t a (t a + (1 : Int32)) i
    unfold upd
    rw [h a ha]
    by_cases q : i = a
    · rw [if_pos q, if_pos q]
    · rw [if_neg q, if_neg q]; exact h i hi
theorem s_X7_normal_L65 {g : GH} (lg : Int32) (N : Int) (hN : N ≤ 4096) {Q : OS × Int32 → Prop} (K : Int32 → OS → Option (OS × Int32)) (c : Nat → Int32) (m0 : Nat) (hK : ∀ x u, IM (sh8 g u) u → u.1 7 = 0 → u.1 0 = lg → SH u 0 N → (∀ s, s < 32 → shr u 0 s = GS c m0 s) → ok (K x u) Q) : ∀ (n : Nat) (x : Int32) (u : OS) (m : Nat), (m : Int) + x.toInt = m0 → u.2.1 6 = c → (∀ s, s < 32 → shr u 0 s = GS c m s) → 0 ≤ x.toInt → x.toInt.toNat < n → IM (sh8 g u) u → u.1 7 = 0 → u.1 0 = lg → (∀ s, s < 32 → 0 ≤ (shr u 0 s).toInt) → psum (shr u 0) 32 = N - x.toInt → (∃ s, s < 32 ∧ 0 < (shr u 0 s).toInt) → ok (f_X7_normal_L65 n K x u) Q := by
  intro n
  induction n with
  | zero => intro x u m _ _ _ _ hn; omega
  | succ n ih =>
    intro x u m hmx hc hgs hx hn h z hl ha hb hex
    unfold f_X7_normal_L65
    refine ok_ite (fun d => hK _ _ h z hl ⟨ha, ?_⟩ ?_) (fun d => ?_)
    · have d1 : x.toInt = 0 := by clear hb ha hK ih hex hgs; ((try simp only [Int32.lt_iff_toInt_lt, Int32.le_iff_toInt_le, Int32.not_lt, Int32.not_le, li_0, li_1, li_2, li_3, li_4, li_5, li_6, li_7, li_8, li_10, li_12, li_15, li_16, li_20, li_30, li_31, li_32, li_33, li_63, li_64, li_128, li_255, li_256, li_1000, li_4096, li_8000, li_8192, li_20000, li_65535, li_65536, li_70000, li_1000000, lim_1, lim_2, lim_3, lim_10] at *) <;> omega)
      rw [hb]; omega
    · have d1 : x.toInt = 0 := by clear hb ha hK ih hex hgs; ((try simp only [Int32.lt_iff_toInt_lt, Int32.le_iff_toInt_le, Int32.not_lt, Int32.not_le, li_0, li_1, li_2, li_3, li_4, li_5, li_6, li_7, li_8, li_10, li_12, li_15, li_16, li_20, li_30, li_31, li_32, li_33, li_63, li_64, li_128, li_255, li_256, li_1000, li_4096, li_8000, li_8192, li_20000, li_65535, li_65536, li_70000, li_1000000, lim_1, lim_2, lim_3, lim_10] at *) <;> omega)
      have : m = m0 := by clear hb ha hK ih hex hgs; omega
      rw [← this]
      exact hgs
    · have d1 : 0 < x.toInt := by clear hb ha hK ih hex; ((try simp only [Int32.lt_iff_toInt_lt, Int32.le_iff_toInt_le, Int32.not_lt, Int32.not_le, li_0, li_1, li_2, li_3, li_4, li_5, li_6, li_7, li_8, li_10, li_12, li_15, li_16, li_20, li_30, li_31, li_32, li_33, li_63, li_64, li_128, li_255, li_256, li_1000, li_4096, li_8000, li_8192, li_20000, li_65535, li_65536, li_70000, li_1000000, lim_1, lim_2, lim_3, lim_10] at *) <;> omega)
      have e1 : (x + (-1 : Int32)).toInt = x.toInt - 1 := dec32 (x := x) (by omega)
      have m1 : 0 ≤ (x + (-1 : Int32)).toInt := by rw [e1]; clear hex hb ha hK ih; omega
      have m2 : (x + (-1 : Int32)).toInt.toNat < n := by rw [e1]; clear hex hb ha hK ih; omega
      have hex2 : ∃ s, s < 32 ∧ ¬ u.2.1 8 s ≤ (0 : Int32) := by
        obtain ⟨s, s1, s2⟩ := hex
        refine ⟨s, s1, fun q => ?_⟩
        rw [shr0] at s2
        have := Int32.le_iff_toInt_le.mp q
        rw [li_0] at this
        clear hb ha hK ih hgs
        omega
      refine ok_bnd (s_X7_normal_L78 u _ hex2 ?_ FU _ _ _ 0 rfl (by decide) (by decide) (Or.inl ⟨rfl, rfl⟩))
      intro a k y b eak hk32 hamf
      have eak2 : a.toInt = k := by rw [eak, nI_toInt (by omega)]
      have ha0 : 0 ≤ a.toInt := by rw [eak2]; exact Int.natCast_nonneg k
      have ha1 : a.toInt < 32 := by rw [eak2]; exact Int.ofNat_lt.mpr hk32
      have hel := psum_el ha (s := a.toInt.toNat) (by omega)
      have hs0 := shr0 u a.toInt.toNat
      have e3 : (u.2.1 8 a.toNatClampNeg).toInt ≤ 4096 := by
        have : u.2.1 8 a.toNatClampNeg = shr u 0 a.toInt.toNat := hs0.symm
        rw [this]
        clear hex ih hK
        omega
      have e4 := inc32 (x := u.2.1 8 a.toNatClampNeg) (by omega)
      have e5 : (u.2.1 8 a.toNatClampNeg) = shr u 0 a.toInt.toNat := hs0.symm
      refine ok_gdi ha0 (by omega) (ok_gdi ha0 (by omega) (ok_bnd (ok_bnd ?_)))
      have hs : ∀ s, shr (sA u 8 a (u.2.1 8 a.toNatClampNeg + (1 : Int32))) 0 s = if s = a.toInt.toNat then (u.2.1 8 a.toNatClampNeg + (1 : Int32)) else shr u 0 s := shr_set (p := 0) (by show a.toInt.toNat = _; omega)
      have e6 := ha a.toInt.toNat (by omega)
      refine ih _ _ (m + 1) (by rw [e1]; clear hb ha hK ih hex hgs; omega) hc ?_ m1 m2 (IM_8 h z) z hl ?_ ?_ ?_
      · intro s hs1
        have eGS : GS c (m + 1) = gst c (GS c m) := rfl
        have esg : ∀ i, i < 32 → u.2.1 8 i = GS c m i := fun i hi => by rw [← shr0]; exact hgs i hi
        rw [eGS, ← gst_congr (c := c) esg s hs1]
        rw [← hc]
        unfold gst
        rw [hamf]
        show shr (sA u 8 a (u.2.1 8 a.toNatClampNeg + (1 : Int32))) 0 s = upd (u.2.1 8) k (u.2.1 8 k + (1 : Int32)) s
        have ekn : a.toInt.toNat = k := by omega
        have ekn2 : a.toNatClampNeg = k := ekn
        rw [hs s, ekn, ekn2]
        unfold upd
        by_cases q : s = k
        · rw [if_pos q, if_pos q]
        · rw [if_neg q, if_neg q, shr0]
      · intro s hs1
        rw [hs s]
        by_cases q : s = a.toInt.toNat
        · rw [if_pos q, e4, e5]; omega
        · rw [if_neg q]; exact ha s hs1
      · rw [psum_upd (f := shr u 0) (k := a.toInt.toNat) (fun s q => by rw [hs s, if_neg q]) 32 (by omega), hs, if_pos rfl, e4, e5, hb, e1]
        clear hex ih hK
        omega
      · refine ⟨a.toInt.toNat, by omega, ?_⟩
        rw [hs, if_pos rfl, e4, e5]
        omega

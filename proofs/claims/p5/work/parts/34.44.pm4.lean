theorem psum_congr {f g : Nat → Int32} : ∀ n : Nat, (∀ s, s < n → f s = g s) → psum f n = psum g n
  | 0 => fun _ => rfl
  | n + 1 => fun h => by
    unfold psum
    rw [psum_congr n (fun s hs => h s (by omega)), h n (by omega)]
theorem psum_upd {f g : Nat → Int32} {k : Nat} (h : ∀ s, s ≠ k → g s = f s) : ∀ n : Nat, k < n → psum g n = psum f n + ((g k).toInt - (f k).toInt)
  | 0 => fun hk => absurd hk (Nat.not_lt_zero _)
  | n + 1 => fun hk => by
    unfold psum
    by_cases e : k = n
    · subst e
      rw [psum_congr k (fun s hs => h s (by omega))]
      omega
    · rw [psum_upd h n (by omega), h n (fun q => e q.symm)]
      omega
theorem psum_le {f : Nat → Int32} {N : Nat} (h : ∀ s, s < N → 0 ≤ (f s).toInt) : ∀ (d m : Nat), m + d ≤ N → psum f m ≤ psum f (m + d)
  | 0, m, _ => Int.le_refl _
  | d + 1, m, hd => by
    have e := psum_le h d m (by omega)
    have q := h (m + d) (by omega)
    show psum f m ≤ psum f (m + d) + (f (m + d)).toInt
    omega
theorem psum_mono {f : Nat → Int32} {N m n : Nat} (h : ∀ s, s < N → 0 ≤ (f s).toInt) (h1 : m ≤ n) (h2 : n ≤ N) : psum f m ≤ psum f n := by
  have e := psum_le h (n - m) m (by omega)
  rw [show m + (n - m) = n by omega] at e
  exact e
theorem psum_el {f : Nat → Int32} {N s : Nat} (h : ∀ s, s < N → 0 ≤ (f s).toInt) (hs : s < N) : psum f s + (f s).toInt ≤ psum f N ∧ 0 ≤ psum f s := by
  constructor
  · exact psum_mono (m := s + 1) h hs (Nat.le_refl _)
  · exact psum_mono (m := 0) h (Nat.zero_le _) (by omega)
theorem shr0 (u : OS) (s : Nat) : shr u 0 s = u.2.1 8 s := by
  unfold shr
  rw [Nat.mul_zero, Nat.zero_add]
theorem shr_set {u : OS} {i v : Int32} {p k : Nat} (hi : i.toNatClampNeg = 32 * p + k) (s : Nat) : shr (sA u 8 i v) p s = if s = k then v else shr u p s := by
  show upd (u.2.1 8) i.toNatClampNeg v (32 * p + s) = _
  unfold upd shr
  rw [hi]
  by_cases e : s = k
  · subst e; rw [if_pos rfl, if_pos rfl]
  · rw [if_neg (by omega), if_neg e]
theorem sz32 {g : Int32} (h1 : 5 ≤ g.toInt) (h2 : g.toInt ≤ 12) : ((1 : Int32) <<< (g &&& (31 : Int32))).toInt = 2 ^ g.toInt.toNat ∧ 32 ≤ ((1 : Int32) <<< (g &&& (31 : Int32))).toInt ∧ ((1 : Int32) <<< (g &&& (31 : Int32))).toInt ≤ 4096 := by
  obtain ⟨k, e, e2, _⟩ := nI_ex (x := g) (by omega)
  subst e
  rcases (show k = 5 ∨ k = 6 ∨ k = 7 ∨ k = 8 ∨ k = 9 ∨ k = 10 ∨ k = 11 ∨ k = 12 by omega) with rfl | rfl | rfl | rfl | rfl | rfl | rfl | rfl <;> decide
theorem IM_8 {g : GH} {u : OS} {i v : Int32} (h : IM g u) (z : u.1 7 = 0) : IM g (sA u 8 i v) := by
  obtain ⟨h0, h2, h3, h4, h5, h10, h7, h15, h14, h18, h25, h32, h11, h13⟩ := h
  exact ⟨h0, h2, h3, h4, h5, h10, Or.inl z, h15, h14, h18, h25, h32, h11, h13⟩
theorem s_X7_normal_L24 {g : GH} (c : Nat → Int32) (lg : Int32) {Q : OS × Int32 → Prop} (K : Int32 → OS → Option (OS × Int32)) (hK : ∀ x u, IM g u → u.1 7 = 0 → u.2.1 6 = c → u.1 0 = lg → (∀ s, s < 32 → 0 ≤ (shr u 0 s).toInt) → psum (shr u 0) 32 = cpos c 32 → ok (K x u) Q) : ∀ (n : Nat) (x : Int32) (u : OS), 0 ≤ x.toInt → x.toInt ≤ 32 → (32 - x.toInt).toNat < n → IM g u → u.1 7 = 0 → u.2.1 6 = c → u.1 0 = lg → (∀ s, s < x.toInt.toNat → 0 ≤ (shr u 0 s).toInt) → psum (shr u 0) x.toInt.toNat = cpos c x.toInt.toNat → ok (f_X7_normal_L24 n K x u) Q := by
  intro n
  induction n with
  | zero => intro x u _ _ hn; omega
  | succ n ih =>
    intro x u hx hx2 hn h z hc hl ha hb
    unfold f_X7_normal_L24
    refine ok_ite (fun d => hK _ _ h z hc hl ?_ ?_) (fun d => ?_)
    · have d1 : x.toInt.toNat = 32 := by clear hb ha hK ih; ((try simp only [Int32.lt_iff_toInt_lt, Int32.le_iff_toInt_le, Int32.not_lt, Int32.not_le, li_0, li_1, li_2, li_3, li_4, li_5, li_6, li_7, li_8, li_10, li_12, li_15, li_16, li_20, li_30, li_31, li_32, li_33, li_63, li_64, li_128, li_255, li_256, li_1000, li_4096, li_8000, li_8192, li_20000, li_65535, li_65536, li_70000, li_1000000, lim_1, lim_2, lim_3, lim_10] at *) <;> omega)
      rw [d1] at ha; exact ha
    · have d1 : x.toInt.toNat = 32 := by clear hb ha hK ih; ((try simp only [Int32.lt_iff_toInt_lt, Int32.le_iff_toInt_le, Int32.not_lt, Int32.not_le, li_0, li_1, li_2, li_3, li_4, li_5, li_6, li_7, li_8, li_10, li_12, li_15, li_16, li_20, li_30, li_31, li_32, li_33, li_63, li_64, li_128, li_255, li_256, li_1000, li_4096, li_8000, li_8192, li_20000, li_65535, li_65536, li_70000, li_1000000, lim_1, lim_2, lim_3, lim_10] at *) <;> omega)
      rw [d1] at hb; exact hb
    · have d1 : x.toInt < 32 := by clear hb ha hK ih; ((try simp only [Int32.lt_iff_toInt_lt, Int32.le_iff_toInt_le, Int32.not_lt, Int32.not_le, li_0, li_1, li_2, li_3, li_4, li_5, li_6, li_7, li_8, li_10, li_12, li_15, li_16, li_20, li_30, li_31, li_32, li_33, li_63, li_64, li_128, li_255, li_256, li_1000, li_4096, li_8000, li_8192, li_20000, li_65535, li_65536, li_70000, li_1000000, lim_1, lim_2, lim_3, lim_10] at *) <;> omega)
      have e1 := inc32 (x := x) (by omega)
      have e2 : (x + (1 : Int32)).toInt.toNat = x.toInt.toNat + 1 := by omega
      have key : ∀ v : Int32, (v.toInt = if 0 < (u.2.1 6 x.toNatClampNeg).toInt then 1 else 0) → ok (f_X7_normal_L24 n K (x + (1 : Int32)) (sA u 8 x v)) Q := by
        intro v hv
        have hs : ∀ s, shr (sA u 8 x v) 0 s = if s = x.toInt.toNat then v else shr u 0 s := shr_set (p := 0) (by show x.toInt.toNat = _; omega)
        have hv0 : 0 ≤ v.toInt := by
          by_cases q : 0 < (u.2.1 6 x.toNatClampNeg).toInt
          · rw [if_pos q] at hv; omega
          · rw [if_neg q] at hv; omega
        refine ih _ _ (by omega) (by omega) (by omega) (IM_8 h z) z hc hl ?_ ?_
        · intro s hs1
          rw [hs s]
          by_cases q : s = x.toInt.toNat
          · rw [if_pos q]; exact hv0
          · rw [if_neg q]; exact ha s (by omega)
        · rw [e2]
          show psum (shr (sA u 8 x v) 0) x.toInt.toNat + (shr (sA u 8 x v) 0 x.toInt.toNat).toInt = cpos c x.toInt.toNat + _
          rw [psum_congr x.toInt.toNat (g := shr u 0) (fun s q => by rw [hs s, if_neg (by omega)]), hb, hs, if_pos rfl, hv, hc]
          rfl
      refine ok_gdi hx (by omega) (ok_ite (fun q => ok_gdi hx (by omega) (ok_bnd (ok_bnd (key 0 ?_)))) (fun q => ok_gdi hx (by omega) (ok_bnd (ok_bnd (key 1 ?_)))))
      · have q1 : ¬ 0 < (u.2.1 6 x.toNatClampNeg).toInt := by clear hb ha hK ih key; ((try simp only [Int32.lt_iff_toInt_lt, Int32.le_iff_toInt_le, Int32.not_lt, Int32.not_le, li_0, li_1, li_2, li_3, li_4, li_5, li_6, li_7, li_8, li_10, li_12, li_15, li_16, li_20, li_30, li_31, li_32, li_33, li_63, li_64, li_128, li_255, li_256, li_1000, li_4096, li_8000, li_8192, li_20000, li_65535, li_65536, li_70000, li_1000000, lim_1, lim_2, lim_3, lim_10] at *) <;> omega)
        rw [if_neg q1, li_0]
      · have q1 : 0 < (u.2.1 6 x.toNatClampNeg).toInt := by clear hb ha hK ih key; ((try simp only [Int32.lt_iff_toInt_lt, Int32.le_iff_toInt_le, Int32.not_lt, Int32.not_le, li_0, li_1, li_2, li_3, li_4, li_5, li_6, li_7, li_8, li_10, li_12, li_15, li_16, li_20, li_30, li_31, li_32, li_33, li_63, li_64, li_128, li_255, li_256, li_1000, li_4096, li_8000, li_8192, li_20000, li_65535, li_65536, li_70000, li_1000000, lim_1, lim_2, lim_3, lim_10] at *) <;> omega)
        rw [if_pos q1, li_1]
theorem s_X7_normal_L78 (u : OS) (hex : ∃ s, s < 32 ∧ 0 < (shr u 0 s).toInt) {Q : OS × Int32 → Prop} (K : Int32 → Int64 → Int32 → Option (OS × Int32)) (hK : ∀ a y b, 0 ≤ a.toInt → a.toInt < 32 → ok (K a y b) Q) : ∀ (n : Nat) (x : Int32) (y : Int64) (b : Int32), 0 ≤ x.toInt → x.toInt ≤ 32 → (32 - x.toInt).toNat < n → ((b = (-2 : Int32) ∧ ∀ s, s < x.toInt.toNat → (shr u 0 s).toInt ≤ 0) ∨ (0 ≤ b.toInt ∧ b.toInt < 32)) → ok (f_X7_normal_L78 u n K x y b) Q := by
  intro n
  induction n with
  | zero => intro x _ _ _ _ hn; omega
  | succ n ih =>
    intro x y b hx hx2 hn hb
    unfold f_X7_normal_L78
    refine ok_ite (fun d => ?_) (fun d => ?_)
    · have d1 : x.toInt.toNat = 32 := by clear hb hK ih hex; ((try simp only [Int32.lt_iff_toInt_lt, Int32.le_iff_toInt_le, Int32.not_lt, Int32.not_le, li_0, li_1, li_2, li_3, li_4, li_5, li_6, li_7, li_8, li_10, li_12, li_15, li_16, li_20, li_30, li_31, li_32, li_33, li_63, li_64, li_128, li_255, li_256, li_1000, li_4096, li_8000, li_8192, li_20000, li_65535, li_65536, li_70000, li_1000000, lim_1, lim_2, lim_3, lim_10] at *) <;> omega)
      rcases hb with ⟨_, q⟩ | q
      · rw [d1] at q
        obtain ⟨s, h1, h2⟩ := hex
        have := q s h1
        omega
      · exact hK _ _ _ q.1 q.2
    · have d1 : x.toInt < 32 := by clear hb hK ih hex; ((try simp only [Int32.lt_iff_toInt_lt, Int32.le_iff_toInt_le, Int32.not_lt, Int32.not_le, li_0, li_1, li_2, li_3, li_4, li_5, li_6, li_7, li_8, li_10, li_12, li_15, li_16, li_20, li_30, li_31, li_32, li_33, li_63, li_64, li_128, li_255, li_256, li_1000, li_4096, li_8000, li_8192, li_20000, li_65535, li_65536, li_70000, li_1000000, lim_1, lim_2, lim_3, lim_10] at *) <;> omega)
      have e1 := inc32 (x := x) (by omega)
      have e2 : (x + (1 : Int32)).toInt.toNat = x.toInt.toNat + 1 := by omega
      have g : ∀ y' : Int64, ok (f_X7_normal_L78 u n K (x + (1 : Int32)) y' x) Q := fun y' => ih _ _ _ (by omega) (by omega) (by omega) (Or.inr ⟨hx, d1⟩)
      refine ok_gdi hx (by omega) (ok_ite (fun q => ok_bnd (ih _ _ _ (by omega) (by omega) (by omega) ?_)) (fun q => ?_))
      · rcases hb with ⟨q1, q2⟩ | q1
        · refine Or.inl ⟨q1, fun s hs => ?_⟩
          rcases Nat.lt_or_ge s x.toInt.toNat with r | r
          · exact q2 s r
          · have : s = x.toInt.toNat := by omega
            subst this
            rw [shr0]
            have q : u.2.1 8 x.toNatClampNeg ≤ (0 : Int32) := q
            rw [Int32.le_iff_toInt_le, li_0] at q
            exact q
        · exact Or.inr q1
      · refine ok_gdi hx (by omega) (ok_gdi hx (by omega) (ok_oC1 (s_X7_logarithm _) (fun _ _ => ok_gdi hx (by omega) (ok_oC1 (s_X7_logarithm _) (fun _ _ => ok_bnd (ok_ite (fun _ => ok_bnd (g _)) (fun r => ok_ite (fun _ => ok_bnd (ih _ _ _ (by omega) (by omega) (by omega) ?_)) (fun _ => ok_bnd (g _)))))))))
        rcases hb with ⟨q1, _⟩ | q1
        · exact absurd q1 r
        · exact Or.inr q1
theorem s_X7_normal_L65 {g : GH} (lg : Int32) (N : Int) (hN : N ≤ 4096) {Q : OS × Int32 → Prop} (K : Int32 → OS → Option (OS × Int32)) (hK : ∀ x u, IM g u → u.1 7 = 0 → u.1 0 = lg → SH u 0 N → ok (K x u) Q) : ∀ (n : Nat) (x : Int32) (u : OS), 0 ≤ x.toInt → x.toInt.toNat < n → IM g u → u.1 7 = 0 → u.1 0 = lg → (∀ s, s < 32 → 0 ≤ (shr u 0 s).toInt) → psum (shr u 0) 32 = N - x.toInt → (∃ s, s < 32 ∧ 0 < (shr u 0 s).toInt) → ok (f_X7_normal_L65 n K x u) Q := by
  intro n
  induction n with
  | zero => intro x u _ hn; omega
  | succ n ih =>
    intro x u hx hn h z hl ha hb hex
    unfold f_X7_normal_L65
    refine ok_ite (fun d => hK _ _ h z hl ⟨ha, ?_⟩) (fun d => ?_)
    · have d1 : x.toInt = 0 := by clear hb ha hK ih hex; ((try simp only [Int32.lt_iff_toInt_lt, Int32.le_iff_toInt_le, Int32.not_lt, Int32.not_le, li_0, li_1, li_2, li_3, li_4, li_5, li_6, li_7, li_8, li_10, li_12, li_15, li_16, li_20, li_30, li_31, li_32, li_33, li_63, li_64, li_128, li_255, li_256, li_1000, li_4096, li_8000, li_8192, li_20000, li_65535, li_65536, li_70000, li_1000000, lim_1, lim_2, lim_3, lim_10] at *) <;> omega)
      rw [hb]; omega
    · have d1 : 0 < x.toInt := by clear hb ha hK ih hex; ((try simp only [Int32.lt_iff_toInt_lt, Int32.le_iff_toInt_le, Int32.not_lt, Int32.not_le, li_0, li_1, li_2, li_3, li_4, li_5, li_6, li_7, li_8, li_10, li_12, li_15, li_16, li_20, li_30, li_31, li_32, li_33, li_63, li_64, li_128, li_255, li_256, li_1000, li_4096, li_8000, li_8192, li_20000, li_65535, li_65536, li_70000, li_1000000, lim_1, lim_2, lim_3, lim_10] at *) <;> omega)
      have e1 : (x + (-1 : Int32)).toInt = x.toInt - 1 := dec32 (x := x) (by omega)
      have m1 : 0 ≤ (x + (-1 : Int32)).toInt := by rw [e1]; clear hex hb ha hK ih; omega
      have m2 : (x + (-1 : Int32)).toInt.toNat < n := by rw [e1]; clear hex hb ha hK ih; omega
      refine ok_bnd (s_X7_normal_L78 u hex _ ?_ FU _ _ _ (by decide) (by decide) (by decide) (Or.inl ⟨rfl, fun s hs => absurd hs (Nat.not_lt_zero s)⟩))
      intro a y b ha0 ha1
      have hel := psum_el ha (s := a.toInt.toNat) (by omega)
      have hs0 := shr0 u a.toInt.toNat
      have e3 : (u.2.1 8 a.toNatClampNeg).toInt ≤ 4096 := by
        have : u.2.1 8 a.toNatClampNeg = shr u 0 a.toInt.toNat := hs0.symm
        rw [this]
        clear hex ih hK
        omega
      have e4 := inc32 (x := u.2.1 8 a.toNatClampNeg) (by omega)
      have e5 : (u.2.1 8 a.toNatClampNeg) = shr u 0 a.toInt.toNat := hs0.symm
      refine ok_gdi ha0 (by omega) (ok_gdi ha0 (by omega) (ok_bnd (ok_bnd ?_)))
      have hs : ∀ s, shr (sA u 8 a (u.2.1 8 a.toNatClampNeg + (1 : Int32))) 0 s = if s = a.toInt.toNat then (u.2.1 8 a.toNatClampNeg + (1 : Int32)) else shr u 0 s := shr_set (p := 0) (by show a.toInt.toNat = _; omega)
      have e6 := ha a.toInt.toNat (by omega)
      refine ih _ _ m1 m2 (IM_8 h z) z hl ?_ ?_ ?_
      · intro s hs1
        rw [hs s]
        by_cases q : s = a.toInt.toNat
        · rw [if_pos q, e4, e5]; omega
        · rw [if_neg q]; exact ha s hs1
      · rw [psum_upd (f := shr u 0) (k := a.toInt.toNat) (fun s q => by rw [hs s, if_neg q]) 32 (by omega), hs, if_pos rfl, e4, e5, hb, e1]
        clear hex ih hK
        omega
      · refine ⟨a.toInt.toNat, by omega, ?_⟩
        rw [hs, if_pos rfl, e4, e5]
        omega

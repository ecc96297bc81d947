theorem shr32 (a : Int32) (k : Nat) (hk : k < 32) : (a >>> (nI k &&& (31 : Int32))).toInt = a.toInt / ((2 ^ k : Nat) : Int) := by
  have e : ∀ k, k < 32 → ((nI k &&& (31 : Int32)).toBitVec.smod 32).toNat = k := by decide
  show ((a >>> (nI k &&& (31 : Int32))).toBitVec).toInt = _
  rw [Int32.toBitVec_shiftRight, BitVec.toInt_sshiftRight', e k hk, Int.shiftRight_eq_div_pow]
  rfl
theorem nI_ex {x : Int32} (h : 0 ≤ x.toInt) : ∃ k : Nat, x = nI k ∧ (k : Int) = x.toInt ∧ k < 2 ^ 31 := by
  have h2 := i32_hi x
  have h3 : x.toInt.toNat < 2 ^ 31 := by omega
  refine ⟨x.toInt.toNat, ?_, by omega, h3⟩
  apply Int32.toInt_inj.mp
  rw [nI_toInt h3]
  omega
theorem IM_7 {u : OS} (h : IM u) : IM (sF u 7 (0 : Int32)) := by
  obtain ⟨h0, h2, h3, h4, h5, h10, h7, h15, h14, h18, h25, h32, h11, h13⟩ := h
  exact ⟨h0, h2, h3, h4, h5, h10, Or.inl rfl, h15, h14, h18, h25, h32, h11, h13⟩
theorem IM_1 {u : OS} {v : Int32} (h : IM u) : IM (sF u 1 v) := h
theorem s_X7_counts_L28 {Q : OS × Int32 → Prop} (K : Int32 → OS → Option (OS × Int32)) (hK : ∀ x u, IM u → ok (K x u) Q) : ∀ (n : Nat) (x : Int32) (u : OS), IM u → 0 ≤ x.toInt → x.toInt ≤ 1000 → (1000 - x.toInt).toNat < n → ok (f_X7_counts_L28 n K x u) Q := by
  intro n
  induction n with
  | zero => intro x u _ _ _ hn; omega
  | succ n ih =>
    intro x u h hx hx2 hn
    unfold f_X7_counts_L28
    have h5 : (u.1 5).toInt ≤ 1000 := h.2.2.2.2.1.2
    refine ok_ite (fun c => hK _ _ h) (fun c => ?_)
    have c1 : x.toInt < (u.1 5).toInt := by ((try simp only [Int32.lt_iff_toInt_lt, Int32.le_iff_toInt_le, Int32.not_lt, Int32.not_le, li_0, li_1, li_2, li_3, li_4, li_5, li_6, li_7, li_8, li_10, li_12, li_15, li_16, li_20, li_30, li_31, li_32, li_33, li_63, li_64, li_128, li_255, li_256, li_1000, li_4096, li_8000, li_8192, li_20000, li_65535, li_65536, li_70000, li_1000000, lim_1, lim_2, lim_3, lim_10] at *) <;> omega)
    have e1 := inc32 (x := x) (by omega)
    have r := h.2.2.2.1 x.toNatClampNeg
    refine ok_gdi hx (by omega) (ok_gdi r.1 r.2 (ok_gdi r.1 r.2 (ok_bnd (ok_bnd (ih _ _ ?_ (by omega) (by omega) (by omega))))))
    exact h
theorem s_X7_counts_L7 {Q : OS × Int32 → Prop} (K : Int32 → OS → Option (OS × Int32)) (hK : ∀ x u, IM u → ok (K x u) Q) : ∀ (n : Nat) (x : Int32) (u : OS), IM u → 0 ≤ x.toInt → x.toInt ≤ 32 → (32 - x.toInt).toNat < n → ok (f_X7_counts_L7 n K x u) Q := by
  intro n
  induction n with
  | zero => intro x u _ _ _ hn; omega
  | succ n ih =>
    intro x u h hx hx2 hn
    unfold f_X7_counts_L7
    refine ok_ite (fun c => hK _ _ h) (fun c => ?_)
    have c1 : x.toInt < 32 := by ((try simp only [Int32.lt_iff_toInt_lt, Int32.le_iff_toInt_le, Int32.not_lt, Int32.not_le, li_0, li_1, li_2, li_3, li_4, li_5, li_6, li_7, li_8, li_10, li_12, li_15, li_16, li_20, li_30, li_31, li_32, li_33, li_63, li_64, li_128, li_255, li_256, li_1000, li_4096, li_8000, li_8192, li_20000, li_65535, li_65536, li_70000, li_1000000, lim_1, lim_2, lim_3, lim_10] at *) <;> omega)
    have e1 := inc32 (x := x) (by omega)
    refine ok_gdi hx (by omega) (ok_bnd (ok_bnd (ih _ _ ?_ (by omega) (by omega) (by omega))))
    exact h
theorem s_X7_counts (u : OS) (h : IM u) : ok (f_X7_counts u) (fun q => IM q.1) := by
  unfold f_X7_counts
  refine ok_bnd (ok_bnd (s_X7_counts_L7 _ ?_ FU _ _ (IM_1 h) (by decide) (by decide) (by decide)))
  intro x u h
  refine ok_bnd (s_X7_counts_L28 _ ?_ FU _ _ h (by decide) (by decide) (by decide))
  intro x u h
  refine ok_bnd (ok_oC1 (s_X7_signsCounted _) (fun z _ => ok_some (IM_7 h)))
theorem s_X7_logarithm_L30 {Q : Int64 → Prop} (K : Int64 → Int64 → Int32 → Option Int64) (hK : ∀ a b x, ok (K a b x) Q) : ∀ (n : Nat) (x : Int32) (y z : Int64), 0 ≤ x.toInt → x.toInt ≤ 30 → (30 - x.toInt).toNat < n → ok (f_X7_logarithm_L30 n K x y z) Q := by
  intro n
  induction n with
  | zero => intro x _ _ _ _ hn; omega
  | succ n ih =>
    intro x y z hx hx2 hn
    unfold f_X7_logarithm_L30
    refine ok_ite (fun c => hK _ _ _) (fun c => ?_)
    have c1 : x.toInt < 30 := by ((try simp only [Int32.lt_iff_toInt_lt, Int32.le_iff_toInt_le, Int32.not_lt, Int32.not_le, li_0, li_1, li_2, li_3, li_4, li_5, li_6, li_7, li_8, li_10, li_12, li_15, li_16, li_20, li_30, li_31, li_32, li_33, li_63, li_64, li_128, li_255, li_256, li_1000, li_4096, li_8000, li_8192, li_20000, li_65535, li_65536, li_70000, li_1000000, lim_1, lim_2, lim_3, lim_10] at *) <;> omega)
    have e1 := inc32 (x := x) (by omega)
    refine ok_bnd (ok_bnd (ok_ite (fun _ => ok_bnd (ok_bnd (ok_bnd (ih _ _ _ (by omega) (by omega) (by omega))))) (fun _ => ok_bnd (ok_bnd (ok_bnd (ih _ _ _ (by omega) (by omega) (by omega)))))))
theorem s_X7_logarithm_L2 (p : Int32) {Q : Int64 → Prop} (K : Int32 → Option Int64) (hK : ∀ x, ok (K x) Q) : ∀ (n : Nat) (x : Int32), 0 ≤ x.toInt → x.toInt ≤ 31 → (31 - x.toInt).toNat < n → ok (f_X7_logarithm_L2 p n K x) Q := by
  intro n
  induction n with
  | zero => intro x _ _ hn; omega
  | succ n ih =>
    intro x hx hx2 hn
    unfold f_X7_logarithm_L2
    refine ok_ite (fun c => hK _) (fun c => ?_)
    have c1 : x.toInt < 31 := by
      rcases Int.lt_or_le x.toInt 31 with q | q
      · exact q
      · exfalso
        obtain ⟨k, e, e2, _⟩ := nI_ex hx
        subst e
        have hk : k = 31 := by omega
        subst hk
        have e3 := shr32 p 31 (by decide)
        have e4 := i32_hi p
        have e5 : ((2 ^ 31 : Nat) : Int) = 2147483648 := by decide
        rw [e5] at e3
        apply c
        rw [Int32.le_iff_toInt_le, li_1, e3]
        omega
    have e1 := inc32 (x := x) (by omega)
    exact ok_bnd (ih _ (by omega) (by omega) (by omega))
theorem s_X7_logarithm (p : Int32) : ok (f_X7_logarithm p) (fun _ => True) := by
  unfold f_X7_logarithm
  refine ok_bnd (s_X7_logarithm_L2 p _ ?_ FU _ (by decide) (by decide) (by decide))
  intro x
  refine ok_bnd (ok_bnd (ok_bnd (s_X7_logarithm_L30 _ (fun a b x => ok_some trivial) FU _ _ _ (by decide) (by decide) (by decide))))
theorem s_X7_lg (u : OS) (p : Int32) (h : IM u) : ok (f_X7_lg u p) (fun q => IM q.1) := by
  unfold f_X7_lg
  exact ok_bnd (ok_ite (fun _ => ok_some h) (fun _ => ok_ite (fun _ => ok_oC1 (s_X7_logarithm p) (fun _ _ => ok_some h)) (fun _ => ok_some h)))
theorem s_X7_share (u : OS) (p : Int32) (h : IM u) : ok (f_X7_share u p) (fun q => IM q.1) := by
  unfold f_X7_share
  refine ok_bnd (ok_ite (fun _ => ok_some h) (fun c => ok_ite (fun c2 => ok_ite (fun _ => ok_some h) (fun _ => ok_gdi (by ((try simp only [Int32.lt_iff_toInt_lt, Int32.le_iff_toInt_le, Int32.not_lt, Int32.not_le, li_0, li_1, li_2, li_3, li_4, li_5, li_6, li_7, li_8, li_10, li_12, li_15, li_16, li_20, li_30, li_31, li_32, li_33, li_63, li_64, li_128, li_255, li_256, li_1000, li_4096, li_8000, li_8192, li_20000, li_65535, li_65536, li_70000, li_1000000, lim_1, lim_2, lim_3, lim_10] at *) <;> omega)) (by ((try simp only [Int32.lt_iff_toInt_lt, Int32.le_iff_toInt_le, Int32.not_lt, Int32.not_le, li_0, li_1, li_2, li_3, li_4, li_5, li_6, li_7, li_8, li_10, li_12, li_15, li_16, li_20, li_30, li_31, li_32, li_33, li_63, li_64, li_128, li_255, li_256, li_1000, li_4096, li_8000, li_8192, li_20000, li_65535, li_65536, li_70000, li_1000000, lim_1, lim_2, lim_3, lim_10] at *) <;> omega)) (ok_some h))) (fun _ => ok_some h)))
theorem s_X7_loss_L20 (u : OS) {Q : OS × Int64 → Prop} (K : Int64 → Int32 → Option (OS × Int64)) (hK : ∀ y x, ok (K y x) Q) : ∀ (n : Nat) (x : Int32) (y : Int64), 0 ≤ x.toInt → x.toInt ≤ 32 → (32 - x.toInt).toNat < n → ok (f_X7_loss_L20 u n K x y) Q := by
  intro n
  induction n with
  | zero => intro x _ _ _ hn; omega
  | succ n ih =>
    intro x y hx hx2 hn
    unfold f_X7_loss_L20
    refine ok_ite (fun c => hK _ _) (fun c => ?_)
    have c1 : x.toInt < 32 := by ((try simp only [Int32.lt_iff_toInt_lt, Int32.le_iff_toInt_le, Int32.not_lt, Int32.not_le, li_0, li_1, li_2, li_3, li_4, li_5, li_6, li_7, li_8, li_10, li_12, li_15, li_16, li_20, li_30, li_31, li_32, li_33, li_63, li_64, li_128, li_255, li_256, li_1000, li_4096, li_8000, li_8192, li_20000, li_65535, li_65536, li_70000, li_1000000, lim_1, lim_2, lim_3, lim_10] at *) <;> omega)
    have e1 := inc32 (x := x) (by omega)
    refine ok_gdi hx (by omega) (ok_ite (fun _ => ok_bnd (ok_bnd (ih _ _ (by omega) (by omega) (by omega)))) (fun _ => ok_gdi hx (by omega) (ok_gdi hx (by omega) (ok_oC1 (s_X7_logarithm _) (fun _ _ => ok_bnd (ok_bnd (ih _ _ (by omega) (by omega) (by omega))))))))
theorem s_X7_loss (u : OS) (h : IM u) : ok (f_X7_loss u) (fun q => IM q.1) := by
  unfold f_X7_loss
  exact ok_bnd (ok_ite (fun _ => ok_some h) (fun _ => ok_bnd (s_X7_loss_L20 _ _ (fun _ _ => ok_some h) FU _ _ (by decide) (by decide) (by decide))))
theorem s_X7_form (u : OS) (p : Int32) (h : IM u) : ok (f_X7_form u p) (fun q => IM q.1) := by
  unfold f_X7_form
  obtain ⟨h0, h2, h3, h4, h5, h10, h7, h15, h14, h18, h25, h32, h11, h13⟩ := h
  refine ok_bnd (ok_ite (fun _ => ok_some ⟨h0, h2, h3, h4, h5, h10, h7, h15, h14, h18, h25, h32, h11, h13⟩) (fun c => ok_ite (fun c2 => ok_bnd (ok_bnd (ok_some ⟨h0, ?_, h3, h4, h5, h10, h7, h15, h14, h18, h25, h32, h11, h13⟩))) (fun _ => ok_some ⟨h0, h2, h3, h4, h5, h10, h7, h15, h14, h18, h25, h32, h11, h13⟩)))
  show 0 ≤ p.toInt ∧ p.toInt ≤ 3
  constructor <;> ((try simp only [Int32.lt_iff_toInt_lt, Int32.le_iff_toInt_le, Int32.not_lt, Int32.not_le, li_0, li_1, li_2, li_3, li_4, li_5, li_6, li_7, li_8, li_10, li_12, li_15, li_16, li_20, li_30, li_31, li_32, li_33, li_63, li_64, li_128, li_255, li_256, li_1000, li_4096, li_8000, li_8192, li_20000, li_65535, li_65536, li_70000, li_1000000, lim_1, lim_2, lim_3, lim_10] at *) <;> omega)
theorem s_X7_lanes (u : OS) (p : Int32) (h : IM u) : ok (f_X7_lanes u p) (fun q => IM q.1) := by
  unfold f_X7_lanes
  have hh : (p.toInt = 1 ∨ p.toInt = 2 ∨ p.toInt = 4) → IM (sF (sF u 1 (0 : Int32)) 3 p) := by
    intro hp
    obtain ⟨h0, h2, h3, h4, h5, h10, h7, h15, h14, h18, h25, h32, h11, h13⟩ := h
    exact ⟨h0, h2, hp, h4, h5, h10, h7, h15, h14, h18, h25, h32, h11, h13⟩
  refine ok_bnd (ok_bnd (ok_ite (fun c => ok_bnd (ok_bnd (ok_some (hh (by subst c; decide))))) (fun _ => ok_ite (fun c => ok_bnd (ok_bnd (ok_some (hh (by subst c; decide))))) (fun _ => ok_ite (fun c => ok_bnd (ok_bnd (ok_some (hh (by subst c; decide))))) (fun _ => ok_some h)))))
theorem s_X7_rule (u : OS) (h : IM u) : ok (f_X7_rule u) (fun q => IM q.1) := by
  unfold f_X7_rule
  exact ok_bnd (ok_some h)
theorem s_X7_sign (u : OS) (p : Int32) (h : IM u) : ok (f_X7_sign u p) (fun q => IM q.1) := by
  unfold f_X7_sign
  have h25 : (u.1 25).toInt ≤ 65535 := h.2.2.2.2.2.2.2.2.2.2.1.2
  refine ok_bnd (ok_ite (fun _ => ok_some h) (fun c => ok_ite (fun c2 => ?_) (fun _ => ok_some h)))
  have c2 : p < u.1 25 := c2
  exact ok_gdi (by ((try simp only [Int32.lt_iff_toInt_lt, Int32.le_iff_toInt_le, Int32.not_lt, Int32.not_le, li_0, li_1, li_2, li_3, li_4, li_5, li_6, li_7, li_8, li_10, li_12, li_15, li_16, li_20, li_30, li_31, li_32, li_33, li_63, li_64, li_128, li_255, li_256, li_1000, li_4096, li_8000, li_8192, li_20000, li_65535, li_65536, li_70000, li_1000000, lim_1, lim_2, lim_3, lim_10] at *) <;> omega)) (by ((try simp only [Int32.lt_iff_toInt_lt, Int32.le_iff_toInt_le, Int32.not_lt, Int32.not_le, li_0, li_1, li_2, li_3, li_4, li_5, li_6, li_7, li_8, li_10, li_12, li_15, li_16, li_20, li_30, li_31, li_32, li_33, li_63, li_64, li_128, li_255, li_256, li_1000, li_4096, li_8000, li_8192, li_20000, li_65535, li_65536, li_70000, li_1000000, lim_1, lim_2, lim_3, lim_10] at *) <;> omega)) (ok_some h)
theorem s_X7_state (u : OS) (p q : Int32) (h : IM u) : ok (f_X7_state u p q) (fun q => IM q.1) := by
  unfold f_X7_state
  have h18 : (u.1 18).toInt ≤ 4 := h.2.2.2.2.2.2.2.2.2.1.2
  have h32 := h.2.2.2.2.2.2.2.2.2.2.2.1
  refine ok_bnd (ok_ite (fun _ => ok_ite (fun _ => ok_some h) (fun c => ok_ite (fun c2 => ?_) (fun _ => ok_some h))) (fun _ => ok_ite (fun _ => ok_ite (fun _ => ok_some h) (fun d => ok_ite (fun _ => ok_some h) (fun c => ok_ite (fun c2 => ?_) (fun _ => ok_some h)))) (fun _ => ok_some h)))
  · have c2 : q < u.1 18 := c2
    exact ok_gdi (by ((try simp only [Int32.lt_iff_toInt_lt, Int32.le_iff_toInt_le, Int32.not_lt, Int32.not_le, li_0, li_1, li_2, li_3, li_4, li_5, li_6, li_7, li_8, li_10, li_12, li_15, li_16, li_20, li_30, li_31, li_32, li_33, li_63, li_64, li_128, li_255, li_256, li_1000, li_4096, li_8000, li_8192, li_20000, li_65535, li_65536, li_70000, li_1000000, lim_1, lim_2, lim_3, lim_10] at *) <;> omega)) (by ((try simp only [Int32.lt_iff_toInt_lt, Int32.le_iff_toInt_le, Int32.not_lt, Int32.not_le, li_0, li_1, li_2, li_3, li_4, li_5, li_6, li_7, li_8, li_10, li_12, li_15, li_16, li_20, li_30, li_31, li_32, li_33, li_63, li_64, li_128, li_255, li_256, li_1000, li_4096, li_8000, li_8192, li_20000, li_65535, li_65536, li_70000, li_1000000, lim_1, lim_2, lim_3, lim_10] at *) <;> omega)) (ok_some h)
  · have c2 : q < u.1 31 := c2
    have d1 : (u.1 31).toInt ≤ 4 := by
      rcases h32 with e | e
      · exact absurd e d
      · exact e
    exact ok_gdi (by ((try simp only [Int32.lt_iff_toInt_lt, Int32.le_iff_toInt_le, Int32.not_lt, Int32.not_le, li_0, li_1, li_2, li_3, li_4, li_5, li_6, li_7, li_8, li_10, li_12, li_15, li_16, li_20, li_30, li_31, li_32, li_33, li_63, li_64, li_128, li_255, li_256, li_1000, li_4096, li_8000, li_8192, li_20000, li_65535, li_65536, li_70000, li_1000000, lim_1, lim_2, lim_3, lim_10] at *) <;> omega)) (by ((try simp only [Int32.lt_iff_toInt_lt, Int32.le_iff_toInt_le, Int32.not_lt, Int32.not_le, li_0, li_1, li_2, li_3, li_4, li_5, li_6, li_7, li_8, li_10, li_12, li_15, li_16, li_20, li_30, li_31, li_32, li_33, li_63, li_64, li_128, li_255, li_256, li_1000, li_4096, li_8000, li_8192, li_20000, li_65535, li_65536, li_70000, li_1000000, lim_1, lim_2, lim_3, lim_10] at *) <;> omega)) (ok_some h)
theorem s_X7_out (u : OS) (p : Int32) (h : IM u) : ok (f_X7_out u p) (fun q => IM q.1) := by
  unfold f_X7_out
  have h15 : (u.1 15).toInt ≤ 20000 := h.2.2.2.2.2.2.2.1.2
  refine ok_bnd (ok_ite (fun _ => ok_some h) (fun c => ok_ite (fun c2 => ?_) (fun _ => ok_some h)))
  have c2 : p < u.1 15 := c2
  exact ok_gdi (by ((try simp only [Int32.lt_iff_toInt_lt, Int32.le_iff_toInt_le, Int32.not_lt, Int32.not_le, li_0, li_1, li_2, li_3, li_4, li_5, li_6, li_7, li_8, li_10, li_12, li_15, li_16, li_20, li_30, li_31, li_32, li_33, li_63, li_64, li_128, li_255, li_256, li_1000, li_4096, li_8000, li_8192, li_20000, li_65535, li_65536, li_70000, li_1000000, lim_1, lim_2, lim_3, lim_10] at *) <;> omega)) (by ((try simp only [Int32.lt_iff_toInt_lt, Int32.le_iff_toInt_le, Int32.not_lt, Int32.not_le, li_0, li_1, li_2, li_3, li_4, li_5, li_6, li_7, li_8, li_10, li_12, li_15, li_16, li_20, li_30, li_31, li_32, li_33, li_63, li_64, li_128, li_255, li_256, li_1000, li_4096, li_8000, li_8192, li_20000, li_65535, li_65536, li_70000, li_1000000, lim_1, lim_2, lim_3, lim_10] at *) <;> omega)) (ok_some h)
theorem s_X7_told (u : OS) (p : Int32) (h : IM u) : ok (f_X7_told u p) (fun q => IM q.1) := by
  unfold f_X7_told
  exact ok_bnd (ok_ite (fun _ => ok_some h) (fun _ => ok_ite (fun _ => ok_some h) (fun _ => ok_ite (fun _ => ok_some h) (fun _ => ok_ite (fun _ => ok_some h) (fun _ => ok_ite (fun _ => ok_some h) (fun _ => ok_ite (fun _ => ok_some h) (fun _ => ok_ite (fun _ => ok_ite (fun _ => ok_some h) (fun _ => ok_some h)) (fun _ => ok_some h))))))))

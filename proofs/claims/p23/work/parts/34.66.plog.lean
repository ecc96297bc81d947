-- ===== the two logarithms are one =====
theorem pw_ex (m : Nat) (h1 : 1 ≤ m) : ∀ n : Nat, m < 2 ^ n → ∃ k, k < n ∧ 2 ^ k ≤ m ∧ m < 2 * 2 ^ k := by
  intro n
  induction n with
  | zero => intro h; omega
  | succ n ih =>
    intro h
    rcases Nat.lt_or_ge m (2 ^ n) with q | q
    · obtain ⟨k, a, b, c⟩ := ih q
      exact ⟨k, by omega, b, c⟩
    · refine ⟨n, Nat.lt_succ_self n, q, ?_⟩
      rw [Nat.pow_succ] at h
      omega
theorem pw_le {a b : Nat} (h : 2 ^ a < 2 * 2 ^ b) : a ≤ b := by
  rcases Nat.lt_or_ge b a with q | q
  · exfalso
    have : 2 ^ (b + 1) ≤ 2 ^ a := Nat.pow_le_pow_right (by decide) q
    rw [Nat.pow_succ] at this
    omega
  · exact q
-- p / 2^j against 0 and 1
theorem sh_0 {p : Int32} {m j : Nat} (hm : p.toInt = m) (hj : j < 32) : (p >>> (nI j &&& (31 : Int32))) ≤ (0 : Int32) ↔ m < 2 ^ j := by
  rw [Int32.le_iff_toInt_le, li_0, shr32 p j hj, hm]
  have e : (m : Int) / ((2 ^ j : Nat) : Int) = ((m / 2 ^ j : Nat) : Int) := (Int.natCast_ediv m (2 ^ j)).symm
  have pj := Nat.two_pow_pos j
  rw [e]
  constructor
  · intro h
    have h2 : m / 2 ^ j = 0 := Nat.le_zero.mp (Int.ofNat_le.mp h)
    rcases Nat.lt_or_ge m (2 ^ j) with q | q
    · exact q
    · have := Nat.div_pos q pj
      omega
  · intro h
    rw [Nat.div_eq_of_lt h]
    exact Int.le_refl _
theorem sh_2 {p : Int32} {m j : Nat} (hm : p.toInt = m) (hj : j < 32) : (p >>> (nI j &&& (31 : Int32))) ≤ (1 : Int32) ↔ m < 2 * 2 ^ j := by
  rw [Int32.le_iff_toInt_le, li_1, shr32 p j hj, hm]
  have e : (m : Int) / ((2 ^ j : Nat) : Int) = ((m / 2 ^ j : Nat) : Int) := (Int.natCast_ediv m (2 ^ j)).symm
  have pj := Nat.two_pow_pos j
  rw [e]
  constructor
  · intro h
    have h2 : m / 2 ^ j < 2 := Nat.lt_succ_of_le (Int.ofNat_le.mp h)
    exact (Nat.div_lt_iff_lt_mul pj).mp h2
  · intro h
    have h2 : m / 2 ^ j < 2 := (Nat.div_lt_iff_lt_mul pj).mpr h
    exact Int.ofNat_le.mpr (Nat.le_of_lt_succ h2)
theorem lg_L2 {p : Int32} {m k : Nat} (hm : p.toInt = m) (hk : k < 31) (h1 : 2 ^ k ≤ m) (h2 : m < 2 * 2 ^ k) (K : Int32 → Option Int64) : ∀ (n j : Nat), j ≤ k → k - j < n → f_X7_logarithm_L2 p n K (nI j) = K (nI k) := by
  intro n
  induction n with
  | zero => intro j _ h; omega
  | succ n ih =>
    intro j hj hn
    unfold f_X7_logarithm_L2
    by_cases c : (p >>> (nI j &&& (31 : Int32))) ≤ (1 : Int32)
    · rw [if_pos c]
      have c1 := (sh_2 hm (by omega)).mp c
      have : k ≤ j := pw_le (by omega)
      have : j = k := by omega
      rw [this]
    · rw [if_neg c]
      have c1 := mt (sh_2 hm (by omega)).mpr c
      have hjk : j < k := by
        rcases Nat.lt_or_ge j k with q | q
        · exact q
        · have : j = k := by omega
          subst this
          exact absurd h2 c1
      show f_X7_logarithm_L2 p n K (nI j + (1 : Int32)) = K (nI k)
      rw [nI_1]
      exact ih (j + 1) hjk (by omega)
theorem bl_L4 {p : Int32} {m k : Nat} (hm : p.toInt = m) (hk : k < 31) (h1 : 2 ^ k ≤ m) (h2 : m < 2 * 2 ^ k) (K : Int32 → Int32 → Option Int32) : ∀ (n j : Nat) (y : Int32), j ≤ 31 → 31 - j < n → y = nI (if j ≤ k then j else k + 1) → ∃ x, f_X6_bitLength_L4 p n K (nI j) y = K (nI (k + 1)) x := by
  intro n
  induction n with
  | zero => intro j y _ h; omega
  | succ n ih =>
    intro j y hj hn hy
    have ej : (nI j).toInt = j := nI_toInt (by omega)
    unfold f_X6_bitLength_L4
    by_cases c : (31 : Int32) ≤ nI j
    · rw [if_pos c]
      have c1 := Int32.le_iff_toInt_le.mp c
      rw [li_31, ej] at c1
      rw [if_neg (by omega)] at hy
      exact ⟨_, by rw [hy]⟩
    · rw [if_neg c]
      have c1 := mt Int32.le_iff_toInt_le.mpr c
      rw [li_31, ej] at c1
      by_cases d : (p >>> (nI j &&& (31 : Int32))) ≤ (0 : Int32)
      · rw [if_pos d]
        have d1 := (sh_0 hm (by omega)).mp d
        have hkj : k < j := by
          rcases Nat.lt_or_ge k j with q | q
          · exact q
          · have := Nat.pow_le_pow_right (n := 2) (by decide) q
            omega
        rw [if_neg (by omega)] at hy
        show ∃ x, f_X6_bitLength_L4 p n K (nI j + (1 : Int32)) y = K (nI (k + 1)) x
        rw [nI_1]
        exact ih (j + 1) y (by omega) (by omega) (by rw [if_neg (by omega)]; exact hy)
      · rw [if_neg d]
        have d1 := mt (sh_0 hm (by omega)).mpr d
        have hkj : j ≤ k := pw_le (by omega)
        show ∃ x, f_X6_bitLength_L4 p n K (nI j + (1 : Int32)) (nI j + (1 : Int32)) = K (nI (k + 1)) x
        rw [nI_1]
        refine ih (j + 1) _ (by omega) (by omega) ?_
        by_cases q : j + 1 ≤ k
        · rw [if_pos q]
        · rw [if_neg q]
          have : j = k := by omega
          rw [this]
theorem sh_30 : (((((30 : Int32)).toInt64 &&& (63 : Int64))).toBitVec.smod 64).toNat = 30 := by decide
theorem sh_31 : (((((31 : Int32)).toInt64 &&& (63 : Int64))).toBitVec.smod 64).toNat = 31 := by decide
theorem la_4 : ∀ k : Nat, k < 31 → ((((30 : Int32) - nI k).toInt64 &&& (63 : Int64)).toBitVec.smod 64).toNat = 30 - k := by decide
theorem sq_b {y : Int} (h1 : 1073741824 ≤ y) (h2 : y < 2147483648) : 1152921504606846976 ≤ y * y ∧ y * y < 4611686018427387904 := by
  have a1 : 1073741824 * 1073741824 ≤ y * y := Int.mul_le_mul h1 h1 (by decide) (by omega)
  have a2 : y * y ≤ 2147483647 * 2147483647 := Int.mul_le_mul (by omega) (by omega) (by omega) (by decide)
  omega
set_option maxHeartbeats 1000000 in
theorem lg_loop (K : Int64 → Int64 → Int32 → Option Int64) : ∀ (n : Nat) (x : Int32) (y z : Int64), 1073741824 ≤ z.toInt → z.toInt < 2147483648 → f_X0_reckon_L22 n K x y z = f_X7_logarithm_L30 n K x y z := by
  intro n
  induction n with
  | zero => intro x y z _ _; rfl
  | succ n ih =>
    intro x y z h1 h2
    unfold f_X0_reckon_L22 f_X7_logarithm_L30
    by_cases c : (30 : Int32) ≤ x
    · rw [if_pos c, if_pos c]
    · rw [if_neg c, if_neg c]
      have sq := sq_b h1 h2
      have e0 : (z * z).toInt = z.toInt * z.toInt := mul64 (by omega) (by omega)
      have e30 : ((2 ^ 30 : Nat) : Int) = 1073741824 := by decide
      have e31 : ((2 ^ 31 : Nat) : Int) = 2147483648 := by decide
      have e1 := shr64 (z * z) ((((30 : Int32)).toInt64 &&& (63 : Int64))) 30 sh_30
      rw [e0, e30] at e1
      generalize hw : (z * z) >>> (((30 : Int32)).toInt64 &&& (63 : Int64)) = w at e1
      have w1 : 1073741824 ≤ w.toInt := by omega
      have w2 : w.toInt < 4294967296 := by omega
      have l31 : ((2147483648 : Int64)).toInt = 2147483648 := by decide
      have e2 := shr64 w ((((31 : Int32)).toInt64 &&& (63 : Int64))) 31 sh_31
      rw [e31] at e2
      have e3 : ((w >>> (((31 : Int32)).toInt64 &&& (63 : Int64)))).toInt32.toInt = w.toInt / 2147483648 := by rw [ti32 (by omega) (by omega), e2]
      show (bnd w fun y14 => bnd ((y14 >>> (((31 : Int32)).toInt64 &&& (63 : Int64)))).toInt32 fun x15 =>
        bnd (((2 : Int64) * y) + (x15).toInt64) fun y16 => bnd (y14 >>> ((x15).toInt64 &&& (63 : Int64))) fun y17 => bnd (x + (1 : Int32)) fun x18 => f_X0_reckon_L22 n K x18 y16 y17) = (bnd w fun y14 => bnd (fun (x15 : Int32) =>
        bnd (y14 >>> ((x15).toInt64 &&& (63 : Int64))) fun y17 => bnd (((2 : Int64) * y) + (x15).toInt64) fun y18 => bnd (x + (1 : Int32)) fun x19 => f_X7_logarithm_L30 n K x19 y18 y17) fun K57_16 =>
        if y14 < (2147483648 : Int64) then (K57_16 (0 : Int32)) else (K57_16 (1 : Int32)))
      by_cases d : w < (2147483648 : Int64)
      · have d1 := Int64.lt_iff_toInt_lt.mp d
        rw [l31] at d1
        have ex : ((w >>> (((31 : Int32)).toInt64 &&& (63 : Int64)))).toInt32 = (0 : Int32) := Int32.toInt_inj.mp (by rw [e3, li_0]; omega)
        have e0 : w >>> (((0 : Int32)).toInt64 &&& (63 : Int64)) = w := by
          refine Int64.toInt_inj.mp ?_
          rw [shr64 w (((0 : Int32)).toInt64 &&& (63 : Int64)) 0 (by decide)]
          have : ((2 ^ 0 : Nat) : Int) = 1 := by decide
          rw [this, Int.ediv_one]
        show f_X0_reckon_L22 n K (x + (1 : Int32)) (((2 : Int64) * y) + (((w >>> (((31 : Int32)).toInt64 &&& (63 : Int64)))).toInt32).toInt64) (w >>> ((((w >>> (((31 : Int32)).toInt64 &&& (63 : Int64)))).toInt32).toInt64 &&& (63 : Int64))) = if w < (2147483648 : Int64) then f_X7_logarithm_L30 n K (x + (1 : Int32)) (((2 : Int64) * y) + ((0 : Int32)).toInt64) (w >>> (((0 : Int32)).toInt64 &&& (63 : Int64))) else f_X7_logarithm_L30 n K (x + (1 : Int32)) (((2 : Int64) * y) + ((1 : Int32)).toInt64) (w >>> (((1 : Int32)).toInt64 &&& (63 : Int64)))
        rw [if_pos d, ex, e0]
        exact ih _ _ _ w1 d1
      · have d1 := mt Int64.lt_iff_toInt_lt.mpr d
        rw [l31] at d1
        have ex : ((w >>> (((31 : Int32)).toInt64 &&& (63 : Int64)))).toInt32 = (1 : Int32) := Int32.toInt_inj.mp (by rw [e3, li_1]; omega)
        have e1' := shr64 w (((1 : Int32)).toInt64 &&& (63 : Int64)) 1 sh_1
        have e21 : ((2 ^ 1 : Nat) : Int) = 2 := by decide
        rw [e21] at e1'
        show f_X0_reckon_L22 n K (x + (1 : Int32)) (((2 : Int64) * y) + (((w >>> (((31 : Int32)).toInt64 &&& (63 : Int64)))).toInt32).toInt64) (w >>> ((((w >>> (((31 : Int32)).toInt64 &&& (63 : Int64)))).toInt32).toInt64 &&& (63 : Int64))) = if w < (2147483648 : Int64) then f_X7_logarithm_L30 n K (x + (1 : Int32)) (((2 : Int64) * y) + ((0 : Int32)).toInt64) (w >>> (((0 : Int32)).toInt64 &&& (63 : Int64))) else f_X7_logarithm_L30 n K (x + (1 : Int32)) (((2 : Int64) * y) + ((1 : Int32)).toInt64) (w >>> (((1 : Int32)).toInt64 &&& (63 : Int64)))
        rw [if_neg d, ex]
        exact ih _ _ _ (by omega) (by omega)
theorem bnd_e {α β : Type} {e : α} {k : α → β} {r : β} (h : k e = r) : bnd e k = r := h
theorem oC1_e {a r : Type} {x : a} {k : a → Option r} {o : Option r} (h : k x = o) : oC1 (some x) k = o := h
theorem bl_eq {p : Int32} {m k : Nat} (hm : p.toInt = m) (hk : k < 31) (h1 : 2 ^ k ≤ m) (h2 : m < 2 * 2 ^ k) : f_X6_bitLength p = some (nI (k + 1)) := by
  obtain ⟨x, e⟩ := bl_L4 hm hk h1 h2 (fun (x3 : Int32) (x4 : Int32) => some x3) FU 0 (nI 0) (by decide) (by decide) (by rw [if_pos (Nat.zero_le k)])
  have h0 : nI 0 = (0 : Int32) := rfl
  rw [h0] at e
  unfold f_X6_bitLength
  exact bnd_e e
theorem lg_eq {p : Int32} {m k : Nat} (hm : p.toInt = m) (hk : k < 31) (h1 : 2 ^ k ≤ m) (h2 : m < 2 * 2 ^ k) : f_X7_logarithm p = f_X7_logarithm_L30 FU (fun (y9 : Int64) (y10 : Int64) (x11 : Int32) => some y10) (0 : Int32) (nI k).toInt64 (p.toInt64 <<< ((((30 : Int32) - nI k)).toInt64 &&& (63 : Int64))) := by
  have h0 : nI 0 = (0 : Int32) := rfl
  unfold f_X7_logarithm
  refine bnd_e ?_
  rw [← h0, lg_L2 hm hk h1 h2 _ FU 0 (Nat.zero_le k) (by show k - 0 < 100000; omega), h0]
  exact bnd_e (bnd_e (bnd_e rfl))
theorem shp {p : Int32} {m k : Nat} (hm : p.toInt = m) (hk : k < 31) (h1 : 2 ^ k ≤ m) (h2 : m < 2 * 2 ^ k) : (p.toInt64 <<< ((((30 : Int32) - nI k)).toInt64 &&& (63 : Int64))).toInt = ((m * 2 ^ (30 - k) : Nat) : Int) ∧ 1073741824 ≤ m * 2 ^ (30 - k) ∧ m * 2 ^ (30 - k) < 2147483648 := by
  have s := shl64 p.toInt64 ((((30 : Int32) - nI k)).toInt64 &&& (63 : Int64)) (30 - k) (la_4 k hk) (by rw [tl32]; omega)
  have pw : 2 ^ k * 2 ^ (30 - k) = 1073741824 := by
    rw [← Nat.pow_add, show k + (30 - k) = 30 by omega]
  have lo : 2 ^ k * 2 ^ (30 - k) ≤ m * 2 ^ (30 - k) := Nat.mul_le_mul_right _ h1
  have hi2 : m * 2 ^ (30 - k) < 2 * 2 ^ k * 2 ^ (30 - k) := Nat.mul_lt_mul_of_pos_right h2 (Nat.two_pow_pos _)
  rw [Nat.mul_assoc, pw] at hi2
  rw [pw] at lo
  have e4 : p.toInt64.toInt * ((2 ^ (30 - k) : Nat) : Int) = ((m * 2 ^ (30 - k) : Nat) : Int) := by
    rw [tl32, hm, Int.natCast_mul]
  generalize hx : m * 2 ^ (30 - k) = x at lo hi2 e4
  have s2 := s (by rw [e4]; omega)
  rw [e4] at s2
  exact ⟨s2, lo, by omega⟩
theorem log_eq (p : Int32) (hp : 1 ≤ p.toInt) : f_X0_reckon p = f_X7_logarithm p := by
  have hi := i32_hi p
  obtain ⟨k, hk, h1, h2⟩ := pw_ex p.toInt.toNat (by omega) 31 (by show p.toInt.toNat < 2147483648; omega)
  have hm : p.toInt = (p.toInt.toNat : Nat) := by omega
  have ek : nI (k + 1) - (1 : Int32) = nI k := by
    refine Int32.toInt_inj.mp ?_
    have a : (nI (k + 1)).toInt = ((k + 1 : Nat) : Int) := nI_toInt (by omega)
    have b : (nI k).toInt = (k : Int) := nI_toInt (by omega)
    rw [sub32 (by rw [a, li_1]; omega) (by rw [a, li_1]; omega), a, b, li_1]
    omega
  obtain ⟨s2, lo, hi2⟩ := shp hm hk h1 h2
  unfold f_X0_reckon
  rw [bl_eq hm hk h1 h2, lg_eq hm hk h1 h2]
  refine oC1_e (bnd_e (bnd_e (bnd_e (bnd_e ?_))))
  rw [ek]
  exact lg_loop _ FU _ _ _ (by rw [s2]; omega) (by rw [s2]; omega)

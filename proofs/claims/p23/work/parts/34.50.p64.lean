-- ===== 64 bits =====
theorem bm64 {x : Int} (h1 : -9223372036854775808 ≤ x) (h2 : x < 9223372036854775808) : x.bmod (2 ^ 64) = x := by
  refine Int.bmod_eq_of_le_mul_two ?_ ?_
  · have e : ((2 ^ 64 : Nat) : Int) = 18446744073709551616 := by decide
    omega
  · have e : ((2 ^ 64 : Nat) : Int) = 18446744073709551616 := by decide
    omega
theorem i64_lo (x : Int64) : -9223372036854775808 ≤ x.toInt := Int64.le_toInt x
theorem i64_hi (x : Int64) : x.toInt < 9223372036854775808 := Int64.toInt_lt x
theorem add64 {a b : Int64} (h1 : -9223372036854775808 ≤ a.toInt + b.toInt) (h2 : a.toInt + b.toInt < 9223372036854775808) : (a + b).toInt = a.toInt + b.toInt := by rw [Int64.toInt_add, bm64 h1 h2]
theorem sub64 {a b : Int64} (h1 : -9223372036854775808 ≤ a.toInt - b.toInt) (h2 : a.toInt - b.toInt < 9223372036854775808) : (a - b).toInt = a.toInt - b.toInt := by rw [Int64.toInt_sub, bm64 h1 h2]
theorem mul64 {a b : Int64} (h1 : -9223372036854775808 ≤ a.toInt * b.toInt) (h2 : a.toInt * b.toInt < 9223372036854775808) : (a * b).toInt = a.toInt * b.toInt := by rw [Int64.toInt_mul, bm64 h1 h2]
theorem div64 {a b : Int64} (ha : 0 ≤ a.toInt) (hb : 0 < b.toInt) : (a / b).toInt = a.toInt / b.toInt := by
  have l : ((-1 : Int64)).toInt = -1 := by decide
  rw [Int64.toInt_div_of_ne_right a b (fun e => by rw [e, l] at hb; omega), Int.tdiv_eq_ediv_of_nonneg ha]
theorem rem64 {a b : Int64} (ha : 0 ≤ a.toInt) (hb : 0 < b.toInt) : (a - a / b * b).toInt = a.toInt % b.toInt := by
  have e := div64 ha hb
  have h1 := i64_hi a
  have h2 : 0 ≤ a.toInt / b.toInt * b.toInt := Int.mul_nonneg (Int.ediv_nonneg ha (by omega)) (by omega)
  have h3 : a.toInt / b.toInt * b.toInt ≤ a.toInt := Int.ediv_mul_le _ (by omega)
  have e2 : (a / b * b).toInt = a.toInt / b.toInt * b.toInt := by
    rw [mul64 (by rw [e]; omega) (by rw [e]; omega), e]
  rw [sub64 (by rw [e2]; omega) (by rw [e2]; omega), e2, Int.emod_def, Int.mul_comm]
theorem tl32 (x : Int32) : x.toInt64.toInt = x.toInt := Int32.toInt_toInt64 x
theorem ti32 {y : Int64} (h1 : -2147483648 ≤ y.toInt) (h2 : y.toInt < 2147483648) : y.toInt32.toInt = y.toInt := by rw [Int64.toInt_toInt32, bm32 h1 h2]
theorem tn64 {x : Int64} (h : 0 ≤ x.toInt) : (x.toBitVec.toNat : Int) = x.toInt := by
  have h4 := BitVec.toInt_eq_toNat_cond x.toBitVec
  have h6 := x.toBitVec.isLt
  have h2 : x.toInt = x.toBitVec.toInt := rfl
  rw [← h2] at h4
  by_cases c : 2 * x.toBitVec.toNat < 2 ^ 64
  · rw [if_pos c] at h4; omega
  · rw [if_neg c] at h4; omega
theorem it64 {x : Int64} (h : x.toBitVec.toNat < 9223372036854775808) : x.toInt = (x.toBitVec.toNat : Int) := by
  have h4 := BitVec.toInt_eq_toNat_cond x.toBitVec
  have h2 : x.toInt = x.toBitVec.toInt := rfl
  rw [← h2, if_pos (by omega)] at h4
  exact h4
theorem shr64 (a b : Int64) (k : Nat) (hb : (b.toBitVec.smod 64).toNat = k) : (a >>> b).toInt = a.toInt / ((2 ^ k : Nat) : Int) := by
  show ((a >>> b).toBitVec).toInt = _
  rw [Int64.toBitVec_shiftRight, BitVec.toInt_sshiftRight', hb, Int.shiftRight_eq_div_pow]
  rfl
theorem shl64 (a b : Int64) (k : Nat) (hb : (b.toBitVec.smod 64).toNat = k) (h0 : 0 ≤ a.toInt) (h1 : a.toInt * ((2 ^ k : Nat) : Int) < 9223372036854775808) : (a <<< b).toInt = a.toInt * ((2 ^ k : Nat) : Int) := by
  have e := tn64 h0
  have e1 : (a <<< b).toBitVec.toNat = a.toBitVec.toNat * 2 ^ k := by
    rw [Int64.toBitVec_shiftLeft, BitVec.shiftLeft_eq', hb, BitVec.toNat_shiftLeft, Nat.shiftLeft_eq]
    refine Nat.mod_eq_of_lt ?_
    rw [← e, ← Int.natCast_mul] at h1
    omega
  have h2 : (a <<< b).toBitVec.toNat < 9223372036854775808 := by
    rw [e1]
    rw [← e, ← Int.natCast_mul] at h1
    omega
  rw [it64 h2, e1, Int.natCast_mul, e]
theorem ushr64 (a : Int64) (h0 : 0 ≤ a.toInt) : (((a).toUInt64 >>> (((32 : Int32)).toInt64.toUInt64 &&& Int64.toUInt64 63)).toInt64).toInt = a.toInt / 4294967296 := by
  have e := tn64 h0
  have e1 : (((a).toUInt64 >>> (((32 : Int32)).toInt64.toUInt64 &&& Int64.toUInt64 63)).toInt64).toBitVec.toNat = a.toBitVec.toNat / 4294967296 := by
    show ((a).toUInt64 >>> (((32 : Int32)).toInt64.toUInt64 &&& Int64.toUInt64 63)).toNat = _
    rw [UInt64.toNat_shiftRight]
    have e2 : (((32 : Int32)).toInt64.toUInt64 &&& Int64.toUInt64 63).toNat % 64 = 32 := by decide
    rw [e2, Nat.shiftRight_eq_div_pow]
    rfl
  have h := i64_hi a
  rw [it64 (by rw [e1]; omega), e1]
  omega
theorem la_1 : ∀ k : Nat, k < 13 → ((((31 : Int32) - nI k).toInt64 &&& (63 : Int64)).toBitVec.smod 64).toNat = 31 - k := by decide
theorem la_2 : ∀ k : Nat, k < 13 → ((((63 : Int32) - nI k).toInt64 &&& (63 : Int64)).toBitVec.smod 64).toNat = 63 - k := by decide
theorem la_3 : ∀ k : Nat, k < 13 → (((nI k).toInt64 &&& (63 : Int64)).toBitVec.smod 64).toNat = k := by decide
theorem sh_8 : (((((8 : Int32)).toInt64 &&& (63 : Int64))).toBitVec.smod 64).toNat = 8 := by decide
theorem sh_1 : (((((1 : Int32)).toInt64 &&& (63 : Int64))).toBitVec.smod 64).toNat = 1 := by decide
-- a state narrowed below A * q, spread over B: A * B is the span
theorem span {y q r A B M : Int} (hq : 0 < q) (hB : 0 < B) (hy0 : 0 ≤ y) (hy : y < A * q) (hAB : A * B = M) (hr0 : 0 ≤ r) (hr : q + r ≤ B) : 0 ≤ y / q * B + y % q + r ∧ y / q * B + y % q + r < M ∧ y / q * B < M := by
  have h1 : y / q < A := Int.ediv_lt_of_lt_mul hq hy
  have h2 : 0 ≤ y / q := Int.ediv_nonneg hy0 (by omega)
  have h3 : 0 ≤ y % q := Int.emod_nonneg _ (by omega)
  have h4 : y % q < q := Int.emod_lt_of_pos _ hq
  have h5 : (y / q + 1) * B ≤ A * B := Int.mul_le_mul_of_nonneg_right (by omega) (by omega)
  have h6 : 0 ≤ y / q * B := Int.mul_nonneg h2 (by omega)
  rw [Int.add_mul, Int.one_mul, hAB] at h5
  omega

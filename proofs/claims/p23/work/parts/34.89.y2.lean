-- ===== form 2: bits of a pile =====
theorem or_add : ∀ r : Nat, r < 8 → ∀ x : Nat, x < 128 → ∀ b : Nat, b < 2 → ¬ x < 2 ^ r ∨ (nI x ||| (nI b <<< (nI r &&& (31 : Int32)))) = nI (x + b * 2 ^ r) := by decide +kernel
-- the value of octet q, of the bits f below n, its first j bits
def ocv (f : Nat → Int32) (n q : Nat) : Nat → Nat
  | 0 => 0
  | j + 1 => ocv f n q j + if 8 * q + j < n then (f (8 * q + j)).toInt.toNat * 2 ^ j else 0
def B01 (f : Nat → Int32) (n : Nat) : Prop := ∀ i, i < n → f i = 0 ∨ f i = 1
theorem ocv_lt {f : Nat → Int32} {n : Nat} (h : B01 f n) (q : Nat) : ∀ j : Nat, ocv f n q j < 2 ^ j := by
  intro j
  induction j with
  | zero => exact Nat.zero_lt_one
  | succ j ih =>
    unfold ocv
    rw [Nat.pow_succ]
    by_cases c : 8 * q + j < n
    · rw [if_pos c]
      rcases h _ c with e | e
      · rw [e, li_0]
        show _ + Int.toNat 0 * 2 ^ j < _
        rw [show Int.toNat 0 = 0 from rfl, Nat.zero_mul]
        omega
      · rw [e, li_1]
        show _ + Int.toNat 1 * 2 ^ j < _
        rw [show Int.toNat 1 = 1 from rfl, Nat.one_mul]
        omega
    · rw [if_neg c]
      omega
theorem ocv_hi {f : Nat → Int32} {n q r : Nat} (h : n ≤ 8 * q + r) : ∀ d : Nat, ocv f n q (r + d) = ocv f n q r := by
  intro d
  induction d with
  | zero => rfl
  | succ d ih =>
    have e : ocv f n q (r + (d + 1)) = ocv f n q (r + d) + if 8 * q + (r + d) < n then (f (8 * q + (r + d))).toInt.toNat * 2 ^ (r + d) else 0 := rfl
    rw [e, if_neg (by omega), Nat.add_zero]
    exact ih
theorem ocv_lo {f g : Nat → Int32} {n m q : Nat} : ∀ j : Nat, 8 * q + j ≤ n → 8 * q + j ≤ m → (∀ i, i < 8 * q + j → g i = f i) → ocv g m q j = ocv f n q j := by
  intro j
  induction j with
  | zero => intro _ _ _; rfl
  | succ j ih =>
    intro h1 h2 h3
    unfold ocv
    rw [ih (by omega) (by omega) (fun i hi => h3 i (by omega)), if_pos (by omega), if_pos (by omega), h3 _ (by omega)]

-- ===== pure: what a function answers, and that it answers =====
def ok {α : Type} (o : Option α) (Q : α → Prop) : Prop := ∃ a, o = some a ∧ Q a
theorem ok_some {α : Type} {a : α} {Q : α → Prop} (h : Q a) : ok (some a) Q := ⟨a, rfl, h⟩
theorem ok_mono {α : Type} {o : Option α} {P Q : α → Prop} (h : ok o P) (hi : ∀ a, P a → Q a) : ok o Q := by
  obtain ⟨a, e, p⟩ := h
  exact ⟨a, e, hi a p⟩
theorem ok_bnd {α β : Type} {e : α} {k : α → Option β} {Q : β → Prop} (h : ok (k e) Q) : ok (bnd e k) Q := h
theorem ok_bnd_eq {α β : Type} {e : α} {k : α → Option β} {Q : β → Prop} (h : ∀ x, x = e → ok (k x) Q) : ok (bnd e k) Q := h e rfl
theorem ok_ite {c : Prop} [Decidable c] {α : Type} {a b : Option α} {Q : α → Prop} (h1 : c → ok a Q) (h2 : ¬ c → ok b Q) : ok (if c then a else b) Q := by
  by_cases h : c
  · rw [if_pos h]; exact h1 h
  · rw [if_neg h]; exact h2 h
theorem ok_gdi {γ : Type} {i : Int32} {n : Nat} {t : Option γ} {Q : γ → Prop} (h0 : 0 ≤ i.toInt) (h1 : i.toInt < n) (h : ok t Q) : ok (gdi i n t) Q := by
  have hn : ¬ (i < 0 ∨ n ≤ i.toNatClampNeg) := by
    rw [Int32.lt_iff_toInt_lt]
    show ¬ (i.toInt < (0 : Int32).toInt ∨ n ≤ i.toInt.toNat)
    have e : (0 : Int32).toInt = 0 := by decide
    omega
  unfold gdi
  rw [if_neg hn]
  exact h
theorem ok_gdz {γ : Type} {y : Int32} {t : Option γ} {Q : γ → Prop} (h0 : y.toInt ≠ 0) (h : ok t Q) : ok (gdz y t) Q := by
  have hn : ¬ y = 0 := fun e => h0 (by rw [e]; decide)
  unfold gdz
  rw [if_neg hn]
  exact h
theorem ok_gdzl {γ : Type} {y : Int64} {t : Option γ} {Q : γ → Prop} (h0 : y.toInt ≠ 0) (h : ok t Q) : ok (gdzl y t) Q := by
  have hn : ¬ y = 0 := fun e => h0 (by rw [e]; decide)
  unfold gdzl
  rw [if_neg hn]
  exact h
theorem ok_gdb {γ : Type} {x : Int32} {t : Option γ} {Q : γ → Prop} (h0 : x = 0 ∨ x = 1) (h : ok t Q) : ok (gdb x t) Q := by
  unfold gdb
  rw [if_pos h0]
  exact h
theorem ok_gdn {γ : Type} {x : Int32} {t : Option γ} {Q : γ → Prop} (h0 : 0 ≤ x.toInt) (h1 : x.toInt ≤ 100000) (h : ok t Q) : ok (gdn x t) Q := by
  have hn : ¬ (x < 0 ∨ 536870912 < x.toNatClampNeg * 4) := by
    rw [Int32.lt_iff_toInt_lt]
    show ¬ (x.toInt < (0 : Int32).toInt ∨ 536870912 < x.toInt.toNat * 4)
    have e : (0 : Int32).toInt = 0 := by decide
    omega
  unfold gdn
  rw [if_neg hn]
  exact h
theorem ok_oC1 {a r : Type} {x : Option a} {k : a → Option r} {R : a → Prop} {Q : r → Prop} (hx : ok x R) (h : ∀ z, R z → ok (k z) Q) : ok (oC1 x k) Q := by
  obtain ⟨z, e, p⟩ := hx
  subst e
  exact h z p
theorem ok_oC2 {a b r : Type} {x : Option (a × b)} {k : a → b → Option r} {R : a × b → Prop} {Q : r → Prop} (hx : ok x R) (h : ∀ z y, R (z, y) → ok (k z y) Q) : ok (oC2 x k) Q := by
  obtain ⟨⟨z, y⟩, e, p⟩ := hx
  subst e
  exact h z y p
theorem ok_oC3 {a b c r : Type} {x : Option (a × b × c)} {k : a → b → c → Option r} {R : a × b × c → Prop} {Q : r → Prop} (hx : ok x R) (h : ∀ z y w, R (z, y, w) → ok (k z y w) Q) : ok (oC3 x k) Q := by
  obtain ⟨⟨z, y, w⟩, e, p⟩ := hx
  subst e
  exact h z y w p
theorem ok_oA1 {a r : Type} {x : Option (a × Nat × Nat)} {k : a → Nat → Nat → Option r} {R : a × Nat × Nat → Prop} {Q : r → Prop} (hx : ok x R) (h : ∀ z m n, R (z, m, n) → ok (k z m n) Q) : ok (oA1 x k) Q := by
  obtain ⟨⟨z, m, n⟩, e, p⟩ := hx
  subst e
  exact h z m n p
theorem ok_oA2 {a b r : Type} {x : Option ((a × b) × Nat × Nat)} {k : a → b → Nat → Nat → Option r} {R : (a × b) × Nat × Nat → Prop} {Q : r → Prop} (hx : ok x R) (h : ∀ z y m n, R ((z, y), m, n) → ok (k z y m n) Q) : ok (oA2 x k) Q := by
  obtain ⟨⟨⟨z, y⟩, m, n⟩, e, p⟩ := hx
  subst e
  exact h z y m n p
theorem ok_oA3 {a b c r : Type} {x : Option ((a × b × c) × Nat × Nat)} {k : a → b → c → Nat → Nat → Option r} {R : (a × b × c) × Nat × Nat → Prop} {Q : r → Prop} (hx : ok x R) (h : ∀ z y w m n, R ((z, y, w), m, n) → ok (k z y w m n) Q) : ok (oA3 x k) Q := by
  obtain ⟨⟨⟨z, y, w⟩, m, n⟩, e, p⟩ := hx
  subst e
  exact h z y w m n p
theorem ok_oA4 {a b c d r : Type} {x : Option ((a × b × c × d) × Nat × Nat)} {k : a → b → c → d → Nat → Nat → Option r} {R : (a × b × c × d) × Nat × Nat → Prop} {Q : r → Prop} (hx : ok x R) (h : ∀ z y w v m n, R ((z, y, w, v), m, n) → ok (k z y w v m n) Q) : ok (oA4 x k) Q := by
  obtain ⟨⟨⟨z, y, w, v⟩, m, n⟩, e, p⟩ := hx
  subst e
  exact h z y w v m n p
theorem ok_addc {γ : Type} {a b : Nat} {t : Option (γ × Nat × Nat)} {Q : γ × Nat × Nat → Prop} (h : ok t (fun q => Q (q.1, a + q.2.1, b + q.2.2))) : ok (addc a b t) Q := by
  obtain ⟨⟨o, kc, ks⟩, e, p⟩ := h
  subst e
  exact ⟨_, rfl, p⟩
theorem li_0 : ((0 : Int32)).toInt = 0 := by decide
theorem li_1 : ((1 : Int32)).toInt = 1 := by decide
theorem li_2 : ((2 : Int32)).toInt = 2 := by decide
theorem li_3 : ((3 : Int32)).toInt = 3 := by decide
theorem li_4 : ((4 : Int32)).toInt = 4 := by decide
theorem li_5 : ((5 : Int32)).toInt = 5 := by decide
theorem li_6 : ((6 : Int32)).toInt = 6 := by decide
theorem li_7 : ((7 : Int32)).toInt = 7 := by decide
theorem li_8 : ((8 : Int32)).toInt = 8 := by decide
theorem li_10 : ((10 : Int32)).toInt = 10 := by decide
theorem li_12 : ((12 : Int32)).toInt = 12 := by decide
theorem li_15 : ((15 : Int32)).toInt = 15 := by decide
theorem li_16 : ((16 : Int32)).toInt = 16 := by decide
theorem li_20 : ((20 : Int32)).toInt = 20 := by decide
theorem li_30 : ((30 : Int32)).toInt = 30 := by decide
theorem li_31 : ((31 : Int32)).toInt = 31 := by decide
theorem li_32 : ((32 : Int32)).toInt = 32 := by decide
theorem li_33 : ((33 : Int32)).toInt = 33 := by decide
theorem li_63 : ((63 : Int32)).toInt = 63 := by decide
theorem li_64 : ((64 : Int32)).toInt = 64 := by decide
theorem li_128 : ((128 : Int32)).toInt = 128 := by decide
theorem li_255 : ((255 : Int32)).toInt = 255 := by decide
theorem li_256 : ((256 : Int32)).toInt = 256 := by decide
theorem li_1000 : ((1000 : Int32)).toInt = 1000 := by decide
theorem li_4096 : ((4096 : Int32)).toInt = 4096 := by decide
theorem li_8000 : ((8000 : Int32)).toInt = 8000 := by decide
theorem li_8192 : ((8192 : Int32)).toInt = 8192 := by decide
theorem li_20000 : ((20000 : Int32)).toInt = 20000 := by decide
theorem li_65535 : ((65535 : Int32)).toInt = 65535 := by decide
theorem li_65536 : ((65536 : Int32)).toInt = 65536 := by decide
theorem li_70000 : ((70000 : Int32)).toInt = 70000 := by decide
theorem li_1000000 : ((1000000 : Int32)).toInt = 1000000 := by decide
theorem lim_1 : ((-1 : Int32)).toInt = -1 := by decide
theorem lim_2 : ((-2 : Int32)).toInt = -2 := by decide
theorem lim_3 : ((-3 : Int32)).toInt = -3 := by decide
theorem lim_10 : ((-10 : Int32)).toInt = -10 := by decide
theorem bm32 {x : Int} (h1 : -2147483648 ≤ x) (h2 : x < 2147483648) : x.bmod (2 ^ 32) = x := by
  refine Int.bmod_eq_of_le_mul_two ?_ ?_
  · have e : ((2 ^ 32 : Nat) : Int) = 4294967296 := by decide
    omega
  · have e : ((2 ^ 32 : Nat) : Int) = 4294967296 := by decide
    omega
theorem add32 {a b : Int32} (h1 : -2147483648 ≤ a.toInt + b.toInt) (h2 : a.toInt + b.toInt < 2147483648) : (a + b).toInt = a.toInt + b.toInt := by rw [Int32.toInt_add, bm32 h1 h2]
theorem sub32 {a b : Int32} (h1 : -2147483648 ≤ a.toInt - b.toInt) (h2 : a.toInt - b.toInt < 2147483648) : (a - b).toInt = a.toInt - b.toInt := by rw [Int32.toInt_sub, bm32 h1 h2]
theorem mul32 {a b : Int32} (h1 : -2147483648 ≤ a.toInt * b.toInt) (h2 : a.toInt * b.toInt < 2147483648) : (a * b).toInt = a.toInt * b.toInt := by rw [Int32.toInt_mul, bm32 h1 h2]
theorem inc32 {x : Int32} (h2 : x.toInt < 2147483647) : (x + (1 : Int32)).toInt = x.toInt + 1 := by
  have e := Int32.le_toInt x
  rw [add32 (by rw [li_1]; omega) (by rw [li_1]; omega), li_1]
theorem dec32 {x : Int32} (h2 : -2147483648 < x.toInt) : (x + (-1 : Int32)).toInt = x.toInt - 1 := by
  have e := Int32.toInt_lt x
  rw [add32 (by rw [lim_1]; omega) (by rw [lim_1]; omega), lim_1]
  rfl
theorem i32_lo (x : Int32) : -2147483648 ≤ x.toInt := Int32.le_toInt x
theorem i32_hi (x : Int32) : x.toInt < 2147483648 := Int32.toInt_lt x
theorem ne32 {a b : Int32} (h : ¬ a = b) : a.toInt ≠ b.toInt := fun e => h (Int32.toInt_inj.mp e)
theorem and32 (a b : Int32) (hb : 0 ≤ b.toInt) : 0 ≤ (a &&& b).toInt ∧ (a &&& b).toInt ≤ b.toInt := by
  have h1 : (a &&& b).toInt = (a &&& b).toBitVec.toInt := rfl
  have h2 : b.toInt = b.toBitVec.toInt := rfl
  have h3 : (a &&& b).toBitVec.toNat ≤ b.toBitVec.toNat := by
    rw [Int32.toBitVec_and, BitVec.toNat_and]; exact Nat.and_le_right
  have h4 := BitVec.toInt_eq_toNat_cond b.toBitVec
  have h5 := BitVec.toInt_eq_toNat_cond (a &&& b).toBitVec
  have h6 := b.toBitVec.isLt
  rw [← h2] at h4
  rw [← h1] at h5
  by_cases c : 2 * b.toBitVec.toNat < 2 ^ 32
  · rw [if_pos c] at h4
    rw [if_pos (by omega)] at h5
    omega
  · rw [if_neg c] at h4
    omega
theorem and64 (a b : Int64) (hb : 0 ≤ b.toInt) : 0 ≤ (a &&& b).toInt ∧ (a &&& b).toInt ≤ b.toInt := by
  have h1 : (a &&& b).toInt = (a &&& b).toBitVec.toInt := rfl
  have h2 : b.toInt = b.toBitVec.toInt := rfl
  have h3 : (a &&& b).toBitVec.toNat ≤ b.toBitVec.toNat := by
    rw [Int64.toBitVec_and, BitVec.toNat_and]; exact Nat.and_le_right
  have h4 := BitVec.toInt_eq_toNat_cond b.toBitVec
  have h5 := BitVec.toInt_eq_toNat_cond (a &&& b).toBitVec
  have h6 := b.toBitVec.isLt
  rw [← h2] at h4
  rw [← h1] at h5
  by_cases c : 2 * b.toBitVec.toNat < 2 ^ 64
  · rw [if_pos c] at h4
    rw [if_pos (by omega)] at h5
    omega
  · rw [if_neg c] at h4
    omega

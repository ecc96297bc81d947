-- ===== the logarithm grows =====
def bt : Nat → Nat → Nat
  | 0, _ => 0
  | n + 1, y => if y * y / 1073741824 < 2147483648 then bt n (y * y / 1073741824) else 2 ^ n + bt n (y * y / 1073741824 / 2)
theorem sqn {y : Nat} (h1 : 1073741824 ≤ y) (h2 : y < 2147483648) : 1152921504606846976 ≤ y * y ∧ y * y < 4611686018427387904 := by
  have a1 : 1073741824 * 1073741824 ≤ y * y := Nat.mul_le_mul h1 h1
  have a2 : y * y ≤ 2147483647 * 2147483647 := Nat.mul_le_mul (by omega) (by omega)
  omega
theorem bt_lt : ∀ (n y : Nat), 1073741824 ≤ y → y < 2147483648 → bt n y < 2 ^ n := by
  intro n
  induction n with
  | zero => intro y _ _; exact Nat.zero_lt_one
  | succ n ih =>
    intro y h1 h2
    have sq := sqn h1 h2
    unfold bt
    rw [Nat.pow_succ]
    by_cases c : y * y / 1073741824 < 2147483648
    · rw [if_pos c]
      have := ih (y * y / 1073741824) (by omega) c
      omega
    · rw [if_neg c]
      have := ih (y * y / 1073741824 / 2) (by omega) (by omega)
      omega
def gp : Nat → Nat
  | 0 => 1073741824
  | n + 1 => (5 * gp n + 4) / 7 + 1
theorem gp_30 : gp 30 ≤ 262144 := by decide
set_option maxHeartbeats 1000000 in
theorem bt_st : ∀ (n a b : Nat), 1073741824 ≤ a → b < 2147483648 → a + gp n ≤ b → bt n a < bt n b := by
  intro n
  induction n with
  | zero =>
    intro a b h1 h2 h3
    have : gp 0 = 1073741824 := rfl
    omega
  | succ n ih =>
    intro a b h1 h2 h3
    have eg : gp (n + 1) = (5 * gp n + 4) / 7 + 1 := rfl
    rw [eg] at h3
    clear eg
    obtain ⟨d, hd⟩ : ∃ d, b = a + d := ⟨b - a, by omega⟩
    subst hd
    have g7 : 5 * gp n ≤ 7 * d := by omega
    have sa := sqn h1 (by omega)
    have sb := sqn (y := a + d) (by omega) h2
    have e2 : (a + d) * (a + d) = a * a + d * (2 * a + d) := by
      rw [Nat.add_mul, Nat.mul_add, Nat.mul_add, Nat.mul_add, Nat.mul_comm d a, Nat.mul_left_comm d 2 a, Nat.mul_comm d a]
      omega
    have l1 : d * 2147483648 ≤ d * (2 * a + d) := Nat.mul_le_mul_left d (by omega)
    unfold bt
    by_cases c2 : (a + d) * (a + d) / 1073741824 < 2147483648
    · have c1 : a * a / 1073741824 < 2147483648 := by omega
      rw [if_pos c1, if_pos c2]
      refine ih _ _ (by omega) c2 ?_
      omega
    · rw [if_neg c2]
      by_cases c1 : a * a / 1073741824 < 2147483648
      · rw [if_pos c1]
        have := bt_lt n (a * a / 1073741824) (by omega) c1
        omega
      · rw [if_neg c1]
        have hb : 1518500250 ≤ a := by
          rcases Nat.lt_or_ge a 1518500250 with q | q
          · exfalso
            have : a * a ≤ 1518500249 * 1518500249 := Nat.mul_le_mul (by omega) (by omega)
            omega
          · exact q
        have l2 : d * 3037000500 ≤ d * (2 * a + d) := Nat.mul_le_mul_left d (by omega)
        refine Nat.add_lt_add_left (ih _ _ (by omega) (by omega) ?_) _
        omega
set_option maxHeartbeats 1000000 in
theorem lgs_loop : ∀ (n fu : Nat) (x : Int32) (r z : Int64), x.toInt = 30 - (n : Int) → n ≤ 30 → n < fu → 1073741824 ≤ z.toInt → z.toInt < 2147483648 → 0 ≤ r.toInt → r.toInt + 1 ≤ 1000000000 * ((2 ^ (30 - n) : Nat) : Int) → ∃ v, f_X7_logarithm_L30 fu (fun (y9 : Int64) (y10 : Int64) (x11 : Int32) => some y10) x r z = some v ∧ v.toInt = r.toInt * ((2 ^ n : Nat) : Int) + (bt n z.toInt.toNat : Int) := by
  intro n
  induction n with
  | zero =>
    intro fu x r z hx _ hf z1 z2 r0 r1
    obtain ⟨f, rfl⟩ : ∃ f, fu = f + 1 := ⟨fu - 1, by omega⟩
    unfold f_X7_logarithm_L30
    rw [if_pos (Int32.le_iff_toInt_le.mpr (by rw [li_30]; omega))]
    refine ⟨r, rfl, ?_⟩
    show r.toInt = r.toInt * ((1 : Nat) : Int) + ((0 : Nat) : Int)
    omega
  | succ n ih =>
    intro fu x r z hx hn hf z1 z2 r0 r1
    obtain ⟨f, rfl⟩ : ∃ f, fu = f + 1 := ⟨fu - 1, by omega⟩
    have sq := sq_b z1 z2
    have pe : 2 ^ (30 - n) = 2 * 2 ^ (30 - (n + 1)) := by
      rw [show 30 - n = (30 - (n + 1)) + 1 by omega, Nat.pow_succ]
      omega
    have pm : 2 ^ (30 - (n + 1)) ≤ 2 ^ 30 := Nat.pow_le_pow_right (by decide) (by omega)
    have e0 : (z * z).toInt = z.toInt * z.toInt := mul64 (by omega) (by omega)
    have e30 : ((2 ^ 30 : Nat) : Int) = 1073741824 := by decide
    have e1 := shr64 (z * z) ((((30 : Int32)).toInt64 &&& (63 : Int64))) 30 sh_30
    rw [e0, e30] at e1
    have zn : ((z.toInt.toNat : Nat) : Int) = z.toInt := by omega
    have en : ((z.toInt.toNat * z.toInt.toNat / 1073741824 : Nat) : Int) = z.toInt * z.toInt / 1073741824 := by
      rw [Int.natCast_ediv, Int.natCast_mul, zn]
      rfl
    have l31 : ((2147483648 : Int64)).toInt = 2147483648 := by decide
    have o2 : ((2 : Int64)).toInt = 2 := by decide
    have er : ((2 : Int64) * r).toInt = 2 * r.toInt := by rw [mul64 (by rw [o2]; omega) (by rw [o2]; omega), o2]
    have ix : (x + (1 : Int32)).toInt = 30 - (n : Int) := by rw [inc32 (by omega), hx]; omega
    have pn : ((2 ^ (n + 1) : Nat) : Int) = 2 * ((2 ^ n : Nat) : Int) := by rw [Nat.pow_succ]; omega
    have rm : r.toInt * (2 * ((2 ^ n : Nat) : Int)) = 2 * r.toInt * ((2 ^ n : Nat) : Int) := by rw [Int.mul_left_comm, Int.mul_assoc]
    unfold f_X7_logarithm_L30 bt
    rw [if_neg (fun q => by have := Int32.le_iff_toInt_le.mp q; rw [li_30] at this; omega)]
    generalize hw : (z * z) >>> (((30 : Int32)).toInt64 &&& (63 : Int64)) = w at e1
    show ∃ v, (if w < (2147483648 : Int64) then f_X7_logarithm_L30 f (fun (y9 : Int64) (y10 : Int64) (x11 : Int32) => some y10) (x + (1 : Int32)) (((2 : Int64) * r) + ((0 : Int32)).toInt64) (w >>> (((0 : Int32)).toInt64 &&& (63 : Int64))) else f_X7_logarithm_L30 f (fun (y9 : Int64) (y10 : Int64) (x11 : Int32) => some y10) (x + (1 : Int32)) (((2 : Int64) * r) + ((1 : Int32)).toInt64) (w >>> (((1 : Int32)).toInt64 &&& (63 : Int64)))) = some v ∧ _
    by_cases d : w < (2147483648 : Int64)
    · have d1 := Int64.lt_iff_toInt_lt.mp d
      rw [l31] at d1
      rw [if_pos d, if_pos (by omega)]
      have ew : w >>> (((0 : Int32)).toInt64 &&& (63 : Int64)) = w := by
        refine Int64.toInt_inj.mp ?_
        rw [shr64 w (((0 : Int32)).toInt64 &&& (63 : Int64)) 0 (by decide)]
        have : ((2 ^ 0 : Nat) : Int) = 1 := by decide
        rw [this, Int.ediv_one]
      have ea : (((2 : Int64) * r) + ((0 : Int32)).toInt64).toInt = 2 * r.toInt := by rw [add64 (by rw [er, tl32, li_0]; omega) (by rw [er, tl32, li_0]; omega), er, tl32, li_0, Int.add_zero]
      rw [ew]
      obtain ⟨v, v1, v2⟩ := ih f (x + (1 : Int32)) (((2 : Int64) * r) + ((0 : Int32)).toInt64) w ix (by omega) (by omega) (by omega) d1 (by rw [ea]; omega) (by rw [ea, pe]; omega)
      refine ⟨v, v1, ?_⟩
      have ewn : w.toInt.toNat = z.toInt.toNat * z.toInt.toNat / 1073741824 := by omega
      rw [v2, ea, ewn, pn, rm]
    · have d1 := mt Int64.lt_iff_toInt_lt.mpr d
      rw [l31] at d1
      rw [if_neg d, if_neg (by omega)]
      have e1' := shr64 w (((1 : Int32)).toInt64 &&& (63 : Int64)) 1 sh_1
      have e21 : ((2 ^ 1 : Nat) : Int) = 2 := by decide
      rw [e21] at e1'
      have ea : (((2 : Int64) * r) + ((1 : Int32)).toInt64).toInt = 2 * r.toInt + 1 := by rw [add64 (by rw [er, tl32, li_1]; omega) (by rw [er, tl32, li_1]; omega), er, tl32, li_1]
      obtain ⟨v, v1, v2⟩ := ih f (x + (1 : Int32)) (((2 : Int64) * r) + ((1 : Int32)).toInt64) (w >>> (((1 : Int32)).toInt64 &&& (63 : Int64))) ix (by omega) (by omega) (by omega) (by omega) (by rw [ea]; omega) (by rw [ea, pe]; have := Nat.two_pow_pos (30 - (n + 1)); omega)
      refine ⟨v, v1, ?_⟩
      have ewn : (w >>> (((1 : Int32)).toInt64 &&& (63 : Int64))).toInt.toNat = z.toInt.toNat * z.toInt.toNat / 1073741824 / 2 := by omega
      rw [v2, ea, ewn, pn, rm, Int.add_mul, Int.one_mul, Int.natCast_add]
      omega
theorem lgv_val {p : Int32} {m k : Nat} (hm : p.toInt = m) (hk : k < 31) (h1 : 2 ^ k ≤ m) (h2 : m < 2 * 2 ^ k) : (lgv p).toInt = (k : Int) * 1073741824 + (bt 30 (m * 2 ^ (30 - k)) : Int) := by
  obtain ⟨s2, lo, hi2⟩ := shp hm hk h1 h2
  have ek : ((nI k).toInt64).toInt = k := by rw [tl32, nI_toInt (by omega)]
  obtain ⟨v, v1, v2⟩ := lgs_loop 30 FU (0 : Int32) (nI k).toInt64 (p.toInt64 <<< ((((30 : Int32) - nI k)).toInt64 &&& (63 : Int64))) (by decide) (by decide) (by decide) (by rw [s2]; omega) (by rw [s2]; omega) (by rw [ek]; omega) (by rw [ek]; show (k : Int) + 1 ≤ 1000000000 * ((1 : Nat) : Int); omega)
  have e : f_X7_logarithm p = some v := (lg_eq hm hk h1 h2).trans v1
  have el : lgv p = v := Option.some.inj ((lgv_eq p).symm.trans e)
  rw [el, v2, ek, s2, Int.toNat_natCast]
  rfl
theorem lgv_lt {p : Int32} (h1 : 1 ≤ p.toInt) (h2 : p.toInt ≤ 4095) : (lgv p).toInt < (lgv (p + (1 : Int32))).toInt ∧ 0 ≤ (lgv p).toInt ∧ (lgv (p + (1 : Int32))).toInt < 17179869184 := by
  have ei := inc32 (x := p) (by omega)
  obtain ⟨m, hm⟩ : ∃ m : Nat, p.toInt = m := ⟨p.toInt.toNat, by omega⟩
  have hm1 : (p + (1 : Int32)).toInt = ((m + 1 : Nat) : Int) := by omega
  obtain ⟨k, hk, a1, a2⟩ := pw_ex m (by omega) 12 (by show m < 4096; omega)
  have v1 := lgv_val hm (by omega) a1 a2
  have pw : 2 ^ k * 2 ^ (30 - k) = 1073741824 := by
    rw [← Nat.pow_add, show k + (30 - k) = 30 by omega]
  have lo : 2 ^ k * 2 ^ (30 - k) ≤ m * 2 ^ (30 - k) := Nat.mul_le_mul_right _ a1
  have hi : m * 2 ^ (30 - k) < 2 * 2 ^ k * 2 ^ (30 - k) := Nat.mul_lt_mul_of_pos_right a2 (Nat.two_pow_pos _)
  rw [Nat.mul_assoc, pw] at hi
  rw [pw] at lo
  have b1 := bt_lt 30 (m * 2 ^ (30 - k)) lo (by omega)
  have p30 : 2 ^ 30 = 1073741824 := by decide
  rw [p30] at b1
  rcases Nat.lt_or_ge (m + 1) (2 * 2 ^ k) with q | q
  · have v2 := lgv_val hm1 (by omega) (by omega) q
    have es : (m + 1) * 2 ^ (30 - k) = m * 2 ^ (30 - k) + 2 ^ (30 - k) := by rw [Nat.add_mul, Nat.one_mul]
    have hi2 : (m + 1) * 2 ^ (30 - k) < 2 * 2 ^ k * 2 ^ (30 - k) := Nat.mul_lt_mul_of_pos_right q (Nat.two_pow_pos _)
    rw [Nat.mul_assoc, pw] at hi2
    have pg : 2 ^ 18 ≤ 2 ^ (30 - k) := Nat.pow_le_pow_right (by decide) (by omega)
    have p18 : 2 ^ 18 = 262144 := by decide
    rw [p18] at pg
    have g30 := gp_30
    have st := bt_st 30 (m * 2 ^ (30 - k)) ((m + 1) * 2 ^ (30 - k)) lo (by omega) (by omega)
    have b2 := bt_lt 30 ((m + 1) * 2 ^ (30 - k)) (by omega) (by omega)
    rw [p30] at b2
    rw [v1, v2]
    omega
  · have eq : m + 1 = 2 ^ (k + 1) := by rw [Nat.pow_succ]; omega
    have v2 := lgv_val hm1 (k := k + 1) (by omega) (by omega) (by rw [eq]; have := Nat.two_pow_pos (k + 1); omega)
    have pw2 : (m + 1) * 2 ^ (30 - (k + 1)) = 1073741824 := by
      rw [eq, ← Nat.pow_add, show k + 1 + (30 - (k + 1)) = 30 by omega]
    have b2 := bt_lt 30 ((m + 1) * 2 ^ (30 - (k + 1))) (by omega) (by omega)
    rw [p30] at b2
    rw [v1, v2]
    omega

-- ===== what was pushed goes out: all forms, octet by octet =====
def bw (be : Nat → Nat) (a : Nat) : Nat → Nat
  | 0 => 0
  | c + 1 => bw be a c + be (a + c) * 2 ^ c
theorem bw_add (be : Nat → Nat) (a c : Nat) : ∀ d : Nat, bw be a (c + d) = bw be a c + 2 ^ c * bw be (a + c) d := by
  intro d
  induction d with
  | zero =>
    show bw be a c = bw be a c + 2 ^ c * 0
    rw [Nat.mul_zero, Nat.add_zero]
  | succ d ih =>
    have e : bw be a (c + (d + 1)) = bw be a (c + d) + be (a + (c + d)) * 2 ^ (c + d) := rfl
    have e2 : bw be (a + c) (d + 1) = bw be (a + c) d + be (a + c + d) * 2 ^ d := rfl
    have e3 : be (a + (c + d)) * 2 ^ (c + d) = 2 ^ c * (be (a + c + d) * 2 ^ d) := by
      rw [Nat.pow_add, Nat.add_assoc a c d]
      exact Nat.mul_left_comm _ _ _
    rw [e, e2, ih, Nat.mul_add, e3, Nat.add_assoc]
theorem bw_lt {be : Nat → Nat} (h : ∀ j, be j ≤ 1) (a : Nat) : ∀ c : Nat, bw be a c < 2 ^ c := by
  intro c
  induction c with
  | zero => exact Nat.zero_lt_one
  | succ c ih =>
    have e : bw be a (c + 1) = bw be a c + be (a + c) * 2 ^ c := rfl
    have m : be (a + c) * 2 ^ c ≤ 1 * 2 ^ c := Nat.mul_le_mul_right _ (h _)
    rw [e, Nat.pow_succ]
    omega
def btn (f : Nat → Int32) (n : Nat) (j : Nat) : Nat := if j < n then (f j).toInt.toNat else 0
theorem btn_1 {f : Nat → Int32} {n : Nat} (h : B01 f n) (j : Nat) : btn f n j ≤ 1 := by
  unfold btn
  by_cases c : j < n
  · rw [if_pos c]
    rcases h j c with e | e
    · rw [e, li_0]; decide
    · rw [e, li_1]; decide
  · rw [if_neg c]
    exact Nat.zero_le _
theorem btn_nI {f : Nat → Int32} {n : Nat} (h : B01 f n) {j : Nat} (c : j < n) : f j = nI (btn f n j) := by
  unfold btn
  rw [if_pos c]
  rcases h j c with e | e
  · rw [e, li_0]; rfl
  · rw [e, li_1]; rfl
theorem ocv_bw (f : Nat → Int32) (n q : Nat) : ∀ j : Nat, ocv f n q j = bw (btn f n) (8 * q) j := by
  intro j
  induction j with
  | zero => rfl
  | succ j ih =>
    have e : ocv f n q (j + 1) = ocv f n q j + if 8 * q + j < n then (f (8 * q + j)).toInt.toNat * 2 ^ j else 0 := rfl
    have e2 : bw (btn f n) (8 * q) (j + 1) = bw (btn f n) (8 * q) j + btn f n (8 * q + j) * 2 ^ j := rfl
    rw [e, e2, ih]
    unfold btn
    by_cases c : 8 * q + j < n
    · rw [if_pos c, if_pos c]
    · rw [if_neg c, if_neg c, Nat.zero_mul]
theorem dz_1 : ∀ r : Nat, r < 9 → r = 0 ∨ ∀ a : Nat, a < 256 → (nI a <<< (((8 : Int32) - nI r) &&& (31 : Int32))) &&& (255 : Int32) = nI (a % 2 ^ r * 2 ^ (8 - r)) := by decide +kernel
theorem dz_2 : ∀ r : Nat, r < 9 → ∀ b : Nat, b < 256 → (nI b >>> (nI r &&& (31 : Int32))) = nI (b / 2 ^ r) := by decide +kernel
theorem dz_3 : ∀ r : Nat, r < 9 → ∀ x : Nat, x < 256 → (nI (x / 2 ^ (8 - r) * 2 ^ (8 - r)) ||| nI (x % 2 ^ (8 - r))) = nI x := by decide +kernel
theorem dz_4 : ∀ x : Nat, x < 256 → nI x &&& (255 : Int32) = nI x := by decide +kernel
theorem dz_5 : ∀ c : Nat, c < 8 → ∀ x : Nat, x < 256 → ∀ b : Nat, b < 2 → ¬ x % 2 ^ (8 - c) = 0 ∨ (nI x ||| (nI b <<< (((7 : Int32) - nI c) &&& (31 : Int32)))) = nI (x + b * 2 ^ (7 - c)) := by decide +kernel
theorem dz_6 : ∀ c : Nat, c < 8 → (nI c + (1 : Int32)) - (nI c + (1 : Int32)) / (8 : Int32) * (8 : Int32) = nI ((c + 1) % 8) ∧ (c = 0 ∨ ¬ nI c = (0 : Int32)) := by decide
theorem dz_7 : ∀ b : Nat, b < 2 → ((nI b >>> (nI 0 &&& (31 : Int32))) &&& (1 : Int32)) = nI b := by decide
theorem or_and (x y z : Int32) : (x ||| y) &&& z = (x &&& z) ||| (y &&& z) := by
  refine Int32.toBitVec_inj.mp ?_
  rw [Int32.toBitVec_and, Int32.toBitVec_or, Int32.toBitVec_or, Int32.toBitVec_and, Int32.toBitVec_and]
  exact BitVec.and_or_distrib_right
theorem oc_v {be : Nat → Nat} (h : ∀ j, be j ≤ 1) {r : Nat} (r1 : 1 ≤ r) (r8 : r ≤ 8) (a : Nat) : (((nI (bw be (a + 8) 8)) <<< (((8 : Int32) - nI r) &&& (31 : Int32))) ||| ((nI (bw be a 8)) >>> (nI r &&& (31 : Int32)))) &&& (255 : Int32) = nI (bw be (a + r) 8) := by
  have p8 : 2 ^ 8 = 256 := by decide
  have l1 := bw_lt h (a + 8) 8
  have l2 := bw_lt h a 8
  have l3 := bw_lt h (a + r) 8
  rw [p8] at l1 l2 l3
  have l4 := bw_lt h (a + r) (8 - r)
  have s1 : bw be (a + 8) 8 % 2 ^ r = bw be (a + 8) r := by
    have e := bw_add be (a + 8) r (8 - r)
    rw [show r + (8 - r) = 8 by omega] at e
    rw [e, Nat.add_mul_mod_self_left, Nat.mod_eq_of_lt (bw_lt h _ _)]
  have s2 : bw be a 8 / 2 ^ r = bw be (a + r) (8 - r) := by
    have e := bw_add be a r (8 - r)
    rw [show r + (8 - r) = 8 by omega] at e
    rw [e, Nat.add_mul_div_left _ _ (Nat.two_pow_pos r), Nat.div_eq_of_lt (bw_lt h _ _), Nat.zero_add]
  have s3 : bw be (a + r) 8 = bw be (a + r) (8 - r) + 2 ^ (8 - r) * bw be (a + 8) r := by
    have e := bw_add be (a + r) (8 - r) r
    rw [show 8 - r + r = 8 by omega, show a + r + (8 - r) = a + 8 by omega] at e
    exact e
  have d1 := (dz_1 r (by omega)).resolve_left (by omega) _ l1
  have d2 := dz_2 r (by omega) _ l2
  have l5 : bw be (a + r) (8 - r) < 256 := by
    rw [s3] at l3
    exact Nat.lt_of_le_of_lt (Nat.le_add_right _ _) l3
  have d4 := dz_4 _ l5
  have d3 := dz_3 r (by omega) _ l3
  have q1 : bw be (a + r) 8 / 2 ^ (8 - r) = bw be (a + 8) r := by
    rw [s3, Nat.add_mul_div_left _ _ (Nat.two_pow_pos (8 - r)), Nat.div_eq_of_lt l4, Nat.zero_add]
  have q2 : bw be (a + r) 8 % 2 ^ (8 - r) = bw be (a + r) (8 - r) := by
    rw [s3, Nat.add_mul_mod_self_left, Nat.mod_eq_of_lt l4]
  rw [q1, q2] at d3
  rw [or_and, d1, d2, s1, s2, d4]
  exact d3
theorem oc_0 {be : Nat → Nat} (h : ∀ j, be j ≤ 1) {r : Nat} (r1 : 1 ≤ r) (r8 : r ≤ 8) : (((nI (bw be 0 8)) <<< (((8 : Int32) - nI r) &&& (31 : Int32))) ||| ((0 : Int32) >>> (nI r &&& (31 : Int32)))) &&& (255 : Int32) = nI (2 ^ (8 - r) * bw be 0 r) := by
  have p8 : 2 ^ 8 = 256 := by decide
  have l1 := bw_lt h 0 8
  rw [p8] at l1
  have s1 : bw be 0 8 % 2 ^ r = bw be 0 r := by
    have e := bw_add be 0 r (8 - r)
    rw [show r + (8 - r) = 8 by omega] at e
    rw [e, Nat.add_mul_mod_self_left, Nat.mod_eq_of_lt (bw_lt h _ _)]
  have d1 := (dz_1 r (by omega)).resolve_left (by omega) _ l1
  have d2 := dz_2 r (by omega) 0 (by decide)
  rw [Nat.zero_div] at d2
  have e0 : nI 0 = (0 : Int32) := rfl
  rw [e0] at d2
  rw [or_and, d1, d2, s1, Nat.mul_comm]
  have e1 : (0 : Int32) &&& (255 : Int32) = 0 := by decide
  rw [e1, Int32.or_zero]
theorem upd_upd (f : Nat → Int32) (n : Nat) (a b : Int32) : upd (upd f n a) n b = upd f n b := by
  funext i
  unfold upd
  by_cases c : i = n
  · rw [if_pos c, if_pos c]
  · rw [if_neg c, if_neg c, if_neg c]
theorem upd_at (f : Nat → Int32) (n : Nat) (a : Int32) : upd f n a n = a := by
  unfold upd
  rw [if_pos rfl]
def mid (o : OT) (v c : Nat) : OT × Int32 := ((o.1 + (1 : Int32), upd o.2 o.1.toNatClampNeg (nI v)), nI c)
theorem orl_mid (o : OT) (x v : Int32) : orl (o.1 + (1 : Int32), upd o.2 o.1.toNatClampNeg x) v = (o.1 + (1 : Int32), upd o.2 o.1.toNatClampNeg (x ||| v)) := by
  show (o.1 + (1 : Int32), upd (upd o.2 o.1.toNatClampNeg x) (o.1 + (1 : Int32) - (1 : Int32)).toNatClampNeg (upd o.2 o.1.toNatClampNeg x (o.1 + (1 : Int32) - (1 : Int32)).toNatClampNeg ||| v)) = _
  rw [Int32.add_sub_cancel, upd_at, upd_upd]
theorem pb_first {o : OT} {f : Int32} {b : Nat} (hb : b < 2) (hf : f = nI b) : pbits f 1 (o, 0) = mid o (b * 2 ^ 7) 1 := by
  have e0 : pbits f 1 (o, (0 : Int32)) = (orl (if (0 : Int32) = (0 : Int32) then ap o (0 : Int32) else o) (((f >>> (nI 0 &&& (31 : Int32))) &&& (1 : Int32)) <<< (((7 : Int32) - (0 : Int32)) &&& (31 : Int32))), ((0 : Int32) + (1 : Int32)) - ((0 : Int32) + (1 : Int32)) / (8 : Int32) * (8 : Int32)) := rfl
  have ea : ap o (0 : Int32) = (o.1 + (1 : Int32), upd o.2 o.1.toNatClampNeg (nI 0)) := rfl
  have d := (dz_5 0 (by decide) 0 (by decide) b hb).resolve_left (fun q => q rfl)
  have e00 : nI 0 = (0 : Int32) := rfl
  rw [e0, hf, dz_7 b hb, if_pos rfl, ea, orl_mid]
  unfold mid
  rw [Nat.zero_add, e00] at d
  rw [e00, d]
  rfl
theorem pb_next {o : OT} {f : Int32} {v c b : Nat} (c1 : 1 ≤ c) (c8 : c < 8) (hv : v < 256) (hm : v % 2 ^ (8 - c) = 0) (hb : b < 2) (hf : f = nI b) : pbits f 1 (mid o v c) = mid o (v + b * 2 ^ (7 - c)) ((c + 1) % 8) := by
  have e0 : pbits f 1 (mid o v c) = (orl (if nI c = (0 : Int32) then ap (mid o v c).1 (0 : Int32) else (mid o v c).1) (((f >>> (nI 0 &&& (31 : Int32))) &&& (1 : Int32)) <<< (((7 : Int32) - nI c) &&& (31 : Int32))), (nI c + (1 : Int32)) - (nI c + (1 : Int32)) / (8 : Int32) * (8 : Int32)) := rfl
  have d := (dz_5 c c8 v hv b hb).resolve_left (fun q => q hm)
  have d6 := dz_6 c c8
  have nz := d6.2.resolve_left (by omega)
  have em : (mid o v c).1 = (o.1 + (1 : Int32), upd o.2 o.1.toNatClampNeg (nI v)) := rfl
  rw [e0, hf, dz_7 b hb, if_neg nz, em, orl_mid, d, d6.1]
  rfl
theorem rvT_c {f : Nat → Int32} {n : Nat} (hB : B01 f n) {m : Nat} (hmn : m ≤ n) (o : OT) : ∀ c : Nat, 1 ≤ c → c ≤ 8 → c ≤ m → rvT f m (o, 0) = rvT f (m - c) (mid o (2 ^ (8 - c) * bw (btn f n) (m - c) c) (c % 8)) := by
  intro c
  induction c with
  | zero => intro h; omega
  | succ c ih =>
    intro _ c8 cm
    have hj : m - (c + 1) < n := by omega
    have hf := btn_nI hB hj
    have hb := btn_1 hB (m - (c + 1))
    by_cases c0 : c = 0
    · subst c0
      have em : m = (m - 1) + 1 := by omega
      have e1 : rvT f m (o, 0) = rvT f (m - 1) (pbits (f (m - 1)) 1 (o, 0)) := by
        conv => lhs; rw [em]
        rfl
      have hf : f (m - 1) = nI (btn f n (m - 1)) := hf
      have hb1 : btn f n (m - 1) ≤ 1 := hb
      have e2 : bw (btn f n) (m - (0 + 1)) (0 + 1) = btn f n (m - 1) := by
        show 0 + btn f n (m - 1 + 0) * 2 ^ 0 = _
        rw [Nat.zero_add, Nat.add_zero, Nat.pow_zero, Nat.mul_one]
      rw [e1, pb_first (by omega) hf, e2, Nat.mul_comm]
    · have r := ih (by omega) (by omega) (by omega)
      have cm8 : c % 8 = c := by omega
      rw [cm8] at r
      have em : m - c = (m - (c + 1)) + 1 := by omega
      have e1 : ∀ s, rvT f (m - c) s = rvT f (m - (c + 1)) (pbits (f (m - (c + 1))) 1 s) := by
        intro s
        conv => lhs; rw [em]
        rfl
      have vl : 2 ^ (8 - c) * bw (btn f n) (m - c) c < 256 := by
        have l := bw_lt (btn_1 hB) (m - c) c
        have p : 2 ^ (8 - c) * 2 ^ c = 256 := by
          rw [← Nat.pow_add, show 8 - c + c = 8 by omega]
        rw [← p]
        exact Nat.mul_lt_mul_of_pos_left l (Nat.two_pow_pos _)
      rw [r, e1, pb_next (by omega) (by omega) vl (Nat.mul_mod_right _ _) (by omega) hf]
      have e2 := bw_add (btn f n) (m - (c + 1)) 1 c
      rw [show 1 + c = c + 1 by omega, show m - (c + 1) + 1 = m - c by omega] at e2
      have e3 : bw (btn f n) (m - (c + 1)) 1 = btn f n (m - (c + 1)) := by
        show 0 + btn f n (m - (c + 1) + 0) * 2 ^ 0 = _
        rw [Nat.zero_add, Nat.add_zero, Nat.pow_zero, Nat.mul_one]
      have p2 : 2 ^ (8 - c) = 2 ^ (8 - (c + 1)) * 2 ^ 1 := by
        rw [← Nat.pow_add, show 8 - (c + 1) + 1 = 8 - c by omega]
      have e4 : 2 ^ (8 - c) * bw (btn f n) (m - c) c + btn f n (m - (c + 1)) * 2 ^ (7 - c) = 2 ^ (8 - (c + 1)) * bw (btn f n) (m - (c + 1)) (c + 1) := by
        rw [e2, e3, Nat.mul_add, p2, Nat.mul_assoc, show 7 - c = 8 - (c + 1) by omega, Nat.mul_comm (btn f n (m - (c + 1))), Nat.add_comm]
      rw [e4]
set_option maxHeartbeats 1000000 in
theorem p_X2_pour_T (uP : OS) (f : Nat → Int32) (n w r : Nat) (r1 : 1 ≤ r) (r8 : r ≤ 8) (hn : n = 8 * w + r) (hB : B01 f n) (hP : ∀ q, 8 * q < n → uP.2.1 0 q = nI (bw (btn f n) (8 * q) 8)) {Q : OS → Prop} (K : Int32 → OS → Option (OS × Nat × Nat)) (T : OT × Int32) (hK : ∀ x v, XO T.1 v → pcA (K x v) Q) : ∀ (N m : Nat) (x : Int32) (u : OS) (t : OT), x.toInt = (m : Int) - 1 → m ≤ w + 1 → m ≤ 8000 → t.1.toInt + m ≤ 8000 → (m = 0 → T.1 = t) → (∀ i, m = i + 1 → rvT f (8 * i + r) (t, 0) = T) → XO t u → pcA (f_X2_pourInto_L28 uP (nI r) N K x u) Q := by
  intro N
  induction N with
  | zero => intro m x u t _ _ _ _ _ _ _; exact pcA_none
  | succ N ih =>
    intro m x u t hx hm hm8 hb hT0 hT h
    unfold f_X2_pourInto_L28
    refine pcA_ite (fun d => hK _ _ ?_) (fun d => ?_)
    · have d1 := Int32.lt_iff_toInt_lt.mp d
      rw [li_0, hx] at d1
      have : m = 0 := by omega
      rw [hT0 this]
      exact h
    · have d1 := mt Int32.lt_iff_toInt_lt.mpr d
      rw [li_0, hx] at d1
      obtain ⟨i, rfl⟩ : ∃ i, m = i + 1 := ⟨m - 1, by omega⟩
      have en : x.toNatClampNeg = i := by
        show x.toInt.toNat = i
        omega
      have e1 := dec32 (x := x) (by omega)
      have hn1 := h.n
      have pi := hP i (by omega)
      have hTi := hT i rfl
      have key : ∀ x13 : Int32, (i = 0 → x13 = 0) → (∀ j, i = j + 1 → x13 = nI (bw (btn f n) (8 * j) 8)) → pcA (gdi x (uP.2.2.2 0) <|
    oA2 (f_X1_append u (((uP.2.1 0 (x).toNatClampNeg) <<< (((8 : Int32) - nI r) &&& (31 : Int32))) ||| (x13 >>> (nI r &&& (31 : Int32))))) fun u16 r18 kc20 ks20 =>
    addc kc20 ks20 <|
    bnd (x + (-1 : Int32)) fun x22 =>
    f_X2_pourInto_L28 uP (nI r) N K x22 u16) Q := by
        intro x13 z0 z1
        rw [en, pi]
        refine pcA_gdi (fun _ _ => pcA_oA2 (p_X1_append u _ h (by rw [hn1.1]; omega)) (fun v r2 kc ks hv => pcA_addc (pcA_bnd (ih i _ v _ (by rw [e1, hx]; omega) (by omega) (by omega) (by rw [ap_n _ _ (by omega)]; omega) ?_ ?_ hv.1))))
        · intro i0
          subst i0
          have c := rvT_c hB (m := 8 * 0 + r) (by omega) t r r1 r8 (by omega)
          rw [hTi, show 8 * 0 + r - r = 0 by omega] at c
          have c : T = mid t (2 ^ (8 - r) * bw (btn f n) 0 r) (r % 8) := c
          rw [c, z0 rfl]
          show (t.1 + (1 : Int32), upd t.2 t.1.toNatClampNeg (nI (2 ^ (8 - r) * bw (btn f n) 0 r))) = (t.1 + (1 : Int32), upd t.2 t.1.toNatClampNeg (_ &&& (255 : Int32)))
          rw [show 8 * 0 = 0 from rfl, oc_0 (btn_1 hB) r1 r8]
        · intro j ij
          subst ij
          have c := rvT_c hB (m := 8 * (j + 1) + r) (by omega) t 8 (by decide) (by decide) (by omega)
          rw [hTi, show 8 * (j + 1) + r - 8 = 8 * j + r by omega, show 8 - 8 = 0 from rfl, Nat.pow_zero, Nat.one_mul] at c
          rw [c, z1 j rfl, show 8 * (j + 1) = 8 * j + 8 by omega]
          have e2 : mid t (bw (btn f n) (8 * j + r) 8) (8 % 8) = (ap t ((nI (bw (btn f n) (8 * j + 8) 8) <<< (((8 : Int32) - nI r) &&& (31 : Int32))) ||| (nI (bw (btn f n) (8 * j) 8) >>> (nI r &&& (31 : Int32)))), 0) := by
            show ((t.1 + (1 : Int32), upd t.2 t.1.toNatClampNeg (nI (bw (btn f n) (8 * j + r) 8))), (0 : Int32)) = ((t.1 + (1 : Int32), upd t.2 t.1.toNatClampNeg (_ &&& (255 : Int32))), (0 : Int32))
            rw [oc_v (btn_1 hB) r1 r8]
          rw [e2]
      refine pcA_bnd (pcA_ite (fun z => key 0 (fun _ => rfl) (fun j ij => ?_)) (fun z => pcA_gdi (fun _ _ => key _ (fun i0 => ?_) (fun j ij => ?_))))
      · exfalso
        have z1 := i0_le.mp z
        omega
      · exfalso
        have z1 := mt i0_le.mpr z
        omega
      · have e3 : (x - (1 : Int32)).toInt = x.toInt - 1 := by rw [sub32 (by rw [li_1]; omega) (by rw [li_1]; omega), li_1]
        have en3 : (x - (1 : Int32)).toNatClampNeg = j := by
          show (x - (1 : Int32)).toInt.toNat = j
          omega
        rw [en3]
        exact hP j (by omega)
theorem pour_none (uP : OS) (x2 x : Int32) (hx : x < (0 : Int32)) {Q : OS → Prop} (K : Int32 → OS → Option (OS × Nat × Nat)) (u : OS) (hK : pcA (K x u) Q) : ∀ N : Nat, pcA (f_X2_pourInto_L28 uP x2 N K x u) Q := by
  intro N
  cases N with
  | zero => exact pcA_none
  | succ N =>
    unfold f_X2_pourInto_L28
    rw [if_pos hx]
    exact hK
set_option maxHeartbeats 1000000 in
theorem p_X2_pourInto {F : Int32} {t o : OT} (uP u : OS) (hP : PIL F t uP) (hb : F ≠ 1 → F ≠ 2 → ∀ i : Nat, (i : Int) < t.1.toInt → 0 ≤ (t.2 i).toInt ∧ (t.2 i).toInt ≤ 255) (h8 : (uP.1 1).toInt ≤ 70000) (hu : XO o u) (hl : o.1.toInt + (octF F t : Int) ≤ 8000) : pcA (f_X2_pourInto uP u) (fun w => XO (pourF F t o) w) := by
  have oc := hP.oct
  have on := hu.n
  have e7 : ((uP.1 1) + (7 : Int32)).toInt = (uP.1 1).toInt + 7 := by rw [add32 (by rw [li_7]; omega) (by rw [li_7]; omega), li_7]
  have e1 : (((uP.1 1) + (7 : Int32)) / (8 : Int32)).toInt = (octF F t : Int) := by rw [div32 (by rw [e7]; omega) (by decide), e7, li_8, oc.2]
  have e2 : ((((uP.1 1) + (7 : Int32)) / (8 : Int32)) - (1 : Int32)).toInt = (octF F t : Int) - 1 := by rw [sub32 (by rw [e1, li_1]; omega) (by rw [e1, li_1]; omega), e1, li_1]
  have e3 : ((8 : Int32) * ((((uP.1 1) + (7 : Int32)) / (8 : Int32)) - (1 : Int32))).toInt = 8 * ((octF F t : Int) - 1) := by rw [mul32 (by rw [e2, li_8]; omega) (by rw [e2, li_8]; omega), e2, li_8]
  have e4 : ((uP.1 1) - ((8 : Int32) * ((((uP.1 1) + (7 : Int32)) / (8 : Int32)) - (1 : Int32)))).toInt = (uP.1 1).toInt - 8 * ((octF F t : Int) - 1) := by rw [sub32 (by rw [e3]; omega) (by rw [e3]; omega), e3]
  unfold f_X2_pourInto
  refine pcA_bnd (pcA_bnd_eq (fun x2 hx2 => pcA_bnd_eq (fun x3 hx3 => pcA_bnd ?_)))
  rw [← hx2] at e4
  rw [← hx3] at e2
  clear hx2 hx3 e3 e1 e7
  unfold pourF
  unfold octF at oc e2 e4 hl
  by_cases f1 : F = (1 : Int32)
  · rw [if_pos f1] at oc e2 e4 hl ⊢
    obtain ⟨w, PS⟩ := hP.2.1 f1
    have a := PS.1
    have b := PS.2.1
    have ex2 : x2 = (8 : Int32) := Int32.toInt_inj.mp (by rw [e4, li_8]; omega)
    rw [ex2]
    refine p_X2_pour_B uP (octs t.2) (4 * t.1.toInt.toNat) (fun i hi => ⟨?_, ?_⟩) _ (rvW t.2 t.1.toInt.toNat o) (fun x v hv => pcA_some hv) FU (4 * t.1.toInt.toNat) x3 u o e2 (Nat.le_refl _) (by omega) hl (rv_BW _ _ _) hu
    · have q := PS.2.2.1 (i / 4) (i % 4) (by omega) (by omega)
      rw [show 4 * (i / 4) + i % 4 = i by omega] at q
      exact q
    · exact byte32 _
  · rw [if_neg f1] at oc e2 e4 hl ⊢
    by_cases f2 : F = (2 : Int32)
    · rw [if_pos f2] at oc e2 e4 hl ⊢
      have PS := hP.1 f2
      have a := PS.1
      have b := PS.2.1
      by_cases n0 : t.1.toInt.toNat = 0
      · rw [n0] at e2 ⊢
        refine pour_none uP x2 x3 ?_ _ u (pcA_some hu) FU
        exact Int32.lt_iff_toInt_lt.mpr (by rw [e2, li_0]; decide)
      · have ew : (t.1.toInt.toNat + 7) / 8 = (t.1.toInt.toNat - 1) / 8 + 1 := by omega
        have hn : t.1.toInt.toNat = 8 * ((t.1.toInt.toNat - 1) / 8) + (t.1.toInt.toNat - 8 * ((t.1.toInt.toNat - 1) / 8)) := by omega
        have ex2 : x2 = nI (t.1.toInt.toNat - 8 * ((t.1.toInt.toNat - 1) / 8)) := Int32.toInt_inj.mp (by rw [e4, b, nI_toInt (by omega)]; omega)
        rw [ex2]
        refine p_X2_pour_T uP t.2 t.1.toInt.toNat ((t.1.toInt.toNat - 1) / 8) (t.1.toInt.toNat - 8 * ((t.1.toInt.toNat - 1) / 8)) (by omega) (by omega) hn PS.2.2.1 (fun q hq => ?_) _ (rvT t.2 t.1.toInt.toNat (o, 0)) (fun x v hv => pcA_some hv) FU ((t.1.toInt.toNat - 1) / 8 + 1) x3 u o (by rw [e2, ew]) (Nat.le_refl _) (by omega) (by rw [ew] at hl; exact hl) (fun z => by omega) (fun i hi => ?_) hu
        · have v := PS.2.2.2.1 q hq
          rw [ocv_bw] at v
          have l := bw_lt (btn_1 PS.2.2.1) (8 * q) 8
          refine Int32.toInt_inj.mp ?_
          rw [v, nI_toInt (by have p8 : 2 ^ 8 = 256 := by decide
                              omega)]
        · have : i = (t.1.toInt.toNat - 1) / 8 := by omega
          rw [this, ← hn]
    · rw [if_neg f2] at oc e2 e4 hl ⊢
      have PS := hP.2.2 f1 f2
      have a := PS.1
      have b := PS.2.1
      have ex2 : x2 = (8 : Int32) := Int32.toInt_inj.mp (by rw [e4, li_8]; omega)
      rw [ex2]
      exact p_X2_pour_B uP t.2 t.1.toInt.toNat (fun i hi => ⟨PS.2.2.1 i (by omega), hb f1 f2 i (by omega)⟩) _ (rvB t.2 t.1.toInt.toNat o) (fun x v hv => pcA_some hv) FU t.1.toInt.toNat x3 u o e2 (Nat.le_refl _) (by omega) hl rfl hu
-- octets that are pushed are octets
theorem oct_ap {t : OT} {b : Int32} (h : ∀ i, 0 ≤ (t.2 i).toInt ∧ (t.2 i).toInt ≤ 255) : ∀ i, 0 ≤ ((ap t b).2 i).toInt ∧ ((ap t b).2 i).toInt ≤ 255 := by
  intro i
  show 0 ≤ (upd t.2 t.1.toNatClampNeg (b &&& (255 : Int32)) i).toInt ∧ (upd t.2 t.1.toNatClampNeg (b &&& (255 : Int32)) i).toInt ≤ 255
  unfold upd
  by_cases c : i = t.1.toNatClampNeg
  · rw [if_pos c]
    exact byte32 b
  · rw [if_neg c]
    exact h i
theorem oct_rn {B : Int64} : ∀ (k : Nat) (s : Int64 × OT), (∀ i, 0 ≤ (s.2.2 i).toInt ∧ (s.2.2 i).toInt ≤ 255) → ∀ i, 0 ≤ ((rn8 B k s).2.2 i).toInt ∧ ((rn8 B k s).2.2 i).toInt ≤ 255 := by
  intro k
  induction k with
  | zero => intro s h; exact h
  | succ k ih =>
    intro s h
    have e : rn8 B (k + 1) s = if s.1 < B then s else rn8 B k (s.1 >>> (((8 : Int32)).toInt64 &&& (63 : Int64)), ap s.2 s.1.toInt32) := rfl
    rw [e]
    by_cases c : s.1 < B
    · rw [if_pos c]; exact h
    · rw [if_neg c]
      exact ih _ (oct_ap h)
theorem oct_sg {lg q r : Int32} {l : Nat} {s : SS} (h : ∀ i, 0 ≤ (s.1.2 i).toInt ∧ (s.1.2 i).toInt ≤ 255) : ∀ i, 0 ≤ ((sgB lg q r l s).1.2 i).toInt ∧ ((sgB lg q r l s).1.2 i).toInt ≤ 255 := oct_rn 2 (s.2 l, s.1) h
theorem oct_l3 {lg sz : Int32} {pf : Nat → Int32} {l p x : Nat} {s : SS} (h : ∀ i, 0 ≤ (s.1.2 i).toInt ∧ (s.1.2 i).toInt ≤ 255) : ∀ i, 0 ≤ ((lv3 lg sz pf l p x s).1.2 i).toInt ∧ ((lv3 lg sz pf l p x s).1.2 i).toInt ≤ 255 := by
  unfold lv3
  by_cases a : dL pf x p ≤ (0 : Int32)
  · rw [if_pos a]; exact h
  · rw [if_neg a]
    by_cases b : dT pf x p ≤ dL pf x p
    · rw [if_pos b]; exact h
    · rw [if_neg b]
      by_cases c : ((nI p >>> (((4 : Int32) - nI x) &&& (31 : Int32))) &&& (1 : Int32)) = (0 : Int32)
      · rw [if_pos c]; exact oct_sg h
      · rw [if_neg c]; exact oct_sg h
theorem oct_ls {lg sz : Int32} {pf : Nat → Int32} {l p : Nat} : ∀ (m : Nat) (s : SS), (∀ i, 0 ≤ (s.1.2 i).toInt ∧ (s.1.2 i).toInt ≤ 255) → ∀ i, 0 ≤ ((lvs lg sz pf l p m s).1.2 i).toInt ∧ ((lvs lg sz pf l p m s).1.2 i).toInt ≤ 255 := by
  intro m
  induction m with
  | zero => intro s h; exact h
  | succ m ih => intro s h; exact ih _ (oct_l3 h)
theorem oct_sn {F lg sz : Int32} (f1 : F ≠ 1) (f2 : F ≠ 2) {sh pf pl : Nat → Int32} {l p : Nat} {s : SS} (h : ∀ i, 0 ≤ (s.1.2 i).toInt ∧ (s.1.2 i).toInt ≤ 255) (hF : F = 0 ∨ F = 3) : ∀ i, 0 ≤ ((sgn F lg sz sh pf pl l p s).1.2 i).toInt ∧ ((sgn F lg sz sh pf pl l p s).1.2 i).toInt ≤ 255 := by
  unfold sgn
  by_cases a : F = (3 : Int32)
  · rw [if_pos a]; exact oct_ls 5 s h
  · rw [if_neg a]
    by_cases b : sz ≤ sh p
    · rw [if_pos b]; exact h
    · have c : F = (0 : Int32) := by
        rcases hF with q | q
        · exact q
        · exact absurd q a
      rw [if_neg b, if_pos c]
      exact oct_sg h
theorem oct_row {F lg sz : Int32} (f1 : F ≠ 1) (f2 : F ≠ 2) (hF : F = 0 ∨ F = 1 ∨ F = 2 ∨ F = 3) {sh pf pl row : Nat → Int32} {ln : Nat} : ∀ (m : Nat) (s : SS), (∀ i, 0 ≤ (s.1.2 i).toInt ∧ (s.1.2 i).toInt ≤ 255) → ∀ i, 0 ≤ ((rowS F lg sz sh pf pl row ln m s).1.2 i).toInt ∧ ((rowS F lg sz sh pf pl row ln m s).1.2 i).toInt ≤ 255 := by
  have hG : F = 0 ∨ F = 3 := by
    rcases hF with q | q | q | q
    · exact Or.inl q
    · exact absurd q f1
    · exact absurd q f2
    · exact Or.inr q
  intro m
  induction m with
  | zero => intro s h; exact h
  | succ m ih => intro s h; exact ih _ (oct_sn f1 f2 h hG)

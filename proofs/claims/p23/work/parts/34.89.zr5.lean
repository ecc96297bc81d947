-- ===== a state made smaller, and filled up again =====
theorem or_ad {y b c : Int64} {k : Nat} (hc : (c.toBitVec.smod 64).toNat = k) (h0 : 0 ≤ b.toInt) (h1 : b.toInt < ((2 ^ k : Nat) : Int)) : (y <<< c) ||| b = (y <<< c) + b := by
  have e := tn64 h0
  have hl : b.toBitVec.toNat < 2 ^ k := by
    rw [← e] at h1
    exact Int.ofNat_lt.mp h1
  refine Int64.toBitVec_inj.mp ?_
  rw [Int64.toBitVec_or, Int64.toBitVec_add]
  refine (BitVec.add_eq_or_of_and_eq_zero _ _ ?_).symm
  rw [Int64.toBitVec_shiftLeft, BitVec.shiftLeft_eq', hc]
  refine BitVec.eq_of_getLsbD_eq (fun i hi => ?_)
  rw [BitVec.getLsbD_and, BitVec.getLsbD_shiftLeft, BitVec.getLsbD_zero]
  by_cases q : i < k
  · rw [decide_eq_true q]
    simp
  · have t : b.toBitVec.getLsbD i = false := by
      rw [← BitVec.testBit_toNat]
      exact Nat.testBit_lt_two_pow (Nat.lt_of_lt_of_le hl (Nat.pow_le_pow_right (by decide) (by omega)))
    rw [t, Bool.and_false]
theorem sh_32 : (((((32 : Int32)).toInt64 &&& (63 : Int64))).toBitVec.smod 64).toNat = 32 := by decide
theorem or_8 (y : Int64) {b : Int32} (h : 0 ≤ b.toInt ∧ b.toInt ≤ 255) : (y <<< (((8 : Int32)).toInt64 &&& (63 : Int64))) ||| b.toInt64 = (y <<< (((8 : Int32)).toInt64 &&& (63 : Int64))) + b.toInt64 := or_ad sh_8 (by rw [tl32]; exact h.1) (by rw [tl32]; have p : ((2 ^ 8 : Nat) : Int) = 256 := rfl; omega)
theorem or_8v {y : Int64} {b : Int32} (h : 0 ≤ b.toInt ∧ b.toInt ≤ 255) (y0 : 0 ≤ y.toInt) (y1 : y.toInt < 36028797018963968) : ((y <<< (((8 : Int32)).toInt64 &&& (63 : Int64))) ||| b.toInt64).toInt = y.toInt * 256 + b.toInt := by
  have p : ((2 ^ 8 : Nat) : Int) = 256 := rfl
  have s := shl64 y (((8 : Int32)).toInt64 &&& (63 : Int64)) 8 sh_8 y0 (by rw [p]; omega)
  rw [p] at s
  rw [or_8 y h, add64 (by rw [s, tl32]; omega) (by rw [s, tl32]; omega), s, tl32]
theorem sW_v {t : OT} (h8 : T8 t) : ∀ (n m : Nat) (q : RC × Int64), m + n ≤ 6 → SK t q.1 → 0 ≤ q.2.toInt → q.2.toInt < ((256 ^ m : Nat) : Int) → 0 ≤ (sW t n q).2.toInt ∧ (sW t n q).2.toInt < ((256 ^ (m + n) : Nat) : Int) := by
  intro n
  induction n with
  | zero => intro m q _ _ h0 h1; exact ⟨h0, h1⟩
  | succ n ih =>
    intro m q hm hk h0 h1
    have pm : 256 ^ m ≤ 256 ^ 5 := Nat.pow_le_pow_right (by decide) (by omega)
    have p5 : 256 ^ 5 = 1099511627776 := by decide
    have v := sN_v hk h8
    have e := or_8v (y := q.2) v h0 (by omega)
    have pe : ((256 ^ (m + 1) : Nat) : Int) = ((256 ^ m : Nat) : Int) * 256 := by rw [Nat.pow_succ, Int.natCast_mul]; rfl
    have k := ih (m + 1) ((sN t q.1).1, (q.2 <<< (((8 : Int32)).toInt64 &&& (63 : Int64))) ||| (sN t q.1).2.toInt64) (by omega) hk.n (by show 0 ≤ ((q.2 <<< (((8 : Int32)).toInt64 &&& (63 : Int64))) ||| (sN t q.1).2.toInt64).toInt; omega) (by show ((q.2 <<< (((8 : Int32)).toInt64 &&& (63 : Int64))) ||| (sN t q.1).2.toInt64).toInt < _; omega)
    rw [show m + (n + 1) = m + 1 + n by omega]
    exact k
theorem sW_4 {t : OT} (h8 : T8 t) {s : RC} (hk : SK t s) : 0 ≤ (sW t 4 (s, 0)).2.toInt ∧ (sW t 4 (s, 0)).2.toInt < 4294967296 := by
  have k := sW_v h8 4 0 (s, 0) (by decide) hk (by show 0 ≤ (0 : Int64).toInt; decide) (by show (0 : Int64).toInt < ((256 ^ 0 : Nat) : Int); decide)
  have p : ((256 ^ (0 + 4) : Nat) : Int) = 4294967296 := rfl
  rw [p] at k
  exact k
theorem or_32 (y : Int64) {b : Int64} (h : 0 ≤ b.toInt ∧ b.toInt < 4294967296) : (y <<< (((32 : Int32)).toInt64 &&& (63 : Int64))) ||| b = (y <<< (((32 : Int32)).toInt64 &&& (63 : Int64))) + b := or_ad sh_32 h.1 (by have p : ((2 ^ 32 : Nat) : Int) = 4294967296 := rfl; omega)
theorem or_32v {y : Int64} {b : Int64} (h : 0 ≤ b.toInt ∧ b.toInt < 4294967296) (y0 : 0 ≤ y.toInt) (y1 : y.toInt < 2147483648) : ((y <<< (((32 : Int32)).toInt64 &&& (63 : Int64))) ||| b).toInt = y.toInt * 4294967296 + b.toInt := by
  have p : ((2 ^ 32 : Nat) : Int) = 4294967296 := rfl
  have s := shl64 y (((32 : Int32)).toInt64 &&& (63 : Int64)) 32 sh_32 y0 (by rw [p]; omega)
  rw [p] at s
  rw [or_32 y h, add64 (by rw [s]; omega) (by rw [s]; omega), s]
-- bytes
def nrB (t : OT) : Nat → RC × Int64 → RC × Int64
  | 0, q => q
  | k + 1, q => if (8388608 : Int64) ≤ q.2 then q else if q.1.2.1 = (0 : Int32) then nrB t k ((sN t q.1).1, (q.2 <<< (((8 : Int32)).toInt64 &&& (63 : Int64))) ||| (sN t q.1).2.toInt64) else q
theorem nrB_d {t : OT} {q : RC × Int64} (h : (8388608 : Int64) ≤ q.2) : ∀ k : Nat, nrB t k q = q := by
  intro k
  cases k with
  | zero => rfl
  | succ k => rw [nrB, if_pos h]
theorem nrB_b {t : OT} {q : RC × Int64} (h : ¬ q.1.2.1 = (0 : Int32)) : ∀ k : Nat, nrB t k q = q := by
  intro k
  cases k with
  | zero => rfl
  | succ k =>
    rw [nrB]
    by_cases c : (8388608 : Int64) ≤ q.2
    · rw [if_pos c]
    · rw [if_neg c, if_neg h]
theorem nrB_s {t : OT} {q : RC × Int64} (c : ¬ (8388608 : Int64) ≤ q.2) (h : q.1.2.1 = (0 : Int32)) (k : Nat) : nrB t (k + 1) q = nrB t k ((sN t q.1).1, (q.2 <<< (((8 : Int32)).toInt64 &&& (63 : Int64))) ||| (sN t q.1).2.toInt64) := by
  rw [nrB, if_neg c, if_pos h]
theorem nrB_2 {t : OT} : ∀ (k : Nat) (q : RC × Int64), (nrB t k q).1.2.2 = q.1.2.2 := by
  intro k
  induction k with
  | zero => intro q; rfl
  | succ k ih =>
    intro q
    by_cases c : (8388608 : Int64) ≤ q.2
    · rw [nrB_d c]
    · by_cases h : q.1.2.1 = (0 : Int32)
      · rw [nrB_s c h, ih]
        exact sN_2
      · rw [nrB_b h]
theorem nrB_k {t : OT} : ∀ (k : Nat) (q : RC × Int64), SK t q.1 → SK t (nrB t k q).1 := by
  intro k
  induction k with
  | zero => intro q h; exact h
  | succ k ih =>
    intro q hk
    by_cases c : (8388608 : Int64) ≤ q.2
    · rw [nrB_d c]; exact hk
    · by_cases h : q.1.2.1 = (0 : Int32)
      · rw [nrB_s c h]
        exact ih _ hk.n
      · rw [nrB_b h]; exact hk
theorem e823 : (8388608 : Int64).toInt = 8388608 := by decide
theorem nrB_r {t : OT} (h8 : T8 t) {q : RC × Int64} (hk : SK t q.1) (y0 : 2048 ≤ q.2.toInt) (y1 : q.2.toInt < 2147483648) : ¬ (nrB t 2 q).1.2.1 = 0 ∨ (8388608 ≤ (nrB t 2 q).2.toInt ∧ (nrB t 2 q).2.toInt < 2147483648) := by
  by_cases c : (8388608 : Int64) ≤ q.2
  · rw [nrB_d c]
    have c1 := Int64.le_iff_toInt_le.mp c
    rw [e823] at c1
    exact Or.inr ⟨c1, y1⟩
  · by_cases h : q.1.2.1 = (0 : Int32)
    · rw [nrB_s c h]
      have c1 := mt Int64.le_iff_toInt_le.mpr c
      rw [e823] at c1
      have v := sN_v hk h8
      have e := or_8v (y := q.2) v (by omega) (by omega)
      generalize hq : ((sN t q.1).1, (q.2 <<< (((8 : Int32)).toInt64 &&& (63 : Int64))) ||| (sN t q.1).2.toInt64) = p
      have ep : p.2.toInt = q.2.toInt * 256 + (sN t q.1).2.toInt := by rw [← hq]; exact e
      have kp : SK t p.1 := by rw [← hq]; exact hk.n
      by_cases c2 : (8388608 : Int64) ≤ p.2
      · rw [nrB_d c2]
        have c3 := Int64.le_iff_toInt_le.mp c2
        rw [e823] at c3
        exact Or.inr ⟨c3, by omega⟩
      · by_cases h2 : p.1.2.1 = (0 : Int32)
        · rw [nrB_s c2 h2]
          have c3 := mt Int64.le_iff_toInt_le.mpr c2
          rw [e823] at c3
          have v2 := sN_v kp h8
          have e2 := or_8v (y := p.2) v2 (by omega) (by omega)
          refine Or.inr ⟨?_, ?_⟩
          · show 8388608 ≤ ((p.2 <<< (((8 : Int32)).toInt64 &&& (63 : Int64))) ||| (sN t p.1).2.toInt64).toInt
            omega
          · show ((p.2 <<< (((8 : Int32)).toInt64 &&& (63 : Int64))) ||| (sN t p.1).2.toInt64).toInt < 2147483648
            omega
        · rw [nrB_b h2]
          exact Or.inl h2
    · rw [nrB_b h]
      exact Or.inl h
theorem r_L39B {t : OT} (u0 : OS) {Q : OS → Prop} (K : Int64 → OS → Option OS) (T : RC × Int64) (hT : (8388608 : Int64) ≤ T.2 ∨ ¬ T.1.2.1 = (0 : Int32)) (hK : ∀ v, MR t T.1 v → MF u0 v → pc (K T.2 v) Q) : ∀ (n k : Nat) (y : Int64) (u : OS) (s : RC), nrB t k (s, y) = T → MR t s u → MF u0 u → pc (f_X7_readBytes_L39 n K y u) Q := by
  intro n
  induction n with
  | zero => intro k y u s _ _ _; exact pc_none
  | succ n ih =>
    intro k y u s hk h hF
    unfold f_X7_readBytes_L39
    refine pc_ite (fun c => ?_) (fun c => pc_ite (fun z => pc_oC2 (r_next u h) (fun v r hv => pc_bnd ?_)) (fun z => ?_))
    · rw [nrB_d (q := (s, y)) c] at hk
      rw [← hk] at hK
      exact hK u h hF
    · have zs : s.2.1 = (0 : Int32) := h.2.1.symm.trans z
      cases k with
      | zero =>
        exfalso
        have hk : (s, y) = T := hk
        rw [← hk] at hT
        exact hT.elim c (fun q => q zs)
      | succ k =>
        rw [nrB_s (q := (s, y)) c zs] at hk
        have er : r = (sN t s).2 := hv.2.1
        rw [er]
        exact ih k _ v (sN t s).1 hk hv.1 (hF.tr hv.2.2)
    · have zs : ¬ s.2.1 = (0 : Int32) := fun q => z (h.2.1.trans q)
      rw [nrB_b (q := (s, y)) zs] at hk
      rw [← hk] at hK
      exact hK u h hF
-- what is reckoned first
def yN (lg f r : Int32) (x : Int64) : Int64 := ((f.toInt64 * (x >>> (lg.toInt64 &&& (63 : Int64)))) + (x &&& (((1 : Int64) <<< (lg.toInt64 &&& (63 : Int64))) - (1 : Int64)))) - r.toInt64
abbrev RW : Type := RC × (Nat → Int64)
def nwB (t : OT) (lg f r : Int32) (l : Nat) (w : RW) : RW := ((nrB t 2 (w.1, yN lg f r (w.2 l))).1, if (nrB t 2 (w.1, yN lg f r (w.2 l))).1.2.1 = (0 : Int32) then vp_updL w.2 l (nrB t 2 (w.1, yN lg f r (w.2 l))).2 else w.2)
theorem sl_at {v : OS} {a : Nat} {p : Int32} {y : Int64} {l : Nat} (hp : p.toNatClampNeg = l) (i : Nat) : (sL v a p y).2.2.1 a i = vp_updL (v.2.2.1 a) l y i := by
  show va_up v.2.2.1 a (vp_updL (v.2.2.1 a) p.toNatClampNeg y) a i = _
  have e : va_up v.2.2.1 a (vp_updL (v.2.2.1 a) p.toNatClampNeg y) a = vp_updL (v.2.2.1 a) p.toNatClampNeg y := by
    unfold va_up
    rw [if_pos rfl]
  rw [e, hp]
theorem vp_c {f g : Nat → Int64} {l i : Nat} {y : Int64} (h : f i = g i) : vp_updL f l y i = vp_updL g l y i := by
  unfold vp_updL
  by_cases q : i = l
  · rw [if_pos q, if_pos q]
  · rw [if_neg q, if_neg q]; exact h
theorem r_readBytes {t : OT} {lg : Int32} {w : RW} {ln : Nat} (u : OS) (p f r : Int32) (l : Nat) (hp : p.toInt = l) (hl : l < ln) (h10 : u.2.1 10 1 = lg) (h : MR t w.1 u) (hst : ∀ i, i < ln → u.2.2.1 33 i = w.2 i) (hT : (8388608 : Int64) ≤ (nrB t 2 (w.1, yN lg f r (w.2 l))).2 ∨ ¬ (nrB t 2 (w.1, yN lg f r (w.2 l))).1.2.1 = (0 : Int32)) : pc (f_X7_readBytes u p f r) (fun v => MR t (nwB t lg f r l w).1 v ∧ (∀ i, i < ln → v.2.2.1 33 i = (nwB t lg f r l w).2 i) ∧ M33 u v) := by
  have en : p.toNatClampNeg = l := by
    show p.toInt.toNat = l
    omega
  have e10 : u.2.1 10 ((1 : Int32)).toNatClampNeg = lg := h10
  unfold f_X7_readBytes
  rw [en, hst l hl, e10]
  refine pc_gdi (fun _ _ => pc_bnd (pc_gdi (fun _ _ => pc_bnd (pc_bnd (pc_bnd (r_L39B u _ _ hT ?_ FU 2 (yN lg f r (w.2 l)) u w.1 rfl h MF.rf))))))
  intro v hv hF
  refine pc_ite (fun z => pc_gdi (fun _ _ => pc_bnd (pc_some ⟨hv, fun i hi => ?_, hF.m33.tr M33.sl⟩))) (fun z => pc_some ⟨hv, fun i hi => ?_, hF.m33⟩)
  · have zz : (nrB t 2 (w.1, yN lg f r (w.2 l))).1.2.1 = (0 : Int32) := hv.2.1.symm.trans z
    rw [sl_at en]
    show _ = (if (nrB t 2 (w.1, yN lg f r (w.2 l))).1.2.1 = (0 : Int32) then vp_updL w.2 l (nrB t 2 (w.1, yN lg f r (w.2 l))).2 else w.2) i
    rw [if_pos zz]
    refine vp_c ?_
    rw [hF.2]
    exact hst i hi
  · have zz : ¬ (nrB t 2 (w.1, yN lg f r (w.2 l))).1.2.1 = (0 : Int32) := fun q => z (hv.2.1.trans q)
    show _ = (if (nrB t 2 (w.1, yN lg f r (w.2 l))).1.2.1 = (0 : Int32) then vp_updL w.2 l (nrB t 2 (w.1, yN lg f r (w.2 l))).2 else w.2) i
    rw [if_neg zz, hF.2]
    exact hst i hi
-- the class: bytes
theorem x_L63B {t : OT} (h8 : T8 t) (O : OS) (hO : XO t O) (u0 : OS) {Q : OS → Prop} (K : Int64 → Int32 → OS → Option OS) (T : RC × Int64) (hE : ¬ T.1.2.1 = 0 → ∀ v, XR t T.1 v → XF u0 v → Q v) (hK : T.1.2.1 = 0 → ∀ x v, XR t T.1 v → XF u0 v → pc (K T.2 x v) Q) : ∀ (n k : Nat) (x : Int32) (y : Int64) (u : OS) (s : RC), x.toInt = 2 - (k : Int) → k ≤ 2 → s.2.1 = 0 → s.2.2 = 0 → nrB t k (s, y) = T → XR t s u → XF u0 u → pc (f_X3_narrow_L63 O (8388608 : Int64) 1 n K x y u) Q := by
  intro n
  induction n with
  | zero => intro k x y u s _ _ _ _ _ _ _; exact pc_none
  | succ n ih =>
    intro k x y u s hx hk z b hT h hF
    unfold f_X3_narrow_L63
    refine pc_ite (fun c => ?_) (fun c => pc_ite (fun d => ?_) (fun d => ?_))
    · have c1 := Int32.le_iff_toInt_le.mp c
      rw [li_2, hx] at c1
      have : k = 0 := by omega
      subst this
      have hT : (s, y) = T := hT
      rw [← hT] at hK
      exact hK z _ _ h hF
    · rw [nrB_d (q := (s, y)) d] at hT
      rw [← hT] at hK
      exact hK z _ _ h hF
    · have c1 := mt Int32.le_iff_toInt_le.mpr c
      rw [li_2, hx] at c1
      have e1 := inc32 (x := x) (by omega)
      obtain ⟨k', rfl⟩ : ∃ k', k = k' + 1 := ⟨k - 1, by omega⟩
      rw [nrB_s (q := (s, y)) d z] at hT
      have b2 : (sN t s).1.2.2 = (0 : Int32) := sN_2.trans b
      refine pc_oC2 (x_nextNumber (s := s) u O 1 1 (by decide) h z b hO) (fun v r hv => pc_ite (fun z4 => pc_bnd (pc_bnd ?_)) (fun z4 => pc_some (hE ?_ v ?_ (hF.tr hv.2.1))))
      · have hv1 : XR t (sN t s).1 v := hv.1
        have zz : (sN t s).1.2.1 = 0 := hv1.2.1.symm.trans z4
        have er : r = ((0 : Int64) <<< (((8 : Int32)).toInt64 &&& (63 : Int64))) ||| (sN t s).2.toInt64 := hv.2.2 z4
        have e0 : ((0 : Int64) <<< (((8 : Int32)).toInt64 &&& (63 : Int64))) = 0 := by decide
        rw [e0, Int64.zero_or] at er
        have es : (((8 : Int32) * (1 : Int32)).toInt64 &&& (63 : Int64)) = (((8 : Int32)).toInt64 &&& (63 : Int64)) := by decide
        rw [es, er, ← or_8 y (sN_v h.2.2.2.2 h8)]
        exact ih k' _ _ v (sN t s).1 (by omega) (by omega) zz b2 hT hv1 (hF.tr hv.2.1)
      · have hv1 : XR t (sN t s).1 v := hv.1
        have nz : ¬ (sN t s).1.2.1 = 0 := fun q => z4 (hv1.2.1.trans q)
        rw [nrB_b nz] at hT
        rw [← hT]
        exact nz
      · have hv1 : XR t (sN t s).1 v := hv.1
        have nz : ¬ (sN t s).1.2.1 = 0 := fun q => z4 (hv1.2.1.trans q)
        rw [nrB_b nz] at hT
        rw [← hT]
        exact hv1
-- masks
theorem em_k {k : Nat} (h1 : 5 ≤ k) (h2 : k ≤ 12) {A B : Int} (h : A % 4294967296 = B % 4294967296) : A % ((2 ^ k : Nat) : Int) = B % ((2 ^ k : Nat) : Int) := by
  rcases (show k = 5 ∨ k = 6 ∨ k = 7 ∨ k = 8 ∨ k = 9 ∨ k = 10 ∨ k = 11 ∨ k = 12 by omega) with rfl | rfl | rfl | rfl | rfl | rfl | rfl | rfl
  · show A % 32 = B % 32; omega
  · show A % 64 = B % 64; omega
  · show A % 128 = B % 128; omega
  · show A % 256 = B % 256; omega
  · show A % 512 = B % 512; omega
  · show A % 1024 = B % 1024; omega
  · show A % 2048 = B % 2048; omega
  · show A % 4096 = B % 4096; omega
theorem and_mz {k : Nat} (h1 : 5 ≤ k) (h2 : k ≤ 12) (a : Int32) {sz : Int32} (hs : sz.toInt = ((2 ^ k : Nat) : Int)) : (a &&& (sz - (1 : Int32))).toInt = a.toInt % ((2 ^ k : Nat) : Int) := by
  have ak := (powA k (by omega) h1).2.2.2.2.2
  have e1 : (sz - (1 : Int32)).toInt = ((2 ^ k : Nat) : Int) - 1 := by rw [sub32 (by rw [li_1]; omega) (by rw [li_1]; omega), li_1, hs]
  have n1 := tn32x (x := sz - (1 : Int32)) (by omega)
  have p := and32 a (sz - (1 : Int32)) (by omega)
  have n3 := tn32x p.1
  have h3 : (a &&& (sz - (1 : Int32))).toBitVec.toNat = a.toBitVec.toNat % 2 ^ k := by
    rw [Int32.toBitVec_and, BitVec.toNat_and]
    have e : (sz - (1 : Int32)).toBitVec.toNat = 2 ^ k - 1 := by omega
    rw [e, Nat.and_two_pow_sub_one_eq_mod]
  rw [← n3, h3, Int.natCast_emod]
  refine em_k h1 h2 ?_
  have h4 := BitVec.toInt_eq_toNat_cond a.toBitVec
  have e : a.toInt = a.toBitVec.toInt := rfl
  rw [e, h4]
  by_cases c : 2 * a.toBitVec.toNat < 2 ^ 32
  · rw [if_pos c]
  · rw [if_neg c]
    have p32 : ((2 ^ 32 : Nat) : Int) = 4294967296 := rfl
    rw [p32]
    omega
theorem m64 {k : Nat} (h1 : 5 ≤ k) (h2 : k ≤ 12) {lg : Int32} (hlg : lg = nI k) (x : Int64) (x0 : 0 ≤ x.toInt) : (x &&& (((1 : Int64) <<< (lg.toInt64 &&& (63 : Int64))) - (1 : Int64))).toInt = x.toInt % ((2 ^ k : Nat) : Int) := by
  have o := (one_k k (by omega)).1
  rw [← hlg] at o
  have o1 : ((1 : Int64)).toInt = 1 := by decide
  have ak := (powA k (by omega) h1).2.2.2.2.2
  have e : (((1 : Int64) <<< (lg.toInt64 &&& (63 : Int64))) - (1 : Int64)).toInt = ((2 ^ k : Nat) : Int) - 1 := by
    rw [sub64 (by rw [o, o1]; omega) (by rw [o, o1]; omega), o, o1]
  have p := and64 x (((1 : Int64) <<< (lg.toInt64 &&& (63 : Int64))) - (1 : Int64)) (by rw [e]; omega)
  have n1 := tn64 (x := ((1 : Int64) <<< (lg.toInt64 &&& (63 : Int64))) - (1 : Int64)) (by rw [e]; omega)
  have n2 := tn64 x0
  have n3 := tn64 p.1
  have h3 : (x &&& (((1 : Int64) <<< (lg.toInt64 &&& (63 : Int64))) - (1 : Int64))).toBitVec.toNat = x.toBitVec.toNat % 2 ^ k := by
    rw [Int64.toBitVec_and, BitVec.toNat_and]
    have e : (((1 : Int64) <<< (lg.toInt64 &&& (63 : Int64))) - (1 : Int64)).toBitVec.toNat = 2 ^ k - 1 := by omega
    rw [e, Nat.and_two_pow_sub_one_eq_mod]
  rw [← n3, h3, Int.natCast_emod, n2]
theorem rst32 {k : Nat} (h1 : 5 ≤ k) (h2 : k ≤ 12) (x : Int64) {sz : Int32} (hs : sz.toInt = ((2 ^ k : Nat) : Int)) : (x.toInt32 &&& (sz - (1 : Int32))).toInt = x.toInt % ((2 ^ k : Nat) : Int) := by
  rw [and_mz h1 h2 x.toInt32 hs]
  refine em_k h1 h2 ?_
  rw [Int64.toInt_toInt32]
  exact Int.bmod_emod
theorem rst_e {k : Nat} (h1 : 5 ≤ k) (h2 : k ≤ 12) {lg : Int32} (hlg : lg = nI k) (x : Int64) (x0 : 0 ≤ x.toInt) {sz : Int32} (hs : sz.toInt = ((2 ^ k : Nat) : Int)) : (x.toInt32 &&& (sz - (1 : Int32))).toInt64 = (x &&& (((1 : Int64) <<< (lg.toInt64 &&& (63 : Int64))) - (1 : Int64))) := by
  refine Int64.toInt_inj.mp ?_
  rw [tl32, rst32 h1 h2 x hs, m64 h1 h2 hlg x x0]
theorem rst_i {k : Nat} (h1 : 5 ≤ k) (h2 : k ≤ 12) {lg : Int32} (hlg : lg = nI k) (x : Int64) (x0 : 0 ≤ x.toInt) {sz : Int32} (hs : sz.toInt = ((2 ^ k : Nat) : Int)) : (x &&& (((1 : Int64) <<< (lg.toInt64 &&& (63 : Int64))) - (1 : Int64))).toInt32 = (x.toInt32 &&& (sz - (1 : Int32))) := by
  have ak := (powA k (by omega) h1).2.2.2.2.2
  have m := m64 h1 h2 hlg x x0
  refine Int32.toInt_inj.mp ?_
  rw [rst32 h1 h2 x hs, ti32 (by rw [m]; omega) (by rw [m]; omega), m]
theorem yN_v {k : Nat} (h1 : 5 ≤ k) (h2 : k ≤ 12) {lg f r : Int32} (hlg : lg = nI k) (x : Int64) (x0 : 0 ≤ x.toInt) (f0 : 0 ≤ f.toInt) (f1 : f.toInt ≤ ((2 ^ k : Nat) : Int)) (r0 : 0 ≤ r.toInt) (r1 : r.toInt ≤ x.toInt % ((2 ^ k : Nat) : Int)) : (yN lg f r x).toInt = f.toInt * (x.toInt / ((2 ^ k : Nat) : Int)) + x.toInt % ((2 ^ k : Nat) : Int) - r.toInt ∧ f.toInt * (x.toInt / ((2 ^ k : Nat) : Int)) ≤ ((2 ^ k : Nat) : Int) * (x.toInt / ((2 ^ k : Nat) : Int)) := by
  have ak := (powA k (by omega) h1).2.2.2.2.2
  have m := m64 h1 h2 hlg x x0
  have s : (x >>> (lg.toInt64 &&& (63 : Int64))).toInt = x.toInt / ((2 ^ k : Nat) : Int) := shr64 x _ k (by rw [hlg]; exact la_3 k (by omega))
  have q0 : 0 ≤ x.toInt / ((2 ^ k : Nat) : Int) := Int.ediv_nonneg x0 (by omega)
  have le : f.toInt * (x.toInt / ((2 ^ k : Nat) : Int)) ≤ ((2 ^ k : Nat) : Int) * (x.toInt / ((2 ^ k : Nat) : Int)) := Int.mul_le_mul_of_nonneg_right f1 q0
  have ge : 0 ≤ f.toInt * (x.toInt / ((2 ^ k : Nat) : Int)) := Int.mul_nonneg f0 q0
  have dm := Int.mul_ediv_add_emod x.toInt ((2 ^ k : Nat) : Int)
  have m0 : 0 ≤ x.toInt % ((2 ^ k : Nat) : Int) := Int.emod_nonneg _ (by omega)
  have hi := i64_hi x
  have e1 : (f.toInt64 * (x >>> (lg.toInt64 &&& (63 : Int64)))).toInt = f.toInt * (x.toInt / ((2 ^ k : Nat) : Int)) := by
    rw [mul64 (by rw [tl32, s]; omega) (by rw [tl32, s]; omega), tl32, s]
  have e2 : ((f.toInt64 * (x >>> (lg.toInt64 &&& (63 : Int64)))) + (x &&& (((1 : Int64) <<< (lg.toInt64 &&& (63 : Int64))) - (1 : Int64)))).toInt = f.toInt * (x.toInt / ((2 ^ k : Nat) : Int)) + x.toInt % ((2 ^ k : Nat) : Int) := by
    rw [add64 (by rw [e1, m]; omega) (by rw [e1, m]; omega), e1, m]
  refine ⟨?_, le⟩
  unfold yN
  rw [sub64 (by rw [e2, tl32]; omega) (by rw [e2, tl32]; omega), e2, tl32]
-- a share of the whole size leaves the state
theorem yN_all {k : Nat} (h1 : 5 ≤ k) (h2 : k ≤ 12) {lg f r : Int32} (hlg : lg = nI k) (x : Int64) (x0 : 0 ≤ x.toInt) (hf : f.toInt = ((2 ^ k : Nat) : Int)) (hr : r.toInt = 0) : yN lg f r x = x := by
  have ak := (powA k (by omega) h1).2.2.2.2.2
  have m0 : 0 ≤ x.toInt % ((2 ^ k : Nat) : Int) := Int.emod_nonneg _ (by omega)
  have v := (yN_v (f := f) (r := r) h1 h2 hlg x x0 (by omega) (by omega) (by omega) (by omega)).1
  have dm := Int.mul_ediv_add_emod x.toInt ((2 ^ k : Nat) : Int)
  refine Int64.toInt_inj.mp ?_
  rw [v, hf, hr]
  omega
-- the span of bytes is kept
theorem yN_B {k : Nat} (h1 : 5 ≤ k) (h2 : k ≤ 12) {lg f r : Int32} (hlg : lg = nI k) (x : Int64) (x0 : 8388608 ≤ x.toInt) (x1 : x.toInt < 2147483648) (f0 : 1 ≤ f.toInt) (f1 : f.toInt ≤ ((2 ^ k : Nat) : Int)) (r0 : 0 ≤ r.toInt) (r1 : r.toInt ≤ x.toInt % ((2 ^ k : Nat) : Int)) (r2 : x.toInt % ((2 ^ k : Nat) : Int) < r.toInt + f.toInt) : 2048 ≤ (yN lg f r x).toInt ∧ (yN lg f r x).toInt < 2147483648 := by
  have v := yN_v (f := f) (r := r) h1 h2 hlg x (by omega) (by omega) f1 r0 r1
  have ak := (powA k (by omega) h1).2.2.2.2.2
  have m0 : 0 ≤ x.toInt % ((2 ^ k : Nat) : Int) := Int.emod_nonneg _ (by omega)
  have dm := Int.mul_ediv_add_emod x.toInt ((2 ^ k : Nat) : Int)
  have q1 : 2048 ≤ x.toInt / ((2 ^ k : Nat) : Int) := by
    refine (Int.le_ediv_iff_mul_le (by omega)).mpr ?_
    omega
  have le : 1 * (x.toInt / ((2 ^ k : Nat) : Int)) ≤ f.toInt * (x.toInt / ((2 ^ k : Nat) : Int)) := Int.mul_le_mul_of_nonneg_right f0 (by omega)
  rw [v.1]
  refine ⟨by omega, ?_⟩
  have u := v.2
  omega
def LaB (ln : Nat) (st : Nat → Int64) : Prop := ∀ i, i < ln → 8388608 ≤ (st i).toInt ∧ (st i).toInt < 2147483648
theorem nwB_ok {t : OT} (h8 : T8 t) {k : Nat} (h1 : 5 ≤ k) (h2 : k ≤ 12) {lg f r : Int32} (hlg : lg = nI k) {ln l : Nat} (hl : l < ln) {w : RW} (hk : SK t w.1) (hS : LaB ln w.2) (f0 : 1 ≤ f.toInt) (f1 : f.toInt ≤ ((2 ^ k : Nat) : Int)) (r0 : 0 ≤ r.toInt) (r1 : r.toInt ≤ (w.2 l).toInt % ((2 ^ k : Nat) : Int)) (r2 : (w.2 l).toInt % ((2 ^ k : Nat) : Int) < r.toInt + f.toInt) : ((8388608 : Int64) ≤ (nrB t 2 (w.1, yN lg f r (w.2 l))).2 ∨ ¬ (nrB t 2 (w.1, yN lg f r (w.2 l))).1.2.1 = (0 : Int32)) ∧ LaB ln (nwB t lg f r l w).2 ∧ SK t (nwB t lg f r l w).1 ∧ (nwB t lg f r l w).1.2.2 = w.1.2.2 := by
  have s := hS l hl
  have y := yN_B (f := f) (r := r) h1 h2 hlg (w.2 l) s.1 s.2 f0 f1 r0 r1 r2
  have q := nrB_r (t := t) h8 (q := (w.1, yN lg f r (w.2 l))) hk y.1 y.2
  refine ⟨?_, ?_, nrB_k 2 (w.1, yN lg f r (w.2 l)) hk, nrB_2 2 (w.1, yN lg f r (w.2 l))⟩
  · rcases q with q | q
    · exact Or.inr q
    · exact Or.inl (Int64.le_iff_toInt_le.mpr (by rw [e823]; exact q.1))
  · intro i hi
    show 8388608 ≤ ((if (nrB t 2 (w.1, yN lg f r (w.2 l))).1.2.1 = (0 : Int32) then vp_updL w.2 l (nrB t 2 (w.1, yN lg f r (w.2 l))).2 else w.2) i).toInt ∧ ((if (nrB t 2 (w.1, yN lg f r (w.2 l))).1.2.1 = (0 : Int32) then vp_updL w.2 l (nrB t 2 (w.1, yN lg f r (w.2 l))).2 else w.2) i).toInt < 2147483648
    by_cases z : (nrB t 2 (w.1, yN lg f r (w.2 l))).1.2.1 = (0 : Int32)
    · rw [if_pos z]
      unfold vp_updL
      by_cases c : i = l
      · rw [if_pos c]
        rcases q with q | q
        · exact absurd z q
        · exact q
      · rw [if_neg c]
        exact hS i hi
    · rw [if_neg z]
      exact hS i hi
-- a whole share: nothing happens
theorem nwB_all {t : OT} {k : Nat} (h1 : 5 ≤ k) (h2 : k ≤ 12) {lg f r : Int32} (hlg : lg = nI k) {ln l : Nat} (hl : l < ln) {w : RW} (z : w.1.2.1 = 0) (hS : LaB ln w.2) (hf : f.toInt = ((2 ^ k : Nat) : Int)) (hr : r.toInt = 0) : (nwB t lg f r l w).1 = w.1 ∧ ∀ i, (nwB t lg f r l w).2 i = w.2 i := by
  have s := hS l hl
  have e := yN_all (f := f) (r := r) h1 h2 hlg (w.2 l) (by omega) hf hr
  have d : nrB t 2 (w.1, yN lg f r (w.2 l)) = (w.1, w.2 l) := by
    rw [e]
    exact nrB_d (q := (w.1, w.2 l)) (Int64.le_iff_toInt_le.mpr (by rw [e823]; exact s.1)) 2
  unfold nwB
  rw [d]
  refine ⟨rfl, fun i => ?_⟩
  show (if w.1.2.1 = (0 : Int32) then vp_updL w.2 l (w.2 l) else w.2) i = w.2 i
  rw [if_pos z]
  unfold vp_updL
  by_cases c : i = l
  · rw [if_pos c, c]
  · rw [if_neg c]
theorem x_restOf (R Z : OS) (p : Int32) (l : Nat) (hp : p.toInt = l) : pc (f_X3_restOf R Z p) (fun r => r = ((R.2.2.1 1 l).toInt32 &&& ((Z.1 1) - (1 : Int32)))) := by
  have en : p.toNatClampNeg = l := by
    show p.toInt.toNat = l
    omega
  unfold f_X3_restOf
  rw [en]
  exact pc_gdi (fun _ _ => pc_some rfl)
theorem x_narrowB {t : OT} (h8 : T8 t) {F lg : Int32} {k : Nat} (h1 : 5 ≤ k) (h2 : k ≤ 12) (hlg : lg = nI k) (f1 : ¬ F = 1) (f2 : ¬ F = 2) {w : RW} {ln : Nat} (R Z O : OS) (hO : XO t O) (p f r : Int32) (l : Nat) (hp : p.toInt = l) (hl : l < ln) (hF8 : R.1 8 = F) (hz0 : Z.1 0 = lg) (hz1 : Z.1 1 = (1 : Int32) <<< (lg &&& (31 : Int32))) (z : w.1.2.1 = 0) (b : w.1.2.2 = 0) (h : XR t w.1 R) (hst : ∀ i, i < ln → R.2.2.1 1 i = w.2 i) (hx0 : 0 ≤ (w.2 l).toInt) : pc (f_X3_narrow R Z O p f r) (fun v => XR t (nwB t lg f r l w).1 v ∧ (∀ i, i < ln → v.2.2.1 1 i = (nwB t lg f r l w).2 i) ∧ XF3 R v) := by
  have en : p.toNatClampNeg = l := by
    show p.toInt.toNat = l
    omega
  have sk := sk32 h1 h2 hlg
  have e1 : fsF F lg = (8388608 : Int64) := by
    unfold fsF
    rw [if_neg f1, if_neg f2]
  unfold f_X3_narrow
  rw [hF8, hz1, hz0]
  refine pc_oC1 (p_X6_firstState h1 h2 hlg rfl) (fun r1 hr1 => pc_bnd ?_)
  rw [if_neg f1]
  refine pc_gdi (fun _ _ => pc_oC1 (x_restOf R Z p l hp) (fun r6 h6 => pc_bnd_eq (fun y8 e8 => pc_bnd ?_)))
  have ey : y8 = yN lg f r (w.2 l) := by
    rw [e8, h6, en, hst l hl, hz1, rst_e h1 h2 hlg (w.2 l) hx0 sk]
    rfl
  rw [hr1, e1]
  refine x_L63B h8 O hO R _ (nrB t 2 (w.1, yN lg f r (w.2 l))) ?_ ?_ FU 2 0 y8 R w.1 (by rw [li_0]; rfl) (by decide) z b (by rw [ey]) h XF.rf
  · intro nz v hv hF
    refine ⟨hv, fun i hi => ?_, hF.x3⟩
    show _ = (if (nrB t 2 (w.1, yN lg f r (w.2 l))).1.2.1 = (0 : Int32) then vp_updL w.2 l (nrB t 2 (w.1, yN lg f r (w.2 l))).2 else w.2) i
    rw [if_neg nz, hF.2]
    exact hst i hi
  · intro zz x v hv hF
    refine pc_gdi (fun _ _ => pc_bnd (pc_some ⟨⟨hv.1, hv.2.1, hv.2.2.1, hv.2.2.2.1, hv.2.2.2.2⟩, fun i hi => ?_, hF.x3.tr XF3.sl⟩))
    rw [sl_at en]
    show _ = (if (nrB t 2 (w.1, yN lg f r (w.2 l))).1.2.1 = (0 : Int32) then vp_updL w.2 l (nrB t 2 (w.1, yN lg f r (w.2 l))).2 else w.2) i
    rw [if_pos zz]
    refine vp_c ?_
    rw [hF.2]
    exact hst i hi

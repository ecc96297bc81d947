-- ===== how far states and piles grow =====
theorem nst_v {k : Nat} {lg q r : Int32} {y : Int64} {A M : Int} (h1 : 5 ≤ k) (h2 : k ≤ 12) (hl : lg = nI k) (hq : 1 ≤ q.toInt) (hr : 0 ≤ r.toInt) (hqr : q.toInt + r.toInt ≤ ((2 ^ k : Nat) : Int)) (y0 : 0 ≤ y.toInt) (y1 : y.toInt < A * q.toInt) (hAM : A * ((2 ^ k : Nat) : Int) = M) (hM : M ≤ 9223372036854775808) : (nst lg q r y).toInt = y.toInt / q.toInt * ((2 ^ k : Nat) : Int) + y.toInt % q.toInt + r.toInt ∧ 0 ≤ (nst lg q r y).toInt ∧ (nst lg q r y).toInt < M := by
  obtain ⟨a1, a2, a3, a4, a5, a6, a7⟩ := powA k (by omega) h1
  have sp := span (q := q.toInt) (r := r.toInt) (A := A) (B := ((2 ^ k : Nat) : Int)) (M := M) (by omega) (by omega) y0 y1 hAM hr hqr
  have f0 : 0 ≤ y.toInt / q.toInt := Int.ediv_nonneg y0 (by omega)
  have f1 : 0 ≤ y.toInt / q.toInt * ((2 ^ k : Nat) : Int) := Int.mul_nonneg f0 (by omega)
  have f2 : 0 ≤ y.toInt % q.toInt := Int.emod_nonneg _ (by omega)
  have e1 : (y / q.toInt64).toInt = y.toInt / q.toInt := by rw [div64 y0 (by rw [tl32]; omega), tl32]
  have e2 : (y - y / q.toInt64 * q.toInt64).toInt = y.toInt % q.toInt := by rw [rem64 y0 (by rw [tl32]; omega), tl32]
  have e3 : ((y / q.toInt64) <<< ((nI k).toInt64 &&& (63 : Int64))).toInt = y.toInt / q.toInt * ((2 ^ k : Nat) : Int) := by
    rw [shl64 _ _ k (la_3 k (by omega)) (by rw [e1]; exact f0) (by rw [e1]; omega), e1]
  have e4 : (((y / q.toInt64) <<< ((nI k).toInt64 &&& (63 : Int64))) + (y - y / q.toInt64 * q.toInt64)).toInt = y.toInt / q.toInt * ((2 ^ k : Nat) : Int) + y.toInt % q.toInt := by
    rw [add64 (by rw [e3, e2]; omega) (by rw [e3, e2]; omega), e3, e2]
  have e5 : (nst lg q r y).toInt = y.toInt / q.toInt * ((2 ^ k : Nat) : Int) + y.toInt % q.toInt + r.toInt := by
    unfold nst
    rw [hl, add64 (by rw [e4, tl32]; omega) (by rw [e4, tl32]; omega), e4, tl32]
  refine ⟨e5, ?_, ?_⟩
  · rw [e5]; omega
  · rw [e5]; omega
theorem sr8 (z : Int64) : (z >>> (((8 : Int32)).toInt64 &&& (63 : Int64))).toInt = z.toInt / 256 := by
  have s := shr64 z ((((8 : Int32)).toInt64 &&& (63 : Int64))) 8 sh_8
  have p8 : ((2 ^ 8 : Nat) : Int) = 256 := by decide
  rw [p8] at s
  exact s
theorem pw_lo {y : Int} {b n : Nat} (h : ((2 ^ n : Nat) : Int) ≤ y) (h2 : y < ((2 ^ b : Nat) : Int)) : n < b := by
  rcases Nat.lt_or_ge n b with q | q
  · exact q
  · exfalso
    have := Nat.pow_le_pow_right (n := 2) (by decide) q
    omega
theorem pw_dn {y : Int} {b : Nat} (h : 8 ≤ b) (h2 : y < ((2 ^ b : Nat) : Int)) : y / 256 < ((2 ^ (b - 8) : Nat) : Int) := by
  have e : 2 ^ b = 2 ^ (b - 8) * 256 := by
    have : b = (b - 8) + 8 := by omega
    rw [this, Nat.pow_add]
    rw [show b - 8 + 8 - 8 = b - 8 by omega]
  rw [e] at h2
  omega
-- octets pushed and what is left
theorem rn8_pb {k b : Nat} {lg q : Int32} {y : Int64} {t : OT} (h1 : 5 ≤ k) (h2 : k ≤ 12) (hl : lg = nI k) (hq : 1 ≤ q.toInt) (hq2 : q.toInt ≤ 4096) (y0 : 0 ≤ y.toInt) (y1 : y.toInt < 2147483648) (yb : y.toInt < ((2 ^ b : Nat) : Int)) (t0 : 0 ≤ t.1.toInt) (t1 : t.1.toInt ≤ 10000) : 0 ≤ (rn8 (bnd8 lg q) 2 (y, t)).1.toInt ∧ (rn8 (bnd8 lg q) 2 (y, t)).1.toInt < ((2 ^ (31 - k) : Nat) : Int) * q.toInt ∧ t.1.toInt ≤ (rn8 (bnd8 lg q) 2 (y, t)).2.1.toInt ∧ ∃ c : Nat, (rn8 (bnd8 lg q) 2 (y, t)).1.toInt < ((2 ^ c : Nat) : Int) ∧ 8 * (rn8 (bnd8 lg q) 2 (y, t)).2.1.toInt + (c : Int) ≤ 8 * t.1.toInt + (b : Int) := by
  have bb := bndA h1 h2 hq hq2
  have eb : (bnd8 lg q).toInt = ((2 ^ (31 - k) : Nat) : Int) * q.toInt := by
    unfold bnd8
    rw [hl]
    exact bb.1
  have lt := rn8_lt (t := t) h1 h2 hl hq hq2 y0 y1
  have lt1 := Int64.lt_iff_toInt_lt.mp lt
  rw [eb] at lt1
  have b19 : ((2 ^ 19 : Nat) : Int) = 524288 := by decide
  have e : rn8 (bnd8 lg q) 2 (y, t) = if y < bnd8 lg q then (y, t) else (if (y >>> (((8 : Int32)).toInt64 &&& (63 : Int64))) < bnd8 lg q then (y >>> (((8 : Int32)).toInt64 &&& (63 : Int64)), ap t y.toInt32) else ((y >>> (((8 : Int32)).toInt64 &&& (63 : Int64))) >>> (((8 : Int32)).toInt64 &&& (63 : Int64)), ap (ap t y.toInt32) (y >>> (((8 : Int32)).toInt64 &&& (63 : Int64))).toInt32)) := rfl
  have a1 := ap_n t y.toInt32 (by omega)
  have a2 := ap_n (ap t y.toInt32) (y >>> (((8 : Int32)).toInt64 &&& (63 : Int64))).toInt32 (by omega)
  have s1 := sr8 y
  have s2 := sr8 (y >>> (((8 : Int32)).toInt64 &&& (63 : Int64)))
  generalize hA : ((2 ^ (31 - k) : Nat) : Int) * q.toInt = A at *
  by_cases c : y < bnd8 lg q
  · rw [if_pos c] at e
    rw [e] at lt1 ⊢
    exact ⟨y0, lt1, Int.le_refl _, b, yb, Int.le_refl _⟩
  · rw [if_neg c] at e
    have c1 := mt Int64.lt_iff_toInt_lt.mpr c
    rw [eb] at c1
    have b8 := pw_lo (n := 19) (y := y.toInt) (b := b) (by omega) yb
    have d1 := pw_dn (b := b) (by omega) yb
    by_cases d : (y >>> (((8 : Int32)).toInt64 &&& (63 : Int64))) < bnd8 lg q
    · rw [if_pos d] at e
      rw [e] at lt1 ⊢
      refine ⟨?_, lt1, ?_, b - 8, ?_, ?_⟩
      · show 0 ≤ (y >>> (((8 : Int32)).toInt64 &&& (63 : Int64))).toInt
        omega
      · show t.1.toInt ≤ (ap t y.toInt32).1.toInt
        omega
      · show (y >>> (((8 : Int32)).toInt64 &&& (63 : Int64))).toInt < _
        omega
      · show 8 * (ap t y.toInt32).1.toInt + ((b - 8 : Nat) : Int) ≤ _
        omega
    · rw [if_neg d] at e
      have d2 := mt Int64.lt_iff_toInt_lt.mpr d
      rw [eb] at d2
      have b9 := pw_lo (n := 19) (y := y.toInt / 256) (b := b - 8) (by omega) d1
      have d3 := pw_dn (b := b - 8) (by omega) d1
      rw [e] at lt1 ⊢
      refine ⟨?_, lt1, ?_, b - 8 - 8, ?_, ?_⟩
      · show 0 ≤ ((y >>> (((8 : Int32)).toInt64 &&& (63 : Int64))) >>> (((8 : Int32)).toInt64 &&& (63 : Int64))).toInt
        omega
      · show t.1.toInt ≤ (ap (ap t y.toInt32) (y >>> (((8 : Int32)).toInt64 &&& (63 : Int64))).toInt32).1.toInt
        omega
      · show ((y >>> (((8 : Int32)).toInt64 &&& (63 : Int64))) >>> (((8 : Int32)).toInt64 &&& (63 : Int64))).toInt < _
        rw [s2, s1]
        exact d3
      · show 8 * (ap (ap t y.toInt32) (y >>> (((8 : Int32)).toInt64 &&& (63 : Int64))).toInt32).1.toInt + ((b - 8 - 8 : Nat) : Int) ≤ _
        omega
-- a new state has at most k bits more
theorem nst_b {y q r B P : Int} (hq : 1 ≤ q) (hr : q + r ≤ B) (y0 : 0 ≤ y) (yP : y < P) (hB : 0 < B) : y / q * B + y % q + r < P * B := by
  have m1 : y % q < q := Int.emod_lt_of_pos _ (by omega)
  have d0 : 0 ≤ y / q := Int.ediv_nonneg y0 (by omega)
  have d1 : y / q ≤ y := Int.ediv_le_self _ y0
  have d2 : (y / q + 1) * B ≤ P * B := Int.mul_le_mul_of_nonneg_right (by omega) (by omega)
  have d3 : (y / q + 1) * B = y / q * B + B := by rw [Int.add_mul, Int.one_mul]
  omega
def PB (s : SS) (B : Int) : Prop := ∃ b : Nat → Nat, (∀ l, l < 4 → 0 ≤ (s.2 l).toInt ∧ (s.2 l).toInt < 2147483648 ∧ (s.2 l).toInt < ((2 ^ b l : Nat) : Int)) ∧ 0 ≤ s.1.1.toInt ∧ 8 * s.1.1.toInt + ((b 0 + b 1 + b 2 + b 3 : Nat) : Int) ≤ B
theorem PB.le {s : SS} {B C : Int} (h : PB s B) (hBC : B ≤ C) : PB s C := by
  obtain ⟨b, a1, a2, a3⟩ := h
  exact ⟨b, a1, a2, by omega⟩
theorem PB.n {s : SS} {B : Int} (h : PB s B) : 0 ≤ s.1.1.toInt ∧ 8 * s.1.1.toInt ≤ B := by
  obtain ⟨b, a1, a2, a3⟩ := h
  exact ⟨a2, by omega⟩
theorem PB.s {s : SS} {B : Int} (h : PB s B) : ∀ l, l < 4 → 0 ≤ (s.2 l).toInt ∧ (s.2 l).toInt < 2147483648 := by
  obtain ⟨b, a1, a2, a3⟩ := h
  exact fun l hl => ⟨(a1 l hl).1, (a1 l hl).2.1⟩
theorem sum4 (b : Nat → Nat) (l v : Nat) (hl : l < 4) : (if 0 = l then v else b 0) + (if 1 = l then v else b 1) + (if 2 = l then v else b 2) + (if 3 = l then v else b 3) + b l = b 0 + b 1 + b 2 + b 3 + v := by
  rcases (show l = 0 ∨ l = 1 ∨ l = 2 ∨ l = 3 by omega) with q | q | q | q
  · subst q
    rw [if_pos rfl, if_neg (by decide), if_neg (by decide), if_neg (by decide)]
    omega
  · subst q
    rw [if_neg (by decide), if_pos rfl, if_neg (by decide), if_neg (by decide)]
    omega
  · subst q
    rw [if_neg (by decide), if_neg (by decide), if_pos rfl, if_neg (by decide)]
    omega
  · subst q
    rw [if_neg (by decide), if_neg (by decide), if_neg (by decide), if_pos rfl]
    omega
set_option maxHeartbeats 1000000 in
theorem PB.sg {k : Nat} {lg q r : Int32} {l : Nat} {s : SS} {B : Int} (h1 : 5 ≤ k) (h2 : k ≤ 12) (hl : lg = nI k) (hq : 1 ≤ q.toInt) (hr : 0 ≤ r.toInt) (hqr : q.toInt + r.toInt ≤ ((2 ^ k : Nat) : Int)) (l4 : l < 4) (hB : B ≤ 80000) (h : PB s B) : PB (sgB lg q r l s) (B + 12) := by
  obtain ⟨b, a1, a2, a3⟩ := h
  obtain ⟨p1, p2, p3, p4, p5, p6, p7⟩ := powA k (by omega) h1
  obtain ⟨y0, y1, yb⟩ := a1 l l4
  obtain ⟨z0, z1, z2, c, zc, zs⟩ := rn8_pb (b := b l) (t := s.1) h1 h2 hl hq (by omega) y0 y1 yb a2 (by omega)
  have eA : ((2 ^ (31 - k) : Nat) : Int) * ((2 ^ k : Nat) : Int) = 2147483648 := by
    rw [← Int.natCast_mul, p3]
    rfl
  have nv := nst_v (lg := lg) (r := r) (M := 2147483648) h1 h2 hl hq hr hqr z0 z1 eA (by decide)
  have nb := nst_b (q := q.toInt) (r := r.toInt) (B := ((2 ^ k : Nat) : Int)) (P := ((2 ^ c : Nat) : Int)) hq hqr z0 zc (by omega)
  rw [← nv.1, ← Int.natCast_mul, ← Nat.pow_add] at nb
  refine ⟨fun i => if i = l then c + k else b i, fun i hi => ?_, ?_, ?_⟩
  · show 0 ≤ (vp_updL s.2 l (nst lg q r (rn8 (bnd8 lg q) 2 (s.2 l, s.1)).1) i).toInt ∧ (vp_updL s.2 l (nst lg q r (rn8 (bnd8 lg q) 2 (s.2 l, s.1)).1) i).toInt < 2147483648 ∧ (vp_updL s.2 l (nst lg q r (rn8 (bnd8 lg q) 2 (s.2 l, s.1)).1) i).toInt < ((2 ^ (if i = l then c + k else b i) : Nat) : Int)
    unfold vp_updL
    by_cases e : i = l
    · rw [if_pos e, if_pos e]
      exact ⟨nv.2.1, nv.2.2, nb⟩
    · rw [if_neg e, if_neg e]
      exact a1 i hi
  · show 0 ≤ (rn8 (bnd8 lg q) 2 (s.2 l, s.1)).2.1.toInt
    omega
  · show 8 * (rn8 (bnd8 lg q) 2 (s.2 l, s.1)).2.1.toInt + (((if 0 = l then c + k else b 0) + (if 1 = l then c + k else b 1) + (if 2 = l then c + k else b 2) + (if 3 = l then c + k else b 3) : Nat) : Int) ≤ B + 12
    have sm := sum4 b l (c + k) l4
    generalize (if 0 = l then c + k else b 0) + (if 1 = l then c + k else b 1) + (if 2 = l then c + k else b 2) + (if 3 = l then c + k else b 3) = S at sm
    clear nb nv zc z1 eA yb y1 a1
    omega
theorem PB.l3 {k : Nat} {lg : Int32} {pf : Nat → Int32} {l p x : Nat} {s : SS} {B : Int} (h1 : 5 ≤ k) (h2 : k ≤ 12) (hl : lg = nI k) (l4 : l < 4) (hB : B ≤ 80000) (h : PB s B) : PB (lv3 lg ((1 : Int32) <<< (lg &&& (31 : Int32))) pf l p x s) (B + 12) := by
  have sk := sk32 h1 h2 hl
  have ak := (powA k (by omega) h1).2.2.2.2.2
  have cb := chn_b (sz := (1 : Int32) <<< (lg &&& (31 : Int32))) (l := dL pf x p) (t := dT pf x p) (by rw [sk]; omega)
  unfold lv3
  by_cases a : dL pf x p ≤ (0 : Int32)
  · rw [if_pos a]; exact h.le (by omega)
  · rw [if_neg a]
    by_cases b : dT pf x p ≤ dL pf x p
    · rw [if_pos b]; exact h.le (by omega)
    · rw [if_neg b]
      by_cases c : ((nI p >>> (((4 : Int32) - nI x) &&& (31 : Int32))) &&& (1 : Int32)) = (0 : Int32)
      · rw [if_pos c]
        exact h.sg h1 h2 hl cb.1 (by rw [li_0]; omega) (by rw [li_0, ← sk]; omega) l4 hB
      · rw [if_neg c]
        have es : (((1 : Int32) <<< (lg &&& (31 : Int32))) - chn ((1 : Int32) <<< (lg &&& (31 : Int32))) (dL pf x p) (dT pf x p)).toInt = ((1 : Int32) <<< (lg &&& (31 : Int32))).toInt - (chn ((1 : Int32) <<< (lg &&& (31 : Int32))) (dL pf x p) (dT pf x p)).toInt := sub32 (by omega) (by omega)
        exact h.sg h1 h2 hl (by omega) (by omega) (by rw [es, sk]; omega) l4 hB
theorem PB.ls {k : Nat} {lg : Int32} {pf : Nat → Int32} {l p : Nat} (h1 : 5 ≤ k) (h2 : k ≤ 12) (hl : lg = nI k) (l4 : l < 4) : ∀ (m : Nat) (s : SS) (B : Int), B + 12 * m ≤ 80000 → PB s B → PB (lvs lg ((1 : Int32) <<< (lg &&& (31 : Int32))) pf l p m s) (B + 12 * m) := by
  intro m
  induction m with
  | zero => intro s B _ h; exact h.le (by omega)
  | succ m ih =>
    intro s B hB h
    have := ih (lv3 lg ((1 : Int32) <<< (lg &&& (31 : Int32))) pf l p m s) (B + 12) (by omega) (h.l3 h1 h2 hl l4 (by omega))
    exact this.le (by omega)
-- form 1
theorem rnW_all {k : Nat} {lg q : Int32} {y : Int64} {t : OT} (h1 : 5 ≤ k) (h2 : k ≤ 12) (hl : lg = nI k) (hq : 1 ≤ q.toInt) (hq2 : q.toInt < ((2 ^ k : Nat) : Int)) (y0 : 0 ≤ y.toInt) (t0 : 0 ≤ t.1.toInt) (t1 : t.1.toInt ≤ 10000) : 0 ≤ (rnW (bnd32 lg q) (y, t)).1.toInt ∧ (rnW (bnd32 lg q) (y, t)).1.toInt < ((2 ^ (63 - k) : Nat) : Int) * q.toInt ∧ (rnW (bnd32 lg q) (y, t)).1 < bnd32 lg q ∧ t.1.toInt ≤ (rnW (bnd32 lg q) (y, t)).2.1.toInt ∧ (rnW (bnd32 lg q) (y, t)).2.1.toInt ≤ t.1.toInt + 1 := by
  have bb := bndW h1 h2 hq hq2
  have eb : (bnd32 lg q).toInt = ((2 ^ (63 - k) : Nat) : Int) * q.toInt := by
    unfold bnd32
    rw [hl]
    exact bb.1
  have us := ushr64 y y0
  have hi := i64_hi y
  have a1 := apw_n t y.toInt32 (by omega)
  generalize hA : ((2 ^ (63 - k) : Nat) : Int) * q.toInt = A at *
  have e : rnW (bnd32 lg q) (y, t) = if y < bnd32 lg q then (y, t) else (((y).toUInt64 >>> (((32 : Int32)).toInt64.toUInt64 &&& Int64.toUInt64 63)).toInt64, apw t y.toInt32) := rfl
  rw [e]
  by_cases c : y < bnd32 lg q
  · rw [if_pos c]
    have c1 := Int64.lt_iff_toInt_lt.mp c
    rw [eb] at c1
    exact ⟨y0, c1, c, Int.le_refl _, by show t.1.toInt ≤ t.1.toInt + 1; omega⟩
  · rw [if_neg c]
    have z1 : (((y).toUInt64 >>> (((32 : Int32)).toInt64.toUInt64 &&& Int64.toUInt64 63)).toInt64).toInt < A := by
      rw [us]
      omega
    refine ⟨?_, z1, Int64.lt_iff_toInt_lt.mpr ?_, ?_, ?_⟩
    · show 0 ≤ (((y).toUInt64 >>> (((32 : Int32)).toInt64.toUInt64 &&& Int64.toUInt64 63)).toInt64).toInt
      rw [us]
      omega
    · rw [eb]
      exact z1
    · show t.1.toInt ≤ (apw t y.toInt32).1.toInt
      omega
    · show (apw t y.toInt32).1.toInt ≤ t.1.toInt + 1
      omega
def WB (s : SS) (m : Nat) : Prop := 0 ≤ s.1.1.toInt ∧ s.1.1.toInt ≤ m ∧ ∀ l, l < 4 → 0 ≤ (s.2 l).toInt
theorem WB.sg {k : Nat} {lg q r : Int32} {l : Nat} {s : SS} {m : Nat} (h1 : 5 ≤ k) (h2 : k ≤ 12) (hl : lg = nI k) (hq : 1 ≤ q.toInt) (hq2 : q.toInt < ((2 ^ k : Nat) : Int)) (hr : 0 ≤ r.toInt) (hqr : q.toInt + r.toInt ≤ ((2 ^ k : Nat) : Int)) (l4 : l < 4) (hm : m ≤ 5000) (h : WB s m) : WB (sgW lg q r l s) (m + 1) := by
  obtain ⟨a1, a2, a3⟩ := h
  obtain ⟨p1, p2, p3, p4, p5, p6, p7⟩ := powA k (by omega) h1
  obtain ⟨z0, z1, _, z2, z3⟩ := rnW_all (t := s.1) h1 h2 hl hq hq2 (a3 l l4) a1 (by omega)
  have eA : ((2 ^ (63 - k) : Nat) : Int) * ((2 ^ k : Nat) : Int) = 9223372036854775808 := by
    rw [← Int.natCast_mul, p4]
    rfl
  have nv := nst_v (lg := lg) (r := r) (M := 9223372036854775808) h1 h2 hl hq hr hqr z0 z1 eA (by decide)
  refine ⟨?_, ?_, fun i hi => ?_⟩
  · show 0 ≤ (rnW (bnd32 lg q) (s.2 l, s.1)).2.1.toInt
    omega
  · show (rnW (bnd32 lg q) (s.2 l, s.1)).2.1.toInt ≤ ((m + 1 : Nat) : Int)
    omega
  · show 0 ≤ (vp_updL s.2 l (nst lg q r (rnW (bnd32 lg q) (s.2 l, s.1)).1) i).toInt
    unfold vp_updL
    by_cases e : i = l
    · rw [if_pos e]; exact nv.2.1
    · rw [if_neg e]; exact a3 i hi
-- form 2
def TB (k : Nat) (s : SS) (m : Nat) : Prop := 0 ≤ s.1.1.toInt ∧ s.1.1.toInt ≤ 13 * m ∧ ∀ l, l < 4 → ((2 ^ k : Nat) : Int) ≤ (s.2 l).toInt ∧ (s.2 l).toInt < 2 * ((2 ^ k : Nat) : Int)
theorem TB.sg {k : Nat} {lg q r : Int32} {pl : Nat → Int32} {l : Nat} {s : SS} {m : Nat} (h1 : 5 ≤ k) (h2 : k ≤ 12) (hl : lg = nI k) (hq : 1 ≤ q.toInt) (hr : 0 ≤ r.toInt) (hqr : q.toInt + r.toInt ≤ ((2 ^ k : Nat) : Int)) (hpl : ∀ i, i < 2 ^ k → 0 ≤ (pl i).toInt ∧ (pl i).toInt < ((2 ^ k : Nat) : Int)) (l4 : l < 4) (hm : m ≤ 5000) (h : TB k s m) : TB k (sgT lg q r pl l s) (m + 1) ∧ (rn2 (bnd2 q) 13 (s.2 l, s.1)).1 < bnd2 q := by
  obtain ⟨a1, a2, a3⟩ := h
  have ak := (powA k (by omega) h1).2.2.2.2.2
  have k13 : ((2 ^ 13 : Nat) : Int) = 8192 := by decide
  have yl := a3 l l4
  obtain ⟨z0, z1, z2, z3⟩ := rn2_all hq (by omega) 13 (s.2 l) s.1 (by omega) (by omega) a1 (by omega)
  have eb := bnd2_v hq (by omega)
  have ez : (rn2 (bnd2 q) 13 (s.2 l, s.1)).1.toInt32.toInt = (rn2 (bnd2 q) 13 (s.2 l, s.1)).1.toInt := ti32 (by omega) (by omega)
  have a : (r + (rn2 (bnd2 q) 13 (s.2 l, s.1)).1.toInt32).toInt = r.toInt + (rn2 (bnd2 q) 13 (s.2 l, s.1)).1.toInt := by rw [add32 (by rw [ez]; omega) (by rw [ez]; omega), ez]
  have e5 : ((r + (rn2 (bnd2 q) 13 (s.2 l, s.1)).1.toInt32) - q).toInt = r.toInt + (rn2 (bnd2 q) 13 (s.2 l, s.1)).1.toInt - q.toInt := by rw [sub32 (by rw [a]; omega) (by rw [a]; omega), a]
  have slot : ((r + (rn2 (bnd2 q) 13 (s.2 l, s.1)).1.toInt32) - q).toNatClampNeg < 2 ^ k := by
    show ((r + (rn2 (bnd2 q) 13 (s.2 l, s.1)).1.toInt32) - q).toInt.toNat < 2 ^ k
    omega
  have pv := hpl _ slot
  have o1 := (one_k k (by omega)).1
  rw [← hl] at o1
  have ev : (((1 : Int64) <<< (lg.toInt64 &&& (63 : Int64))) + (pl ((r + (rn2 (bnd2 q) 13 (s.2 l, s.1)).1.toInt32) - q).toNatClampNeg).toInt64).toInt = ((2 ^ k : Nat) : Int) + (pl ((r + (rn2 (bnd2 q) 13 (s.2 l, s.1)).1.toInt32) - q).toNatClampNeg).toInt := by
    rw [add64 (by rw [o1, tl32]; omega) (by rw [o1, tl32]; omega), o1, tl32]
  refine ⟨⟨?_, ?_, fun i hi => ?_⟩, Int64.lt_iff_toInt_lt.mpr (by rw [eb]; exact z1)⟩
  · show 0 ≤ (rn2 (bnd2 q) 13 (s.2 l, s.1)).2.1.toInt
    omega
  · show (rn2 (bnd2 q) 13 (s.2 l, s.1)).2.1.toInt ≤ 13 * ((m + 1 : Nat) : Int)
    omega
  · show ((2 ^ k : Nat) : Int) ≤ (vp_updL s.2 l (((1 : Int64) <<< (lg.toInt64 &&& (63 : Int64))) + (pl ((r + (rn2 (bnd2 q) 13 (s.2 l, s.1)).1.toInt32) - q).toNatClampNeg).toInt64) i).toInt ∧ (vp_updL s.2 l (((1 : Int64) <<< (lg.toInt64 &&& (63 : Int64))) + (pl ((r + (rn2 (bnd2 q) 13 (s.2 l, s.1)).1.toInt32) - q).toNatClampNeg).toInt64) i).toInt < 2 * ((2 ^ k : Nat) : Int)
    unfold vp_updL
    by_cases e : i = l
    · rw [if_pos e, ev]
      omega
    · rw [if_neg e]
      exact a3 i hi
theorem sgT_c {k : Nat} {lg q r : Int32} {pl pl2 : Nat → Int32} {l : Nat} {s : SS} {m : Nat} (h1 : 5 ≤ k) (hq : 1 ≤ q.toInt) (h2 : k ≤ 12) (hr : 0 ≤ r.toInt) (hqr : q.toInt + r.toInt ≤ ((2 ^ k : Nat) : Int)) (l4 : l < 4) (hm : m ≤ 5000) (h : TB k s m) (e : ∀ i, i < 2 ^ k → pl i = pl2 i) : sgT lg q r pl l s = sgT lg q r pl2 l s := by
  obtain ⟨a1, a2, a3⟩ := h
  have ak := (powA k (by omega) h1).2.2.2.2.2
  have k13 : ((2 ^ 13 : Nat) : Int) = 8192 := by decide
  have yl := a3 l l4
  obtain ⟨z0, z1, z2, z3⟩ := rn2_all hq (by omega) 13 (s.2 l) s.1 (by omega) (by omega) a1 (by omega)
  have ez : (rn2 (bnd2 q) 13 (s.2 l, s.1)).1.toInt32.toInt = (rn2 (bnd2 q) 13 (s.2 l, s.1)).1.toInt := ti32 (by omega) (by omega)
  have a : (r + (rn2 (bnd2 q) 13 (s.2 l, s.1)).1.toInt32).toInt = r.toInt + (rn2 (bnd2 q) 13 (s.2 l, s.1)).1.toInt := by rw [add32 (by rw [ez]; omega) (by rw [ez]; omega), ez]
  have e5 : ((r + (rn2 (bnd2 q) 13 (s.2 l, s.1)).1.toInt32) - q).toInt = r.toInt + (rn2 (bnd2 q) 13 (s.2 l, s.1)).1.toInt - q.toInt := by rw [sub32 (by rw [a]; omega) (by rw [a]; omega), a]
  have slot : ((r + (rn2 (bnd2 q) 13 (s.2 l, s.1)).1.toInt32) - q).toNatClampNeg < 2 ^ k := by
    show ((r + (rn2 (bnd2 q) 13 (s.2 l, s.1)).1.toInt32) - q).toInt.toNat < 2 ^ k
    omega
  unfold sgT
  rw [e _ slot]

-- ===== reading: where we are (octets read, what is broken, bits left of the last octet) =====
abbrev RC : Type := Int32 × Int32 × Int32
def SK (t : OT) (s : RC) : Prop := 0 ≤ s.1.toInt ∧ s.1.toInt ≤ t.1.toInt ∧ t.1.toInt ≤ 20000 ∧ 0 ≤ s.2.1.toInt ∧ (0 ≤ s.2.2.toInt ∧ s.2.2.toInt ≤ 8) ∧ (s.2.2.toInt = 0 ∨ 1 ≤ s.1.toInt)
def T8 (t : OT) : Prop := ∀ i : Nat, (i : Int) < t.1.toInt → 0 ≤ (t.2 i).toInt ∧ (t.2 i).toInt ≤ 255
def sN (t : OT) (s : RC) : RC × Int32 := if s.2.1 = (0 : Int32) then (if s.1 < t.1 then ((s.1 + (1 : Int32), s.2), t.2 s.1.toNatClampNeg) else ((s.1, (1 : Int32), s.2.2), (0 : Int32))) else (s, (0 : Int32))
theorem sN_b {t : OT} {s : RC} (h : ¬ s.2.1 = (0 : Int32)) : sN t s = (s, 0) := by
  unfold sN
  rw [if_neg h]
theorem sN_e {t : OT} {s : RC} (h : s.2.1 = (0 : Int32)) (d : ¬ s.1 < t.1) : sN t s = ((s.1, (1 : Int32), s.2.2), 0) := by
  unfold sN
  rw [if_pos h, if_neg d]
theorem sN_g {t : OT} {s : RC} (h : s.2.1 = (0 : Int32)) (d : s.1 < t.1) : sN t s = ((s.1 + (1 : Int32), s.2), t.2 s.1.toNatClampNeg) := by
  unfold sN
  rw [if_pos h, if_pos d]
theorem SK.n {t : OT} {s : RC} (h : SK t s) : SK t (sN t s).1 := by
  obtain ⟨h1, h2, h3, h4, h5, h6⟩ := h
  by_cases z : s.2.1 = (0 : Int32)
  · by_cases d : s.1 < t.1
    · rw [sN_g z d]
      have d1 := Int32.lt_iff_toInt_lt.mp d
      have e := inc32 (x := s.1) (by omega)
      refine ⟨?_, ?_, h3, h4, h5, ?_⟩
      · show 0 ≤ (s.1 + (1 : Int32)).toInt
        omega
      · show (s.1 + (1 : Int32)).toInt ≤ t.1.toInt
        omega
      · show s.2.2.toInt = 0 ∨ 1 ≤ (s.1 + (1 : Int32)).toInt
        omega
    · rw [sN_e z d]
      exact ⟨h1, h2, h3, by show 0 ≤ (1 : Int32).toInt; decide, h5, h6⟩
  · rw [sN_b z]
    exact ⟨h1, h2, h3, h4, h5, h6⟩
theorem sN_v {t : OT} {s : RC} (h : SK t s) (h8 : T8 t) : 0 ≤ (sN t s).2.toInt ∧ (sN t s).2.toInt ≤ 255 := by
  by_cases z : s.2.1 = (0 : Int32)
  · by_cases d : s.1 < t.1
    · rw [sN_g z d]
      have d1 := Int32.lt_iff_toInt_lt.mp d
      have h1 := h.1
      exact h8 s.1.toNatClampNeg (by show (s.1.toInt.toNat : Int) < _; omega)
    · rw [sN_e z d]
      exact ⟨by show 0 ≤ (0 : Int32).toInt; decide, by show (0 : Int32).toInt ≤ 255; decide⟩
  · rw [sN_b z]
    exact ⟨by show 0 ≤ (0 : Int32).toInt; decide, by show (0 : Int32).toInt ≤ 255; decide⟩
theorem sN_2 {t : OT} {s : RC} : (sN t s).1.2.2 = s.2.2 := by
  by_cases z : s.2.1 = (0 : Int32)
  · by_cases d : s.1 < t.1
    · rw [sN_g z d]
    · rw [sN_e z d]
  · rw [sN_b z]
def sW (t : OT) : Nat → RC × Int64 → RC × Int64
  | 0, q => q
  | n + 1, q => sW t n ((sN t q.1).1, (q.2 <<< (((8 : Int32)).toInt64 &&& (63 : Int64))) ||| (sN t q.1).2.toInt64)
theorem sW_b {t : OT} : ∀ (n : Nat) (q : RC × Int64), ¬ q.1.2.1 = (0 : Int32) → (sW t n q).1 = q.1 := by
  intro n
  induction n with
  | zero => intro q _; rfl
  | succ n ih =>
    intro q h
    have e := sN_b (t := t) h
    show (sW t n ((sN t q.1).1, (q.2 <<< (((8 : Int32)).toInt64 &&& (63 : Int64))) ||| (sN t q.1).2.toInt64)).1 = q.1
    rw [e]
    exact ih _ h
theorem SK.w {t : OT} : ∀ (n : Nat) (q : RC × Int64), SK t q.1 → SK t (sW t n q).1 := by
  intro n
  induction n with
  | zero => intro q h; exact h
  | succ n ih => intro q h; exact ih _ h.n
theorem sW_2 {t : OT} : ∀ (n : Nat) (q : RC × Int64), (sW t n q).1.2.2 = q.1.2.2 := by
  intro n
  induction n with
  | zero => intro q; rfl
  | succ n ih =>
    intro q
    show (sW t n ((sN t q.1).1, (q.2 <<< (((8 : Int32)).toInt64 &&& (63 : Int64))) ||| (sN t q.1).2.toInt64)).1.2.2 = q.1.2.2
    rw [ih]
    exact sN_2
-- what is broken stays broken; a number of octets breaks by 1 alone
theorem sN_k {t : OT} {s : RC} (h : s.2.1 = (0 : Int32)) : (sN t s).1.2.1 = 0 ∨ (sN t s).1.2.1 = 1 := by
  by_cases d : s.1 < t.1
  · rw [sN_g h d]; exact Or.inl h
  · rw [sN_e h d]; exact Or.inr rfl
theorem sW_k {t : OT} : ∀ (n : Nat) (q : RC × Int64), q.1.2.1 = (0 : Int32) → (sW t n q).1.2.1 = 0 ∨ (sW t n q).1.2.1 = 1 := by
  intro n
  induction n with
  | zero => intro q h; exact Or.inl h
  | succ n ih =>
    intro q h
    show (sW t n ((sN t q.1).1, (q.2 <<< (((8 : Int32)).toInt64 &&& (63 : Int64))) ||| (sN t q.1).2.toInt64)).1.2.1 = 0 ∨ (sW t n ((sN t q.1).1, (q.2 <<< (((8 : Int32)).toInt64 &&& (63 : Int64))) ||| (sN t q.1).2.toInt64)).1.2.1 = 1
    rcases sN_k (t := t) h with e | e
    · exact ih _ e
    · rw [sW_b n _ (by show ¬ (sN t q.1).1.2.1 = 0; rw [e]; decide)]
      exact Or.inr e
def btr (t : OT) (s : RC) : RC × Int32 := ((s.1, s.2.1, s.2.2 - (1 : Int32)), ((t.2 (s.1 - (1 : Int32)).toNatClampNeg) >>> ((s.2.2 - (1 : Int32)) &&& (31 : Int32))) &&& (1 : Int32))
def sB (t : OT) (s : RC) : RC × Int32 := if s.2.2 = (0 : Int32) then (if (sN t s).1.2.1 = (0 : Int32) then btr t ((sN t s).1.1, (sN t s).1.2.1, (8 : Int32)) else ((sN t s).1, (0 : Int32))) else btr t s
theorem sk_bt {t : OT} {s : RC} (h : SK t s) (b : 1 ≤ s.2.2.toInt) : SK t (btr t s).1 := by
  obtain ⟨h1, h2, h3, h4, h5, h6⟩ := h
  have e : (s.2.2 - (1 : Int32)).toInt = s.2.2.toInt - 1 := by rw [sub32 (by rw [li_1]; omega) (by rw [li_1]; omega), li_1]
  refine ⟨h1, h2, h3, h4, ?_, ?_⟩
  · show 0 ≤ (s.2.2 - (1 : Int32)).toInt ∧ (s.2.2 - (1 : Int32)).toInt ≤ 8
    omega
  · show (s.2.2 - (1 : Int32)).toInt = 0 ∨ 1 ≤ s.1.toInt
    omega
theorem bl_ne {s : RC} {t : OT} (h : SK t s) (b : ¬ s.2.2 = (0 : Int32)) : 1 ≤ s.2.2.toInt := by
  have h5 := h.2.2.2.2.1
  have := ne32 b
  rw [li_0] at this
  omega
theorem sN_8 {t : OT} {s : RC} (h : SK t s) (z : (sN t s).1.2.1 = (0 : Int32)) : SK t ((sN t s).1.1, (sN t s).1.2.1, (8 : Int32)) ∧ 1 ≤ (sN t s).1.1.toInt ∧ s.2.1 = 0 ∧ s.1 < t.1 := by
  by_cases z0 : s.2.1 = (0 : Int32)
  · by_cases d : s.1 < t.1
    · have k := h.n
      rw [sN_g z0 d] at k ⊢
      have d1 := Int32.lt_iff_toInt_lt.mp d
      obtain ⟨h1, h2, h3, h4, h5, h6⟩ := h
      have e := inc32 (x := s.1) (by omega)
      have g1 : 1 ≤ (s.1 + (1 : Int32)).toInt := by omega
      exact ⟨⟨k.1, k.2.1, k.2.2.1, k.2.2.2.1, ⟨by show 0 ≤ (8 : Int32).toInt; decide, by show (8 : Int32).toInt ≤ 8; decide⟩, Or.inr g1⟩, g1, z0, d⟩
    · rw [sN_e z0 d] at z
      have z : (1 : Int32) = 0 := z
      exact absurd z (by decide)
  · rw [sN_b z0] at z
    exact absurd z z0
theorem sB_g {t : OT} {s : RC} (b : s.2.2 = (0 : Int32)) (z : (sN t s).1.2.1 = (0 : Int32)) : sB t s = btr t ((sN t s).1.1, (sN t s).1.2.1, (8 : Int32)) := by
  unfold sB
  rw [if_pos b, if_pos z]
theorem sB_e {t : OT} {s : RC} (b : s.2.2 = (0 : Int32)) (z : ¬ (sN t s).1.2.1 = (0 : Int32)) : sB t s = ((sN t s).1, (0 : Int32)) := by
  unfold sB
  rw [if_pos b, if_neg z]
theorem sB_t {t : OT} {s : RC} (b : ¬ s.2.2 = (0 : Int32)) : sB t s = btr t s := by
  unfold sB
  rw [if_neg b]
theorem sk_sB {t : OT} {s : RC} (h : SK t s) : SK t (sB t s).1 := by
  by_cases b : s.2.2 = (0 : Int32)
  · by_cases z : (sN t s).1.2.1 = (0 : Int32)
    · rw [sB_g b z]
      exact sk_bt (sN_8 h z).1 (by show 1 ≤ (8 : Int32).toInt; decide)
    · rw [sB_e b z]
      exact h.n
  · rw [sB_t b]
    exact sk_bt h (bl_ne h b)
theorem sB_01 {t : OT} {s : RC} : (sB t s).2 = 0 ∨ (sB t s).2 = 1 := by
  by_cases b : s.2.2 = (0 : Int32)
  · by_cases z : (sN t s).1.2.1 = (0 : Int32)
    · rw [sB_g b z]
      exact bit32 _
    · rw [sB_e b z]
      exact Or.inl rfl
  · rw [sB_t b]
    exact bit32 _
-- a bit breaks by 1 alone, and then no bit is left over
theorem btr_1 {t : OT} {a b c : Int32} : (btr t (a, b, c)).1.2.1 = b := rfl
theorem sB_k {t : OT} {s : RC} (h : s.2.1 = (0 : Int32)) : (sB t s).1.2.1 = 0 ∨ ((sB t s).1.2.1 = 1 ∧ (sB t s).1.2.2 = 0) := by
  by_cases b : s.2.2 = (0 : Int32)
  · by_cases z : (sN t s).1.2.1 = (0 : Int32)
    · refine Or.inl ?_
      rw [sB_g b z, btr_1]
      exact z
    · rw [sB_e b z]
      rcases sN_k (t := t) h with e | e
      · exact absurd e z
      · exact Or.inr ⟨e, sN_2.trans b⟩
  · obtain ⟨s1, s2, s3⟩ := s
    refine Or.inl ?_
    rw [sB_t b, btr_1]
    exact h
def sBs (t : OT) : Nat → RC × Int32 → RC × Int32
  | 0, q => q
  | n + 1, q => sBs t n ((sB t q.1).1, ((2 : Int32) * q.2) + (sB t q.1).2)
theorem sBs_b {t : OT} : ∀ (n : Nat) (q : RC × Int32), ¬ q.1.2.1 = (0 : Int32) → q.1.2.2 = (0 : Int32) → (sBs t n q).1 = q.1 := by
  intro n
  induction n with
  | zero => intro q _ _; rfl
  | succ n ih =>
    intro q h b
    have e := sN_b (t := t) h
    have e2 : sB t q.1 = (q.1, 0) := by
      rw [sB_e b (by rw [e]; exact h), e]
    show (sBs t n ((sB t q.1).1, ((2 : Int32) * q.2) + (sB t q.1).2)).1 = q.1
    rw [e2]
    exact ih _ h b
theorem sk_sBs {t : OT} : ∀ (n : Nat) (q : RC × Int32), SK t q.1 → SK t (sBs t n q).1 := by
  intro n
  induction n with
  | zero => intro q h; exact h
  | succ n ih => intro q h; exact ih _ (sk_sB h)
theorem sBs_k {t : OT} : ∀ (n : Nat) (q : RC × Int32), q.1.2.1 = (0 : Int32) → (sBs t n q).1.2.1 = 0 ∨ ((sBs t n q).1.2.1 = 1 ∧ (sBs t n q).1.2.2 = 0) := by
  intro n
  induction n with
  | zero => intro q h; exact Or.inl h
  | succ n ih =>
    intro q h
    show (sBs t n ((sB t q.1).1, ((2 : Int32) * q.2) + (sB t q.1).2)).1.2.1 = 0 ∨ ((sBs t n ((sB t q.1).1, ((2 : Int32) * q.2) + (sB t q.1).2)).1.2.1 = 1 ∧ (sBs t n ((sB t q.1).1, ((2 : Int32) * q.2) + (sB t q.1).2)).1.2.2 = 0)
    rcases sB_k (t := t) h with e | e
    · exact ih _ e
    · rw [sBs_b n ((sB t q.1).1, ((2 : Int32) * q.2) + (sB t q.1).2) (by show ¬ (sB t q.1).1.2.1 = 0; rw [e.1]; decide) e.2]
      exact Or.inr e
theorem sBs_v {t : OT} : ∀ (n m : Nat) (q : RC × Int32), m + n ≤ 13 → 0 ≤ q.2.toInt → q.2.toInt < ((2 ^ m : Nat) : Int) → 0 ≤ (sBs t n q).2.toInt ∧ (sBs t n q).2.toInt < ((2 ^ (m + n) : Nat) : Int) := by
  intro n
  induction n with
  | zero => intro m q _ h0 h1; exact ⟨h0, h1⟩
  | succ n ih =>
    intro m q hm h0 h1
    have pm : 2 ^ m ≤ 2 ^ 12 := Nat.pow_le_pow_right (by decide) (by omega)
    have p12 : 2 ^ 12 = 4096 := by decide
    have e2 : ((2 : Int32) * q.2).toInt = 2 * q.2.toInt := by rw [mul32 (by rw [li_2]; omega) (by rw [li_2]; omega), li_2]
    have pe : ((2 ^ (m + 1) : Nat) : Int) = ((2 ^ m : Nat) : Int) * 2 := by rw [Nat.pow_succ, Int.natCast_mul]; rfl
    have r : 0 ≤ (sB t q.1).2.toInt ∧ (sB t q.1).2.toInt ≤ 1 := by
      rcases sB_01 (t := t) (s := q.1) with e | e <;> rw [e]
      · exact ⟨by decide, by decide⟩
      · exact ⟨by decide, by decide⟩
    have e3 : (((2 : Int32) * q.2) + (sB t q.1).2).toInt = 2 * q.2.toInt + (sB t q.1).2.toInt := by rw [add32 (by omega) (by omega), e2]
    have k := ih (m + 1) ((sB t q.1).1, ((2 : Int32) * q.2) + (sB t q.1).2) (by omega) (by show 0 ≤ (((2 : Int32) * q.2) + (sB t q.1).2).toInt; omega) (by show (((2 : Int32) * q.2) + (sB t q.1).2).toInt < _; omega)
    rw [show m + (n + 1) = m + 1 + n by omega]
    exact k
-- ===== the reference reads =====
def MR (t : OT) (s : RC) (u : OS) : Prop := u.1 26 = s.1 ∧ u.1 27 = s.2.1 ∧ u.1 29 = s.2.2 ∧ RO t (u.1 15) (u.2.1 14) ∧ SK t s
def MF (u v : OS) : Prop := (∀ k, k ≠ 26 → k ≠ 27 → k ≠ 29 → v.1 k = u.1 k) ∧ v.2 = u.2
theorem MF.rf {u : OS} : MF u u := ⟨fun _ _ _ _ => rfl, rfl⟩
theorem MF.tr {u v w : OS} (h1 : MF u v) (h2 : MF v w) : MF u w := ⟨fun k a b c => (h2.1 k a b c).trans (h1.1 k a b c), h2.2.trans h1.2⟩
theorem r_fail (u : OS) (p : Int32) : pc (f_X7_fail u p) (fun v => v = if u.1 27 = (0 : Int32) then sF u 27 p else u) := by
  unfold f_X7_fail
  refine pc_ite (fun c => pc_bnd (pc_some ?_)) (fun c => pc_some ?_)
  · rw [if_pos c]
  · rw [if_neg c]
-- without the bits left
def MRw (t : OT) (s : RC) (u : OS) : Prop := u.1 26 = s.1 ∧ u.1 27 = s.2.1 ∧ RO t (u.1 15) (u.2.1 14) ∧ SK t s
theorem r_nextw {t : OT} {s : RC} (u : OS) (h : MRw t s u) : pc (f_X7_next u) (fun q => MRw t (sN t s).1 q.1 ∧ q.2 = (sN t s).2 ∧ MF u q.1 ∧ q.1.1 29 = u.1 29) := by
  obtain ⟨h1, h2, h4, h5⟩ := h
  have k5 := h5.n
  unfold f_X7_next
  refine pc_ite (fun c => ?_) (fun c => pc_some ?_)
  · have z : s.2.1 = (0 : Int32) := by
      rw [h2] at c
      have c1 := i0_le.mp c
      have c2 := h5.2.2.2.1
      exact Int32.toInt_inj.mp (by rw [li_0]; omega)
    refine pc_ite (fun d => pc_bnd (pc_gdi (fun g0 g1 => pc_some ?_))) (fun d => pc_oC1 (r_fail u 1) (fun v hv => pc_some ?_))
    · have d1 : s.1 < t.1 := by
        rw [h1, h4.1] at d
        exact d
      rw [sN_g z d1] at k5 ⊢
      refine ⟨⟨?_, h2, h4, k5⟩, ?_, ⟨fun k a _ _ => va_ne (f := u.1) a, rfl⟩, rfl⟩
      · show u.1 26 + (1 : Int32) = s.1 + (1 : Int32)
        rw [h1]
      · show u.2.1 14 (u.1 26 + (1 : Int32) - (1 : Int32)).toNatClampNeg = t.2 s.1.toNatClampNeg
        rw [Int32.add_sub_cancel, h1]
        refine h4.2.2 _ ?_
        rw [h4.1]
        have a1 := Int32.lt_iff_toInt_lt.mp d1
        have a2 := h5.1
        show (s.1.toInt.toNat : Int) < _
        omega
    · have d1 : ¬ s.1 < t.1 := by
        rw [h1, h4.1] at d
        exact d
      have z2 : u.1 27 = (0 : Int32) := h2.trans z
      rw [if_pos z2] at hv
      rw [sN_e z d1] at k5 ⊢
      rw [hv]
      exact ⟨⟨h1, rfl, h4, k5⟩, rfl, ⟨fun k _ b _ => va_ne (f := u.1) b, rfl⟩, rfl⟩
  · have z : ¬ s.2.1 = (0 : Int32) := fun q => c (by rw [h2, q]; decide)
    rw [sN_b z]
    exact ⟨⟨h1, h2, h4, h5⟩, rfl, MF.rf, rfl⟩
theorem MR.w {t : OT} {s : RC} {u : OS} (h : MR t s u) : MRw t s u := ⟨h.1, h.2.1, h.2.2.2.1, h.2.2.2.2⟩
theorem MRw.m {t : OT} {s : RC} {u : OS} (h : MRw t s u) (b : u.1 29 = s.2.2) : MR t s u := ⟨h.1, h.2.1, b, h.2.2.1, h.2.2.2⟩
theorem r_next {t : OT} {s : RC} (u : OS) (h : MR t s u) : pc (f_X7_next u) (fun q => MR t (sN t s).1 q.1 ∧ q.2 = (sN t s).2 ∧ MF u q.1) := pc_mono (r_nextw u h.w) (fun q hq => ⟨hq.1.m (hq.2.2.2.trans (h.2.2.1.trans sN_2.symm)), hq.2.1, hq.2.2.1⟩)
theorem r_nextWide_L5 {t : OT} (p : Int32) (u0 : OS) {Q : OS × Int64 → Prop} (K : Int64 → Int32 → OS → Option (OS × Int64)) (T : RC × Int64) (hK : ∀ x v, MRw t T.1 v → MF u0 v → v.1 29 = u0.1 29 → pc (K T.2 x v) Q) : ∀ (n m : Nat) (x : Int32) (y : Int64) (u : OS) (s : RC), x.toInt + (m : Int) = p.toInt → sW t m (s, y) = T → MRw t s u → MF u0 u → u.1 29 = u0.1 29 → pc (f_X7_nextWide_L5 p n K x y u) Q := by
  intro n
  induction n with
  | zero => intro m x y u s _ _ _ _ _; exact pc_none
  | succ n ih =>
    intro m x y u s hm hT h hF h29
    unfold f_X7_nextWide_L5
    refine pc_ite (fun c => ?_) (fun c => pc_oC2 (r_nextw u h) (fun v r hv => pc_bnd (pc_bnd ?_)))
    · have c1 := Int32.le_iff_toInt_le.mp c
      have : m = 0 := by omega
      subst this
      have hT : (s, y) = T := hT
      rw [← hT] at hK
      exact hK _ _ h hF h29
    · have c1 := mt Int32.le_iff_toInt_le.mpr c
      have hi := i32_hi p
      have e1 := inc32 (x := x) (by omega)
      obtain ⟨m', rfl⟩ : ∃ m', m = m' + 1 := ⟨m - 1, by omega⟩
      refine ih m' _ _ v (sN t s).1 (by omega) ?_ hv.1 (hF.tr hv.2.2.1) (hv.2.2.2.trans h29)
      have hr : r = (sN t s).2 := hv.2.1
      rw [hr]
      exact hT
theorem r_nextWw {t : OT} {s : RC} (u : OS) (p : Int32) (m : Nat) (hp : p.toInt = m) (h : MRw t s u) : pc (f_X7_nextWide u p) (fun q => MRw t (sW t m (s, 0)).1 q.1 ∧ q.2 = (sW t m (s, 0)).2 ∧ MF u q.1 ∧ q.1.1 29 = u.1 29) := by
  unfold f_X7_nextWide
  exact pc_bnd (r_nextWide_L5 p u _ (sW t m (s, 0)) (fun x v hv hF h29 => pc_some ⟨hv, rfl, hF, h29⟩) FU m 0 0 u s (by rw [li_0, hp]; omega) rfl h MF.rf rfl)
theorem r_nextWide {t : OT} {s : RC} (u : OS) (p : Int32) (m : Nat) (hp : p.toInt = m) (h : MR t s u) : pc (f_X7_nextWide u p) (fun q => MR t (sW t m (s, 0)).1 q.1 ∧ q.2 = (sW t m (s, 0)).2 ∧ MF u q.1) := pc_mono (r_nextWw u p m hp h.w) (fun q hq => ⟨hq.1.m (hq.2.2.2.trans (h.2.2.1.trans (sW_2 m (s, 0)).symm)), hq.2.1, hq.2.2.1⟩)
theorem r_bit {t : OT} {s : RC} (u : OS) (h : MR t s u) (b : 1 ≤ s.2.2.toInt) : pc (bnd (sF u 29 ((u.1 29) - (1 : Int32))) fun u3 =>
  gdi ((u3.1 26) - (1 : Int32)) 20000 <|
  some (u3, (((u3.2.1 14 (((u3.1 26) - (1 : Int32))).toNatClampNeg) >>> ((u3.1 29) &&& (31 : Int32))) &&& (1 : Int32)))) (fun q => MR t (btr t s).1 q.1 ∧ q.2 = (btr t s).2 ∧ MF u q.1) := by
  obtain ⟨h1, h2, h3, h4, h5⟩ := h
  have k := sk_bt h5 b
  refine pc_bnd (pc_gdi (fun g0 g1 => pc_some ⟨⟨h1, h2, ?_, h4, k⟩, ?_, ⟨fun k _ _ c => va_ne (f := u.1) c, rfl⟩⟩))
  · show u.1 29 - (1 : Int32) = s.2.2 - (1 : Int32)
    rw [h3]
  · show ((u.2.1 14 ((u.1 26) - (1 : Int32)).toNatClampNeg) >>> ((u.1 29 - (1 : Int32)) &&& (31 : Int32))) &&& (1 : Int32) = ((t.2 (s.1 - (1 : Int32)).toNatClampNeg) >>> ((s.2.2 - (1 : Int32)) &&& (31 : Int32))) &&& (1 : Int32)
    obtain ⟨a1, a2, a3, a4, a5, a6⟩ := h5
    have e : (s.1 - (1 : Int32)).toInt = s.1.toInt - 1 := by rw [sub32 (by rw [li_1]; omega) (by rw [li_1]; omega), li_1]
    rw [h1, h3, h4.2.2 (s.1 - (1 : Int32)).toNatClampNeg (by rw [h4.1]; show ((s.1 - (1 : Int32)).toInt.toNat : Int) < _; omega)]
theorem r_nextBit {t : OT} {s : RC} (u : OS) (h : MR t s u) : pc (f_X7_nextBit u) (fun q => MR t (sB t s).1 q.1 ∧ q.2 = (sB t s).2 ∧ MF u q.1) := by
  have h3 := h.2.2.1
  unfold f_X7_nextBit
  refine pc_bnd (pc_ite (fun c => pc_oC2 (r_next u h) (fun v r hv => pc_ite (fun d => pc_bnd ?_) (fun d => pc_some ?_))) (fun c => ?_))
  · have b : s.2.2 = (0 : Int32) := h3.symm.trans c
    have z : (sN t s).1.2.1 = (0 : Int32) := by
      rw [hv.1.2.1] at d
      have d1 := i0_le.mp d
      have d2 := hv.1.2.2.2.2.2.2.2.1
      exact Int32.toInt_inj.mp (by rw [li_0]; omega)
    have n8 := sN_8 h.2.2.2.2 z
    rw [sB_g b z]
    refine pc_mono (r_bit (s := ((sN t s).1.1, (sN t s).1.2.1, (8 : Int32))) (sF v 29 (8 : Int32)) ⟨hv.1.1, hv.1.2.1, rfl, hv.1.2.2.2.1, n8.1⟩ (by show 1 ≤ (8 : Int32).toInt; decide)) (fun q hq => ⟨hq.1, hq.2.1, ?_⟩)
    have f1 : MF u (sF v 29 (8 : Int32)) := hv.2.2.tr ⟨fun k _ _ c => va_ne (f := v.1) c, rfl⟩
    exact f1.tr hq.2.2
  · have b : s.2.2 = (0 : Int32) := h3.symm.trans c
    have z : ¬ (sN t s).1.2.1 = (0 : Int32) := fun q => d (by rw [hv.1.2.1, q]; decide)
    rw [sB_e b z]
    exact ⟨hv.1, rfl, hv.2.2⟩
  · have b : ¬ s.2.2 = (0 : Int32) := fun q => c (h3.trans q)
    rw [sB_t b]
    exact r_bit u h (bl_ne h.2.2.2.2 b)
-- ===== the class reads =====
def XR (t : OT) (s : RC) (R : OS) : Prop := R.1 5 = s.1 ∧ R.1 4 = s.2.1 ∧ R.1 7 = s.2.2 ∧ (¬ s.2.2 = 0 → R.1 6 = t.2 (s.1 - (1 : Int32)).toNatClampNeg) ∧ SK t s
def XF (u v : OS) : Prop := (∀ k, k ≠ 4 → k ≠ 5 → k ≠ 6 → k ≠ 7 → v.1 k = u.1 k) ∧ v.2 = u.2
theorem XF.rf {u : OS} : XF u u := ⟨fun _ _ _ _ _ => rfl, rfl⟩
theorem XF.tr {u v w : OS} (h1 : XF u v) (h2 : XF v w) : XF u w := ⟨fun k a b c d => (h2.1 k a b c d).trans (h1.1 k a b c d), h2.2.trans h1.2⟩
theorem XF.s4 {u : OS} {x : Int32} : XF u (sF u 4 x) := ⟨fun k a _ _ _ => va_ne (f := u.1) a, rfl⟩
theorem XF.s5 {u : OS} {x : Int32} : XF u (sF u 5 x) := ⟨fun k _ a _ _ => va_ne (f := u.1) a, rfl⟩
theorem XF.s6 {u : OS} {x : Int32} : XF u (sF u 6 x) := ⟨fun k _ _ a _ => va_ne (f := u.1) a, rfl⟩
theorem XF.s7 {u : OS} {x : Int32} : XF u (sF u 7 x) := ⟨fun k _ _ _ a => va_ne (f := u.1) a, rfl⟩
theorem x_nextNumber_L5 {t : OT} (O : OS) (hO : XO t O) (p : Int32) (u0 : OS) {Q : OS × Int64 → Prop} (K K' : Int64 → Int32 → OS → Option (OS × Int64)) (T : RC × Int64) (hK' : ∀ x v, T.1.2.1 = 0 → XR t T.1 v → XF u0 v → pc (K' T.2 x v) Q) (hK : ∀ y x v, T.1.2.1 = 1 → v.1 5 = T.1.1 → v.1 7 = T.1.2.2 → T.1.2.2 = 0 → SK t T.1 → XF u0 v → pc (K y x v) Q) : ∀ (n m : Nat) (x : Int32) (y : Int64) (u : OS) (s : RC), x.toInt + (m : Int) = p.toInt → s.2.1 = 0 → s.2.2 = 0 → sW t m (s, y) = T → XR t s u → XF u0 u → pc (f_X3_nextNumber_L5 O p n K K' x y u) Q := by
  have hn := hO.n
  obtain ⟨o1, o2, o3, o4⟩ := hO.2
  have en := nIt (n := O.2.2.2 0) (by omega)
  intro n
  induction n with
  | zero => intro m x y u s _ _ _ _ _ _; exact pc_none
  | succ n ih =>
    intro m x y u s hm z b hT h hF
    have stop : ¬ s.1 < t.1 → ¬ m = 0 → pc (K y x u) Q := by
      intro d m0
      obtain ⟨m', rfl⟩ : ∃ m', m = m' + 1 := ⟨m - 1, by omega⟩
      have e := sN_e (t := t) z d
      have w := sW_b (t := t) m' ((sN t s).1, (y <<< (((8 : Int32)).toInt64 &&& (63 : Int64))) ||| (sN t s).2.toInt64) (by show ¬ (sN t s).1.2.1 = 0; rw [e]; show ¬ (1 : Int32) = 0; decide)
      have hT : sW t m' ((sN t s).1, (y <<< (((8 : Int32)).toInt64 &&& (63 : Int64))) ||| (sN t s).2.toInt64) = T := hT
      rw [hT, e] at w
      have w : T.1 = (s.1, (1 : Int32), s.2.2) := w
      have k := h.2.2.2.2.n
      rw [e] at k
      refine hK _ _ _ (by rw [w]) (by rw [w]; exact h.1) (by rw [w]; exact h.2.2.1) (by rw [w]; exact b) (by rw [w]; exact k) hF
    unfold f_X3_nextNumber_L5
    refine pc_ite (fun c => ?_) (fun c => ?_)
    · have c1 := Int32.le_iff_toInt_le.mp c
      have : m = 0 := by omega
      subst this
      have hT : (s, y) = T := hT
      rw [← hT] at hK'
      exact hK' _ _ z h hF
    have c1 := mt Int32.le_iff_toInt_le.mpr c
    have m0 : ¬ m = 0 := by omega
    refine pc_ite (fun d => stop ?_ m0) (fun d => pc_ite (fun d2 => pc_gdi (fun _ _ => pc_bnd (pc_bnd (pc_bnd ?_)))) (fun d2 => ?_))
    · rw [h.1, hn.1] at d
      exact Int32.not_lt.mpr d
    · have d1 : s.1 < t.1 := by
        rw [h.1, hn.1] at d
        exact Int32.not_le.mp d
      have hi := i32_hi p
      have e1 := inc32 (x := x) (by omega)
      obtain ⟨m', rfl⟩ : ∃ m', m = m' + 1 := ⟨m - 1, by omega⟩
      have e := sN_g (t := t) z d1
      have k := h.2.2.2.2.n
      have hT : sW t m' ((sN t s).1, (y <<< (((8 : Int32)).toInt64 &&& (63 : Int64))) ||| (sN t s).2.toInt64) = T := hT
      rw [e] at k hT
      have a1 := Int32.lt_iff_toInt_lt.mp d1
      have a2 := h.2.2.2.2.1
      have ev : O.2.1 0 (u.1 5).toNatClampNeg = t.2 s.1.toNatClampNeg := by
        rw [h.1]
        refine hO.1.2.2 _ ?_
        rw [hn.1]
        show (s.1.toInt.toNat : Int) < _
        omega
      rw [ev]
      refine ih m' _ _ _ (s.1 + (1 : Int32), s.2) (by omega) z b hT ⟨?_, h.2.1, h.2.2.1, fun q => absurd b q, k⟩ (hF.tr XF.s5)
      show u.1 5 + (1 : Int32) = s.1 + (1 : Int32)
      rw [h.1]
    · exfalso
      have d1 := mt Int32.le_iff_toInt_le.mpr d
      have d3 := mt Int32.lt_iff_toInt_lt.mpr d2
      rw [en] at d3
      omega
theorem x_nextNumber {t : OT} {s : RC} (R O : OS) (p : Int32) (m : Nat) (hp : p.toInt = m) (h : XR t s R) (z : s.2.1 = 0) (b : s.2.2 = 0) (hO : XO t O) : pc (f_X3_nextNumber R O p) (fun q => XR t (sW t m (s, 0)).1 q.1 ∧ XF R q.1 ∧ (q.1.1 4 = 0 → q.2 = (sW t m (s, 0)).2)) := by
  unfold f_X3_nextNumber
  refine pc_bnd (pc_bnd (x_nextNumber_L5 O hO p R _ _ (sW t m (s, 0)) (fun x v _ hv hF => pc_some ⟨hv, hF, fun _ => rfl⟩) (fun y x v w1 w5 w7 w2 k hF => pc_bnd (pc_some ⟨⟨w5, w1.symm, w7, fun q => absurd w2 q, k⟩, hF.tr XF.s4, fun q => ?_⟩)) FU m 0 0 R s (by rw [li_0, hp]; omega) z b rfl h XF.rf))
  have q : (1 : Int32) = 0 := q
  exact absurd q (by decide)
theorem b1_v (v : Int32) : (((0 : Int64) <<< (((8 : Int32)).toInt64 &&& (63 : Int64))) ||| v.toInt64).toInt32 = v := by
  have e : ((0 : Int64) <<< (((8 : Int32)).toInt64 &&& (63 : Int64))) = 0 := by decide
  rw [e, Int64.zero_or]
  exact Int32.toInt_inj.mp (by rw [ti32 (by rw [tl32]; exact i32_lo v) (by rw [tl32]; exact i32_hi v), tl32])
theorem x_one {t : OT} {s : RC} (R O : OS) (h : XR t s R) (z : s.2.1 = 0) (b : s.2.2 = 0) (hO : XO t O) : pc (f_X3_nextNumber R O 1) (fun q => XR t (sN t s).1 q.1 ∧ XF R q.1 ∧ (q.1.1 4 = 0 → q.2.toInt32 = (sN t s).2)) := by
  refine pc_mono (x_nextNumber R O 1 1 (by decide) h z b hO) (fun q hq => ⟨hq.1, hq.2.1, fun w => ?_⟩)
  rw [hq.2.2 w]
  exact b1_v _
theorem x_nextBits_L5 {t : OT} (O : OS) (hO : XO t O) (p : Int32) (u0 : OS) (T : RC × Int32) : ∀ (n m : Nat) (x y : Int32) (u : OS) (s : RC), x.toInt + (m : Int) = p.toInt → s.2.1 = 0 → sBs t m (s, y) = T → XR t s u → XF u0 u → pc (f_X3_nextBits_L5 O p n x y u) (fun q => XR t T.1 q.1 ∧ XF u0 q.1 ∧ (q.1.1 4 = 0 → q.2 = T.2)) := by
  intro n
  induction n with
  | zero => intro m x y u s _ _ _ _ _; exact pc_none
  | succ n ih =>
    intro m x y u s hm z hT h hF
    unfold f_X3_nextBits_L5
    refine pc_ite (fun c => pc_some ?_) (fun c => pc_bnd ?_)
    · have c1 := Int32.le_iff_toInt_le.mp c
      have : m = 0 := by omega
      subst this
      have hT : (s, y) = T := hT
      rw [← hT]
      exact ⟨h, hF, fun _ => rfl⟩
    have c1 := mt Int32.le_iff_toInt_le.mpr c
    have hi := i32_hi p
    have e1 := inc32 (x := x) (by omega)
    obtain ⟨m', rfl⟩ : ∃ m', m = m' + 1 := ⟨m - 1, by omega⟩
    have hT : sBs t m' ((sB t s).1, ((2 : Int32) * y) + (sB t s).2) = T := hT
    -- one bit of an octet that is at hand
    have key : ∀ (v : OS) (r : RC), r.2.1 = 0 → ¬ r.2.2 = 0 → XR t r v → XF u0 v → sB t s = btr t r → pc (bnd (sF v 7 ((v.1 7) - (1 : Int32))) fun u7 =>
    bnd (((2 : Int32) * y) + (((u7.1 6) >>> ((u7.1 7) &&& (31 : Int32))) &&& (1 : Int32))) fun x8 =>
    bnd (x + (1 : Int32)) fun x9 =>
    f_X3_nextBits_L5 O p n x9 x8 u7) (fun q => XR t T.1 q.1 ∧ XF u0 q.1 ∧ (q.1.1 4 = 0 → q.2 = T.2)) := by
      intro v r zr br hv hFv er
      rw [er] at hT
      have k := sk_bt hv.2.2.2.2 (bl_ne hv.2.2.2.2 br)
      have e7 : v.1 7 - (1 : Int32) = r.2.2 - (1 : Int32) := by rw [hv.2.2.1]
      have e6 : v.1 6 = t.2 (r.1 - (1 : Int32)).toNatClampNeg := hv.2.2.2.1 br
      refine pc_bnd (pc_bnd (pc_bnd (ih m' _ _ _ (btr t r).1 (by omega) zr ?_ ⟨hv.1, hv.2.1, e7, fun _ => e6, k⟩ (hFv.tr XF.s7))))
      show sBs t m' ((btr t r).1, ((2 : Int32) * y) + (((v.1 6) >>> ((v.1 7 - (1 : Int32)) &&& (31 : Int32))) &&& (1 : Int32))) = T
      rw [e6, e7]
      exact hT
    refine pc_ite (fun b7 => ?_) (fun b7 => ?_)
    · have b : s.2.2 = (0 : Int32) := h.2.2.1.symm.trans b7
      refine pc_oC2 (x_one u O h z b hO) (fun v r hv => pc_bnd (pc_ite (fun d => pc_bnd ?_) (fun d => pc_some ?_)))
      · have d : v.1 4 = (0 : Int32) := d
        have zz : (sN t s).1.2.1 = (0 : Int32) := hv.1.2.1.symm.trans d
        have n8 := sN_8 h.2.2.2.2 zz
        have ev : r.toInt32 = (sN t s).2 := hv.2.2 d
        refine key (sF (sF v 6 r.toInt32) 7 (8 : Int32)) ((sN t s).1.1, (sN t s).1.2.1, (8 : Int32)) zz (by show ¬ (8 : Int32) = 0; decide) ⟨hv.1.1, hv.1.2.1, rfl, fun _ => ?_, n8.1⟩ ((hF.tr hv.2.1).tr (XF.s6.tr XF.s7)) (sB_g b zz)
        show r.toInt32 = t.2 ((sN t s).1.1 - (1 : Int32)).toNatClampNeg
        rw [ev, sN_g n8.2.2.1 n8.2.2.2]
        show t.2 s.1.toNatClampNeg = t.2 (s.1 + (1 : Int32) - (1 : Int32)).toNatClampNeg
        rw [Int32.add_sub_cancel]
      · have d : ¬ v.1 4 = (0 : Int32) := d
        have zz : ¬ (sN t s).1.2.1 = (0 : Int32) := fun q => d (hv.1.2.1.trans q)
        have b2 : (sN t s).1.2.2 = (0 : Int32) := sN_2.trans b
        rw [sB_e b zz] at hT
        have w := sBs_b (t := t) m' ((sN t s).1, ((2 : Int32) * y) + (0 : Int32)) zz b2
        rw [hT] at w
        have w : T.1 = (sN t s).1 := w
        rw [w]
        exact ⟨⟨hv.1.1, hv.1.2.1, hv.1.2.2.1, fun q => absurd b2 q, hv.1.2.2.2.2⟩, (hF.tr hv.2.1).tr XF.s6, fun q => absurd q d⟩
    · have b : ¬ s.2.2 = (0 : Int32) := fun q => b7 (h.2.2.1.trans q)
      exact key u s z b h hF (sB_t b)
theorem x_nextBits {t : OT} {s : RC} (R O : OS) (p : Int32) (m : Nat) (hp : p.toInt = m) (h : XR t s R) (z : s.2.1 = 0) (hO : XO t O) : pc (f_X3_nextBits R O p) (fun q => XR t (sBs t m (s, 0)).1 q.1 ∧ XF R q.1 ∧ (q.1.1 4 = 0 → q.2 = (sBs t m (s, 0)).2)) := by
  unfold f_X3_nextBits
  exact x_nextBits_L5 O hO p R (sBs t m (s, 0)) FU m 0 0 R s (by rw [li_0, hp]; omega) z rfl h XF.rf
theorem sW_s {t : OT} {n : Nat} {q : RC × Int64} : sW t (n + 1) q = sW t n ((sN t q.1).1, (q.2 <<< (((8 : Int32)).toInt64 &&& (63 : Int64))) ||| (sN t q.1).2.toInt64) := rfl
theorem sBs_s {t : OT} {n : Nat} {q : RC × Int32} : sBs t (n + 1) q = sBs t n ((sB t q.1).1, ((2 : Int32) * q.2) + (sB t q.1).2) := rfl
theorem sBs_z {t : OT} {q : RC × Int32} : sBs t 0 q = q := rfl
theorem sW_z {t : OT} {q : RC × Int64} : sW t 0 q = q := rfl
-- a value that no one looks into
noncomputable def opq {a : Type} (x : a) : a := Classical.choose (⟨x, rfl⟩ : ∃ y : a, y = x)
theorem opq_e {a : Type} (x : a) : opq x = x := Classical.choose_spec (⟨x, rfl⟩ : ∃ y : a, y = x)

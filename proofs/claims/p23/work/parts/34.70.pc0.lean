-- ===== the class: what it leaves, and what it costs =====
theorem ok_oA5 {a b c d f r : Type} {x : Option ((a × b × c × d × f) × Nat × Nat)} {k : a → b → c → d → f → Nat → Nat → Option r} {R : (a × b × c × d × f) × Nat × Nat → Prop} {Q : r → Prop} (hx : ok x R) (h : ∀ z y w v t m n, R ((z, y, w, v, t), m, n) → ok (k z y w v t m n) Q) : ok (oA5 x k) Q := by
  obtain ⟨⟨⟨z, y, w, v, t⟩, m, n⟩, e, p⟩ := hx
  subst e
  exact h z y w v t m n p
theorem ok_oA7 {a b c d f g h r : Type} {x : Option ((a × b × c × d × f × g × h) × Nat × Nat)} {k : a → b → c → d → f → g → h → Nat → Nat → Option r} {R : (a × b × c × d × f × g × h) × Nat × Nat → Prop} {Q : r → Prop} (hx : ok x R) (hh : ∀ z y w v t s o m n, R ((z, y, w, v, t, s, o), m, n) → ok (k z y w v t s o m n) Q) : ok (oA7 x k) Q := by
  obtain ⟨⟨⟨z, y, w, v, t, s, o⟩, m, n⟩, e, p⟩ := hx
  subst e
  exact hh z y w v t s o m n p
theorem va_nec {α : Type} {f : Nat → α} {i j : Nat} {v : α} (h : j ≠ i) : va_up f i v j = f j := by
  unfold va_up
  rw [if_neg h]
-- CQ: the answer has P, cells <= slots, and the slots are paid out of the potential T
def CQ {α : Type} (P : α → Prop) (T : α → Nat) (b : Nat) : α × Nat × Nat → Prop := fun q => P q.1 ∧ q.2.1 ≤ q.2.2 ∧ b + q.2.2 ≤ T q.1
theorem CQ_add {α : Type} {P : α → Prop} {T : α → Nat} {b b' a k : Nat} {t : Option (α × Nat × Nat)} (h1 : a ≤ k) (h2 : b + k ≤ b') (h : ok t (CQ P T b')) : ok (addc a k t) (CQ P T b) := by
  refine ok_addc (ok_mono h (fun q hq => ?_))
  obtain ⟨p1, p2, p3⟩ := hq
  exact ⟨p1, by show a + q.2.1 ≤ k + q.2.2; omega, by show b + (k + q.2.2) ≤ T q.1; omega⟩
theorem CQ_some {α : Type} {P : α → Prop} {T : α → Nat} {b : Nat} {x : α} (h : P x) (hb : b ≤ T x) : ok (some (x, 0, 0)) (CQ P T b) := ok_some ⟨h, Nat.le_refl _, hb⟩
theorem CQ_le {α : Type} {P : α → Prop} {T : α → Nat} {b b' : Nat} {t : Option (α × Nat × Nat)} (hb : b ≤ b') (h : ok t (CQ P T b')) : ok t (CQ P T b) := ok_mono h (fun q hq => ⟨hq.1, hq.2.1, Nat.le_trans (Nat.add_le_add_right hb _) hq.2.2⟩)
def ph (lim n : Nat) : Nat := 2 * n + if n = lim then lim else 0
theorem s_withRoom {n0 lm : Nat} (f : Nat → Int32) {ln lim : Int32} (h0 : 1 ≤ n0) (hlm : lim.toInt = lm) (h1 : n0 ≤ lm) (h2 : lm ≤ 100000) (l1 : ln.toInt ≤ 100000) :
    ok (f_withRoom n0 f ln lim) (fun q => n0 ≤ q.1.1 ∧ q.1.1 ≤ lm ∧ (ln.toInt < q.1.1 ∨ lim.toInt ≤ ln.toInt) ∧ (∀ i, i < n0 → q.1.2 i = f i) ∧ q.2.1 ≤ q.2.2 ∧ ph lm n0 + q.2.2 ≤ ph lm q.1.1) := by
  have en : (nI n0).toInt = n0 := nI_toInt (by omega)
  unfold f_withRoom
  refine ok_ite (fun c => ok_some ⟨Nat.le_refl _, h1, Or.inl ?_, fun _ _ => rfl, Nat.le_refl _, Nat.le_refl _⟩) (fun c => ok_ite (fun d => ok_bnd_eq (fun k hk => ?_)) (fun d => ok_some ⟨Nat.le_refl _, h1, Or.inr ?_, fun _ _ => rfl, Nat.le_refl _, Nat.le_refl _⟩))
  · have := Int32.lt_iff_toInt_lt.mp c
    show ln.toInt < (n0 : Int)
    omega
  · have c1 := mt Int32.lt_iff_toInt_lt.mpr c
    have d1 := Int32.lt_iff_toInt_lt.mp d
    have e2 : ((2 : Int32) * ln).toInt = 2 * ln.toInt := by rw [mul32 (by rw [li_2]; omega) (by rw [li_2]; omega), li_2]
    have ek : (k.toInt = lm ∧ (lm : Int) < 2 * ln.toInt) ∨ (k.toInt = 2 * ln.toInt ∧ 2 * ln.toInt ≤ lm) := by
      rw [hk]
      by_cases q : lim < (2 : Int32) * ln
      · have q1 := Int32.lt_iff_toInt_lt.mp q
        rw [if_pos q]
        omega
      · have q1 := mt Int32.lt_iff_toInt_lt.mpr q
        rw [if_neg q]
        omega
    clear hk
    have kn : k.toNatClampNeg = k.toInt.toNat := rfl
    have hn : ¬ (k < 0 ∨ 536870912 < k.toNatClampNeg * 4 ∨ k.toNatClampNeg = n0 ∨ 2 ^ 31 ≤ n0) := by
      rw [Int32.lt_iff_toInt_lt, li_0, kn]
      omega
    rw [if_neg hn]
    refine ok_some ⟨?_, ?_, Or.inl ?_, fun i hi => ?_, ?_, ?_⟩
    · show n0 ≤ k.toInt.toNat
      omega
    · show k.toInt.toNat ≤ lm
      omega
    · show ln.toInt < ((k.toInt.toNat : Nat) : Int)
      omega
    · show va_cpy f (fun _ => 0) 0 0 (if k.toNatClampNeg < n0 then k.toNatClampNeg else n0) i = f i
      unfold va_cpy
      have hk2 : ¬ k.toNatClampNeg < n0 := by rw [kn]; omega
      rw [if_neg hk2, if_pos (by omega)]
      congr 1
      omega
    · show 1 ≤ k.toInt.toNat
      omega
    · show ph lm n0 + k.toInt.toNat ≤ ph lm k.toInt.toNat
      unfold ph
      have nn : ¬ n0 = lm := by omega
      rw [if_neg nn]
      rcases ek with ⟨q1, q2⟩ | ⟨q1, q2⟩
      · rw [if_pos (by omega)]
        omega
      · by_cases q : k.toInt.toNat = lm
        · rw [if_pos q]; omega
        · rw [if_neg q]; omega
  · have := mt Int32.lt_iff_toInt_lt.mpr d
    omega
theorem s_X6_bitLength_L4 (p : Int32) {Q : Int32 → Prop} (K : Int32 → Int32 → Option Int32) (hK : ∀ a b : Int32, 0 ≤ a.toInt → a.toInt ≤ 31 → (∀ k : Nat, k < 31 → p.toInt < ((2 ^ k : Nat) : Int) → a.toInt ≤ (k : Int)) → ok (K a b) Q) : ∀ (n : Nat) (x y : Int32), 0 ≤ x.toInt → x.toInt ≤ 31 → (31 - x.toInt).toNat < n → 0 ≤ y.toInt → y.toInt ≤ x.toInt → (∀ k : Nat, k < 31 → p.toInt < ((2 ^ k : Nat) : Int) → y.toInt ≤ k) → ok (f_X6_bitLength_L4 p n K x y) Q := by
  intro n
  induction n with
  | zero => intro x y _ _ hn; omega
  | succ n ih =>
    intro x y hx hx2 hn hy hy2 hb
    unfold f_X6_bitLength_L4
    refine ok_ite (fun c => hK _ _ hy (by omega) hb) (fun c => ?_)
    have c1 := mt Int32.le_iff_toInt_le.mpr c
    rw [li_31] at c1
    have e1 := inc32 (x := x) (by omega)
    refine ok_ite (fun d => ok_bnd (ih _ _ (by omega) (by omega) (by omega) hy (by omega) hb)) (fun d => ok_bnd (ok_bnd (ih _ _ (by omega) (by omega) (by omega) (by omega) (by omega) (fun k hk hp => ?_))))
    have d1 := mt Int32.le_iff_toInt_le.mpr d
    rw [li_0] at d1
    obtain ⟨j, ej, ej2, _⟩ := nI_ex hx
    rw [ej, shr32 p j (by omega)] at d1
    have pj : (0 : Int) < ((2 ^ j : Nat) : Int) := Int.natCast_pos.mpr (Nat.two_pow_pos j)
    have d2 : ((2 ^ j : Nat) : Int) ≤ p.toInt := by
      rcases Int.lt_or_le p.toInt ((2 ^ j : Nat) : Int) with q | q
      · exfalso
        apply d1
        have := Int.ediv_lt_of_lt_mul (a := p.toInt) (c := ((2 ^ j : Nat) : Int)) (b := 1) pj (by omega)
        omega
      · exact q
    rw [e1]
    have : j < k := by
      rcases Nat.lt_or_ge j k with q | q
      · exact q
      · exfalso
        have := Nat.pow_le_pow_right (n := 2) (by decide) q
        omega
    omega
theorem s_X6_bitLength (p : Int32) : ok (f_X6_bitLength p) (fun a => 0 ≤ a.toInt ∧ a.toInt ≤ 31 ∧ ∀ k : Nat, k < 31 → p.toInt < ((2 ^ k : Nat) : Int) → a.toInt ≤ k) := by
  unfold f_X6_bitLength
  exact ok_bnd (s_X6_bitLength_L4 p _ (fun a b h1 h2 h3 => ok_some ⟨h1, h2, h3⟩) FU _ _ (by decide) (by decide) (by decide) (by decide) (by decide) (fun k _ _ => by rw [li_0]; omega))
theorem s_X0_reckon_L22 {Q : Int64 → Prop} (K : Int64 → Int64 → Int32 → Option Int64) (hK : ∀ a b x, ok (K a b x) Q) : ∀ (n : Nat) (x : Int32) (y z : Int64), 0 ≤ x.toInt → x.toInt ≤ 30 → (30 - x.toInt).toNat < n → ok (f_X0_reckon_L22 n K x y z) Q := by
  intro n
  induction n with
  | zero => intro x _ _ _ _ hn; omega
  | succ n ih =>
    intro x y z hx hx2 hn
    unfold f_X0_reckon_L22
    refine ok_ite (fun c => hK _ _ _) (fun c => ?_)
    have c1 := mt Int32.le_iff_toInt_le.mpr c
    rw [li_30] at c1
    have e1 := inc32 (x := x) (by omega)
    exact ok_bnd (ok_bnd (ok_bnd (ok_bnd (ok_bnd (ih _ _ _ (by omega) (by omega) (by omega))))))
theorem s_X0_reckon (p : Int32) : ok (f_X0_reckon p) (fun _ => True) := by
  unfold f_X0_reckon
  exact ok_oC1 (s_X6_bitLength p) (fun r _ => ok_bnd (ok_bnd (ok_bnd (ok_bnd (s_X0_reckon_L22 _ (fun _ _ _ => ok_some trivial) FU _ _ _ (by decide) (by decide) (by decide))))))
-- Logs: a row of a power of two and one places, each not reckoned yet or right
def IL (lg : Int32) (u : OS) : Prop := ∃ k : Nat, 5 ≤ k ∧ k ≤ 12 ∧ lg = nI k ∧ u.2.2.2 0 = 2 ^ k + 1 ∧ ∀ i : Nat, 1 ≤ i → i ≤ 2 ^ k → (u.2.2.1 0 i = -1 ∨ f_X7_logarithm (nI i) = some (u.2.2.1 0 i))
theorem nIt {n : Nat} (h : n ≤ 100000) : (nI n).toInt = n := nI_toInt (by omega)
theorem nI_back {p : Int32} (h : 0 ≤ p.toInt) : nI p.toNatClampNeg = p := by
  obtain ⟨k, e, e2, _⟩ := nI_ex h
  have : p.toNatClampNeg = k := by
    show p.toInt.toNat = k
    omega
  rw [this, ← e]
theorem s_X0_of {lg : Int32} (u : OS) (p : Int32) (h : IL lg u) : ok (f_X0_of u p) (fun q => IL lg q.1 ∧ OFV lg p q.2) := by
  have hI := h
  obtain ⟨k, k1, k2, ek, en, ht⟩ := h
  have ak := (powA k (by omega) k1).2.2.2.2.2
  have e := nIt (n := u.2.2.2 0) (by omega)
  have sk := sk32 k1 k2 ek
  unfold f_X0_of
  refine ok_ite (fun c => ok_some ⟨hI, Or.inl ⟨c, rfl⟩⟩) (fun c => ok_ite (fun d => ?_) (fun d => ok_some ⟨hI, Or.inr (Or.inr ⟨c, ?_, rfl⟩)⟩))
  · have c1 := mt Int32.lt_iff_toInt_lt.mpr c
    have d1 := Int32.lt_iff_toInt_lt.mp d
    rw [li_1] at c1
    rw [e] at d1
    have g0 : 0 ≤ p.toInt := by omega
    have hp : p ≤ ((1 : Int32) <<< (lg &&& (31 : Int32))) := Int32.le_iff_toInt_le.mpr (by rw [sk]; omega)
    have back := nI_back g0
    have pn : 1 ≤ p.toNatClampNeg ∧ p.toNatClampNeg ≤ 2 ^ k := by
      show 1 ≤ p.toInt.toNat ∧ p.toInt.toNat ≤ 2 ^ k
      omega
    refine ok_gdi g0 d1 (ok_ite (fun z => ?_) (fun z => ok_gdi g0 d1 (ok_some ⟨hI, Or.inr (Or.inl ⟨c, hp, ?_⟩)⟩)))
    · rw [log_eq p (by omega)]
      obtain ⟨y, ey, _⟩ := s_X7_logarithm p
      rw [ey]
      have up : (sL u 0 p y).2.2.1 0 p.toNatClampNeg = y := by
        show vp_updL (u.2.2.1 0) p.toNatClampNeg y p.toNatClampNeg = y
        unfold vp_updL
        rw [if_pos rfl]
      refine ok_oC1 (ok_some (Q := fun r => r = y) rfl) (fun r hr => ?_)
      rw [hr]
      refine ok_gdi g0 d1 (ok_bnd (ok_gdi g0 d1 (ok_some ⟨⟨k, k1, k2, ek, en, fun i i1 i2 => ?_⟩, Or.inr (Or.inl ⟨c, hp, by rw [ey, up]⟩)⟩)))
      show vp_updL (u.2.2.1 0) p.toNatClampNeg y i = -1 ∨ f_X7_logarithm (nI i) = some (vp_updL (u.2.2.1 0) p.toNatClampNeg y i)
      unfold vp_updL
      by_cases q : i = p.toNatClampNeg
      · rw [if_pos q, q, back]
        exact Or.inr ey
      · rw [if_neg q]
        exact ht i i1 i2
    · rcases ht p.toNatClampNeg pn.1 pn.2 with q | q
      · exact absurd q z
      · rw [back] at q
        exact q
  · have d1 := mt Int32.lt_iff_toInt_lt.mpr d
    rw [e] at d1
    intro q
    have q1 := Int32.le_iff_toInt_le.mp q
    rw [sk] at q1
    omega
-- Octets
def IO (u : OS) : Prop := 0 ≤ (u.1 1).toInt ∧ (u.1 1).toInt ≤ u.2.2.2 0 ∧ 1 ≤ u.2.2.2 0 ∧ u.2.2.2 0 ≤ 8000
def phO (u : OS) : Nat := ph 8000 (u.2.2.2 0)
theorem s_X1_restart (u : OS) (h : IO u) : ok (f_X1_restart u) (fun v => IO v ∧ phO v = phO u) := by
  unfold f_X1_restart
  refine ok_bnd (ok_bnd (ok_some ⟨⟨by show 0 ≤ (0 : Int32).toInt; decide, ?_, h.2.2⟩, rfl⟩))
  show (0 : Int32).toInt ≤ ((u.2.2.2 0 : Nat) : Int)
  rw [li_0]
  omega
theorem s_X1_append (u : OS) (p : Int32) (h : IO u) : ok (f_X1_append u p) (CQ (fun q => IO q.1) (fun q => phO q.1) (phO u)) := by
  obtain ⟨h0, h1, h2, h3⟩ := h
  unfold f_X1_append
  refine ok_oA2 (s_withRoom (lm := 8000) (u.2.1 0) h2 li_8000 h3 (by decide) (by omega)) (fun n f kc ks hr => ?_)
  obtain ⟨r1, r2, r3, r4, r5, r6⟩ := hr
  have r1 : u.2.2.2 0 ≤ n := r1
  have r2 : n ≤ 8000 := r2
  have r3 : (u.1 1).toInt < n ∨ (8000 : Int32).toInt ≤ (u.1 1).toInt := r3
  have en := nIt (n := n) (by omega)
  refine CQ_add (b' := ph 8000 n) r5 r6 (ok_bnd (ok_ite (fun c => ?_) (fun c => CQ_some ⟨h0, by show (u.1 1).toInt ≤ (n : Int); omega, by show 1 ≤ n; omega, r2⟩ (Nat.le_refl _))))
  have c : u.1 1 < nI n := c
  have c1 := Int32.lt_iff_toInt_lt.mp c
  rw [en] at c1
  have e1 := inc32 (x := u.1 1) (by omega)
  exact ok_gdi h0 c1 (ok_bnd (ok_bnd (CQ_some ⟨by show 0 ≤ (u.1 1 + (1 : Int32)).toInt; omega, by show (u.1 1 + (1 : Int32)).toInt ≤ (n : Int); omega, by show 1 ≤ n; omega, r2⟩ (Nat.le_refl _))))
theorem s_X1_valueAt (u : OS) (p : Int32) (h : IO u) : ok (f_X1_valueAt u p) (fun _ => True) := by
  have e := nIt (n := u.2.2.2 0) (by have := h.2.2.2; omega)
  unfold f_X1_valueAt
  refine ok_ite (fun _ => ok_some trivial) (fun c => ok_ite (fun _ => ok_some trivial) (fun _ => ok_ite (fun _ => ok_some trivial) (fun d => ?_)))
  have c1 := mt Int32.lt_iff_toInt_lt.mpr c
  have d1 := mt Int32.le_iff_toInt_le.mpr d
  rw [li_0] at c1
  rw [e] at d1
  exact ok_gdi (by omega) (by omega) (ok_some trivial)
theorem s_X1_change (u : OS) (p q : Int32) (h : IO u) : ok (f_X1_change u p q) (fun o => IO o.1 ∧ phO o.1 = phO u) := by
  have e := nIt (n := u.2.2.2 0) (by have := h.2.2.2; omega)
  unfold f_X1_change
  refine ok_ite (fun _ => ok_some ⟨h, rfl⟩) (fun c => ok_ite (fun _ => ok_some ⟨h, rfl⟩) (fun _ => ok_ite (fun d => ?_) (fun _ => ok_some ⟨h, rfl⟩)))
  have c1 := mt Int32.lt_iff_toInt_lt.mpr c
  have d1 := Int32.lt_iff_toInt_lt.mp d
  rw [li_0] at c1
  rw [e] at d1
  have g0 : 0 ≤ p.toInt := by omega
  exact ok_gdi g0 d1 (ok_gdi g0 d1 (ok_bnd (ok_gdi g0 d1 (ok_some ⟨h, rfl⟩))))
theorem s_X1_appendNumber_L5 (p : Int64) {α : Type} {P : OS → Prop} {T : OS → Nat} {c : Nat} (K : Int32 → OS → Option (OS × Nat × Nat)) (hK : ∀ x v, IO v → ok (K x v) (CQ P T (phO v + c))) : ∀ (n : Nat) (x : Int32) (u : OS), -1 ≤ x.toInt → (x.toInt + 1).toNat < n → IO u → ok (f_X1_appendNumber_L5 p n K x u) (CQ P T (phO u + c)) := by
  intro n
  induction n with
  | zero => intro x u _ hn; omega
  | succ n ih =>
    intro x u hx hn h
    unfold f_X1_appendNumber_L5
    refine ok_ite (fun _ => hK _ _ h) (fun d => ?_)
    have d1 := mt Int32.lt_iff_toInt_lt.mpr d
    rw [li_0] at d1
    have e1 := dec32 (x := x) (by omega)
    refine ok_oA2 (s_X1_append u _ h) (fun v r kc ks hv => CQ_add (b' := phO v + c) hv.2.1 ?_ (ok_bnd (ih _ _ (by omega) (by omega) hv.1)))
    have : phO u + ks ≤ phO v := hv.2.2
    omega
theorem s_X1_appendNumber (u : OS) (p : Int64) (q : Int32) (h : IO u) (q0 : 0 ≤ q.toInt) (q1 : q.toInt ≤ 8) : ok (f_X1_appendNumber u p q) (CQ IO phO (phO u)) := by
  unfold f_X1_appendNumber
  have e : (q - (1 : Int32)).toInt = q.toInt - 1 := by rw [sub32 (by rw [li_1]; omega) (by rw [li_1]; omega), li_1]
  exact ok_bnd (ok_bnd (s_X1_appendNumber_L5 (α := OS) p (c := 0) _ (fun x v hv => CQ_some hv (Nat.le_refl _)) FU _ _ (by rw [e]; omega) (by rw [e]; show _ < 100000; omega) h))
theorem s_X1_appendBits_L4 (p : Int32) {P : OS → Prop} {T : OS → Nat} {c : Nat} (K : Int32 → OS → Option (OS × Nat × Nat)) (hK : ∀ x v, IO v → ok (K x v) (CQ P T (phO v + c))) : ∀ (n : Nat) (x : Int32) (u : OS), -1 ≤ x.toInt → (x.toInt + 1).toNat < n → IO u → ok (f_X1_appendBits_L4 p n K x u) (CQ P T (phO u + c)) := by
  intro n
  induction n with
  | zero => intro x u _ hn; omega
  | succ n ih =>
    intro x u hx hn h
    unfold f_X1_appendBits_L4
    refine ok_ite (fun _ => hK _ _ h) (fun d => ?_)
    have d1 := mt Int32.lt_iff_toInt_lt.mpr d
    rw [li_0] at d1
    have e1 := dec32 (x := x) (by omega)
    refine ok_bnd ?_
    have key : ∀ w : OS, IO w → ok (bnd (sF w 2 ((w.1 2) - (1 : Int32))) fun u13 =>
    if (u13.1 1) ≤ (0 : Int32) then (
    bnd (x + (-1 : Int32)) fun x15 =>
    f_X1_appendBits_L4 p n K x15 u13) else (
    gdi ((u13.1 1) - (1 : Int32)) (u13.2.2.2 0) <|
    gdi ((u13.1 1) - (1 : Int32)) (u13.2.2.2 0) <|
    bnd (sA u13 0 ((u13.1 1) - (1 : Int32)) ((u13.2.1 0 (((u13.1 1) - (1 : Int32))).toNatClampNeg) ||| (((p >>> (x &&& (31 : Int32))) &&& (1 : Int32)) <<< ((u13.1 2) &&& (31 : Int32))))) fun u18 =>
    bnd (x + (-1 : Int32)) fun x19 =>
    f_X1_appendBits_L4 p n K x19 u18)) (CQ P T (phO w + c)) := by
      intro w hw
      have hw2 : IO (sF w 2 ((w.1 2) - (1 : Int32))) := hw
      refine ok_bnd (ok_ite (fun _ => ok_bnd (ih _ _ (by omega) (by omega) hw2)) (fun d2 => ?_))
      have d2 : ¬ w.1 1 ≤ (0 : Int32) := d2
      have d3 := mt Int32.le_iff_toInt_le.mpr d2
      rw [li_0] at d3
      obtain ⟨w0, w1, w2, w3⟩ := hw
      have e3 : ((w.1 1) - (1 : Int32)).toInt = (w.1 1).toInt - 1 := by rw [sub32 (by rw [li_1]; omega) (by rw [li_1]; omega), li_1]
      have g0 : 0 ≤ ((w.1 1) - (1 : Int32)).toInt := by omega
      have g1 : ((w.1 1) - (1 : Int32)).toInt < ((w.2.2.2 0 : Nat) : Int) := by omega
      exact ok_gdi g0 g1 (ok_gdi g0 g1 (ok_bnd (ok_bnd (ih _ _ (by omega) (by omega) ⟨w0, w1, w2, w3⟩))))
    refine ok_ite (fun _ => ok_oA2 (s_X1_append u _ h) (fun v r kc ks hv => CQ_add (b' := phO v + c) hv.2.1 ?_ (ok_bnd (key _ hv.1)))) (fun _ => key u h)
    have : phO u + ks ≤ phO v := hv.2.2
    omega
theorem s_X1_appendBits (u : OS) (p q : Int32) (h : IO u) (q0 : 0 ≤ q.toInt) (q1 : q.toInt ≤ 31) : ok (f_X1_appendBits u p q) (CQ IO phO (phO u)) := by
  unfold f_X1_appendBits
  have e : (q - (1 : Int32)).toInt = q.toInt - 1 := by rw [sub32 (by rw [li_1]; omega) (by rw [li_1]; omega), li_1]
  exact ok_bnd (ok_bnd (s_X1_appendBits_L4 p (c := 0) _ (fun x v hv => CQ_some hv (Nat.le_refl _)) FU _ _ (by rw [e]; omega) (by rw [e]; show _ < 100000; omega) h))

-- ===== partial correctness: what a function answers, where it answers =====
def pc {α : Type} (o : Option α) (Q : α → Prop) : Prop := ∀ a, o = some a → Q a
theorem pc_some {α : Type} {a : α} {Q : α → Prop} (h : Q a) : pc (some a) Q := fun b e => by cases e; exact h
theorem pc_none {α : Type} {Q : α → Prop} : pc (none : Option α) Q := fun b e => by cases e
theorem pc_mono {α : Type} {o : Option α} {P Q : α → Prop} (h : pc o P) (hi : ∀ a, P a → Q a) : pc o Q := fun a e => hi a (h a e)
theorem pc_bnd {α β : Type} {e : α} {k : α → Option β} {Q : β → Prop} (h : pc (k e) Q) : pc (bnd e k) Q := h
theorem pc_bnd_eq {α β : Type} {e : α} {k : α → Option β} {Q : β → Prop} (h : ∀ x, x = e → pc (k x) Q) : pc (bnd e k) Q := h e rfl
theorem pc_ite {c : Prop} [Decidable c] {α : Type} {a b : Option α} {Q : α → Prop} (h1 : c → pc a Q) (h2 : ¬ c → pc b Q) : pc (if c then a else b) Q := by
  by_cases h : c
  · rw [if_pos h]; exact h1 h
  · rw [if_neg h]; exact h2 h
theorem pc_gdi {γ : Type} {i : Int32} {n : Nat} {t : Option γ} {Q : γ → Prop} (h : 0 ≤ i.toInt → i.toInt < n → pc t Q) : pc (gdi i n t) Q := by
  unfold gdi
  refine pc_ite (fun _ => pc_none) (fun c => h ?_ ?_)
  · have c1 : ¬ i < 0 := fun q => c (Or.inl q)
    have := mt Int32.lt_iff_toInt_lt.mpr c1
    rw [li_0] at this
    omega
  · have c1 : ¬ i < 0 := fun q => c (Or.inl q)
    have c2 : ¬ n ≤ i.toNatClampNeg := fun q => c (Or.inr q)
    have := mt Int32.lt_iff_toInt_lt.mpr c1
    rw [li_0] at this
    have e : i.toNatClampNeg = i.toInt.toNat := rfl
    rw [e] at c2
    omega
theorem pc_gdz {γ : Type} {y : Int32} {t : Option γ} {Q : γ → Prop} (h : pc t Q) : pc (gdz y t) Q := by
  unfold gdz
  exact pc_ite (fun _ => pc_none) (fun _ => h)
theorem pc_gdzl {γ : Type} {y : Int64} {t : Option γ} {Q : γ → Prop} (h : pc t Q) : pc (gdzl y t) Q := by
  unfold gdzl
  exact pc_ite (fun _ => pc_none) (fun _ => h)
theorem pc_gdb {γ : Type} {x : Int32} {t : Option γ} {Q : γ → Prop} (h : pc t Q) : pc (gdb x t) Q := by
  unfold gdb
  exact pc_ite (fun _ => h) (fun _ => pc_none)
theorem pc_gdn {γ : Type} {x : Int32} {t : Option γ} {Q : γ → Prop} (h : pc t Q) : pc (gdn x t) Q := by
  unfold gdn
  exact pc_ite (fun _ => pc_none) (fun _ => h)
theorem pc_oC1 {a r : Type} {x : Option a} {k : a → Option r} {R : a → Prop} {Q : r → Prop} (hx : pc x R) (h : ∀ z, R z → pc (k z) Q) : pc (oC1 x k) Q := by
  cases x with
  | none => exact pc_none
  | some z => exact h z (hx z rfl)
theorem pc_oC2 {a b r : Type} {x : Option (a × b)} {k : a → b → Option r} {R : a × b → Prop} {Q : r → Prop} (hx : pc x R) (h : ∀ z y, R (z, y) → pc (k z y) Q) : pc (oC2 x k) Q := by
  cases x with
  | none => exact pc_none
  | some z =>
    obtain ⟨z1, z2⟩ := z
    exact h z1 z2 (hx _ rfl)
theorem pc_oC3 {a b c r : Type} {x : Option (a × b × c)} {k : a → b → c → Option r} {R : a × b × c → Prop} {Q : r → Prop} (hx : pc x R) (h : ∀ z y w, R (z, y, w) → pc (k z y w) Q) : pc (oC3 x k) Q := by
  cases x with
  | none => exact pc_none
  | some z =>
    obtain ⟨z1, z2, z3⟩ := z
    exact h z1 z2 z3 (hx _ rfl)
-- with costs: they don't matter here
def pcA {α : Type} (o : Option (α × Nat × Nat)) (Q : α → Prop) : Prop := ∀ a m n, o = some (a, m, n) → Q a
theorem pcA_some {α : Type} {a : α} {m n : Nat} {Q : α → Prop} (h : Q a) : pcA (some (a, m, n)) Q := fun b _ _ e => by cases e; exact h
theorem pcA_none {α : Type} {Q : α → Prop} : pcA (none : Option (α × Nat × Nat)) Q := fun b _ _ e => by cases e
theorem pcA_bnd {α β : Type} {e : α} {k : α → Option (β × Nat × Nat)} {Q : β → Prop} (h : pcA (k e) Q) : pcA (bnd e k) Q := h
theorem pcA_bnd_eq {α β : Type} {e : α} {k : α → Option (β × Nat × Nat)} {Q : β → Prop} (h : ∀ x, x = e → pcA (k x) Q) : pcA (bnd e k) Q := h e rfl
theorem pcA_ite {c : Prop} [Decidable c] {α : Type} {a b : Option (α × Nat × Nat)} {Q : α → Prop} (h1 : c → pcA a Q) (h2 : ¬ c → pcA b Q) : pcA (if c then a else b) Q := by
  by_cases h : c
  · rw [if_pos h]; exact h1 h
  · rw [if_neg h]; exact h2 h
theorem pcA_addc {γ : Type} {a b : Nat} {t : Option (γ × Nat × Nat)} {Q : γ → Prop} (h : pcA t Q) : pcA (addc a b t) Q := by
  cases t with
  | none => exact pcA_none
  | some z =>
    obtain ⟨z1, z2, z3⟩ := z
    intro o m n e
    have e : some (z1, a + z2, b + z3) = some (o, m, n) := e
    cases e
    exact h _ _ _ rfl
theorem pcA_gdi {γ : Type} {i : Int32} {n : Nat} {t : Option (γ × Nat × Nat)} {Q : γ → Prop} (h : 0 ≤ i.toInt → i.toInt < n → pcA t Q) : pcA (gdi i n t) Q := by
  intro a m k e
  exact pc_gdi (Q := fun z => Q z.1) (fun h1 h2 z ez => h h1 h2 z.1 z.2.1 z.2.2 ez) (a, m, k) e
theorem pcA_gdn {γ : Type} {x : Int32} {t : Option (γ × Nat × Nat)} {Q : γ → Prop} (h : pcA t Q) : pcA (gdn x t) Q := by
  intro a m k e
  exact pc_gdn (Q := fun z => Q z.1) (fun z ez => h z.1 z.2.1 z.2.2 ez) (a, m, k) e
theorem pcA_oC1 {a r : Type} {x : Option a} {k : a → Option (r × Nat × Nat)} {R : a → Prop} {Q : r → Prop} (hx : pc x R) (h : ∀ z, R z → pcA (k z) Q) : pcA (oC1 x k) Q := by
  cases x with
  | none => exact pcA_none
  | some z => exact h z (hx z rfl)
theorem pcA_oC2 {a b r : Type} {x : Option (a × b)} {k : a → b → Option (r × Nat × Nat)} {R : a × b → Prop} {Q : r → Prop} (hx : pc x R) (h : ∀ z y, R (z, y) → pcA (k z y) Q) : pcA (oC2 x k) Q := by
  cases x with
  | none => exact pcA_none
  | some z =>
    obtain ⟨z1, z2⟩ := z
    exact h z1 z2 (hx _ rfl)
theorem pcA_oA1 {a r : Type} {x : Option (a × Nat × Nat)} {k : a → Nat → Nat → Option (r × Nat × Nat)} {R : a → Prop} {Q : r → Prop} (hx : pcA x R) (h : ∀ z m n, R z → pcA (k z m n) Q) : pcA (oA1 x k) Q := by
  cases x with
  | none => exact pcA_none
  | some z =>
    obtain ⟨z1, z2, z3⟩ := z
    exact h z1 z2 z3 (hx z1 z2 z3 rfl)
theorem pcA_oA2 {a b r : Type} {x : Option ((a × b) × Nat × Nat)} {k : a → b → Nat → Nat → Option (r × Nat × Nat)} {R : a × b → Prop} {Q : r → Prop} (hx : pcA x R) (h : ∀ z y m n, R (z, y) → pcA (k z y m n) Q) : pcA (oA2 x k) Q := by
  cases x with
  | none => exact pcA_none
  | some z =>
    obtain ⟨⟨z1, z2⟩, z3, z4⟩ := z
    exact h z1 z2 z3 z4 (hx (z1, z2) z3 z4 rfl)
theorem ok_pc {α : Type} {o : Option α} {P R : α → Prop} (h1 : ok o P) (h2 : pc o R) : ok o (fun a => P a ∧ R a) := by
  obtain ⟨a, e, p⟩ := h1
  exact ⟨a, e, p, h2 a e⟩
theorem CQ_pc {α : Type} {o : Option (α × Nat × Nat)} {P R : α → Prop} {T : α → Nat} {b : Nat} (h1 : ok o (CQ P T b)) (h2 : pcA o R) : ok o (CQ (fun a => P a ∧ R a) T b) := by
  obtain ⟨⟨a, m, n⟩, e, p1, p2, p3⟩ := h1
  exact ⟨(a, m, n), e, ⟨p1, h2 a m n e⟩, p2, p3⟩
-- ===== rows of octets that are written: how many, and which =====
abbrev OT : Type := Int32 × (Nat → Int32)
def RO (t : OT) (n : Int32) (f : Nat → Int32) : Prop := n = t.1 ∧ 0 ≤ n.toInt ∧ ∀ i : Nat, (i : Int) < n.toInt → f i = t.2 i
def ap (t : OT) (b : Int32) : OT := (t.1 + (1 : Int32), upd t.2 t.1.toNatClampNeg (b &&& (255 : Int32)))
def orl (t : OT) (v : Int32) : OT := (t.1, upd t.2 (t.1 - (1 : Int32)).toNatClampNeg (t.2 (t.1 - (1 : Int32)).toNatClampNeg ||| v))
theorem RO.ap {t : OT} {n : Int32} {f : Nat → Int32} (h : RO t n f) (b : Int32) (hn : n.toInt < 100000) : RO (ap t b) (n + (1 : Int32)) (upd f n.toNatClampNeg (b &&& (255 : Int32))) := by
  obtain ⟨h1, h2, h3⟩ := h
  subst h1
  have e1 := inc32 (x := t.1) (by omega)
  refine ⟨rfl, by omega, fun i hi => ?_⟩
  show upd f t.1.toNatClampNeg (b &&& (255 : Int32)) i = upd t.2 t.1.toNatClampNeg (b &&& (255 : Int32)) i
  unfold upd
  by_cases q : i = t.1.toNatClampNeg
  · rw [if_pos q, if_pos q]
  · rw [if_neg q, if_neg q]
    have q : ¬ i = t.1.toInt.toNat := q
    exact h3 i (by omega)
theorem RO.orl {t : OT} {n : Int32} {f : Nat → Int32} (h : RO t n f) (v : Int32) (hn : 1 ≤ n.toInt) : RO (orl t v) n (upd f (n - (1 : Int32)).toNatClampNeg (f (n - (1 : Int32)).toNatClampNeg ||| v)) := by
  obtain ⟨h1, h2, h3⟩ := h
  subst h1
  have e1 : (t.1 - (1 : Int32)).toInt = t.1.toInt - 1 := by
    have := i32_hi t.1
    rw [sub32 (by rw [li_1]; omega) (by rw [li_1]; omega), li_1]
  have en : (t.1 - (1 : Int32)).toNatClampNeg = (t.1 - (1 : Int32)).toInt.toNat := rfl
  refine ⟨rfl, h2, fun i hi => ?_⟩
  show upd f (t.1 - (1 : Int32)).toNatClampNeg (f (t.1 - (1 : Int32)).toNatClampNeg ||| v) i = upd t.2 (t.1 - (1 : Int32)).toNatClampNeg (t.2 (t.1 - (1 : Int32)).toNatClampNeg ||| v) i
  rw [h3 (t.1 - (1 : Int32)).toNatClampNeg (by rw [en]; omega)]
  unfold upd
  by_cases q : i = (t.1 - (1 : Int32)).toNatClampNeg
  · rw [if_pos q, if_pos q]
  · rw [if_neg q, if_neg q]
    exact h3 i hi
-- a wide number, its first octet first: n octets of v
def wid (v : Int64) : Nat → OT → OT
  | 0, t => t
  | n + 1, t => wid v n (ap t ((v >>> (((8 : Int32) * nI n).toInt64 &&& (63 : Int64))).toInt32))
-- one bit more, c bits of the last octet being used
def pbit (s : OT × Int32) (b : Int32) : OT × Int32 := (orl (if s.2 = (0 : Int32) then ap s.1 (0 : Int32) else s.1) (b <<< (((7 : Int32) - s.2) &&& (31 : Int32))), (s.2 + (1 : Int32)) - (s.2 + (1 : Int32)) / (8 : Int32) * (8 : Int32))
def pbits (v : Int32) : Nat → OT × Int32 → OT × Int32
  | 0, s => s
  | n + 1, s => pbits v n (pbit s ((v >>> (nI n &&& (31 : Int32))) &&& (1 : Int32)))
-- the length of a number in bits
def blen (y : Int32) : Nat := ((f_X6_bitLength y).getD 0).toNatClampNeg
-- the table: k signs left, the next j, y places left
def tab (sh : Nat → Int32) : Nat → Nat → Int32 → OT × Int32 → OT × Int32
  | 0, _, _, s => s
  | k + 1, j, y, s => if y ≤ (0 : Int32) then s else tab sh k (j + 1) (y - sh j) (pbits (sh j) (blen y) s)

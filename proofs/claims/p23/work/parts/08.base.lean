-- ===== states of objects: scalars, int rows, long rows, lengths =====
abbrev OS : Type := (Nat → Int32) × (Nat → Nat → Int32) × (Nat → Nat → Int64) × (Nat → Nat)
def sF (u : OS) (k : Nat) (v : Int32) : OS := (va_up u.1 k v, u.2)
def sA (u : OS) (k : Nat) (i v : Int32) : OS := (u.1, va_up u.2.1 k (upd (u.2.1 k) i.toNatClampNeg v), u.2.2)
def sL (u : OS) (k : Nat) (i : Int32) (v : Int64) : OS := (u.1, u.2.1, va_up u.2.2.1 k (vp_updL (u.2.2.1 k) i.toNatClampNeg v), u.2.2.2)
def sG (u : OS) (k : Nat) (f : Nat → Int32) : OS := (u.1, va_up u.2.1 k f, u.2.2)
def sGL (u : OS) (k : Nat) (f : Nat → Int64) : OS := (u.1, u.2.1, va_up u.2.2.1 k f, u.2.2.2)
def sR (u : OS) (k : Nat) (n : Nat) (f : Nat → Int32) : OS := (u.1, va_up u.2.1 k f, u.2.2.1, va_up u.2.2.2 k n)
def mkA (n : Nat) (f : Nat → Int32) : OS := (fun _ => 0, fun _ => f, fun _ _ => 0, fun _ => n)
def FU : Nat := 100000
-- ===== pure binders =====
def bnd {α β : Type} (e : α) (k : α → β) : β := k e
theorem bnd_nm {α β : Type} {e x : α} {k : α → β} {r : β} (ex : x = e) (h : bnd e k = r) : k x = r := by subst ex; exact h
theorem bnd_ex {α β : Type} {e : α} {k : α → β} {r : β} (h : bnd e k = r) : ∃ x, x = e ∧ k x = r := ⟨e, rfl, h⟩
theorem ex_eq {α : Sort _} (e : α) : ∃ x, x = e := ⟨e, rfl⟩
theorem ite_t {c : Prop} [Decidable c] {α : Type} {a b r : α} (hc : c) (h : (if c then a else b) = r) : a = r := by rw [if_pos hc] at h; exact h
theorem ite_f {c : Prop} [Decidable c] {α : Type} {a b r : α} (hc : ¬ c) (h : (if c then a else b) = r) : b = r := by rw [if_neg hc] at h; exact h
def gdi {γ : Type} (i : Int32) (n : Nat) (t : Option γ) : Option γ := if i < 0 ∨ n ≤ i.toNatClampNeg then none else t
theorem gdi_of {γ : Type} {i : Int32} {n : Nat} {t : Option γ} {r : γ} (h : gdi i n t = some r) : vp_in i n ∧ t = some r := by
  unfold gdi at h
  by_cases c : i < 0 ∨ n ≤ i.toNatClampNeg
  · rw [if_pos c] at h; cases h
  · rw [if_neg c] at h; exact ⟨c, h⟩
theorem gdi_in {γ : Type} {i : Int32} {n : Nat} {t : Option γ} (h : vp_in i n) : gdi i n t = t := if_neg h
def gdz {γ : Type} (y : Int32) (t : Option γ) : Option γ := if y = 0 then none else t
theorem gdz_of {γ : Type} {y : Int32} {t : Option γ} {r : γ} (h : gdz y t = some r) : ¬ y = 0 ∧ t = some r := by
  unfold gdz at h
  by_cases c : y = 0
  · rw [if_pos c] at h; cases h
  · rw [if_neg c] at h; exact ⟨c, h⟩
def gdzl {γ : Type} (y : Int64) (t : Option γ) : Option γ := if y = 0 then none else t
theorem gdzl_of {γ : Type} {y : Int64} {t : Option γ} {r : γ} (h : gdzl y t = some r) : ¬ y = 0 ∧ t = some r := by
  unfold gdzl at h
  by_cases c : y = 0
  · rw [if_pos c] at h; cases h
  · rw [if_neg c] at h; exact ⟨c, h⟩
def gdb {γ : Type} (x : Int32) (t : Option γ) : Option γ := if x = 0 ∨ x = 1 then t else none
theorem gdb_of {γ : Type} {x : Int32} {t : Option γ} {r : γ} (h : gdb x t = some r) : (x = 0 ∨ x = 1) ∧ t = some r := by
  unfold gdb at h
  by_cases c : x = 0 ∨ x = 1
  · rw [if_pos c] at h; exact ⟨c, h⟩
  · rw [if_neg c] at h; cases h
theorem nb_of {x : Int32} (h : x = 0 ∨ x = 1) : narrow .boolean (.int x) = .int x := by rcases h with rfl | rfl <;> rfl
theorem fb_of {x : Int32} (h : x = 0 ∨ x = 1) : fits .boolean (.int x) = true := by rcases h with rfl | rfl <;> rfl
def oC0 {r : Type} (x : Option Unit) (k : Option r) : Option r := match x with
  | some _ => k
  | none => none
theorem oC0_of {r : Type} {x : Option Unit} {k : Option r} {o : r} (h : oC0 x k = some o) : x = some () ∧ k = some o := by
  cases x with
  | none => cases h
  | some z => exact ⟨rfl, h⟩
def oC1 {a r : Type} (x : Option a) (k : a → Option r) : Option r := match x with
  | some z => k z
  | none => none
theorem oC1_of {a r : Type} {x : Option a} {k : a → Option r} {o : r} (h : oC1 x k = some o) : ∃ z, x = some z ∧ k z = some o := by
  cases x with
  | none => cases h
  | some z => exact ⟨z, rfl, h⟩
def oC2 {a b r : Type} (x : Option (a × b)) (k : a → b → Option r) : Option r := match x with
  | some (z, y) => k z y
  | none => none
theorem oC2_of {a b r : Type} {x : Option (a × b)} {k : a → b → Option r} {o : r} (h : oC2 x k = some o) : ∃ z y, x = some (z, y) ∧ k z y = some o := by
  cases x with
  | none => cases h
  | some q => obtain ⟨z, y⟩ := q; exact ⟨z, y, rfl, h⟩
def oC3 {a b c r : Type} (x : Option (a × b × c)) (k : a → b → c → Option r) : Option r := match x with
  | some (z, y, w) => k z y w
  | none => none
theorem oC3_of {a b c r : Type} {x : Option (a × b × c)} {k : a → b → c → Option r} {o : r} (h : oC3 x k = some o) : ∃ z y w, x = some (z, y, w) ∧ k z y w = some o := by
  cases x with
  | none => cases h
  | some q => obtain ⟨z, y, w⟩ := q; exact ⟨z, y, w, rfl, h⟩
def oC4 {a b c d r : Type} (x : Option (a × b × c × d)) (k : a → b → c → d → Option r) : Option r := match x with
  | some (z, y, w, v) => k z y w v
  | none => none
theorem oC4_of {a b c d r : Type} {x : Option (a × b × c × d)} {k : a → b → c → d → Option r} {o : r} (h : oC4 x k = some o) : ∃ z y w v, x = some (z, y, w, v) ∧ k z y w v = some o := by
  cases x with
  | none => cases h
  | some q => obtain ⟨z, y, w, v⟩ := q; exact ⟨z, y, w, v, rfl, h⟩
def addc {γ : Type} (a b : Nat) (t : Option (γ × Nat × Nat)) : Option (γ × Nat × Nat) := match t with
  | some (o, kc, ks) => some (o, a + kc, b + ks)
  | none => none
theorem addc_of {γ : Type} {a b kc ks : Nat} {t : Option (γ × Nat × Nat)} {o : γ} (h : addc a b t = some (o, kc, ks)) : ∃ k n, t = some (o, k, n) ∧ kc = a + k ∧ ks = b + n := by
  cases t with
  | none => cases h
  | some q => obtain ⟨x, k, n⟩ := q; cases h; exact ⟨k, n, rfl, rfl, rfl⟩
theorem ret0 {γ : Type} {x o : γ} {kc ks : Nat} (h : some (x, 0, 0) = some (o, kc, ks)) : some x = some o ∧ 0 = kc ∧ 0 = ks := by cases h; exact ⟨rfl, rfl, rfl⟩
def oA0 {r : Type} (x : Option (Unit × Nat × Nat)) (k : Nat → Nat → Option r) : Option r := match x with
  | some (_, m, n) => k m n
  | none => none
theorem oA0_of {r : Type} {x : Option (Unit × Nat × Nat)} {k : Nat → Nat → Option r} {o : r} (h : oA0 x k = some o) : ∃ m n, x = some ((), m, n) ∧ k m n = some o := by
  cases x with
  | none => cases h
  | some q => obtain ⟨⟨⟩, m, n⟩ := q; exact ⟨m, n, rfl, h⟩
def oA1 {a r : Type} (x : Option (a × Nat × Nat)) (k : a → Nat → Nat → Option r) : Option r := match x with
  | some (z, m, n) => k z m n
  | none => none
theorem oA1_of {a r : Type} {x : Option (a × Nat × Nat)} {k : a → Nat → Nat → Option r} {o : r} (h : oA1 x k = some o) : ∃ z m n, x = some (z, m, n) ∧ k z m n = some o := by
  cases x with
  | none => cases h
  | some q => obtain ⟨z, m, n⟩ := q; exact ⟨z, m, n, rfl, h⟩
def oA2 {a b r : Type} (x : Option ((a × b) × Nat × Nat)) (k : a → b → Nat → Nat → Option r) : Option r := match x with
  | some ((z, y), m, n) => k z y m n
  | none => none
theorem oA2_of {a b r : Type} {x : Option ((a × b) × Nat × Nat)} {k : a → b → Nat → Nat → Option r} {o : r} (h : oA2 x k = some o) : ∃ z y m n, x = some ((z, y), m, n) ∧ k z y m n = some o := by
  cases x with
  | none => cases h
  | some q => obtain ⟨⟨z, y⟩, m, n⟩ := q; exact ⟨z, y, m, n, rfl, h⟩
def oA3 {a b c r : Type} (x : Option ((a × b × c) × Nat × Nat)) (k : a → b → c → Nat → Nat → Option r) : Option r := match x with
  | some ((z, y, w), m, n) => k z y w m n
  | none => none
theorem oA3_of {a b c r : Type} {x : Option ((a × b × c) × Nat × Nat)} {k : a → b → c → Nat → Nat → Option r} {o : r} (h : oA3 x k = some o) : ∃ z y w m n, x = some ((z, y, w), m, n) ∧ k z y w m n = some o := by
  cases x with
  | none => cases h
  | some q => obtain ⟨⟨z, y, w⟩, m, n⟩ := q; exact ⟨z, y, w, m, n, rfl, h⟩
def oA4 {a b c d r : Type} (x : Option ((a × b × c × d) × Nat × Nat)) (k : a → b → c → d → Nat → Nat → Option r) : Option r := match x with
  | some ((z, y, w, v), m, n) => k z y w v m n
  | none => none
theorem oA4_of {a b c d r : Type} {x : Option ((a × b × c × d) × Nat × Nat)} {k : a → b → c → d → Nat → Nat → Option r} {o : r} (h : oA4 x k = some o) : ∃ z y w v m n, x = some ((z, y, w, v), m, n) ∧ k z y w v m n = some o := by
  cases x with
  | none => cases h
  | some q => obtain ⟨⟨z, y, w, v⟩, m, n⟩ := q; exact ⟨z, y, w, v, m, n, rfl, h⟩
def oA5 {a b c d f r : Type} (x : Option ((a × b × c × d × f) × Nat × Nat)) (k : a → b → c → d → f → Nat → Nat → Option r) : Option r := match x with
  | some ((z, y, w, v, u), m, n) => k z y w v u m n
  | none => none
theorem oA5_of {a b c d f r : Type} {x : Option ((a × b × c × d × f) × Nat × Nat)} {k : a → b → c → d → f → Nat → Nat → Option r} {o : r} (h : oA5 x k = some o) : ∃ z y w v u m n, x = some ((z, y, w, v, u), m, n) ∧ k z y w v u m n = some o := by
  cases x with
  | none => cases h
  | some q => obtain ⟨⟨z, y, w, v, u⟩, m, n⟩ := q; exact ⟨z, y, w, v, u, m, n, rfl, h⟩
theorem inj5 {a b c d f : Type} {x0 x0' : a} {x1 x1' : b} {x2 x2' : c} {x3 x3' : d} {x4 x4' : f} (h : some (x0, x1, x2, x3, x4) = some (x0', x1', x2', x3', x4')) : x0 = x0' ∧ x1 = x1' ∧ x2 = x2' ∧ x3 = x3' ∧ x4 = x4' := by cases h; exact ⟨rfl, rfl, rfl, rfl, rfl⟩
def oA6 {a b c d f g r : Type} (x : Option ((a × b × c × d × f × g) × Nat × Nat)) (k : a → b → c → d → f → g → Nat → Nat → Option r) : Option r := match x with
  | some ((z, y, w, v, u, t), m, n) => k z y w v u t m n
  | none => none
theorem oA6_of {a b c d f g r : Type} {x : Option ((a × b × c × d × f × g) × Nat × Nat)} {k : a → b → c → d → f → g → Nat → Nat → Option r} {o : r} (h : oA6 x k = some o) : ∃ z y w v u t m n, x = some ((z, y, w, v, u, t), m, n) ∧ k z y w v u t m n = some o := by
  cases x with
  | none => cases h
  | some q => obtain ⟨⟨z, y, w, v, u, t⟩, m, n⟩ := q; exact ⟨z, y, w, v, u, t, m, n, rfl, h⟩
theorem inj6 {a b c d f g : Type} {x0 x0' : a} {x1 x1' : b} {x2 x2' : c} {x3 x3' : d} {x4 x4' : f} {x5 x5' : g} (h : some (x0, x1, x2, x3, x4, x5) = some (x0', x1', x2', x3', x4', x5')) : x0 = x0' ∧ x1 = x1' ∧ x2 = x2' ∧ x3 = x3' ∧ x4 = x4' ∧ x5 = x5' := by cases h; exact ⟨rfl, rfl, rfl, rfl, rfl, rfl⟩
def oA7 {a b c d f g h r : Type} (x : Option ((a × b × c × d × f × g × h) × Nat × Nat)) (k : a → b → c → d → f → g → h → Nat → Nat → Option r) : Option r := match x with
  | some ((z, y, w, v, u, t, s), m, n) => k z y w v u t s m n
  | none => none
theorem oA7_of {a b c d f g h r : Type} {x : Option ((a × b × c × d × f × g × h) × Nat × Nat)} {k : a → b → c → d → f → g → h → Nat → Nat → Option r} {o : r} (h : oA7 x k = some o) : ∃ z y w v u t s m n, x = some ((z, y, w, v, u, t, s), m, n) ∧ k z y w v u t s m n = some o := by
  cases x with
  | none => cases h
  | some q => obtain ⟨⟨z, y, w, v, u, t, s⟩, m, n⟩ := q; exact ⟨z, y, w, v, u, t, s, m, n, rfl, h⟩
theorem inj7 {a b c d f g h : Type} {x0 x0' : a} {x1 x1' : b} {x2 x2' : c} {x3 x3' : d} {x4 x4' : f} {x5 x5' : g} {x6 x6' : h} (h : some (x0, x1, x2, x3, x4, x5, x6) = some (x0', x1', x2', x3', x4', x5', x6')) : x0 = x0' ∧ x1 = x1' ∧ x2 = x2' ∧ x3 = x3' ∧ x4 = x4' ∧ x5 = x5' ∧ x6 = x6' := by cases h; exact ⟨rfl, rfl, rfl, rfl, rfl, rfl, rfl⟩
theorem inj2 {a b : Type} {x x' : a} {y y' : b} (h : some (x, y) = some (x', y')) : x = x' ∧ y = y' := by cases h; exact ⟨rfl, rfl⟩
theorem inj3 {a b c : Type} {x x' : a} {y y' : b} {z z' : c} (h : some (x, y, z) = some (x', y', z')) : x = x' ∧ y = y' ∧ z = z' := by cases h; exact ⟨rfl, rfl, rfl⟩
theorem inj4 {a b c d : Type} {x x' : a} {y y' : b} {z z' : c} {w w' : d} (h : some (x, y, z, w) = some (x', y', z', w')) : x = x' ∧ y = y' ∧ z = z' ∧ w = w' := by cases h; exact ⟨rfl, rfl, rfl, rfl⟩
theorem ap0 {r : Type} {K K' r' : r} (e : K = K') (h : K = r') : K' = r' := e ▸ h
theorem ap1 {a r : Type} {K K' : a → r} {x : a} {o : r} (e : K = K') (h : K x = o) : K' x = o := e ▸ h
theorem ap2 {a b r : Type} {K K' : a → b → r} {x : a} {y : b} {o : r} (e : K = K') (h : K x y = o) : K' x y = o := e ▸ h
theorem ap3 {a b c r : Type} {K K' : a → b → c → r} {x : a} {y : b} {z : c} {o : r} (e : K = K') (h : K x y z = o) : K' x y z = o := e ▸ h
theorem ap4 {a b c d r : Type} {K K' : a → b → c → d → r} {x : a} {y : b} {z : c} {w : d} {o : r} (e : K = K') (h : K x y z w = o) : K' x y z w = o := e ▸ h
theorem ap5 {a b c d f r : Type} {K K' : a → b → c → d → f → r} {x : a} {y : b} {z : c} {w : d} {v : f} {o : r} (e : K = K') (h : K x y z w v = o) : K' x y z w v = o := e ▸ h
theorem ap6 {a b c d f g r : Type} {K K' : a → b → c → d → f → g → r} {x : a} {y : b} {z : c} {w : d} {v : f} {t : g} {o : r} (e : K = K') (h : K x y z w v t = o) : K' x y z w v t = o := e ▸ h
theorem ap7 {a b c d f g i r : Type} {K K' : a → b → c → d → f → g → i → r} {x : a} {y : b} {z : c} {w : d} {v : f} {t : g} {q : i} {o : r} (e : K = K') (h : K x y z w v t q = o) : K' x y z w v t q = o := e ▸ h
theorem ap8 {a b c d f g i j r : Type} {K K' : a → b → c → d → f → g → i → j → r} {x : a} {y : b} {z : c} {w : d} {v : f} {t : g} {q : i} {p : j} {o : r} (e : K = K') (h : K x y z w v t q p = o) : K' x y z w v t q p = o := e ▸ h
theorem ap9 {a b c d f g i j k r : Type} {K K' : a → b → c → d → f → g → i → j → k → r} {x : a} {y : b} {z : c} {w : d} {v : f} {t : g} {q : i} {p : j} {n : k} {o : r} (e : K = K') (h : K x y z w v t q p n = o) : K' x y z w v t q p n = o := e ▸ h
theorem lgc_lt {x y : Int64} : lg_cmp x y < 0 ↔ x < y := by
  rcases lg_tri x y with h | h | h
  · have h2 := lg_lt_not h; have h3 := lg_lt_ne h; simp [lg_cmp, h, h2, h3]
  · subst h; simp [lg_cmp]
  · have h2 := lg_lt_not h; simp [lg_cmp, h, h2]
theorem lgc_gt {x y : Int64} : 0 < lg_cmp x y ↔ y < x := by
  rcases lg_tri x y with h | h | h
  · have h2 := lg_lt_not h; have h3 := lg_lt_ne h; simp [lg_cmp, h2, h3]
  · subst h; simp [lg_cmp]
  · have h2 := lg_lt_not h; simp [lg_cmp, h]
theorem lgc_eq {x y : Int64} : lg_cmp x y = 0 ↔ x = y := by
  rcases lg_tri x y with h | h | h
  · have h2 := lg_lt_not h; have h3 := lg_lt_ne h; simp [lg_cmp, h2, h3]
  · subst h; simp [lg_cmp]
  · have h2 := lg_lt_not h; have h3 := lg_lt_ne h; have h4 : ¬ x = y := fun q => h3 q.symm; simp [lg_cmp, h, h4]
theorem lgc_le {x y : Int64} : lg_cmp x y ≤ 0 ↔ x ≤ y := by
  rcases lg_tri x y with h | h | h
  · have h2 := lg_lt_not h; have h3 := lg_lt_ne h; simp [lg_cmp, h2, h3, Int64.le_of_lt h]
  · subst h; simp [lg_cmp, Int64.le_refl]
  · have h2 := lg_lt_not_le h; simp [lg_cmp, h, h2]
theorem lgc_ge {x y : Int64} : 0 ≤ lg_cmp x y ↔ y ≤ x := by
  rcases lg_tri x y with h | h | h
  · have h2 := lg_lt_not h; have h3 := lg_lt_ne h; have h4 := lg_lt_not_le h; simp [lg_cmp, h2, h3, h4]
  · subst h; simp [lg_cmp, Int64.le_refl]
  · simp [lg_cmp, h, Int64.le_of_lt h]
theorem sw_out {x : Int32} (n : Nat) (hn : n < 2 ^ 31) (h : ∀ j, j < n → ¬ x = nI j) : x.toInt < 0 ∨ ((n : Int) - 1) < x.toInt := by
  rcases pk_ix x hn with c | c | ⟨j, hj, e⟩
  · exact Or.inl (Int32.lt_iff_toInt_lt.mp c)
  · refine Or.inr ?_
    have h2 := Int32.le_iff_toInt_le.mp c
    rw [nI_toInt hn] at h2
    omega
  · exact absurd e (h j hj)
theorem i32_ne {x y : Int32} (h : ¬ x = y) : ¬ x.toInt = y.toInt := fun q => h (Int32.toInt_inj.mp q)
theorem lk_out2 {x : Int32} {o1 o2 d : Int} (h1 : ¬ x = (2 : Int32)) (h2 : ¬ x = (3 : Int32)) : Op.lookupswitch.offset [((2 : Int), o1), ((3 : Int), o2)] d x.toInt = d := by
  have g1 : ¬ (2 : Int) = x.toInt := fun q => h1 (Int32.toInt_inj.mp (q.symm.trans (by decide : (2 : Int) = (2 : Int32).toInt)))
  have g2 : ¬ (3 : Int) = x.toInt := fun q => h2 (Int32.toInt_inj.mp (q.symm.trans (by decide : (3 : Int) = (3 : Int32).toInt)))
  show (if (2 : Int) = x.toInt then o1 else if (3 : Int) = x.toInt then o2 else d) = d
  rw [if_neg g1, if_neg g2]
theorem cle {ce kc a k mc : Nat} (h : ce + kc = mc) (e : kc = a + k) : ce + a ≤ mc := by omega
theorem cle0 {ce kc mc : Nat} (h : ce + kc = mc) : ce + 0 ≤ mc := by omega
theorem cle1 {ce kc mc : Nat} (h : ce + kc = mc) : ce ≤ mc := by omega
theorem cadd {ce kc a k mc : Nat} (h : ce + kc = mc) (e : kc = a + k) : (ce + a) + k = mc := by omega
def gdn {γ : Type} (x : Int32) (t : Option γ) : Option γ := if x < 0 ∨ 536870912 < x.toNatClampNeg * 4 then none else t
theorem gdn_of {γ : Type} {x : Int32} {t : Option γ} {r : γ} (h : gdn x t = some r) : (¬ x < 0 ∧ x.toNatClampNeg * componentBytes .int ≤ 536870912) ∧ t = some r := by
  unfold gdn at h
  by_cases c : x < 0 ∨ 536870912 < x.toNatClampNeg * 4
  · rw [if_pos c] at h; cases h
  · rw [if_neg c] at h; exact ⟨⟨fun q => c (Or.inl q), Nat.not_lt.mp (fun q => c (Or.inr q))⟩, h⟩
def gdl {γ : Type} (n : Nat) (t : Option γ) : Option γ := if n < 2 ^ 31 then t else none
theorem gdl_of {γ : Type} {n : Nat} {t : Option γ} {r : γ} (h : gdl n t = some r) : n < 2 ^ 31 ∧ t = some r := by
  unfold gdl at h
  by_cases c : n < 2 ^ 31
  · rw [if_pos c] at h; exact ⟨c, h⟩
  · rw [if_neg c] at h; cases h
theorem cA_eq {D : va_G} {cl : List vw_C} {cI cJ cA : ClassId} {s : State} (h1 : va_K D cl [(cI, .int), (cJ, .long)] s) (h2 : va_K D cl ([(cI, .int), (cJ, .long)] ++ [(cA, .int)]) s) : cI = cA := by
  have a1 := (h1.2 0 _ rfl).2
  have a2 := (h2.2 2 _ rfl).2
  exact Option.some.inj (a1.symm.trans a2)
theorem cA_eqL {D : va_G} {cl : List vw_C} {cI cJ cA : ClassId} {s : State} (h1 : va_K D cl [(cI, .int), (cJ, .long)] s) (h2 : va_K D cl ([(cI, .int), (cJ, .long)] ++ [(cA, .long)]) s) : cJ = cA := by
  have a1 := (h1.2 1 _ rfl).2
  have a2 := (h2.2 2 _ rfl).2
  exact Option.some.inj (a1.symm.trans a2)
theorem vpc_i (n : Nat) (cA : ClassId) : vp_cell cA (n, .inl (fun _ => 0)) = arrV cA n (fun _ => defaultValue .int) := rfl
theorem vpc_l (n : Nat) (cA : ClassId) : vp_cell cA (n, .inr (.inl (fun _ => 0))) = arrV cA n (fun _ => defaultValue .long) := rfl
def flI (n : Nat) (f : Nat → Int32) (v : Int32) : Nat → Int32 := fun j => if j < n then v else f j
def flL (n : Nat) (f : Nat → Int64) (v : Int64) : Nat → Int64 := fun j => if j < n then v else f j
def cpf (f : Nat → Int32) (n k : Nat) : Nat → Int32 := va_cpy f (fun _ => 0) 0 0 (if k < n then k else n)
def f_withRoom (n0 : Nat) (f : Nat → Int32) (ln lim : Int32) : Option ((Nat × (Nat → Int32)) × Nat × Nat) :=
  if ln < nI n0 then some ((n0, f), 0, 0) else
  if ln < lim then
    bnd (if lim < (2 : Int32) * ln then lim else (2 : Int32) * ln) fun k =>
    if k < 0 ∨ 536870912 < k.toNatClampNeg * 4 ∨ k.toNatClampNeg = n0 ∨ 2 ^ 31 ≤ n0 then none else
    some ((k.toNatClampNeg, cpf f n0 k.toNatClampNeg), 1, k.toNatClampNeg)
  else some ((n0, f), 0, 0)
-- ===== words =====
def lw_good : List Cond := lw_tbl.filter goodWord
theorem lg_mem {w : Cond} (h : w ∈ lw_tbl) (g : goodWord w = true) : w ∈ lw_good := List.mem_filter.mpr ⟨h, g⟩
theorem tb1 {w : Cond} (h : w ∈ tables_1_1) : w ∈ lw_tbl := List.mem_append_right _ (List.mem_append_left _ h)
theorem tb2 {w : Cond} (h : w ∈ tables_1_2) : w ∈ lw_tbl := List.mem_append_right _ (List.mem_append_right _ (List.mem_append_left _ h))
theorem tb3 {w : Cond} (h : w ∈ tables_1_3) : w ∈ lw_tbl := List.mem_append_right _ (List.mem_append_right _ (List.mem_append_right _ (List.mem_append_left _ h)))
theorem tb4 {w : Cond} (h : w ∈ tables_1_4) : w ∈ lw_tbl := List.mem_append_right _ (List.mem_append_right _ (List.mem_append_right _ (List.mem_append_right _ (List.mem_append_left _ h))))
theorem tb5 {w : Cond} (h : w ∈ tables_1_5) : w ∈ lw_tbl := List.mem_append_right _ (List.mem_append_right _ (List.mem_append_right _ (List.mem_append_right _ (List.mem_append_right _ h))))
theorem tb0 {w : Cond} (h : w ∈ k2_sels lw_privs) : w ∈ lw_tbl := List.mem_append_left _ h
def wq (y : MethodName) (c : ByteArray) (n : Nat) (r : Option FieldType) : List Cond := .code y c n r :: lw_good
theorem wq_mem {y : MethodName} {c : ByteArray} {n : Nat} {r : Option FieldType} {w : Cond} (h : w ∈ lw_good) : w ∈ wq y c n r := List.mem_cons_of_mem _ h
theorem good_in {w : Cond} (h : w ∈ lw_good) : (w.onTables && w.keeps) = true ∨ ∃ ty, w = .arrayClass ty := good_of_word (List.mem_filter.mp h).2
theorem gdC {y : MethodName} {c : ByteArray} {n : Nat} {r : Option FieldType} (h : Cond.code y c n r ∈ lw_good) : GoodIn lw_good (wq y c n r) := by
  intro w hw
  rcases List.mem_cons.mp hw with rfl | hw
  · exact ⟨h, good_in h⟩
  · exact ⟨hw, good_in hw⟩
theorem gdV {own C : String} {idx : Nat} {y : MethodName} {c : ByteArray} {n : Nat} {r : Option FieldType} (h1 : Cond.methodLink own idx y ∈ lw_good) (h2 : Cond.instanceMethod y ∈ lw_good) (h3 : Cond.selects C y y ∈ lw_good) (h4 : Cond.initialized C ∈ lw_good) (h : Cond.code y c n r ∈ lw_good) : GoodIn lw_good (wsV own idx C y (wq y c n r)) := by
  intro w hw
  rcases List.mem_append.mp hw with hw | hw
  · simp only [List.mem_cons, List.not_mem_nil, or_false] at hw
    rcases hw with rfl | rfl | rfl | rfl
    · exact ⟨h1, good_in h1⟩
    · exact ⟨h2, good_in h2⟩
    · exact ⟨h3, good_in h3⟩
    · exact ⟨h4, good_in h4⟩
  · exact gdC h w hw
theorem gdS {own : String} {idx : Nat} {y : MethodName} {c : ByteArray} {n : Nat} {r : Option FieldType} (h1 : Cond.methodLink own idx y ∈ lw_good) (h2 : Cond.static y ∈ lw_good) (h4 : Cond.initialized y.cls ∈ lw_good) (h : Cond.code y c n r ∈ lw_good) : GoodIn lw_good (va_wsS own idx y (wq y c n r)) := by
  intro w hw
  rcases List.mem_append.mp hw with hw | hw
  · simp only [List.mem_cons, List.not_mem_nil, or_false] at hw
    rcases hw with rfl | rfl | rfl
    · exact ⟨h1, good_in h1⟩
    · exact ⟨h2, good_in h2⟩
    · exact ⟨h4, good_in h4⟩
  · exact gdC h w hw
def wqW (y : MethodName) (c : ByteArray) (n : Nat) (r : Option FieldType) (hh : List (Nat × Nat × Nat × Nat)) : List Cond := .codeWith y c n r hh :: lw_good
theorem wqW_mem {y : MethodName} {c : ByteArray} {n : Nat} {r : Option FieldType} {hh : List (Nat × Nat × Nat × Nat)} {w : Cond} (h : w ∈ lw_good) : w ∈ wqW y c n r hh := List.mem_cons_of_mem _ h
theorem hws_of {y : MethodName} {c : ByteArray} {n : Nat} {r : Option FieldType} {hh : List (Nat × Nat × Nat × Nat)} {args : Array Value} {s : State} (hc : Cond.codeWith y c n r hh ∈ lw_good) (ht : ∀ w ∈ lw_good, w.before args s = true) : ∀ w ∈ wqW y c n r hh, ∀ (a' : Array Value) (U : State), s.WarmedH U.vm → w.before a' U = true := by
  intro w hw a' U hW
  rcases List.mem_cons.mp hw with rfl | hw
  · exact word_at hW (good_in hc) (ht _ hc)
  · exact word_at hW (good_in hw) (ht _ hw)
def nwL : List Cond := [Cond.methodLinkNest RX6 36 yX5_init "AnsTables",
  Cond.methodLinkNest RX6 43 yX3_init "AnsTables",
  Cond.methodLinkNest RX6 50 yX1_init "AnsTables",
  Cond.fieldLinkNest RX6 90 "AnsTables$Shares" "made" "Z" "AnsTables",
  Cond.fieldLinkNest RX6 108 "AnsTables$Shares" "size" "I" "AnsTables",
  Cond.fieldLinkNest RX6 123 "AnsTables$Octets" "length" "I" "AnsTables",
  Cond.fieldLinkNest RX6 130 "AnsTables$Reader" "broken" "I" "AnsTables",
  Cond.fieldLinkNest RX6 147 "AnsTables$Writer" "done" "Z" "AnsTables",
  Cond.fieldLinkNest RX6 150 "AnsTables$Writer" "laneCount" "I" "AnsTables",
  Cond.fieldLinkNest RX6 151 "AnsTables$Writer" "states" "[J" "AnsTables",
  Cond.fieldLinkNest RX6 155 "AnsTables$Reader" "hasStates" "Z" "AnsTables",
  Cond.fieldLinkNest RX6 158 "AnsTables$Reader" "laneCount" "I" "AnsTables",
  Cond.fieldLinkNest RX6 159 "AnsTables$Reader" "states" "[J" "AnsTables",
  Cond.fieldLinkNest RX6 172 "AnsTables$Shares" "log" "I" "AnsTables",
  Cond.fieldLinkNest RX6 175 "AnsTables$Reader" "length" "I" "AnsTables",
  Cond.methodLinkNest RX0 27 yX6_bitLength "AnsTables",
  Cond.methodLinkNest RX1 22 yX6_withRoom "AnsTables",
  Cond.methodLinkNest RX2 19 yX6_withRoom "AnsTables",
  Cond.fieldLinkNest RX3 77 "AnsTables$Shares" "size" "I" "AnsTables",
  Cond.methodLinkNest RX3 80 yX6_bitLength "AnsTables",
  Cond.methodLinkNest RX3 99 yX6_firstState "AnsTables",
  Cond.methodLinkNest RX3 103 yX6_lastState "AnsTables",
  Cond.methodLinkNest RX3 106 yX6_stateWidth "AnsTables",
  Cond.methodLinkNest RX3 120 yX6_withRoom "AnsTables",
  Cond.fieldLinkNest RX3 146 "AnsTables$Shares" "log" "I" "AnsTables",
  Cond.fieldLinkNest RX3 159 "AnsTables$Octets" "length" "I" "AnsTables",
  Cond.fieldLinkNest RX3 162 "AnsTables$Octets" "values" "[I" "AnsTables",
  Cond.methodLinkNest RX4 57 yX6_isSign "AnsTables",
  Cond.methodLinkNest RX5 17 yX2_init "AnsTables",
  Cond.fieldLinkNest RX5 35 "AnsTables$Shares" "size" "I" "AnsTables",
  Cond.methodLinkNest RX5 40 yX6_firstState "AnsTables",
  Cond.methodLinkNest RX5 73 yX6_stateWidth "AnsTables",
  Cond.fieldLinkNest RX5 93 "AnsTables$Shares" "log" "I" "AnsTables",
  Cond.methodLinkNest RX5 99 yX6_bitLength "AnsTables"]
def nestB : Cond → Bool
  | .fieldLinkNest _ _ _ _ _ _ => true
  | .methodLinkNest _ _ _ _ => true
  | _ => false
theorem nwL_ok : nwL.all (fun w => nestB w && w.onTables) = true := by decide +kernel
def NW (U : State) : Prop := ∀ w ∈ nwL, va_Nw w U
theorem NW.warm {s U : State} (hW : s.WarmedH U.vm) (h : NW s) : NW U := by
  intro w hw
  have h1 := List.all_eq_true.mp nwL_ok w hw
  have h2 := h w hw
  clear hw
  cases w <;> first | exact va_Nw.warmF hW h2 | exact va_Nw.warmM hW h2 | exact absurd h1 (by simp [nestB])
theorem NW.same {u U : State} (e : u.vm = U.vm) (h : NW u) : NW U := fun w hw => va_Nw.same (by have h1 := List.all_eq_true.mp nwL_ok w hw; simp only [Bool.and_eq_true] at h1; exact h1.2) e (h w hw)
/-- a method's start: the world's cells, the tables, the nest's words -/
def pcW (dC : Nat → ClassId) (dI : Nat → Nat → Nat) (cI cJ : ClassId) (sz : Nat) (w : va_W) (U : State) : Prop := U.heap.size = sz ∧ va_P (dC, dI) vwCl w U.heap ∧ va_K (dC, dI) vwCl [(cI, .int), (cJ, .long)] U ∧ va_D (fun _ => True) w ∧ NW U
theorem pcW_blind {dC : Nat → ClassId} {dI : Nat → Nat → Nat} {cI cJ : ClassId} {sz : Nat} {w : va_W} {av : List Value} : FrameBlind (va_Pc av (pcW dC dI cI cJ sz w)) := fun a U g mk q => by
  obtain ⟨q0, q1, qP, qK, qD, qN⟩ := q
  exact ⟨q0, q1, qP, va_K.moved (u := U) (U := U.calling g mk a) (Vm.Alike.refl U.vm) qK, qD, NW.same (u := U) (U := U.calling g mk a) rfl qN⟩
theorem pcW_pre {dC : Nat → ClassId} {dI : Nat → Nat → Nat} {cI cJ : ClassId} {w : va_W} {A : Nat → Prop} {s : State} {H : Heap} {av : List Value} (hP : va_P (dC, dI) vwCl w H) (hK : va_K (dC, dI) vwCl [(cI, .int), (cJ, .long)] s) (hD : va_D A w) (hN : NW s) : ∀ U : State, U.heap = H → s.WarmedH U.vm → va_Pc av (pcW dC dI cI cJ H.size w) av.toArray U := fun U hU hW => ⟨rfl, by rw [hU], by rw [hU]; exact hP, va_K.moved hW.alike hK, hD.weaken (fun _ _ _ _ => trivial), hN.warm hW⟩
-- ===== worlds as lists of families =====
theorem vP_mem {D : va_G} {cl : List vw_C} {ws : va_W} {H : Heap} : va_P D cl ws H ↔ ∀ q ∈ ws, va_at D cl q H := by
  constructor
  · intro h q hq
    obtain ⟨k, hk⟩ := List.getElem?_of_mem hq
    exact h k q hk
  · intro h k q hk
    exact h q (List.mem_of_getElem? hk)
theorem vD_mem {A : Nat → Prop} {ws : va_W} : va_D A ws ↔ (ws.Pairwise (fun p q => p.1 ≠ q.1)) ∧ ∀ q ∈ ws, A q.1 := by
  constructor
  · intro h
    refine ⟨List.pairwise_iff_getElem.mpr (fun i j hi hj hij e => ?_), fun q hq => ?_⟩
    · have := h.1 i j _ _ (List.getElem?_eq_getElem hi) (List.getElem?_eq_getElem hj) e
      omega
    · obtain ⟨k, hk⟩ := List.getElem?_of_mem hq
      exact h.2 k q hk
  · intro h
    refine ⟨fun i j p q hi hj e => ?_, fun k q hk => h.2 q (List.mem_of_getElem? hk)⟩
    obtain ⟨hi', ei⟩ := List.getElem?_eq_some_iff.mp hi
    obtain ⟨hj', ej⟩ := List.getElem?_eq_some_iff.mp hj
    rcases Nat.lt_trichotomy i j with c | c | c
    · exact absurd (by rw [ei, ej]; exact e) (List.pairwise_iff_getElem.mp h.1 i j hi' hj' c)
    · exact c
    · exact absurd (by rw [ei, ej]; exact e.symm) (List.pairwise_iff_getElem.mp h.1 j i hj' hi' c)
theorem pick_at {α : Type} {is : List Nat} {fs fs' : List α} (hs : is.map (fun i => fs[i]?) = fs'.map some) {k : Nat} {f : α} (hk : fs'[k]? = some f) : ∃ i, is[k]? = some i ∧ fs[i]? = some f := by
  have h1 : (is.map (fun i => fs[i]?))[k]? = some (some f) := by rw [hs, List.getElem?_map, hk]; rfl
  rw [List.getElem?_map] at h1
  cases hi : is[k]? with
  | none => rw [hi] at h1; cases h1
  | some i => rw [hi] at h1; exact ⟨i, rfl, Option.some.inj h1⟩
theorem pick_mem {is : List Nat} {fs fs' : List va_W} (hs : is.map (fun i => fs[i]?) = fs'.map some) {q : Nat × va_E} (hq : q ∈ fs'.flatten) : q ∈ fs.flatten := by
  obtain ⟨f, hf, hqf⟩ := List.mem_flatten.mp hq
  obtain ⟨k, hk⟩ := List.getElem?_of_mem hf
  obtain ⟨i, -, h2⟩ := pick_at hs hk
  exact List.mem_flatten.mpr ⟨f, List.mem_of_getElem? h2, hqf⟩
theorem va_P.subF {D : va_G} {cl : List vw_C} {fs fs' : List va_W} {H : Heap} (h : va_P D cl fs.flatten H) (is : List Nat) (hs : is.map (fun i => fs[i]?) = fs'.map some) : va_P D cl fs'.flatten H :=
  vP_mem.mpr fun q hq => vP_mem.mp h q (pick_mem hs hq)
theorem va_D.subF {A : Nat → Prop} {fs fs' : List va_W} (h : va_D A fs.flatten) (is : List Nat) (hn : va_nd is = true) (hs : is.map (fun i => fs[i]?) = fs'.map some) : va_D A fs'.flatten := by
  obtain ⟨h1, h2⟩ := vD_mem.mp h
  rw [List.pairwise_flatten] at h1
  refine vD_mem.mpr ⟨?_, fun q hq => h2 q (pick_mem hs hq)⟩
  rw [List.pairwise_flatten]
  refine ⟨fun f hf => ?_, List.pairwise_iff_getElem.mpr (fun a b ha hb hab => ?_)⟩
  · obtain ⟨k, hk⟩ := List.getElem?_of_mem hf
    obtain ⟨i, -, hi⟩ := pick_at hs hk
    exact h1.1 f (List.mem_of_getElem? hi)
  · obtain ⟨i, ia, hi⟩ := pick_at hs (List.getElem?_eq_getElem ha)
    obtain ⟨j, ib, hj⟩ := pick_at hs (List.getElem?_eq_getElem hb)
    have hij : i ≠ j := fun e => by
      subst e
      have := va_nd_inj is hn a b i ia ib
      omega
    obtain ⟨hi', ei⟩ := List.getElem?_eq_some_iff.mp hi
    obtain ⟨hj', ej⟩ := List.getElem?_eq_some_iff.mp hj
    rw [← ei, ← ej]
    rcases Nat.lt_or_gt_of_ne hij with c | c
    · exact List.pairwise_iff_getElem.mp h1.2 i j hi' hj' c
    · intro x hx y hy e
      exact List.pairwise_iff_getElem.mp h1.2 j i hj' hi' c y hy x hx e.symm
theorem vA_mem {ws : va_W} {sz q : Nat} : va_A ws sz q ↔ (∃ x ∈ ws, x.1 = q) ∨ sz ≤ q := by
  constructor
  · rintro (⟨k, e, h⟩ | h)
    · exact Or.inl ⟨(q, e), List.mem_of_getElem? h, rfl⟩
    · exact Or.inr h
  · rintro (⟨x, hx, rfl⟩ | h)
    · obtain ⟨k, hk⟩ := List.getElem?_of_mem hx
      exact Or.inl ⟨k, x.2, hk⟩
    · exact Or.inr h
theorem va_freeF {A0 : Nat → Prop} {fs fc : List va_W} {H0 H : Heap} {locs : List Loc} (hD : va_D A0 fs.flatten) (hS : va_S A0 H0 H locs) (hA : ∀ q, H0.size ≤ q → A0 q) (isC : List Nat) (hC : isC.map (fun i => fs[i]?) = fc.map some) : ∀ q, va_A fc.flatten H.size q → A0 q := by
  intro q h
  rcases vA_mem.mp h with ⟨x, hx, rfl⟩ | h
  · exact (vD_mem.mp hD).2 x (pick_mem hC hx)
  · exact hA q (Nat.le_trans hS.1 h)
theorem va_joinF {A0 : Nat → Prop} {D : va_G} {cl : List vw_C} {fs fc fr f1 : List va_W} {H H1 : Heap} (hP : va_P D cl fs.flatten H) (hD : va_D A0 fs.flatten) (isC isR : List Nat) (hC : isC.map (fun i => fs[i]?) = fc.map some) (hR : isR.map (fun i => fs[i]?) = fr.map some) (hn : va_nd isR = true) (hdis : ∀ i ∈ isR, i ∉ isC)
    (hk : ∀ q : Nat, q < H.size → ¬ va_A fc.flatten H.size q → H1[q]? = H[q]?) (hF : ∀ q, va_A fc.flatten H.size q → A0 q) (hP1 : va_P D cl f1.flatten H1) (hD1 : va_D (va_A fc.flatten H.size) f1.flatten) : va_P D cl (fr ++ f1).flatten H1 ∧ va_D A0 (fr ++ f1).flatten := by
  have h0 := (vD_mem.mp hD).1
  rw [List.pairwise_flatten] at h0
  have apart : ∀ x ∈ fr.flatten, x.1 < H.size ∧ ¬ va_A fc.flatten H.size x.1 := by
    intro x hx
    have hl := (vP_mem.mp hP x (pick_mem hR hx)).lt
    refine ⟨hl, fun h => ?_⟩
    rcases vA_mem.mp h with ⟨y, hy, e⟩ | h
    · obtain ⟨f, hf, hxf⟩ := List.mem_flatten.mp hx
      obtain ⟨g, hg, hyg⟩ := List.mem_flatten.mp hy
      obtain ⟨a, ha⟩ := List.getElem?_of_mem hf
      obtain ⟨b, hb⟩ := List.getElem?_of_mem hg
      obtain ⟨i, ia, hi⟩ := pick_at hR ha
      obtain ⟨j, jb, hj⟩ := pick_at hC hb
      have hij : i ≠ j := fun e => by
        subst e
        exact hdis i (List.mem_of_getElem? ia) (List.mem_of_getElem? jb)
      obtain ⟨hi', ei⟩ := List.getElem?_eq_some_iff.mp hi
      obtain ⟨hj', ej⟩ := List.getElem?_eq_some_iff.mp hj
      rcases Nat.lt_or_gt_of_ne hij with c | c
      · exact List.pairwise_iff_getElem.mp h0.2 i j hi' hj' c x (by rw [ei]; exact hxf) y (by rw [ej]; exact hyg) e.symm
      · exact List.pairwise_iff_getElem.mp h0.2 j i hj' hi' c y (by rw [ej]; exact hyg) x (by rw [ei]; exact hxf) e
    · omega
  have hDr := vD_mem.mp (hD.subF isR hn hR)
  have hD1' := vD_mem.mp hD1
  rw [List.flatten_append]
  refine ⟨vP_mem.mpr fun q hq => ?_, vD_mem.mpr ⟨?_, fun q hq => ?_⟩⟩
  · rcases List.mem_append.mp hq with h | h
    · obtain ⟨g1, g2⟩ := apart q h
      exact (vP_mem.mp hP q (pick_mem hR h)).kept (hk q.1 g1 g2)
    · exact vP_mem.mp hP1 q h
  · refine List.pairwise_append.mpr ⟨hDr.1, hD1'.1, fun x hx y hy e => ?_⟩
    exact (apart x hx).2 (by rw [e]; exact hD1'.2 y hy)
  · rcases List.mem_append.mp hq with h | h
    · exact hDr.2 q h
    · exact hF q.1 (hD1'.2 q h)
abbrev wM (cI cJ : ClassId) (a : Nat) (h : Nat → Nat) (u : OS) : va_W := [(a, .inr (8, [.int (u.1 0), .int (u.1 1), .int (u.1 2), .int (u.1 3), .ref (h 4), .int (u.1 5), .ref (h 6), .int (u.1 7), .ref (h 8), .ref (h 9), .ref (h 10), .ref (h 11), .ref (h 12), .ref (h 13), .ref (h 14), .int (u.1 15), .ref (h 16), .ref (h 17), .int (u.1 18), .ref (h 19), .int (u.1 20), .int (u.1 21), .int (u.1 22), .int (u.1 23), .ref (h 24), .int (u.1 25), .int (u.1 26), .int (u.1 27), .int (u.1 28), .int (u.1 29), .int (u.1 30), .int (u.1 31), .int (u.1 32), .ref (h 33)])), (h 4, .inl (cI, 1000, .inl (u.2.1 4))), (h 6, .inl (cI, 32, .inl (u.2.1 6))), (h 8, .inl (cI, 64, .inl (u.2.1 8))), (h 9, .inl (cI, 64, .inl (u.2.1 9))), (h 10, .inl (cI, 2, .inl (u.2.1 10))), (h 11, .inl (cI, 8192, .inl (u.2.1 11))), (h 12, .inl (cI, 8192, .inl (u.2.1 12))), (h 13, .inl (cI, 8192, .inl (u.2.1 13))), (h 14, .inl (cI, 20000, .inl (u.2.1 14))), (h 16, .inl (cJ, 4, .inr (.inl (u.2.2.1 16)))), (h 17, .inl (cJ, 4, .inr (.inl (u.2.2.1 17)))), (h 19, .inl (cI, 70000, .inl (u.2.1 19))), (h 24, .inl (cI, 65536, .inl (u.2.1 24))), (h 33, .inl (cJ, 4, .inr (.inl (u.2.2.1 33))))]
abbrev wL (cI cJ : ClassId) (a : Nat) (h : Nat → Nat) (u : OS) : va_W := [(a, .inr (1, [.ref (h 0)])), (h 0, .inl (cJ, (u.2.2.2 0), .inr (.inl (u.2.2.1 0))))]
abbrev wO (cI cJ : ClassId) (a : Nat) (h : Nat → Nat) (u : OS) : va_W := [(a, .inr (2, [.ref (h 0), .int (u.1 1), .int (u.1 2)])), (h 0, .inl (cI, (u.2.2.2 0), .inl (u.2.1 0)))]
abbrev wP (cI cJ : ClassId) (a : Nat) (h : Nat → Nat) (u : OS) : va_W := [(a, .inr (3, [.ref (h 0), .int (u.1 1)])), (h 0, .inl (cI, (u.2.2.2 0), .inl (u.2.1 0)))]
abbrev wS (cI cJ : ClassId) (a : Nat) (h : Nat → Nat) (u : OS) : va_W := [(a, .inr (5, [.int (u.1 0), .int (u.1 1), .int (u.1 2), .ref (h 3), .ref (h 4), .ref (h 5), .ref (h 6), .int (u.1 7), .ref (h 8), .ref (h 9), .ref (h 10)])), (h 3, .inl (cI, 32, .inl (u.2.1 3))), (h 4, .inl (cI, 33, .inl (u.2.1 4))), (h 5, .inl (cJ, 32, .inr (.inl (u.2.2.1 5)))), (h 6, .inl (cI, 32, .inl (u.2.1 6))), (h 8, .inl (cI, (u.2.2.2 8), .inl (u.2.1 8))), (h 9, .inl (cI, (u.2.2.2 9), .inl (u.2.1 9))), (h 10, .inl (cI, (u.2.2.2 10), .inl (u.2.1 10)))]
abbrev wZ (cI cJ : ClassId) (a : Nat) (h : Nat → Nat) (u : OS) : va_W := [(a, .inr (5, [.int (u.1 0), .int (u.1 1), .int (u.1 2), .ref (h 3), .ref (h 4), .ref (h 5), .ref (h 6), .int (u.1 7), .ref (h 8), .ref (h 9), .ref (h 10)])), (h 3, .inl (cI, 32, .inl (u.2.1 3))), (h 4, .inl (cI, 33, .inl (u.2.1 4))), (h 5, .inl (cJ, 32, .inr (.inl (u.2.2.1 5)))), (h 6, .inl (cI, 32, .inl (u.2.1 6))), (h 8, .inl (cI, (u.2.2.2 8), .inl (u.2.1 8))), (h 9, .inl (cI, (u.2.2.2 9), .inl (u.2.1 9))), (h 10, .inl (cI, (u.2.2.2 10), .inl (u.2.1 10)))]
abbrev wW (cI cJ : ClassId) (a : Nat) (h : Nat → Nat) (bP : Nat) (u : OS) : va_W := [(a, .inr (6, [.ref (h 0), .ref bP, .int (u.1 2), .int (u.1 3)])), (h 0, .inl (cJ, 4, .inr (.inl (u.2.2.1 0))))]
abbrev wR (cI cJ : ClassId) (a : Nat) (h : Nat → Nat) (bZ : Nat) (u : OS) : va_W := [(a, .inr (4, [.ref bZ, .ref (h 1), .ref (h 2), .int (u.1 3), .int (u.1 4), .int (u.1 5), .int (u.1 6), .int (u.1 7), .int (u.1 8), .int (u.1 9), .int (u.1 10), .int (u.1 11)])), (h 1, .inl (cJ, 4, .inr (.inl (u.2.2.1 1)))), (h 2, .inl (cI, (u.2.2.2 2), .inl (u.2.1 2)))]
abbrev wX (cI cJ : ClassId) (a : Nat) (h : Nat → Nat) (bL : Nat) (bS : Nat) (bW : Nat) (bR : Nat) (bO : Nat) (u : OS) : va_W := [(a, .inr (7, [.ref bL, .ref bS, .ref bW, .ref bR, .ref bO, .ref (h 5), .ref (h 6), .int (u.1 7), .int (u.1 8), .int (u.1 9)])), (h 5, .inl (cI, 32, .inl (u.2.1 5))), (h 6, .inl (cI, (u.2.2.2 6), .inl (u.2.1 6)))]
abbrev wA (cI cJ : ClassId) (h : Nat → Nat) (u : OS) : va_W := [(h 0, .inl (cI, (u.2.2.2 0), .inl (u.2.1 0)))]
abbrev wY (cI cJ : ClassId) (h : Nat → Nat) (u : OS) : va_W := [(h 0, .inl (cJ, 1, .inr (.inl (u.2.2.1 0))))]

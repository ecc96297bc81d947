-- ===== the shares made step by step: each time one more to the sign that gains most, the first of equals =====
def lgv (p : Int32) : Int64 := (f_X7_logarithm p).getD 0
theorem lgv_eq (p : Int32) : f_X7_logarithm p = some (lgv p) := by
  obtain ⟨y, e, _⟩ := s_X7_logarithm p
  unfold lgv
  rw [e]
  rfl
def gain (c s : Nat → Int32) (i : Nat) : Int64 := (c i).toInt64 * (lgv (s i + (1 : Int32)) - lgv (s i))
def amf (c s : Nat → Int32) : Nat → Option Nat
  | 0 => none
  | j + 1 => if s j ≤ (0 : Int32) then amf c s j else (amf c s j).elim (some j) (fun b => if gain c s j ≤ gain c s b then some b else some j)
theorem amf_lt (c s : Nat → Int32) : ∀ (j b : Nat), amf c s j = some b → b < j ∧ ¬ s b ≤ (0 : Int32) := by
  intro j
  induction j with
  | zero => intro b h; cases h
  | succ j ih =>
    intro b h
    unfold amf at h
    by_cases a : s j ≤ (0 : Int32)
    · rw [if_pos a] at h
      have := ih b h
      exact ⟨by omega, this.2⟩
    · rw [if_neg a] at h
      cases e : amf c s j with
      | none =>
        rw [e] at h
        have h : some j = some b := h
        cases h
        exact ⟨by omega, a⟩
      | some d =>
        rw [e] at h
        have h : (if gain c s j ≤ gain c s d then some d else some j) = some b := h
        by_cases q : gain c s j ≤ gain c s d
        · rw [if_pos q] at h
          cases h
          have := ih _ e
          exact ⟨by omega, this.2⟩
        · rw [if_neg q] at h
          cases h
          exact ⟨by omega, a⟩
theorem amf_ex (c s : Nat → Int32) : ∀ (j i : Nat), i < j → ¬ s i ≤ (0 : Int32) → ∃ b, amf c s j = some b := by
  intro j
  induction j with
  | zero => intro i h; omega
  | succ j ih =>
    intro i hi hs
    unfold amf
    by_cases a : s j ≤ (0 : Int32)
    · rw [if_pos a]
      rcases Nat.lt_or_ge i j with q | q
      · exact ih i q hs
      · have : i = j := by omega
        subst this
        exact absurd a hs
    · rw [if_neg a]
      cases e : amf c s j with
      | none => exact ⟨j, rfl⟩
      | some d =>
        show ∃ b, (if gain c s j ≤ gain c s d then some d else some j) = some b
        by_cases q : gain c s j ≤ gain c s d
        · rw [if_pos q]; exact ⟨d, rfl⟩
        · rw [if_neg q]; exact ⟨j, rfl⟩
theorem amf_congr {c s t : Nat → Int32} : ∀ j : Nat, (∀ i, i < j → s i = t i) → amf c s j = amf c t j := by
  intro j
  induction j with
  | zero => intro _; rfl
  | succ j ih =>
    intro h
    have e := ih (fun i hi => h i (by omega))
    unfold amf
    rw [e, h j (by omega)]
    by_cases a : t j ≤ (0 : Int32)
    · rw [if_pos a, if_pos a]
    · rw [if_neg a, if_neg a]
      cases e2 : amf c t j with
      | none =>
        show some j = some j
        rfl
      | some d =>
        have hd := (amf_lt c t j d e2).1
        show (if gain c s j ≤ gain c s d then some d else some j) = (if gain c t j ≤ gain c t d then some d else some j)
        unfold gain
        rw [h j (by omega), h d (by omega)]
def gs0 (c : Nat → Int32) : Nat → Int32 := fun i => if c i ≤ (0 : Int32) then (0 : Int32) else (1 : Int32)
def gst (c s : Nat → Int32) : Nat → Int32 := (amf c s 32).elim s (fun a => upd s a (s a + (1 : Int32)))
def GS (c : Nat → Int32) : Nat → Nat → Int32
  | 0 => gs0 c
  | n + 1 => gst c (GS c n)
def GSF (c : Nat → Int32) (lg : Int32) : Nat → Int32 := GS c ((2 ^ lg.toInt.toNat : Int) - cpos c 32).toNat
def f0 (g : GH) : GH := (g.1, g.2.1, (0 : Int32), g.2.2.2)
def sh8 (g : GH) (u : OS) : GH := (g.1, g.2.1, g.2.2.1, u.2.1 8)
def g_normal (g : GH) : GH := if cpos g.1.2.2 32 = 0 then f0 g else (g.1, g.2.1, (1 : Int32), GSF g.1.2.2 g.2.1)
theorem IM_sh8 {g : GH} {u : OS} (h : IM g u) : IM (sh8 g u) u := by
  obtain ⟨h0, h2, h3, h4, h5, h10, h7, h15, h14, h18, h25, h32, h11, h13⟩ := h
  exact ⟨h0, h2, h3, h4, h5, h10, ⟨h7.1, h7.2.1, fun _ _ => rfl⟩, h15, h14, h18, h25, h32, h11, h13⟩
-- what the reference's search holds after j signs
def AMX (c s : Nat → Int32) (j : Nat) (b : Int32) (y : Int64) : Prop := (amf c s j = none ∧ b = (-2 : Int32)) ∨ (∃ k, amf c s j = some k ∧ k < 32 ∧ b = nI k ∧ y = gain c s k)

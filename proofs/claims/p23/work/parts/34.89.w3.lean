-- ===== form 3: the five steps of a sign =====
theorem pc_and {α : Type} {o : Option α} {P R : α → Prop} (h1 : pc o P) (h2 : pc o R) : pc o (fun a => P a ∧ R a) := fun a e => ⟨h1 a e, h2 a e⟩
def dL (pf : Nat → Int32) (x p : Nat) : Int32 := pf (frm x p + 2 ^ (4 - x)) - pf (frm x p)
def dT (pf : Nat → Int32) (x p : Nat) : Int32 := pf (frm x p + 2 * 2 ^ (4 - x)) - pf (frm x p)
def lv3 (lg sz : Int32) (pf : Nat → Int32) (l p x : Nat) (s : SS) : SS := if dL pf x p ≤ (0 : Int32) then s else if dT pf x p ≤ dL pf x p then s else if ((nI p >>> (((4 : Int32) - nI x) &&& (31 : Int32))) &&& (1 : Int32)) = (0 : Int32) then sgB lg (chn sz (dL pf x p) (dT pf x p)) 0 l s else sgB lg (sz - chn sz (dL pf x p) (dT pf x p)) (chn sz (dL pf x p) (dT pf x p)) l s
def lvs (lg sz : Int32) (pf : Nat → Int32) (l p : Nat) : Nat → SS → SS
  | 0, s => s
  | m + 1, s => lvs lg sz pf l p m (lv3 lg sz pf l p m s)
-- prefix sums as numbers of 32 bits
def PFX (sh pf : Nat → Int32) : Prop := (∀ i, i < 32 → 0 ≤ (sh i).toInt) ∧ psum sh 32 ≤ 4096 ∧ ∀ i, i ≤ 32 → (pf i).toInt = psum sh i
theorem PFX.d {sh pf : Nat → Int32} (h : PFX sh pf) {a b : Nat} (hab : a ≤ b) (hb : b ≤ 32) : (pf b - pf a).toInt = psum sh b - psum sh a ∧ 0 ≤ (pf b - pf a).toInt := by
  have m1 := psum_mono (f := sh) (N := 32) h.1 hab hb
  have m2 := psum_mono (f := sh) (N := 32) (m := b) (n := 32) h.1 hb (Nat.le_refl _)
  have m0 := psum_mono (f := sh) (N := 32) (m := 0) (n := a) h.1 (Nat.zero_le _) (by omega)
  have z : psum sh 0 = 0 := rfl
  have s := h.2.1
  have e : (pf b - pf a).toInt = psum sh b - psum sh a := by rw [sub32 (by rw [h.2.2 b hb, h.2.2 a (by omega)]; omega) (by rw [h.2.2 b hb, h.2.2 a (by omega)]; omega), h.2.2 b hb, h.2.2 a (by omega)]
  exact ⟨e, by omega⟩
-- after two octets the state is below the bound
theorem rn8_lt {k : Nat} {lg q : Int32} {y : Int64} {t : OT} (h1 : 5 ≤ k) (h2 : k ≤ 12) (hl : lg = nI k) (hq : 1 ≤ q.toInt) (hq2 : q.toInt ≤ 4096) (y0 : 0 ≤ y.toInt) (y1 : y.toInt < 2147483648) : (rn8 (bnd8 lg q) 2 (y, t)).1 < bnd8 lg q := by
  have b := bndA h1 h2 hq hq2
  have eb : (bnd8 lg q).toInt = ((2 ^ (31 - k) : Nat) : Int) * q.toInt := by
    unfold bnd8
    rw [hl]
    exact b.1
  have s8 : ∀ z : Int64, (z >>> (((8 : Int32)).toInt64 &&& (63 : Int64))).toInt = z.toInt / 256 := by
    intro z
    have s := shr64 z ((((8 : Int32)).toInt64 &&& (63 : Int64))) 8 sh_8
    have p8 : ((2 ^ 8 : Nat) : Int) = 256 := by decide
    rw [p8] at s
    exact s
  have e : rn8 (bnd8 lg q) 2 (y, t) = if y < bnd8 lg q then (y, t) else (if (y >>> (((8 : Int32)).toInt64 &&& (63 : Int64))) < bnd8 lg q then (y >>> (((8 : Int32)).toInt64 &&& (63 : Int64)), ap t y.toInt32) else ((y >>> (((8 : Int32)).toInt64 &&& (63 : Int64))) >>> (((8 : Int32)).toInt64 &&& (63 : Int64)), ap (ap t y.toInt32) (y >>> (((8 : Int32)).toInt64 &&& (63 : Int64))).toInt32)) := rfl
  rw [e]
  by_cases c : y < bnd8 lg q
  · rw [if_pos c]; exact c
  · rw [if_neg c]
    by_cases d : (y >>> (((8 : Int32)).toInt64 &&& (63 : Int64))) < bnd8 lg q
    · rw [if_pos d]; exact d
    · rw [if_neg d]
      refine Int64.lt_iff_toInt_lt.mpr ?_
      show ((y >>> (((8 : Int32)).toInt64 &&& (63 : Int64))) >>> (((8 : Int32)).toInt64 &&& (63 : Int64))).toInt < _
      rw [s8, s8, eb]
      have := b.2
      omega
theorem chn_b {sz l t : Int32} (hs : 2 ≤ sz.toInt) : 1 ≤ (chn sz l t).toInt ∧ (chn sz l t).toInt ≤ sz.toInt - 1 := by
  have e : (sz - (1 : Int32)).toInt = sz.toInt - 1 := by
    have := i32_hi sz
    rw [sub32 (by rw [li_1]; omega) (by rw [li_1]; omega), li_1]
  unfold chn
  generalize ((l * sz) + (t / (2 : Int32))) / t = x
  by_cases a : (1 : Int32) ≤ x
  · rw [if_pos a]
    have a1 := Int32.le_iff_toInt_le.mp a
    rw [li_1] at a1
    by_cases b : x ≤ (sz - (1 : Int32))
    · rw [if_pos b]
      have b1 := Int32.le_iff_toInt_le.mp b
      omega
    · rw [if_neg b, e]
      omega
  · rw [if_neg a, li_1]
    omega

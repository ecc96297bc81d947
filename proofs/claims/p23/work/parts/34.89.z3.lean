-- ===== a sign by its form; a row =====
def sgn (F lg sz : Int32) (sh pf pl : Nat → Int32) (l p : Nat) (s : SS) : SS := if F = (3 : Int32) then lvs lg sz pf l p 5 s else if sz ≤ sh p then s else if F = (0 : Int32) then sgB lg (sh p) (pf p) l s else if F = (1 : Int32) then sgW lg (sh p) (pf p) l s else sgT lg (sh p) (pf p) pl l s
def rowS (F lg sz : Int32) (sh pf pl row : Nat → Int32) (ln : Nat) : Nat → SS → SS
  | 0, s => s
  | m + 1, s => rowS F lg sz sh pf pl row ln m (sgn F lg sz sh pf pl (m % ln) (row m).toNatClampNeg s)
def SI (F : Int32) (k : Nat) (s : SS) (m : Nat) : Prop := (F = 1 → WB s m) ∧ (F = 2 → TB k s m) ∧ (F ≠ 1 → F ≠ 2 → PB s (96 + 60 * (m : Int)))
theorem PFX.sp {sh pf : Nat → Int32} (h : PFX sh pf) {k p : Nat} (hs : psum sh 32 = ((2 ^ k : Nat) : Int)) (hp : p < 32) : 0 ≤ (pf p).toInt ∧ (sh p).toInt + (pf p).toInt ≤ ((2 ^ k : Nat) : Int) := by
  have e := psum_el (f := sh) (N := 32) (s := p) h.1 hp
  rw [h.2.2 p (by omega)]
  omega
theorem PFX.cg {sh sh2 pf : Nat → Int32} (h : PFX sh pf) (e : ∀ i, i < 32 → sh2 i = sh i) : PFX sh2 pf := by
  refine ⟨fun i hi => by rw [e i hi]; exact h.1 i hi, by rw [psum_congr 32 e]; exact h.2.1, fun i hi => ?_⟩
  rw [psum_congr i (fun s hs => e s (by omega))]
  exact h.2.2 i hi
set_option maxHeartbeats 1000000 in
theorem SI.st {F lg : Int32} {sh pf pl : Nat → Int32} {k l p m : Nat} {s : SS} (h1 : 5 ≤ k) (h2 : k ≤ 12) (hlg : lg = nI k) (hF : F = 0 ∨ F = 1 ∨ F = 2 ∨ F = 3) (hPF : PFX sh pf) (hsum : psum sh 32 = ((2 ^ k : Nat) : Int)) (hpl : F = 2 → ∀ i, i < 2 ^ k → 0 ≤ (pl i).toInt ∧ (pl i).toInt < ((2 ^ k : Nat) : Int)) (l4 : l < 4) (hp : p < 32) (hpos : 1 ≤ (sh p).toInt) (hm : m ≤ 1000) (h : SI F k s m) : SI F k (sgn F lg ((1 : Int32) <<< (lg &&& (31 : Int32))) sh pf pl l p s) (m + 1) := by
  have sp := hPF.sp hsum hp
  have sk := sk32 h1 h2 hlg
  obtain ⟨i1, i2, i3⟩ := h
  rcases hF with q | q | q | q
  · subst q
    have PBs := i3 (by decide) (by decide)
    refine ⟨fun w => absurd w (by decide), fun w => absurd w (by decide), fun _ _ => ?_⟩
    unfold sgn
    rw [if_neg (by decide)]
    by_cases c : ((1 : Int32) <<< (lg &&& (31 : Int32))) ≤ sh p
    · rw [if_pos c]; exact PBs.le (by omega)
    · rw [if_neg c, if_pos rfl]
      exact (PBs.sg h1 h2 hlg hpos sp.1 sp.2 l4 (by omega)).le (by omega)
  · subst q
    have Ws := i1 rfl
    refine ⟨fun _ => ?_, fun w => absurd w (by decide), fun w => absurd rfl w⟩
    unfold sgn
    rw [if_neg (by decide)]
    by_cases c : ((1 : Int32) <<< (lg &&& (31 : Int32))) ≤ sh p
    · rw [if_pos c]
      exact ⟨Ws.1, by have := Ws.2.1; omega, Ws.2.2⟩
    · rw [if_neg c, if_neg (by decide), if_pos rfl]
      have c1 := mt Int32.le_iff_toInt_le.mpr c
      rw [sk] at c1
      exact Ws.sg h1 h2 hlg hpos (by omega) sp.1 sp.2 l4 (by omega)
  · subst q
    have Ts := i2 rfl
    refine ⟨fun w => absurd w (by decide), fun _ => ?_, fun _ w => absurd rfl w⟩
    unfold sgn
    rw [if_neg (by decide)]
    by_cases c : ((1 : Int32) <<< (lg &&& (31 : Int32))) ≤ sh p
    · rw [if_pos c]
      exact ⟨Ts.1, by have := Ts.2.1; omega, Ts.2.2⟩
    · rw [if_neg c, if_neg (by decide), if_neg (by decide)]
      exact (Ts.sg h1 h2 hlg hpos sp.1 sp.2 (hpl rfl) l4 (by omega)).1
  · subst q
    have PBs := i3 (by decide) (by decide)
    refine ⟨fun w => absurd w (by decide), fun w => absurd w (by decide), fun _ _ => ?_⟩
    unfold sgn
    rw [if_pos rfl]
    exact (PB.ls h1 h2 hlg l4 5 s _ (by omega) PBs).le (by omega)

theorem IM_wv {g : GH} {u v : OS} (h : IM g u) (w : WV u v) : IM g v := by
  have e := w.1
  have a := w.2.1
  unfold IM GG SH LY shr at *
  rw [e 0 (by decide) (by decide) (by decide), e 2 (by decide) (by decide) (by decide), e 3 (by decide) (by decide) (by decide), e 5 (by decide) (by decide) (by decide), e 7 (by decide) (by decide) (by decide), e 15 (by decide) (by decide) (by decide), e 18 (by decide) (by decide) (by decide), e 25 (by decide) (by decide) (by decide), e 31 (by decide) (by decide) (by decide), e 32 (by decide) (by decide) (by decide), a 4 (by decide), a 6 (by decide), a 8 (by decide), a 9 (by decide), a 10 (by decide), a 11 (by decide), a 13 (by decide), a 14 (by decide)]
  exact h
theorem nIn {p : Nat} (h : p < 100000) : (nI p).toNatClampNeg = p := by
  show (nI p).toInt.toNat = p
  rw [nI_toInt (by omega)]
  omega
theorem lnr {x l : Int32} {j ln : Nat} (hx : x.toInt = j) (hl : l.toInt = ln) (hln : ln = 1 ∨ ln = 2 ∨ ln = 4) : (x - x / l * l).toInt = ((j % ln : Nat) : Int) ∧ j % ln < 4 := by
  rw [rem32 (by omega) (by omega), hx, hl]
  rcases hln with q | q | q
  · subst q; omega
  · subst q; omega
  · subst q; omega
theorem sub_s {M j : Nat} (h : j < M) : M - (j + 1) + 1 = M - j := by omega
theorem sub_k {M j : Nat} (h : M ≤ 1000) : M - j ≤ 1000 := by omega
theorem le4096 {a b : Int} {N : Nat} (h : 0 ≤ b) (h2 : a + b ≤ (N : Int)) (h3 : N ≤ 4096) : a ≤ 4096 := by omega
theorem cnt70 {c : Int} {m : Nat} (h : 8 * c ≤ 96 + 60 * (m : Int)) (hm : m ≤ 1000) : c + 10 ≤ 70000 := by omega
theorem le10k {c : Int} {m : Nat} (h : c ≤ (m : Int)) (hm : m ≤ 1000) : c ≤ 10000 := by omega
theorem lt100k {p : Nat} (h : p < 32) : p < 100000 := by omega
theorem pos_j {x : Int32} {j : Nat} (hx : x.toInt = ((j + 1 : Nat) : Int) - 1) : x.toInt = (j : Int) ∧ x.toNatClampNeg = j ∧ (x + (-1 : Int32)).toInt = (j : Int) - 1 := by
  have e1 := dec32 (x := x) (by omega)
  refine ⟨by omega, ?_, by rw [e1]; omega⟩
  show x.toInt.toNat = j
  omega
theorem sg32 {a : Int32} (h0 : 0 ≤ a.toInt) (h1 : a.toInt < 32) : a.toNatClampNeg < 32 := by
  show a.toInt.toNat < 32
  omega
theorem dn0 {x : Int32} {m : Nat} (hx : x.toInt = (m : Int) - 1) (d : x < (0 : Int32)) : m = 0 := by
  have d1 := Int32.lt_iff_toInt_lt.mp d
  rw [li_0, hx] at d1
  omega
theorem dn1 {x : Int32} {m : Nat} (hx : x.toInt = (m : Int) - 1) (d : ¬ x < (0 : Int32)) : ∃ j, m = j + 1 := by
  have d1 := mt Int32.lt_iff_toInt_lt.mpr d
  rw [li_0, hx] at d1
  exact ⟨m - 1, by omega⟩

theorem mdn {x : Int32} {n : Nat} (c : ¬ x < (0 : Int32)) (hn : (x.toInt + 1).toNat < n + 1) : 0 ≤ x.toInt ∧ (x + (-1 : Int32)).toInt = x.toInt - 1 ∧ -1 ≤ (x + (-1 : Int32)).toInt ∧ ((x + (-1 : Int32)).toInt + 1).toNat < n := by
  have c1 := mt Int32.lt_iff_toInt_lt.mpr c
  rw [li_0] at c1
  have e1 := dec32 (x := x) (by omega)
  rw [e1]
  omega
theorem lan {x l : Int32} (hx : 0 ≤ x.toInt) (h3 : l.toInt = 1 ∨ l.toInt = 2 ∨ l.toInt = 4) : l.toInt ≠ 0 ∧ 0 ≤ (x - x / l * l).toInt ∧ (x - x / l * l).toInt < 4 := by
  have er := rem32 (a := x) (b := l) hx (by omega)
  have q : x.toInt % l.toInt < l.toInt := Int.emod_lt_of_pos _ (by omega)
  have q0 : 0 ≤ x.toInt % l.toInt := Int.emod_nonneg _ (by omega)
  rw [er]
  omega
theorem sk32 {g : Int32} {k : Nat} (h1 : 5 ≤ k) (h2 : k ≤ 12) (el : g = nI k) : ((1 : Int32) <<< (g &&& (31 : Int32))).toInt = ((2 ^ k : Nat) : Int) := by
  have ek : (nI k).toInt = k := nI_toInt (by omega)
  rw [el, (sz32 (g := nI k) (by omega) (by omega)).1, ek]
  exact (Int.natCast_pow 2 k).symm
theorem ar1 {a b w x R : Int} (d : Int) (hd : d ≤ 12) (v4 : a ≤ w) (v5 : w ≤ a + d) (b0 : 0 ≤ a) (b2 : a ≤ 12 * (R - 1 - x)) (e : b = x - 1) : 0 ≤ w ∧ w ≤ 12 * (R - 1 - b) := by omega
theorem ar2 {a x R : Int} (hx : -1 ≤ x) (hR : R ≤ 1000) (b2 : a ≤ 12 * (R - 1 - x)) : a + 2 ≤ 70000 ∧ a + 1 ≤ 70000 ∧ a + 12 ≤ 70000 ∧ a + 10 ≤ 70000 ∧ a ≤ 12000 := by omega
set_option maxHeartbeats 1000000 in
theorem s_X7_writeForm_L92 {g : GH} {p1 : Int32} {k : Nat} (h1 : 5 ≤ k) (h2 : k ≤ 12) {lo hi : Int} (hS : SPN p1 k lo hi) (hp0 : 0 ≤ p1.toInt) (hp3 : p1.toInt ≤ 3) (u0 : OS) (hl : u0.1 0 = nI k) (z : u0.1 7 = 1) (hP : POS u0 (u0.1 5).toInt) {Q : OS → Prop} (K : Int32 → OS → Option OS)
    (hK : ∀ x u, IM g u → WV u0 u → 0 ≤ (u.1 20).toInt → (p1 = 1 → (u.1 20).toInt ≤ 1000) → (u.1 20).toInt ≤ 12000 → ok (K x u) Q) : ∀ (n : Nat) (x : Int32) (u : OS), -1 ≤ x.toInt → x.toInt < (u0.1 5).toInt → (x.toInt + 1).toNat < n → IM g u → WV u0 u → ST u lo hi → 0 ≤ (u.1 20).toInt → (p1 = 1 → (u.1 20).toInt ≤ (u0.1 5).toInt - 1 - x.toInt) → (u.1 20).toInt ≤ 12 * ((u0.1 5).toInt - 1 - x.toInt) → ok (f_X7_writeForm_L92 p1 n K x u) Q := by
  intro n
  induction n with
  | zero => intro x u _ _ hn; omega
  | succ n ih =>
    intro x u hx hx2 hn h hW hT b0 b1 b2
    have e5 : u.1 5 = u0.1 5 := hW.1 5 (by decide) (by decide) (by decide)
    have h5 : (u0.1 5).toInt ≤ 1000 := by
      have := h.2.2.2.2.1.2
      rw [e5] at this
      exact this
    have a2 := ar2 hx h5 b2
    unfold f_X7_writeForm_L92
    refine ok_ite (fun c => hK _ _ h hW b0 ?_ a2.2.2.2.2) (fun c => ?_)
    · intro q
      have := b1 q
      clear hK ih
      omega
    obtain ⟨c1, e1, m1, m3⟩ := mdn c hn
    have m2 : (x + (-1 : Int32)).toInt < (u0.1 5).toInt := by rw [e1]; exact Int.lt_of_le_of_lt (Int.sub_le_self _ (by decide)) hx2
    have g0 : x.toInt < (1000 : Nat) := Int.lt_of_lt_of_le hx2 h5
    have e7 : u.1 7 = 1 := by rw [hW.1 7 (by decide) (by decide) (by decide), z]
    have el : u.1 0 = nI k := by rw [hW.1 0 (by decide) (by decide) (by decide), hl]
    obtain ⟨er, er0, er1⟩ := lan c1 h.2.2.1
    have r0 := (h.2.2.2.1 x.toNatClampNeg).1
    have r1 := (h.2.2.2.1 x.toNatClampNeg).2
    have g1 : (u.2.1 4 x.toNatClampNeg).toInt < (64 : Nat) := Int.lt_trans r1 (by decide)
    have rn : (u.2.1 4 x.toNatClampNeg).toNatClampNeg < 32 := by
      show (u.2.1 4 x.toNatClampNeg).toInt.toNat < 32
      clear hK ih b0 b1 b2 a2 m1 m2 m3 e1
      omega
    have ly := IM_ly h e7 h1 h2 el _ rn
    have hpos : 1 ≤ (u.2.1 8 (u.2.1 4 x.toNatClampNeg).toNatClampNeg).toInt := (POS.wf hW.wf hP) x.toNatClampNeg (by show ((x.toInt.toNat : Nat) : Int) < _; rw [Int.toNat_of_nonneg c1]; exact hx2)
    have sk := sk32 h1 h2 el
    refine ok_gdi c1 g0 (ok_bnd (ok_gdz er (ok_bnd (ok_ite (fun d => ?_) (fun d => ?_)))))
    · have q1 : p1 ≠ 1 := by rw [d]; decide
      have q2 : p1 ≠ 2 := by rw [d]; decide
      obtain ⟨rfl, rfl⟩ := hS.2.2 q1 q2
      refine ok_oC1 (s_X7_writeSides u _ _ h h1 h2 el er0 er1 b0 a2.2.2.2.1 hT) (fun v hv => ok_bnd ?_)
      obtain ⟨v1, v2, v3, v4, v5⟩ := hv
      have a3 := ar1 10 (by decide) v4 v5 b0 b2 e1
      exact ih _ _ m1 m2 m3 v1 (hW.tr v2) v3 a3.1 (fun q => absurd q q1) a3.2
    · refine ok_gdi r0 g1 (ok_ite (fun d2 => ok_bnd (ih _ _ m1 m2 m3 h hW hT b0 (fun q => ?_) (ar1 0 (by decide) (Int.le_refl _) (by rw [Int.add_zero]; exact Int.le_refl _) b0 b2 e1).2)) (fun d2 => ?_))
      · have := b1 q
        rw [e1]
        clear hK ih rn ly hpos sk r0 r1 g1 er er0 er1 a2 b2
        omega
      · have d3 : (u.2.1 8 (u.2.1 4 x.toNatClampNeg).toNatClampNeg).toInt < ((2 ^ k : Nat) : Int) := by
          have := mt Int32.le_iff_toInt_le.mpr d2
          rw [sk] at this
          exact Int.not_le.mp this
        refine ok_ite (fun f0 => ok_gdi r0 g1 (ok_gdi r0 g1 ?_)) (fun f0 => ok_ite (fun f1 => ok_gdi r0 g1 (ok_gdi r0 g1 ?_)) (fun f1 => ok_gdi r0 g1 (ok_gdi r0 g1 ?_)))
        · have q1 : p1 ≠ 1 := by rw [f0]; decide
          have q2 : p1 ≠ 2 := by rw [f0]; decide
          obtain ⟨rfl, rfl⟩ := hS.2.2 q1 q2
          refine ok_oC1 (s_X7_writeBytes u _ _ _ h h1 h2 el er0 er1 hpos ly.1 ly.2.2 b0 a2.1 hT) (fun v hv => ok_bnd ?_)
          obtain ⟨v1, v2, v3, v4, v5⟩ := hv
          have a3 := ar1 2 (by decide) v4 v5 b0 b2 e1
          exact ih _ _ m1 m2 m3 v1 (hW.tr v2) v3 a3.1 (fun q => absurd q q1) a3.2
        · obtain ⟨rfl, rfl⟩ := hS.1 f1
          have b1 := b1 f1
          refine ok_oC1 (s_X7_writeWords u _ _ _ h h1 h2 el er0 er1 hpos ly.1 d3 ly.2.2 b0 a2.2.1 hT) (fun v hv => ok_bnd ?_)
          obtain ⟨v1, v2, v3, v4, v5⟩ := hv
          have a3 := ar1 1 (by decide) v4 v5 b0 b2 e1
          refine ih _ _ m1 m2 m3 v1 (hW.tr v2) v3 a3.1 (fun q => ?_) a3.2
          rw [e1]
          clear hK ih rn ly hpos sk r0 r1 g1 er er0 er1 a2 b2 a3 d3
          omega
        · have q2 : p1 = 2 := by
            have a0 := ne32 f0
            have a1 := ne32 f1
            have a3 := ne32 d
            rw [li_0] at a0
            rw [li_1] at a1
            rw [li_3] at a3
            refine Int32.toInt_inj.mp ?_
            rw [li_2]
            clear hK ih rn ly hpos sk r0 r1 g1 er er0 er1 a2 b2 d3 b0 b1 e1 m1 m2 m3
            omega
          obtain ⟨rfl, rfl⟩ := hS.2.1 q2
          refine ok_oC1 (s_X7_writeBitsOf u _ _ _ h h1 h2 el er0 er1 hpos ly.1 ly.2.2 b0 a2.2.2.1 hT) (fun v hv => ok_bnd ?_)
          obtain ⟨v1, v2, v3, v4, v5⟩ := hv
          have a3 := ar1 12 (by decide) v4 v5 b0 b2 e1
          exact ih _ _ m1 m2 m3 v1 (hW.tr v2) v3 a3.1 (fun q => absurd q f1) a3.2

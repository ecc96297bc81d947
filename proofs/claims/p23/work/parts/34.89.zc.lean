-- ===== how long what was pushed is =====
theorem rvB_n (f : Nat → Int32) : ∀ (k : Nat) (t : OT), 0 ≤ t.1.toInt → t.1.toInt + k < 90000 → (rvB f k t).1.toInt = t.1.toInt + k := by
  intro k
  induction k with
  | zero =>
    intro t _ _
    show t.1.toInt = t.1.toInt + ((0 : Nat) : Int)
    omega
  | succ k ih =>
    intro t h0 h1
    have a := ap_n t (f k) (by omega)
    have e : rvB f (k + 1) t = rvB f k (ap t (f k)) := rfl
    rw [e, ih _ (by omega) (by omega), a]
    omega
theorem rvW_n (f : Nat → Int32) : ∀ (k : Nat) (t : OT), 0 ≤ t.1.toInt → t.1.toInt + 4 * k < 90000 → (rvW f k t).1.toInt = t.1.toInt + 4 * k := by
  intro k
  induction k with
  | zero =>
    intro t _ _
    show t.1.toInt = t.1.toInt + 4 * ((0 : Nat) : Int)
    omega
  | succ k ih =>
    intro t h0 h1
    have a := wid_n (f k).toInt64 4 t h0 (by omega)
    have e : rvW f (k + 1) t = rvW f k (wid (f k).toInt64 4 t) := rfl
    rw [e, ih _ (by omega) (by omega), a]
    omega
theorem pbit_v (s : OT × Int32) (b : Int32) (c : Nat) (hc : s.2.toInt = c) (c7 : c ≤ 7) (h1 : s.1.1.toInt < 90000) (h0 : 0 ≤ s.1.1.toInt) : (pbit s b).1.1.toInt = s.1.1.toInt + (if c = 0 then 1 else 0) ∧ (pbit s b).2.toInt = (((c + 1) % 8 : Nat) : Int) := by
  have e1 : (s.2 + (1 : Int32)).toInt = (c : Int) + 1 := by rw [inc32 (by omega), hc]
  refine ⟨?_, ?_⟩
  · show (if s.2 = (0 : Int32) then ap s.1 (0 : Int32) else s.1).1.toInt = _
    by_cases z : s.2 = (0 : Int32)
    · have : c = 0 := by
        rw [z, li_0] at hc
        omega
      rw [if_pos z, if_pos this, ap_n _ _ (by omega)]
    · have : ¬ c = 0 := fun q => z (Int32.toInt_inj.mp (by rw [hc, q, li_0]; rfl))
      rw [if_neg z, if_neg this]
      omega
  · show ((s.2 + (1 : Int32)) - (s.2 + (1 : Int32)) / (8 : Int32) * (8 : Int32)).toInt = _
    rw [rem32 (by omega) (by decide), e1, li_8]
    omega
theorem rvT_n (f : Nat → Int32) : ∀ (k : Nat) (s : OT × Int32) (c : Nat), s.2.toInt = c → c ≤ 7 → 0 ≤ s.1.1.toInt → s.1.1.toInt + k < 80000 → (rvT f k s).1.1.toInt = s.1.1.toInt + (((c + k + 7) / 8 : Nat) : Int) - (((c + 7) / 8 : Nat) : Int) := by
  intro k
  induction k with
  | zero =>
    intro s c _ _ _ _
    show s.1.1.toInt = s.1.1.toInt + (((c + 0 + 7) / 8 : Nat) : Int) - (((c + 7) / 8 : Nat) : Int)
    omega
  | succ k ih =>
    intro s c hc c7 h0 h1
    have e : rvT f (k + 1) s = rvT f k (pbit s (((f k) >>> (nI 0 &&& (31 : Int32))) &&& (1 : Int32))) := rfl
    have p := pbit_v s (((f k) >>> (nI 0 &&& (31 : Int32))) &&& (1 : Int32)) c hc c7 (by omega) h0
    by_cases z : c = 0
    · rw [if_pos z] at p
      rw [e, ih _ ((c + 1) % 8) p.2 (by omega) (by omega) (by omega), p.1]
      subst z
      omega
    · rw [if_neg z] at p
      rw [e, ih _ ((c + 1) % 8) p.2 (by omega) (by omega) (by omega), p.1]
      rcases (show c = 1 ∨ c = 2 ∨ c = 3 ∨ c = 4 ∨ c = 5 ∨ c = 6 ∨ c = 7 by omega) with q | q | q | q | q | q | q <;> subst q <;> omega
theorem pourF_n {F : Int32} {t o : OT} (h0 : 0 ≤ o.1.toInt) (h1 : o.1.toInt ≤ 1000) (t0 : 0 ≤ t.1.toInt) (t1 : t.1.toInt ≤ 13000) : (pourF F t o).1.toInt = o.1.toInt + (octF F t : Int) := by
  unfold pourF octF
  by_cases f1 : F = (1 : Int32)
  · rw [if_pos f1, if_pos f1, rvW_n _ _ _ h0 (by omega)]
    omega
  · rw [if_neg f1, if_neg f1]
    by_cases f2 : F = (2 : Int32)
    · rw [if_pos f2, if_pos f2]
      have r := rvT_n t.2 t.1.toInt.toNat (o, 0) 0 (by show (0 : Int32).toInt = _; rw [li_0]; rfl) (by decide) h0 (by show o.1.toInt + _ < 80000; omega)
      have r : (rvT t.2 t.1.toInt.toNat (o, 0)).1.1.toInt = o.1.toInt + (((0 + t.1.toInt.toNat + 7) / 8 : Nat) : Int) - (((0 + 7) / 8 : Nat) : Int) := r
      rw [r, Nat.zero_add]
      omega
    · rw [if_neg f2, if_neg f2, rvB_n _ _ _ h0 (by omega)]
-- ===== may the row be written? =====
def WR (g : GH) : Prop := g.2.2.1 = 1 ∧ ∀ i : Nat, (i : Int) < g.1.1.2.2.toInt → 1 ≤ (g.2.2.2 (g.1.2.1 i).toNatClampNeg).toInt
theorem p_X7_mayWrite_L7 (u : OS) {Q : Int32 → Prop} (K : Int32 → Int32 → Option Int32) (hK : ∀ a b : Int32, ((a = 0 ∧ ¬ (u.1 7 = 1 ∧ POS u (u.1 5).toInt)) ∨ (a = 1 ∧ u.1 7 = 1 ∧ POS u (u.1 5).toInt)) → pc (K a b) Q) : ∀ (n : Nat) (x y : Int32), 0 ≤ x.toInt → ((y = 0 ∧ ¬ (u.1 7 = 1 ∧ POS u (u.1 5).toInt)) ∨ (y = 1 ∧ u.1 7 = 1 ∧ POS u x.toInt)) → pc (f_X7_mayWrite_L7 u n K x y) Q := by
  intro n
  induction n with
  | zero => intro x y _ _; exact pc_none
  | succ n ih =>
    intro x y hx hy
    unfold f_X7_mayWrite_L7
    refine pc_ite (fun c => hK _ _ ?_) (fun c => pc_ite (fun c2 => hK _ _ ?_) (fun c2 => pc_gdi (fun _ g1 => pc_gdi (fun _ _ => ?_))))
    · rcases hy with q | ⟨q1, q2, q3⟩
      · exact Or.inl q
      · refine Or.inr ⟨q1, q2, fun i hi => q3 i ?_⟩
        have := Int32.le_iff_toInt_le.mp c
        omega
    · rcases hy with q | q
      · exact Or.inl q
      · exfalso
        rw [c2] at q
        exact absurd q.1 (by decide)
    · have hy : y = 1 ∧ u.1 7 = 1 ∧ POS u x.toInt := by
        rcases hy with q | q
        · exact absurd q.1 c2
        · exact q
      have c1 := mt Int32.le_iff_toInt_le.mpr c
      have e1 := inc32 (x := x) (by omega)
      have en : x.toNatClampNeg = x.toInt.toNat := rfl
      refine pc_ite (fun d => pc_bnd (ih _ _ (by omega) (Or.inl ⟨rfl, fun q => ?_⟩))) (fun d => pc_bnd (ih _ _ (by omega) (Or.inr ⟨rfl, hy.2.1, fun i hi => ?_⟩)))
      · have d1 := i0_le.mp d
        have := q.2 x.toNatClampNeg (by rw [en]; omega)
        omega
      · rw [e1] at hi
        rcases Int.lt_or_le i x.toInt with z | z
        · exact hy.2.2 i z
        · have ei : i = x.toNatClampNeg := by
            rw [en]
            omega
          have d1 := mt i0_le.mpr d
          rw [ei]
          omega
theorem p_X7_mayWrite {g : GH} (u : OS) (h : IM g u) : pc (f_X7_mayWrite u) (fun a => (a = 0 ∧ ¬ WR g) ∨ (a = 1 ∧ WR g)) := by
  have hg := IM_g h
  have h7 := h.2.2.2.2.2.2.1
  have eq : (u.1 7 = 1 ∧ POS u (u.1 5).toInt) ↔ WR g := by
    have pt : ∀ i : Nat, u.2.1 8 (u.2.1 4 i).toNatClampNeg = g.2.2.2 (g.1.2.1 i).toNatClampNeg := by
      intro i
      have r := h.2.2.2.1 i
      rw [h7.2.2 _ (by show (u.2.1 4 i).toInt.toNat < 32; omega), hg.2.2.2.1]
    constructor
    · intro q
      refine ⟨h7.2.1.symm.trans q.1, fun i hi => ?_⟩
      rw [← pt i]
      exact q.2 i (by rw [hg.2.2.1]; exact hi)
    · intro q
      refine ⟨h7.2.1.trans q.1, fun i hi => ?_⟩
      rw [pt i]
      exact q.2 i (by rw [← hg.2.2.1]; exact hi)
  unfold f_X7_mayWrite
  refine pc_bnd (pc_bnd (p_X7_mayWrite_L7 u _ (fun a b hab => pc_gdb (pc_some ?_)) FU (0 : Int32) (u.1 7) (by decide) ?_))
  · rcases hab with q | q
    · exact Or.inl ⟨q.1, fun w => q.2 (eq.mpr w)⟩
    · exact Or.inr ⟨q.1, eq.mp q.2⟩
  · rcases h7.1 with q | q
    · refine Or.inl ⟨q, fun w => ?_⟩
      rw [q] at w
      exact absurd w.1 (by decide)
    · refine Or.inr ⟨q.1, q.1, fun i hi => ?_⟩
      rw [li_0] at hi
      omega
theorem p_X6_isWritable_L14 {g : GH} (uX uS : OS) (h : IX g uX) (hS : IS uS) (hG : IG g.2 uS) (z : g.2.2.1 = 1) : ∀ (n : Nat) (x : Int32), 0 ≤ x.toInt → (∀ i : Nat, (i : Int) < x.toInt → (i : Int) < g.1.1.2.2.toInt → 1 ≤ (g.2.2.2 (g.1.2.1 i).toNatClampNeg).toInt) → pc (f_X6_isWritable_L14 uX uS n x) (fun r => (r = 0 ∧ ¬ WR g) ∨ (r = 1 ∧ WR g)) := by
  intro n
  have l7 := h.2.1
  have l6 := h.2.2.1
  have en := nIt (n := uX.2.2.2 6) (by omega)
  have e7 : uX.1 7 = g.1.1.2.2 := h.1.2.2
  induction n with
  | zero => intro x _ _; exact pc_none
  | succ n ih =>
    intro x hx hA
    unfold f_X6_isWritable_L14
    have done : g.1.1.2.2.toInt ≤ x.toInt → pc (some (1 : Int32)) (fun r => (r = 0 ∧ ¬ WR g) ∨ (r = 1 ∧ WR g)) := fun q => pc_some (Or.inr ⟨rfl, z, fun i hi => hA i (by omega) hi⟩)
    refine pc_ite (fun c => done ?_) (fun c => pc_ite (fun d => done ?_) (fun d => pc_gdi (fun _ _ => ?_)))
    · have := Int32.le_iff_toInt_le.mp c
      rw [e7] at this
      exact this
    · have := Int32.le_iff_toInt_le.mp d
      rw [en] at this
      rw [e7] at l7
      omega
    · have c1 := mt Int32.le_iff_toInt_le.mpr c
      rw [e7] at c1
      have e1 := inc32 (x := x) (by have := i32_hi g.1.1.2.2; omega)
      have enx : x.toNatClampNeg = x.toInt.toNat := rfl
      obtain ⟨r1, r2, r3⟩ := h.2.2.2.2.2 x.toNatClampNeg (by rw [e7, enx]; omega)
      rw [r1]
      have bk := nI_back r2
      have p32 : (g.1.2.1 x.toNatClampNeg).toNatClampNeg < 32 := by
        show (g.1.2.1 x.toNatClampNeg).toInt.toNat < 32
        omega
      have gs := hG.2.2 _ p32
      rw [if_neg (by rw [z]; decide)] at gs
      have r0 := hS.2.2.1 (g.1.2.1 x.toNatClampNeg).toNatClampNeg
      rw [gs] at r0
      refine pc_oC1 (p_X4_shareOf uS _ _ (by show (g.1.2.1 x.toNatClampNeg).toInt = (((g.1.2.1 x.toNatClampNeg).toInt.toNat : Nat) : Int); omega) p32) (fun r hr => pc_ite (fun q => pc_some (Or.inl ⟨rfl, fun w => ?_⟩)) (fun q => pc_bnd (ih _ (by omega) (fun i hi hi2 => ?_))))
      · have := w.2 x.toNatClampNeg (by rw [enx]; omega)
        rw [hr, gs] at q
        rw [q, li_0] at this
        omega
      · rw [e1] at hi
        rcases Int.lt_or_le i x.toInt with y | y
        · exact hA i y hi2
        · have ei : i = x.toNatClampNeg := by
            rw [enx]
            omega
          rw [ei]
          have q1 := ne32 q
          rw [hr, gs, li_0] at q1
          omega
theorem p_X6_isWritable {g : GH} (uX uS : OS) (h : IX g uX) (hS : IS uS) (hG : IG g.2 uS) (hK : LK g.1.2.2 g.2) : pc (f_X6_isWritable uX uS) (fun r => (r = 0 ∧ ¬ WR g) ∨ (r = 1 ∧ WR g)) := by
  unfold f_X6_isWritable
  refine pc_ite (fun c => pc_some (Or.inl ⟨rfl, fun w => ?_⟩)) (fun c => p_X6_isWritable_L14 uX uS h hS hG ?_ FU (0 : Int32) (by decide) (fun i hi => by rw [li_0] at hi; omega))
  · rw [hG.2.1] at c
    have := w.1
    rw [c] at this
    exact absurd this (by decide)
  · rcases hK.fl with q | q
    · rw [hG.2.1] at c
      exact absurd q c
    · exact q

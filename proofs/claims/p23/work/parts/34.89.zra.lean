-- ===== a row =====
def rowR (t : OT) (F : Int32) (k : Nat) (sh : Nat → Int32) (ln : Nat) : Nat → Nat → RW → Int32 × (Nat → Int32) → RW × Int32 × (Nat → Int32)
  | 0, _, w, q => (w, q)
  | c + 1, i, w, q => if (rdG t F k sh (i % ln) w).1.1.2.1 = (0 : Int32) then rowR t F k sh ln c (i + 1) (rdG t F k sh (i % ln) w).1 (q.1 + (1 : Int32), upd q.2 q.1.toNatClampNeg (rdG t F k sh (i % ln) w).2) else ((rdG t F k sh (i % ln) w).1, q)
theorem rowR_g {t : OT} {F : Int32} {k : Nat} {sh : Nat → Int32} {ln c i : Nat} {w : RW} {q : Int32 × (Nat → Int32)} (z : (rdG t F k sh (i % ln) w).1.1.2.1 = (0 : Int32)) : rowR t F k sh ln (c + 1) i w q = rowR t F k sh ln c (i + 1) (rdG t F k sh (i % ln) w).1 (q.1 + (1 : Int32), upd q.2 q.1.toNatClampNeg (rdG t F k sh (i % ln) w).2) := by
  rw [rowR, if_pos z]
theorem rowR_e {t : OT} {F : Int32} {k : Nat} {sh : Nat → Int32} {ln c i : Nat} {w : RW} {q : Int32 × (Nat → Int32)} (z : ¬ (rdG t F k sh (i % ln) w).1.1.2.1 = (0 : Int32)) : rowR t F k sh ln (c + 1) i w q = ((rdG t F k sh (i % ln) w).1, q) := by
  rw [rowR, if_neg z]
theorem md_l {i ln : Nat} (h : ln = 1 ∨ ln = 2 ∨ ln = 4) : i % ln < ln ∧ ln ≤ 4 := by
  rcases h with q | q | q <;> subst q <;> exact ⟨Nat.mod_lt _ (by decide), by decide⟩
theorem row_b {t : OT} (h8 : T8 t) {F : Int32} (hF : F = 0 ∨ F = 1 ∨ F = 2 ∨ F = 3) {k : Nat} {sh : Nat → Int32} (hG : GSH k sh) {ln : Nat} (hln : ln = 1 ∨ ln = 2 ∨ ln = 4) : ∀ (c i : Nat) (w : RW) (q : Int32 × (Nat → Int32)), SK t w.1 → SPF F k ln w.2 → SK t (rowR t F k sh ln c i w q).1.1 := by
  intro c
  induction c with
  | zero => intro i w q hk _; exact hk
  | succ c ih =>
    intro i w q hk hS
    have m := md_l (i := i) hln
    have r := rdG_ok (t := t) h8 hF hG m.1 hk hS
    by_cases z : (rdG t F k sh (i % ln) w).1.1.2.1 = (0 : Int32)
    · rw [rowR_g z]
      exact ih _ _ _ r.2.1 r.1
    · rw [rowR_e z]
      exact r.2.1
set_option maxHeartbeats 1000000 in
theorem r_L156 {t : OT} (h8 : T8 t) {F : Int32} (hF : F = 0 ∨ F = 1 ∨ F = 2 ∨ F = 3) {k : Nat} {sh : Nat → Int32} (hG : GSH k sh) {ln : Nat} (hln : ln = 1 ∨ ln = 2 ∨ ln = 4) {r6 : Int32} {N : Nat} (hr : r6.toInt = N) (hN : N ≤ 65535) (u0 : OS) (h30 : u0.1 30 = F) (h31 : u0.1 31 = nI ln) (hT0 : RTM2 k sh u0) {Q : OS → Prop} (K : Int32 → OS → Option OS) (T : RW × Int32 × (Nat → Int32)) (hK : ∀ x v, MR t T.1.1 v → (∀ i, i < ln → v.2.2.1 33 i = T.1.2 i) → RSF u0 v → v.1 25 = T.2.1 → (∀ j : Nat, (j : Int) < T.2.1.toInt → v.2.1 24 j = T.2.2 j) → pc (K x v) Q) : ∀ (n c i : Nat) (x : Int32) (u : OS) (w : RW) (q : Int32 × (Nat → Int32)), x = nI i → i + c = N → q.1.toInt = (i : Int) → w.1.2.1 = 0 → SPF F k ln w.2 → rowR t F k sh ln c i w q = T → MR t w.1 u → (∀ j, j < ln → u.2.2.1 33 j = w.2 j) → RSF u0 u → u.1 25 = q.1 → (∀ j : Nat, (j : Int) < q.1.toInt → u.2.1 24 j = q.2 j) → pc (f_X7_readAll_L156 r6 n K x u) Q := by
  intro n
  induction n with
  | zero => intro c i x u w q _ _ _ _ _ _ _ _ _ _ _; exact pc_none
  | succ n ih =>
    intro c i x u w q hx hc hq z hS hT h hst hFr h25 h24
    have ex : x.toInt = i := by rw [hx, nI_toInt (by omega)]
    have e31 : u.1 31 = nI ln := (hFr.1 31 (by decide) (by decide) (by decide) (by decide) (by decide) (by decide)).trans h31
    have e30 : u.1 30 = F := (hFr.1 30 (by decide) (by decide) (by decide) (by decide) (by decide) (by decide)).trans h30
    unfold f_X7_readAll_L156
    refine pc_ite (fun d => ?_) (fun d => pc_ite (fun z27 => ?_) (fun z27 => absurd (h.2.1.trans z) z27))
    · have d1 := Int32.le_iff_toInt_le.mp d
      rw [hr, ex] at d1
      have c0 : c = 0 := by omega
      subst c0
      have hT : (w, q) = T := hT
      rw [← hT] at hK
      exact hK _ u h hst hFr h25 h24
    have d1 := mt Int32.le_iff_toInt_le.mpr d
    rw [hr, ex] at d1
    obtain ⟨c', rfl⟩ : ∃ c', c = c' + 1 := ⟨c - 1, by omega⟩
    have e1 : x + (1 : Int32) = nI (i + 1) := by rw [hx, nI_1]
    have m := md_l (i := i) hln
    have ln32 : (nI ln).toInt = (ln : Int) := nI_toInt (by omega)
    have la := lnr (x := x) (l := nI ln) ex ln32 hln
    rw [e31]
    refine pc_gdz (pc_oC1 (r_readSign (t := t) h8 hF hG (ln := ln) (l := i % ln) _ la.1 m.1 u e30 (hT0.fr hFr) w z hS h hst) (fun v hv => pc_bnd ?_))
    have ro := rdG_ok (t := t) h8 hF hG m.1 h.2.2.2.2 hS
    by_cases zz : (rdG t F k sh (i % ln) w).1.1.2.1 = (0 : Int32)
    · rw [rowR_g zz] at hT
      have kv := hv.2.2.2.1 zz
      have eq1 := inc32 (x := q.1) (by omega)
      refine ih c' (i + 1) _ v _ (q.1 + (1 : Int32), upd q.2 q.1.toNatClampNeg (rdG t F k sh (i % ln) w).2) e1 (by omega) (by show (q.1 + (1 : Int32)).toInt = _; omega) zz ro.1 hT hv.1 hv.2.1 (hFr.tr hv.2.2.1) ?_ (fun j hj => ?_)
      · rw [kv.1, h25]
      · have hj : (j : Int) < (q.1 + (1 : Int32)).toInt := hj
        show v.2.1 24 j = upd q.2 q.1.toNatClampNeg (rdG t F k sh (i % ln) w).2 j
        rw [kv.2, h25]
        unfold upd
        by_cases e : j = q.1.toNatClampNeg
        · rw [if_pos e, if_pos e]
        · rw [if_neg e, if_neg e]
          have e : ¬ j = q.1.toInt.toNat := e
          exact h24 j (by omega)
    · rw [rowR_e zz] at hT
      have kv := hv.2.2.2.2 zz
      rw [← hT] at hK
      have hk : ∀ x2, pc (K x2 v) Q := fun x2 => hK x2 v hv.1 hv.2.1 (hFr.tr hv.2.2.1) (kv.1.trans h25) (fun j hj => by rw [kv.2]; exact h24 j hj)
      cases n with
      | zero => exact pc_none
      | succ n =>
        unfold f_X7_readAll_L156
        exact pc_ite (fun _ => hk _) (fun _ => pc_ite (fun q2 => absurd (hv.1.2.1.symm.trans q2) zz) (fun _ => hk _))
-- the class
def CAPR (u : OS) : Prop := (0 ≤ (u.1 3).toInt ∧ (u.1 3).toInt ≤ u.2.2.2 2) ∧ (1 ≤ u.2.2.2 2 ∧ u.2.2.2 2 ≤ 65535)
theorem x_keep (R : OS) (p : Int32) (h : CAPR R) (hl : (R.1 3).toInt < 65535) : pcA (f_X3_keep R p) (fun v => v.1 3 = R.1 3 + (1 : Int32) ∧ (∀ j : Nat, (j : Int) < (R.1 3).toInt + 1 → v.2.1 2 j = upd (R.2.1 2) (R.1 3).toNatClampNeg p j) ∧ (∀ k, k ≠ 3 → v.1 k = R.1 k) ∧ v.2.2.1 = R.2.2.1 ∧ CAPR v) := by
  obtain ⟨⟨h0, h1⟩, h2, h3⟩ := h
  unfold f_X3_keep
  refine pcA_oA2 (pcA_ok (s_withRoom (lm := 65535) (R.2.1 2) h2 li_65535 h3 (by decide) (by omega))) (fun n f kc ks hr => ?_)
  obtain ⟨m', n', r1, r2, r3, r4, _, _⟩ := hr
  have r1 : R.2.2.2 2 ≤ n := r1
  have r2 : n ≤ 65535 := r2
  have r3 : (R.1 3).toInt < n ∨ (65535 : Int32).toInt ≤ (R.1 3).toInt := r3
  have r4 : ∀ i, i < R.2.2.2 2 → f i = R.2.1 2 i := r4
  rw [li_65535] at r3
  have en := nIt (n := n) (by omega)
  have e1 := inc32 (x := R.1 3) (by omega)
  refine pcA_addc (pcA_bnd (pcA_ite (fun c => ?_) (fun c => pcA_gdi (fun _ _ => pcA_bnd (pcA_bnd (pcA_some ⟨rfl, fun j hj => ?_, fun k hk => va_ne (f := R.1) hk, rfl, ⟨?_, ?_⟩, ?_, r2⟩))))))
  · exfalso
    have c : nI n ≤ R.1 3 := c
    have c1 := Int32.le_iff_toInt_le.mp c
    rw [en] at c1
    omega
  · show upd f (R.1 3).toNatClampNeg p j = _
    unfold upd
    by_cases z : j = (R.1 3).toNatClampNeg
    · rw [if_pos z, if_pos z]
    · rw [if_neg z, if_neg z]
      have z : ¬ j = (R.1 3).toInt.toNat := z
      exact r4 j (by omega)
  · show 0 ≤ (R.1 3 + (1 : Int32)).toInt
    omega
  · show (R.1 3 + (1 : Int32)).toInt ≤ ((n : Nat) : Int)
    omega
  · show 1 ≤ n
    omega
theorem and_ln {i ln : Nat} (hi : i < 100000) (hln : ln = 1 ∨ ln = 2 ∨ ln = 4) : (nI i &&& (nI ln - (1 : Int32))) = nI (i % ln) := by
  have key : ∀ j : Nat, j ≤ 2 → ln = 2 ^ j → (nI i &&& (nI ln - (1 : Int32))) = nI (i % ln) := by
    intro j hj e
    have l4 := (md_l (i := i) hln).2
    have pj := Nat.two_pow_pos j
    have ei : (nI i).toInt = (i : Int) := nI_toInt (by omega)
    have el : (nI ln).toInt = (ln : Int) := nI_toInt (by omega)
    have e1 : (nI ln - (1 : Int32)).toInt = (ln : Int) - 1 := by rw [sub32 (by rw [el, li_1]; omega) (by rw [el, li_1]; omega), el, li_1]
    have n1 := tn32x (x := nI ln - (1 : Int32)) (by omega)
    have n2 := tn32x (x := nI i) (by omega)
    have p := and32 (nI i) (nI ln - (1 : Int32)) (by omega)
    have n3 := tn32x p.1
    have h3 : (nI i &&& (nI ln - (1 : Int32))).toBitVec.toNat = (nI i).toBitVec.toNat % 2 ^ j := by
      rw [Int32.toBitVec_and, BitVec.toNat_and]
      have e2 : (nI ln - (1 : Int32)).toBitVec.toNat = 2 ^ j - 1 := by omega
      rw [e2, Nat.and_two_pow_sub_one_eq_mod]
    have e3 : (nI i).toBitVec.toNat = i := by omega
    have mm : i % ln < ln := (md_l (i := i) hln).1
    refine Int32.toInt_inj.mp ?_
    rw [← n3, h3, e3, ← e, nI_toInt (by omega)]
  rcases hln with q | q | q
  · exact key 0 (by decide) q
  · exact key 1 (by decide) q
  · exact key 2 (by decide) q
def XROW (t : OT) (T : RW × Int32 × (Nat → Int32)) (ln : Nat) (R v : OS) : Prop := XR t T.1.1 v ∧ (∀ i, i < ln → v.2.2.1 1 i = T.1.2 i) ∧ v.1 3 = T.2.1 ∧ (∀ j : Nat, (j : Int) < T.2.1.toInt → v.2.1 2 j = T.2.2 j) ∧ (∀ k, k ≠ 3 → k ≠ 4 → k ≠ 5 → k ≠ 6 → k ≠ 7 → v.1 k = R.1 k)
set_option maxHeartbeats 1000000 in
theorem x_L17 {t : OT} (h8 : T8 t) {F : Int32} (hF : F = 0 ∨ F = 1 ∨ F = 2 ∨ F = 3) {k : Nat} {sh : Nat → Int32} (hG : GSH k sh) {ln : Nat} (hln : ln = 1 ∨ ln = 2 ∨ ln = 4) {r6 : Int32} {N : Nat} (hr : r6.toInt = N) (hN : N ≤ 65535) (O Z : OS) (hO : XO t O) (hZ : RTX2 F k sh Z) (u0 : OS) (h0_8 : u0.1 8 = F) (h9 : u0.1 9 = nI ln) (h10 : u0.1 10 = r6) (T : RW × Int32 × (Nat → Int32)) : ∀ (n c i : Nat) (x : Int32) (u : OS) (w : RW) (q : Int32 × (Nat → Int32)), x = nI i → i + c = N → q.1.toInt = (i : Int) → w.1.2.1 = 0 → (¬ F = 2 → w.1.2.2 = 0) → SPF F k ln w.2 → rowR t F k sh ln c i w q = T → XR t w.1 u → (∀ j, j < ln → u.2.2.1 1 j = w.2 j) → (∀ k, k ≠ 3 → k ≠ 4 → k ≠ 5 → k ≠ 6 → k ≠ 7 → u.1 k = u0.1 k) → u.1 3 = q.1 → (∀ j : Nat, (j : Int) < q.1.toInt → u.2.1 2 j = q.2 j) → CAPR u → pcA (f_X3_takeRow_L17 O Z n x u) (fun v => XROW t T ln u0 v.1) := by
  intro n
  induction n with
  | zero => intro c i x u w q _ _ _ _ _ _ _ _ _ _ _ _ _; exact pcA_none
  | succ n ih =>
    intro c i x u w q hx hc hq z b0 hS hT h hst hFr h3 h2 hC
    have ex : x.toInt = i := by rw [hx, nI_toInt (by omega)]
    have e8 : u.1 8 = F := (hFr 8 (by decide) (by decide) (by decide) (by decide) (by decide)).trans h0_8
    have e9 : u.1 9 = nI ln := (hFr 9 (by decide) (by decide) (by decide) (by decide) (by decide)).trans h9
    have e10 : u.1 10 = r6 := (hFr 10 (by decide) (by decide) (by decide) (by decide) (by decide)).trans h10
    have fin : c = 0 → XROW t T ln u0 u := by
      intro c0
      subst c0
      have hT : (w, q) = T := hT
      rw [← hT]
      exact ⟨h, hst, h3, h2, hFr⟩
    unfold f_X3_takeRow_L17
    rw [e10, e9]
    refine pcA_ite (fun d => pcA_some (fin ?_)) (fun d => pcA_ite (fun d2 => pcA_some (fin ?_)) (fun d2 => ?_))
    · have d1 := Int32.le_iff_toInt_le.mp d
      rw [hr, ex] at d1
      omega
    · have d1 := Int32.le_iff_toInt_le.mp d2
      rw [li_65535, ex] at d1
      omega
    have d1 := mt Int32.le_iff_toInt_le.mpr d
    rw [hr, ex] at d1
    obtain ⟨c', rfl⟩ : ∃ c', c = c' + 1 := ⟨c - 1, by omega⟩
    have e1 : x + (1 : Int32) = nI (i + 1) := by rw [hx, nI_1]
    have m := md_l (i := i) hln
    have la : (x &&& (nI ln - (1 : Int32))) = nI (i % ln) := by rw [hx]; exact and_ln (by omega) hln
    rw [la]
    refine pcA_oC2 (x_takeSign (t := t) h8 hF hG (ln := ln) (l := i % ln) (nI (i % ln)) (nI_toInt (by omega)) m.1 u Z O e8 hZ hO w z b0 hS h hst) (fun v r hv => ?_)
    have ro := rdG_ok (t := t) h8 hF hG m.1 h.2.2.2.2 hS
    have hFv : ∀ k, k ≠ 3 → k ≠ 4 → k ≠ 5 → k ≠ 6 → k ≠ 7 → v.1 k = u0.1 k := fun k a b c d e => (hv.2.2.1.1 k b c d e).trans (hFr k a b c d e)
    have v3 : v.1 3 = q.1 := (hv.2.2.1.1 3 (by decide) (by decide) (by decide) (by decide)).trans h3
    have v2 : ∀ j : Nat, (j : Int) < q.1.toInt → v.2.1 2 j = q.2 j := fun j hj => by rw [hv.2.2.1.2.1]; exact h2 j hj
    have Cv : CAPR v := by
      unfold CAPR at *
      rw [hv.2.2.1.2.2, v3, ← h3]
      exact hC
    refine pcA_ite (fun z4 => ?_) (fun z4 => pcA_some ?_)
    · have zz : (rdG t F k sh (i % ln) w).1.1.2.1 = (0 : Int32) := hv.1.2.1.symm.trans z4
      rw [rowR_g zz] at hT
      have er := hv.2.2.2 zz
      have eq1 := inc32 (x := q.1) (by omega)
      refine pcA_oA1 (x_keep v r Cv (by rw [v3]; omega)) (fun y kc ks hy => pcA_addc (pcA_bnd ?_))
      obtain ⟨y3, y2, yk, yl, yC⟩ := hy
      rw [v3] at y3 y2
      refine ih c' (i + 1) _ y _ (q.1 + (1 : Int32), upd q.2 q.1.toNatClampNeg (rdG t F k sh (i % ln) w).2) e1 (by omega) (by show (q.1 + (1 : Int32)).toInt = _; omega) zz (fun f2 => (ro.2.2 f2).trans (b0 f2)) ro.1 hT ⟨?_, ?_, ?_, fun q => ?_, hv.1.2.2.2.2⟩ (fun j hj => by rw [yl]; exact hv.2.1 j hj) (fun k a b c d e => (yk k a).trans (hFv k a b c d e)) y3 (fun j hj => ?_) yC
      · rw [yk 5 (by decide)]; exact hv.1.1
      · rw [yk 4 (by decide)]; exact hv.1.2.1
      · rw [yk 7 (by decide)]; exact hv.1.2.2.1
      · rw [yk 6 (by decide)]; exact hv.1.2.2.2.1 q
      · have hj : (j : Int) < (q.1 + (1 : Int32)).toInt := hj
        show y.2.1 2 j = upd q.2 q.1.toNatClampNeg (rdG t F k sh (i % ln) w).2 j
        have er : r = (rdG t F k sh (i % ln) w).2 := er
        rw [y2 j (by omega), er]
        unfold upd
        by_cases e : j = q.1.toNatClampNeg
        · rw [if_pos e, if_pos e]
        · rw [if_neg e, if_neg e]
          have e : ¬ j = q.1.toInt.toNat := e
          exact v2 j (by omega)
    · have zz : ¬ (rdG t F k sh (i % ln) w).1.1.2.1 = (0 : Int32) := fun q => z4 (hv.1.2.1.trans q)
      rw [rowR_e zz] at hT
      rw [← hT]
      exact ⟨hv.1, hv.2.1, v3, v2, hFv⟩
-- ===== the end =====
def JGA (F lg : Int32) (ln : Nat) (w : RW) : Prop := ∀ i, i < ln → w.2 i = fsF F lg
def JG (t : OT) (F lg : Int32) (ln : Nat) (w : RW) (B : Int32) : Prop := (¬ JGA F lg ln w ∧ B = 5) ∨ (JGA F lg ln w ∧ (w.1.1 < t.1 ∨ rsd t w.1) ∧ B = 6) ∨ (JGA F lg ln w ∧ ¬ (w.1.1 < t.1 ∨ rsd t w.1) ∧ B = 0)
theorem JG_ex (t : OT) (F lg : Int32) (ln : Nat) (w : RW) : ∃ B, JG t F lg ln w B := by
  rcases Classical.em (JGA F lg ln w) with a | a
  · rcases Classical.em (w.1.1 < t.1 ∨ rsd t w.1) with b | b
    · exact ⟨6, Or.inr (Or.inl ⟨a, b, rfl⟩)⟩
    · exact ⟨0, Or.inr (Or.inr ⟨a, b, rfl⟩)⟩
  · exact ⟨5, Or.inl ⟨a, rfl⟩⟩
theorem r_L186 {F lg : Int32} (u : OS) (h30 : u.1 30 = F) (h10 : u.2.1 10 1 = lg) {ln : Nat} (h31 : u.1 31 = nI ln) (hln : ln ≤ 4) (st : Nat → Int64) (hst : ∀ i, i < ln → u.2.2.1 33 i = st i) (z : u.1 27 = 0) {Q : OS → Prop} (K : Int32 → OS → Option OS) (hA : (∀ i, i < ln → st i = fsF F lg) → ∀ x, pc (K x u) Q) (hB : ¬ (∀ i, i < ln → st i = fsF F lg) → ∀ x, pc (K x (sF u 27 (5 : Int32))) Q) : ∀ (n j : Nat) (x : Int32), x = nI j → j ≤ ln → (∀ i, i < j → st i = fsF F lg) → pc (f_X7_readAll_L186 n K x u) Q := by
  have e10 : u.2.1 10 ((1 : Int32)).toNatClampNeg = lg := h10
  have eln : (nI ln).toInt = (ln : Int) := nI_toInt (by omega)
  intro n
  induction n with
  | zero => intro j x _ _ _; exact pc_none
  | succ n ih =>
    intro j x hx hj hall
    have ex : x.toInt = j := by rw [hx, nI_toInt (by omega)]
    have exn : x.toNatClampNeg = j := by
      show x.toInt.toNat = j
      omega
    unfold f_X7_readAll_L186
    rw [h31, h30, e10]
    refine pc_ite (fun d => hA (fun i hi => ?_) x) (fun d => pc_ite (fun _ => ?_) (fun q => absurd z q))
    · have d1 := Int32.le_iff_toInt_le.mp d
      rw [eln, ex] at d1
      exact hall i (by omega)
    have d1 := mt Int32.le_iff_toInt_le.mpr d
    rw [eln, ex] at d1
    have jl : j < ln := by omega
    rw [exn, hst j jl]
    refine pc_gdi (fun _ _ => pc_gdi (fun _ _ => pc_oC1 (p_X7_firstState F lg) (fun r hr => pc_ite (fun e => pc_bnd (ih (j + 1) _ (by rw [hx, nI_1]) (by omega) (fun i hi => ?_))) (fun e => pc_oC1 (r_fail u 5) (fun v hv => pc_bnd ?_)))))
    · by_cases q : i = j
      · rw [q, e, hr]
      · exact hall i (by omega)
    · rw [if_pos z] at hv
      have nall : ¬ (∀ i, i < ln → st i = fsF F lg) := fun q => e (by rw [q j jl, hr])
      have hk : ∀ x2, pc (K x2 v) Q := fun x2 => by rw [hv]; exact hB nall x2
      have v27 : ¬ v.1 27 = (0 : Int32) := by
        rw [hv]
        show ¬ (5 : Int32) = 0
        decide
      cases n with
      | zero => exact pc_none
      | succ n =>
        unfold f_X7_readAll_L186
        exact pc_ite (fun _ => hk _) (fun _ => pc_ite (fun q2 => absurd q2 v27) (fun _ => hk _))
theorem r_L244 {t : OT} (h8 : T8 t) {Q : OS → Prop} (K : Int32 → OS → Option OS) (u0 : OS) (s1 : RC) (P : Prop) (hK : ∀ x v, (x = 0 ↔ P) → MR t (s1.1, s1.2.1, (0 : Int32)) v → MF u0 v → pc (K x v) Q) : ∀ (n : Nat) (x : Int32) (u : OS) (s : RC), s.1 = s1.1 → s.2.1 = s1.2.1 → s1.2.1 = 0 → ((x = 0 ∨ rsd t s) ↔ P) → (x = 0 ∨ x = 1) → MR t s u → MF u0 u → pc (f_X7_readAll_L244 n K x u) Q := by
  intro n
  induction n with
  | zero => intro x u s _ _ _ _ _ _ _; exact pc_none
  | succ n ih =>
    intro x u s e1 e2 z hP hx h hF
    unfold f_X7_readAll_L244
    refine pc_ite (fun c => ?_) (fun c => pc_oC2 (r_nextBit u h) (fun v r hv => ?_))
    · have c1 := i0_le.mp c
      have b : s.2.2 = 0 := by
        have := h.2.2.2.2.2.2.2.2.1.1
        rw [h.2.2.1] at c1
        exact Int32.toInt_inj.mp (by rw [li_0]; omega)
      refine hK x u ?_ ⟨h.1.trans e1, h.2.1.trans e2, h.2.2.1.trans b, h.2.2.2.1, ?_⟩ hF
      · rw [← hP]
        exact ⟨Or.inl, fun q => q.elim id (fun w => absurd w (rsd_0 b))⟩
      · have k := h.2.2.2.2
        rw [← e1, ← e2]
        exact ⟨k.1, k.2.1, k.2.2.1, k.2.2.2.1, ⟨by show 0 ≤ (0 : Int32).toInt; decide, by show (0 : Int32).toInt ≤ 8; decide⟩, Or.inl li_0⟩
    · have b : ¬ s.2.2 = 0 := fun q => c (by rw [h.2.2.1, q]; decide)
      have eS := sB_t (t := t) b
      have hv1 : MR t (btr t s).1 v := by rw [← eS]; exact hv.1
      have er : r = (btr t s).2 := by rw [← eS]; exact hv.2.1
      have rs := rsd_s h.2.2.2.2 h8 b
      rw [rs] at hP
      have nx : ∀ x2 : Int32, ((x2 = 0 ∨ rsd t (btr t s).1) ↔ P) → (x2 = 0 ∨ x2 = 1) → pc (f_X7_readAll_L244 n K x2 v) Q := fun x2 a1 a2 => ih x2 v (btr t s).1 e1 e2 z a1 a2 hv1 (hF.tr hv.2.2)
      refine pc_ite (fun r0 => pc_ite (fun x0 => nx 0 ?_ (Or.inl rfl)) (fun x0 => nx 1 ?_ (Or.inr rfl))) (fun r0 => nx 0 ?_ (Or.inl rfl))
      · rw [← hP]
        exact ⟨fun _ => Or.inl x0, fun _ => Or.inl rfl⟩
      · rw [← hP]
        rw [er] at r0
        exact ⟨fun q => q.elim (fun w => absurd w (by decide)) (fun w => Or.inr (Or.inr w)), fun q => q.elim (fun w => absurd w x0) (fun w => w.elim (fun w2 => absurd r0 w2) Or.inr)⟩
      · rw [← hP]
        rw [er] at r0
        exact ⟨fun _ => Or.inr (Or.inl r0), fun _ => Or.inl rfl⟩
theorem x_L18 {F lg : Int32} (R : OS) {ln : Nat} (h9 : R.1 9 = nI ln) (hln : ln ≤ 4) (st : Nat → Int64) (hst : ∀ i, i < ln → R.2.2.1 1 i = st i) (r1 : Int64) (h1 : r1 = fsF F lg) {Q : OS → Prop} (K K' : Int32 → Option OS) (hB : ¬ (∀ i, i < ln → st i = fsF F lg) → ∀ x, pc (K x) Q) (hA : (∀ i, i < ln → st i = fsF F lg) → ∀ x, pc (K' x) Q) : ∀ (n j : Nat) (x : Int32), x = nI j → j ≤ ln → (∀ i, i < j → st i = fsF F lg) → pc (f_X3_judgeEnd_L18 R r1 n K K' x) Q := by
  have eln : (nI ln).toInt = (ln : Int) := nI_toInt (by omega)
  intro n
  induction n with
  | zero => intro j x _ _ _; exact pc_none
  | succ n ih =>
    intro j x hx hj hall
    have ex : x.toInt = j := by rw [hx, nI_toInt (by omega)]
    have exn : x.toNatClampNeg = j := by
      show x.toInt.toNat = j
      omega
    unfold f_X3_judgeEnd_L18
    rw [h9]
    refine pc_ite (fun d => hA (fun i hi => ?_) x) (fun d => pc_ite (fun d2 => hA (fun i hi => ?_) x) (fun d2 => pc_gdi (fun _ _ => ?_)))
    · have d1 := Int32.le_iff_toInt_le.mp d
      rw [eln, ex] at d1
      exact hall i (by omega)
    · have d1 := Int32.le_iff_toInt_le.mp d2
      rw [li_4, ex] at d1
      exact hall i (by omega)
    have d1 := mt Int32.le_iff_toInt_le.mpr d
    rw [eln, ex] at d1
    have jl : j < ln := by omega
    rw [exn, hst j jl]
    refine pc_ite (fun e => pc_bnd (ih (j + 1) _ (by rw [hx, nI_1]) (by omega) (fun i hi => ?_))) (fun e => hB (fun q => e (by rw [q j jl, h1])) x)
    by_cases q : i = j
    · rw [q, e, h1]
    · exact hall i (by omega)
theorem x_judgeEnd {t : OT} {F lg : Int32} {k : Nat} (k1 : 5 ≤ k) (k2 : k ≤ 12) (hlg : lg = nI k) {ln : Nat} (hln : ln ≤ 4) (R Z O : OS) (h8 : R.1 8 = F) (h9 : R.1 9 = nI ln) (hz1 : Z.1 1 = (1 : Int32) <<< (lg &&& (31 : Int32))) (hO : XO t O) (w : RW) (h : XR t w.1 R) (hst : ∀ i, i < ln → R.2.2.1 1 i = w.2 i) (z : w.1.2.1 = 0) (B : Int32) (hJ : JG t F lg ln w B) : pc (f_X3_judgeEnd R Z O) (fun v => v.1 4 = B ∧ XF R v ∧ v.1 5 = R.1 5) := by
  have on := hO.n
  unfold f_X3_judgeEnd
  rw [h8, hz1]
  refine pc_oC1 (p_X6_firstState k1 k2 hlg rfl) (fun r1 hr1 => pc_bnd (pc_bnd ?_))
  refine x_L18 R h9 hln w.2 hst r1 hr1 _ _ ?_ ?_ FU 0 0 rfl (Nat.zero_le _) (fun i hi => absurd hi (Nat.not_lt_zero i))
  · intro nall x
    have e : B = 5 := by
      rcases hJ with ⟨_, e⟩ | ⟨a, _⟩ | ⟨a, _⟩
      · exact e
      · exact absurd a nall
      · exact absurd a nall
    exact pc_bnd (pc_some ⟨e.symm, XF.s4, rfl⟩)
  · intro all x
    have six : (w.1.1 < t.1 ∨ rsd t w.1) → B = 6 := by
      intro c
      rcases hJ with ⟨a, _⟩ | ⟨_, _, e⟩ | ⟨_, a, _⟩
      · exact absurd all a
      · exact e
      · exact absurd c a
    refine pc_ite (fun c => pc_bnd (pc_some ⟨(six (Or.inl ?_)).symm, XF.s4, rfl⟩)) (fun c => pc_oC1 (x_restIsSet R h) (fun a ha => pc_ite (fun a0 => pc_some ⟨?_, XF.rf, rfl⟩) (fun a0 => pc_bnd (pc_some ⟨(six (Or.inr ?_)).symm, XF.s4, rfl⟩))))
    · rw [h.1, on.1] at c
      exact c
    · have nr : ¬ rsd t w.1 := by
        rcases ha with q | q
        · exact q.2
        · rw [a0] at q
          exact absurd q.1 (by decide)
      have e : B = 0 := by
        rcases hJ with ⟨a, _⟩ | ⟨_, a, _⟩ | ⟨_, _, e⟩
        · exact absurd all a
        · rw [h.1, on.1] at c
          exact absurd a (fun q => q.elim c nr)
        · exact e
      rw [e]
      exact h.2.1.trans z
    · rcases ha with q | q
      · exact absurd q.1 a0
      · exact q.2

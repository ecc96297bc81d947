-- ===== the same by words =====
def nrW (t : OT) : Nat → RC × Int64 → RC × Int64
  | 0, q => q
  | k + 1, q => if (2147483648 : Int64) ≤ q.2 then q else if q.1.2.1 = (0 : Int32) then nrW t k ((sW t 4 (q.1, 0)).1, (q.2 <<< (((32 : Int32)).toInt64 &&& (63 : Int64))) ||| (sW t 4 (q.1, 0)).2) else q
theorem nrW_d {t : OT} {q : RC × Int64} (h : (2147483648 : Int64) ≤ q.2) : ∀ k : Nat, nrW t k q = q := by
  intro k
  cases k with
  | zero => rfl
  | succ k => rw [nrW, if_pos h]
theorem nrW_b {t : OT} {q : RC × Int64} (h : ¬ q.1.2.1 = (0 : Int32)) : ∀ k : Nat, nrW t k q = q := by
  intro k
  cases k with
  | zero => rfl
  | succ k =>
    rw [nrW]
    by_cases c : (2147483648 : Int64) ≤ q.2
    · rw [if_pos c]
    · rw [if_neg c, if_neg h]
theorem nrW_s {t : OT} {q : RC × Int64} (c : ¬ (2147483648 : Int64) ≤ q.2) (h : q.1.2.1 = (0 : Int32)) (k : Nat) : nrW t (k + 1) q = nrW t k ((sW t 4 (q.1, 0)).1, (q.2 <<< (((32 : Int32)).toInt64 &&& (63 : Int64))) ||| (sW t 4 (q.1, 0)).2) := by
  rw [nrW, if_neg c, if_pos h]
theorem nrW_2 {t : OT} : ∀ (k : Nat) (q : RC × Int64), (nrW t k q).1.2.2 = q.1.2.2 := by
  intro k
  induction k with
  | zero => intro q; rfl
  | succ k ih =>
    intro q
    by_cases c : (2147483648 : Int64) ≤ q.2
    · rw [nrW_d c]
    · by_cases h : q.1.2.1 = (0 : Int32)
      · rw [nrW_s c h, ih]
        have e := sW_2 (t := t) 4 (q.1, 0)
        generalize sW t 4 (q.1, 0) = w at e ⊢
        exact e
      · rw [nrW_b h]
theorem nrW_k {t : OT} : ∀ (k : Nat) (q : RC × Int64), SK t q.1 → SK t (nrW t k q).1 := by
  intro k
  induction k with
  | zero => intro q h; exact h
  | succ k ih =>
    intro q hk
    by_cases c : (2147483648 : Int64) ≤ q.2
    · rw [nrW_d c]; exact hk
    · by_cases h : q.1.2.1 = (0 : Int32)
      · rw [nrW_s c h]
        exact ih _ (SK.w 4 (q.1, 0) hk)
      · rw [nrW_b h]; exact hk
theorem e231 : (2147483648 : Int64).toInt = 2147483648 := by decide
theorem nrW_r {t : OT} (h8 : T8 t) {q : RC × Int64} (hk : SK t q.1) (y0 : 524288 ≤ q.2.toInt) : ¬ (nrW t 2 q).1.2.1 = 0 ∨ 2147483648 ≤ (nrW t 2 q).2.toInt := by
  by_cases c : (2147483648 : Int64) ≤ q.2
  · rw [nrW_d c]
    have c1 := Int64.le_iff_toInt_le.mp c
    rw [e231] at c1
    exact Or.inr c1
  · by_cases h : q.1.2.1 = (0 : Int32)
    · rw [nrW_s c h]
      have c1 := mt Int64.le_iff_toInt_le.mpr c
      rw [e231] at c1
      have v := sW_4 h8 hk
      have e := or_32v (y := q.2) v (by omega) (by omega)
      have c2 : (2147483648 : Int64) ≤ ((q.2 <<< (((32 : Int32)).toInt64 &&& (63 : Int64))) ||| (sW t 4 (q.1, 0)).2) := Int64.le_iff_toInt_le.mpr (by rw [e231]; omega)
      rw [nrW_d (q := ((sW t 4 (q.1, 0)).1, (q.2 <<< (((32 : Int32)).toInt64 &&& (63 : Int64))) ||| (sW t 4 (q.1, 0)).2)) c2]
      refine Or.inr ?_
      show 2147483648 ≤ ((q.2 <<< (((32 : Int32)).toInt64 &&& (63 : Int64))) ||| (sW t 4 (q.1, 0)).2).toInt
      omega
    · rw [nrW_b h]
      exact Or.inl h
theorem r_L39W {t : OT} (u0 : OS) {Q : OS → Prop} (K : Int64 → OS → Option OS) (T : RC × Int64) (hT : (2147483648 : Int64) ≤ T.2 ∨ ¬ T.1.2.1 = (0 : Int32)) (hK : ∀ v, MR t T.1 v → MF u0 v → pc (K T.2 v) Q) : ∀ (n k : Nat) (y : Int64) (u : OS) (s : RC), nrW t k (s, y) = T → MR t s u → MF u0 u → pc (f_X7_readWords_L39 n K y u) Q := by
  intro n
  induction n with
  | zero => intro k y u s _ _ _; exact pc_none
  | succ n ih =>
    intro k y u s hk h hF
    unfold f_X7_readWords_L39
    refine pc_ite (fun c => ?_) (fun c => pc_ite (fun z => pc_oC2 (r_nextWide (s := s) u 4 4 (by decide) h) (fun v r hv => pc_bnd ?_)) (fun z => ?_))
    · rw [nrW_d (q := (s, y)) c] at hk
      rw [← hk] at hK
      exact hK u h hF
    · have zs : s.2.1 = (0 : Int32) := h.2.1.symm.trans z
      cases k with
      | zero =>
        exfalso
        have hk : (s, y) = T := hk
        rw [← hk] at hT
        exact hT.elim c (fun q => q zs)
      | succ k =>
        rw [nrW_s (q := (s, y)) c zs] at hk
        have er : r = (sW t 4 (s, 0)).2 := hv.2.1
        rw [er]
        exact ih k _ v (sW t 4 (s, 0)).1 hk hv.1 (hF.tr hv.2.2)
    · have zs : ¬ s.2.1 = (0 : Int32) := fun q => z (h.2.1.trans q)
      rw [nrW_b (q := (s, y)) zs] at hk
      rw [← hk] at hK
      exact hK u h hF
def nwW (t : OT) (lg f r : Int32) (l : Nat) (w : RW) : RW := ((nrW t 2 (w.1, yN lg f r (w.2 l))).1, if (nrW t 2 (w.1, yN lg f r (w.2 l))).1.2.1 = (0 : Int32) then vp_updL w.2 l (nrW t 2 (w.1, yN lg f r (w.2 l))).2 else w.2)
theorem r_readWords {t : OT} {lg : Int32} {w : RW} {ln : Nat} (u : OS) (p f r : Int32) (l : Nat) (hp : p.toInt = l) (hl : l < ln) (h10 : u.2.1 10 1 = lg) (h : MR t w.1 u) (hst : ∀ i, i < ln → u.2.2.1 33 i = w.2 i) (hT : (2147483648 : Int64) ≤ (nrW t 2 (w.1, yN lg f r (w.2 l))).2 ∨ ¬ (nrW t 2 (w.1, yN lg f r (w.2 l))).1.2.1 = (0 : Int32)) : pc (f_X7_readWords u p f r) (fun v => MR t (nwW t lg f r l w).1 v ∧ (∀ i, i < ln → v.2.2.1 33 i = (nwW t lg f r l w).2 i) ∧ M33 u v) := by
  have en : p.toNatClampNeg = l := by
    show p.toInt.toNat = l
    omega
  have e10 : u.2.1 10 ((1 : Int32)).toNatClampNeg = lg := h10
  unfold f_X7_readWords
  rw [en, hst l hl, e10]
  refine pc_gdi (fun _ _ => pc_bnd (pc_gdi (fun _ _ => pc_bnd (pc_bnd (pc_bnd (r_L39W u _ _ hT ?_ FU 2 (yN lg f r (w.2 l)) u w.1 rfl h MF.rf))))))
  intro v hv hF
  refine pc_ite (fun z => pc_gdi (fun _ _ => pc_bnd (pc_some ⟨hv, fun i hi => ?_, hF.m33.tr M33.sl⟩))) (fun z => pc_some ⟨hv, fun i hi => ?_, hF.m33⟩)
  · have zz : (nrW t 2 (w.1, yN lg f r (w.2 l))).1.2.1 = (0 : Int32) := hv.2.1.symm.trans z
    rw [sl_at en]
    show _ = (if (nrW t 2 (w.1, yN lg f r (w.2 l))).1.2.1 = (0 : Int32) then vp_updL w.2 l (nrW t 2 (w.1, yN lg f r (w.2 l))).2 else w.2) i
    rw [if_pos zz]
    refine vp_c ?_
    rw [hF.2]
    exact hst i hi
  · have zz : ¬ (nrW t 2 (w.1, yN lg f r (w.2 l))).1.2.1 = (0 : Int32) := fun q => z (hv.2.1.trans q)
    show _ = (if (nrW t 2 (w.1, yN lg f r (w.2 l))).1.2.1 = (0 : Int32) then vp_updL w.2 l (nrW t 2 (w.1, yN lg f r (w.2 l))).2 else w.2) i
    rw [if_neg zz, hF.2]
    exact hst i hi
theorem x_L63W {t : OT} (h8 : T8 t) (O : OS) (hO : XO t O) (u0 : OS) {Q : OS → Prop} (K : Int64 → Int32 → OS → Option OS) (T : RC × Int64) (hE : ¬ T.1.2.1 = 0 → ∀ v, XR t T.1 v → XF u0 v → Q v) (hK : T.1.2.1 = 0 → ∀ x v, XR t T.1 v → XF u0 v → pc (K T.2 x v) Q) : ∀ (n k : Nat) (x : Int32) (y : Int64) (u : OS) (s : RC), x.toInt = 2 - (k : Int) → k ≤ 2 → s.2.1 = 0 → s.2.2 = 0 → nrW t k (s, y) = T → XR t s u → XF u0 u → pc (f_X3_narrow_L63 O (2147483648 : Int64) 4 n K x y u) Q := by
  intro n
  induction n with
  | zero => intro k x y u s _ _ _ _ _ _ _; exact pc_none
  | succ n ih =>
    intro k x y u s hx hk z b hT h hF
    unfold f_X3_narrow_L63
    refine pc_ite (fun c => ?_) (fun c => pc_ite (fun d => ?_) (fun d => ?_))
    · have c1 := Int32.le_iff_toInt_le.mp c
      rw [li_2, hx] at c1
      have : k = 0 := by omega
      subst this
      have hT : (s, y) = T := hT
      rw [← hT] at hK
      exact hK z _ _ h hF
    · rw [nrW_d (q := (s, y)) d] at hT
      rw [← hT] at hK
      exact hK z _ _ h hF
    · have c1 := mt Int32.le_iff_toInt_le.mpr c
      rw [li_2, hx] at c1
      have e1 := inc32 (x := x) (by omega)
      obtain ⟨k', rfl⟩ : ∃ k', k = k' + 1 := ⟨k - 1, by omega⟩
      rw [nrW_s (q := (s, y)) d z] at hT
      have b2 : (sW t 4 (s, 0)).1.2.2 = (0 : Int32) := (sW_2 (t := t) 4 (s, 0)).trans b
      have s4 := or_32 y (sW_4 h8 h.2.2.2.2)
      have xn := x_nextNumber (s := s) u O 4 4 (by decide) h z b hO
      have hT : nrW t k' ((sW t 4 (s, 0)).1, (y <<< (((32 : Int32)).toInt64 &&& (63 : Int64))) ||| (sW t 4 (s, 0)).2) = T := hT
      generalize sW t 4 (s, 0) = w at hT b2 s4 xn
      refine pc_oC2 xn (fun v r hv => pc_ite (fun z4 => pc_bnd (pc_bnd ?_)) (fun z4 => pc_some (hE ?_ v ?_ (hF.tr hv.2.1))))
      · have hv1 : XR t w.1 v := hv.1
        have zz : w.1.2.1 = 0 := hv1.2.1.symm.trans z4
        have er : r = w.2 := hv.2.2 z4
        have es : (((8 : Int32) * (4 : Int32)).toInt64 &&& (63 : Int64)) = (((32 : Int32)).toInt64 &&& (63 : Int64)) := by decide
        rw [es, er, ← s4]
        exact ih k' _ _ v w.1 (by omega) (by omega) zz b2 hT hv1 (hF.tr hv.2.1)
      · have hv1 : XR t w.1 v := hv.1
        have nz : ¬ w.1.2.1 = 0 := fun q => z4 (hv1.2.1.trans q)
        rw [nrW_b (q := (w.1, (y <<< (((32 : Int32)).toInt64 &&& (63 : Int64))) ||| w.2)) nz] at hT
        rw [← hT]
        exact nz
      · have hv1 : XR t w.1 v := hv.1
        have nz : ¬ w.1.2.1 = 0 := fun q => z4 (hv1.2.1.trans q)
        rw [nrW_b (q := (w.1, (y <<< (((32 : Int32)).toInt64 &&& (63 : Int64))) ||| w.2)) nz] at hT
        rw [← hT]
        exact hv1
theorem yN_W {k : Nat} (h1 : 5 ≤ k) (h2 : k ≤ 12) {lg f r : Int32} (hlg : lg = nI k) (x : Int64) (x0 : 2147483648 ≤ x.toInt) (f0 : 1 ≤ f.toInt) (f1 : f.toInt ≤ ((2 ^ k : Nat) : Int)) (r0 : 0 ≤ r.toInt) (r1 : r.toInt ≤ x.toInt % ((2 ^ k : Nat) : Int)) : 524288 ≤ (yN lg f r x).toInt := by
  have v := yN_v (f := f) (r := r) h1 h2 hlg x (by omega) (by omega) f1 r0 r1
  have ak := (powA k (by omega) h1).2.2.2.2.2
  have m0 : 0 ≤ x.toInt % ((2 ^ k : Nat) : Int) := Int.emod_nonneg _ (by omega)
  have q1 : 524288 ≤ x.toInt / ((2 ^ k : Nat) : Int) := by
    refine (Int.le_ediv_iff_mul_le (by omega)).mpr ?_
    omega
  have le : 1 * (x.toInt / ((2 ^ k : Nat) : Int)) ≤ f.toInt * (x.toInt / ((2 ^ k : Nat) : Int)) := Int.mul_le_mul_of_nonneg_right f0 (by omega)
  rw [v.1]
  omega
def LaW (ln : Nat) (st : Nat → Int64) : Prop := ∀ i, i < ln → 2147483648 ≤ (st i).toInt
theorem nwW_ok {t : OT} (h8 : T8 t) {k : Nat} (h1 : 5 ≤ k) (h2 : k ≤ 12) {lg f r : Int32} (hlg : lg = nI k) {ln l : Nat} (hl : l < ln) {w : RW} (hk : SK t w.1) (hS : LaW ln w.2) (f0 : 1 ≤ f.toInt) (f1 : f.toInt ≤ ((2 ^ k : Nat) : Int)) (r0 : 0 ≤ r.toInt) (r1 : r.toInt ≤ (w.2 l).toInt % ((2 ^ k : Nat) : Int)) : ((2147483648 : Int64) ≤ (nrW t 2 (w.1, yN lg f r (w.2 l))).2 ∨ ¬ (nrW t 2 (w.1, yN lg f r (w.2 l))).1.2.1 = (0 : Int32)) ∧ LaW ln (nwW t lg f r l w).2 ∧ SK t (nwW t lg f r l w).1 ∧ (nwW t lg f r l w).1.2.2 = w.1.2.2 := by
  have s := hS l hl
  have y := yN_W (f := f) (r := r) h1 h2 hlg (w.2 l) s f0 f1 r0 r1
  have q := nrW_r (t := t) h8 (q := (w.1, yN lg f r (w.2 l))) hk y
  refine ⟨?_, ?_, nrW_k 2 (w.1, yN lg f r (w.2 l)) hk, nrW_2 2 (w.1, yN lg f r (w.2 l))⟩
  · rcases q with q | q
    · exact Or.inr q
    · exact Or.inl (Int64.le_iff_toInt_le.mpr (by rw [e231]; exact q))
  · intro i hi
    show 2147483648 ≤ ((if (nrW t 2 (w.1, yN lg f r (w.2 l))).1.2.1 = (0 : Int32) then vp_updL w.2 l (nrW t 2 (w.1, yN lg f r (w.2 l))).2 else w.2) i).toInt
    by_cases z : (nrW t 2 (w.1, yN lg f r (w.2 l))).1.2.1 = (0 : Int32)
    · rw [if_pos z]
      unfold vp_updL
      by_cases c : i = l
      · rw [if_pos c]
        rcases q with q | q
        · exact absurd z q
        · exact q
      · rw [if_neg c]
        exact hS i hi
    · rw [if_neg z]
      exact hS i hi
theorem nwW_all {t : OT} {k : Nat} (h1 : 5 ≤ k) (h2 : k ≤ 12) {lg f r : Int32} (hlg : lg = nI k) {ln l : Nat} (hl : l < ln) {w : RW} (z : w.1.2.1 = 0) (hS : LaW ln w.2) (hf : f.toInt = ((2 ^ k : Nat) : Int)) (hr : r.toInt = 0) : (nwW t lg f r l w).1 = w.1 ∧ ∀ i, (nwW t lg f r l w).2 i = w.2 i := by
  have s := hS l hl
  have e := yN_all (f := f) (r := r) h1 h2 hlg (w.2 l) (by omega) hf hr
  have d : nrW t 2 (w.1, yN lg f r (w.2 l)) = (w.1, w.2 l) := by
    rw [e]
    exact nrW_d (q := (w.1, w.2 l)) (Int64.le_iff_toInt_le.mpr (by rw [e231]; exact s)) 2
  unfold nwW
  rw [d]
  refine ⟨rfl, fun i => ?_⟩
  show (if w.1.2.1 = (0 : Int32) then vp_updL w.2 l (w.2 l) else w.2) i = w.2 i
  rw [if_pos z]
  unfold vp_updL
  by_cases c : i = l
  · rw [if_pos c, c]
  · rw [if_neg c]
theorem x_narrowW {t : OT} (h8 : T8 t) {lg : Int32} {k : Nat} (h1 : 5 ≤ k) (h2 : k ≤ 12) (hlg : lg = nI k) {w : RW} {ln : Nat} (R Z O : OS) (hO : XO t O) (p f r : Int32) (l : Nat) (hp : p.toInt = l) (hl : l < ln) (hF8 : R.1 8 = 1) (hz0 : Z.1 0 = lg) (hz1 : Z.1 1 = (1 : Int32) <<< (lg &&& (31 : Int32))) (z : w.1.2.1 = 0) (b : w.1.2.2 = 0) (h : XR t w.1 R) (hst : ∀ i, i < ln → R.2.2.1 1 i = w.2 i) (hx0 : 0 ≤ (w.2 l).toInt) : pc (f_X3_narrow R Z O p f r) (fun v => XR t (nwW t lg f r l w).1 v ∧ (∀ i, i < ln → v.2.2.1 1 i = (nwW t lg f r l w).2 i) ∧ XF3 R v) := by
  have en : p.toNatClampNeg = l := by
    show p.toInt.toNat = l
    omega
  have sk := sk32 h1 h2 hlg
  have e1 : fsF (1 : Int32) lg = (2147483648 : Int64) := by
    unfold fsF
    rw [if_pos rfl]
  unfold f_X3_narrow
  rw [hF8, hz1, hz0]
  refine pc_oC1 (p_X6_firstState h1 h2 hlg rfl) (fun r1 hr1 => pc_bnd ?_)
  rw [if_pos rfl]
  refine pc_gdi (fun _ _ => pc_oC1 (x_restOf R Z p l hp) (fun r6 h6 => pc_bnd_eq (fun y8 e8 => pc_bnd ?_)))
  have ey : y8 = yN lg f r (w.2 l) := by
    rw [e8, h6, en, hst l hl, hz1, rst_e h1 h2 hlg (w.2 l) hx0 sk]
    rfl
  rw [hr1, e1]
  refine x_L63W h8 O hO R _ (nrW t 2 (w.1, yN lg f r (w.2 l))) ?_ ?_ FU 2 0 y8 R w.1 (by rw [li_0]; rfl) (by decide) z b (by rw [ey]) h XF.rf
  · intro nz v hv hF
    refine ⟨hv, fun i hi => ?_, hF.x3⟩
    show _ = (if (nrW t 2 (w.1, yN lg f r (w.2 l))).1.2.1 = (0 : Int32) then vp_updL w.2 l (nrW t 2 (w.1, yN lg f r (w.2 l))).2 else w.2) i
    rw [if_neg nz, hF.2]
    exact hst i hi
  · intro zz x v hv hF
    refine pc_gdi (fun _ _ => pc_bnd (pc_some ⟨⟨hv.1, hv.2.1, hv.2.2.1, hv.2.2.2.1, hv.2.2.2.2⟩, fun i hi => ?_, hF.x3.tr XF3.sl⟩))
    rw [sl_at en]
    show _ = (if (nrW t 2 (w.1, yN lg f r (w.2 l))).1.2.1 = (0 : Int32) then vp_updL w.2 l (nrW t 2 (w.1, yN lg f r (w.2 l))).2 else w.2) i
    rw [if_pos zz]
    refine vp_c ?_
    rw [hF.2]
    exact hst i hi

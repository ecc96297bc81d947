-- ===== the first states =====
def inS (F lg : Int32) (y : Int64) : Prop := if F = (1 : Int32) then ¬ y < (2147483648 : Int64) else if F = (2 : Int32) then ¬ y < ((1 : Int64) <<< (lg.toInt64 &&& (63 : Int64))) ∧ ¬ ((2 : Int64) <<< (lg.toInt64 &&& (63 : Int64))) ≤ y else ¬ y < (8388608 : Int64) ∧ ¬ (2147483648 : Int64) ≤ y
theorem r_isInSpan {lg : Int32} (u : OS) (y : Int64) (hl : u.2.1 10 1 = lg) : pc (f_X7_isInSpan u y) (fun r => (r = 0 ∧ ¬ inS (u.1 30) lg y) ∨ (r = 1 ∧ inS (u.1 30) lg y)) := by
  have e10 : u.2.1 10 ((1 : Int32)).toNatClampNeg = lg := hl
  unfold f_X7_isInSpan inS
  rw [e10]
  refine pc_ite (fun f1 => ?_) (fun f1 => pc_ite (fun f2 => ?_) (fun f2 => ?_))
  · rw [if_pos f1]
    exact pc_ite (fun c => pc_some (Or.inl ⟨rfl, fun q => q c⟩)) (fun c => pc_some (Or.inr ⟨rfl, c⟩))
  · rw [if_neg f1, if_pos f2]
    exact pc_gdi (fun _ _ => pc_ite (fun c => pc_some (Or.inl ⟨rfl, fun q => q.1 c⟩)) (fun c => pc_gdi (fun _ _ => pc_ite (fun d => pc_some (Or.inl ⟨rfl, fun q => q.2 d⟩)) (fun d => pc_some (Or.inr ⟨rfl, c, d⟩)))))
  · rw [if_neg f1, if_neg f2]
    exact pc_ite (fun c => pc_some (Or.inl ⟨rfl, fun q => q.1 c⟩)) (fun c => pc_ite (fun d => pc_some (Or.inl ⟨rfl, fun q => q.2 d⟩)) (fun d => pc_some (Or.inr ⟨rfl, c, d⟩)))
-- s: where we are, st: the states so far; E is what comes out
def sS (t : OT) (F lg : Int32) : Nat → Nat → RC → (Nat → Int64) → RC × (Nat → Int64) → Prop
  | 0, _, s, st, E => E = (s, st)
  | c + 1, j, s, st, E => (¬ (sW t (wF F) (s, 0)).1.2.1 = 0 ∧ E.1 = (sW t (wF F) (s, 0)).1) ∨ ((sW t (wF F) (s, 0)).1.2.1 = 0 ∧ ¬ inS F lg (sW t (wF F) (s, 0)).2 ∧ E.1 = ((sW t (wF F) (s, 0)).1.1, (4 : Int32), (sW t (wF F) (s, 0)).1.2.2)) ∨ ((sW t (wF F) (s, 0)).1.2.1 = 0 ∧ inS F lg (sW t (wF F) (s, 0)).2 ∧ sS t F lg c (j + 1) (sW t (wF F) (s, 0)).1 (vp_updL st j (sW t (wF F) (s, 0)).2) E)
theorem sS_ex (t : OT) (F lg : Int32) : ∀ (c j : Nat) (s : RC) (st : Nat → Int64), ∃ E, sS t F lg c j s st E := by
  intro c
  induction c with
  | zero => intro j s st; exact ⟨_, rfl⟩
  | succ c ih =>
    intro j s st
    by_cases z : (sW t (wF F) (s, 0)).1.2.1 = 0
    · rcases Classical.em (inS F lg (sW t (wF F) (s, 0)).2) with q | q
      · obtain ⟨E, hE⟩ := ih (j + 1) (sW t (wF F) (s, 0)).1 (vp_updL st j (sW t (wF F) (s, 0)).2)
        exact ⟨E, Or.inr (Or.inr ⟨z, q, hE⟩)⟩
      · exact ⟨(((sW t (wF F) (s, 0)).1.1, (4 : Int32), (sW t (wF F) (s, 0)).1.2.2), st), Or.inr (Or.inl ⟨z, q, rfl⟩)⟩
    · exact ⟨((sW t (wF F) (s, 0)).1, st), Or.inl ⟨z, rfl⟩⟩
-- in the span
theorem sS_in {t : OT} {F lg : Int32} : ∀ (c j : Nat) (s : RC) (st : Nat → Int64) (E : RC × (Nat → Int64)), sS t F lg c j s st E → E.1.2.1 = 0 → (∀ i, i < j → inS F lg (st i)) → ∀ i, i < j + c → inS F lg (E.2 i) := by
  intro c
  induction c with
  | zero =>
    intro j s st E h _ hi i hic
    have h : E = (s, st) := h
    rw [h]
    exact hi i hic
  | succ c ih =>
    intro j s st E h z hi i hic
    rcases h with ⟨a, b⟩ | ⟨a, _, b⟩ | ⟨a, q, hE⟩
    · rw [b] at z
      exact absurd z a
    · rw [b] at z
      have z : (4 : Int32) = 0 := z
      exact absurd z (by decide)
    · refine ih (j + 1) _ _ E hE z (fun i2 h2 => ?_) i (by omega)
      unfold vp_updL
      by_cases w : i2 = j
      · rw [if_pos w]; exact q
      · rw [if_neg w]; exact hi i2 (by omega)
theorem sS_k {t : OT} {F lg : Int32} : ∀ (c j : Nat) (s : RC) (st : Nat → Int64) (E : RC × (Nat → Int64)), sS t F lg c j s st E → s.2.2 = 0 → SK t s → E.1.2.2 = 0 ∧ SK t E.1 := by
  intro c
  induction c with
  | zero =>
    intro j s st E h b k
    have h : E = (s, st) := h
    rw [h]
    exact ⟨b, k⟩
  | succ c ih =>
    intro j s st E h b k
    have k1 := SK.w (t := t) (wF F) (s, 0) k
    have b1 : (sW t (wF F) (s, 0)).1.2.2 = 0 := (sW_2 (t := t) (wF F) (s, 0)).trans b
    rcases h with ⟨a, e⟩ | ⟨a, _, e⟩ | ⟨a, q, hE⟩
    · rw [e]
      exact ⟨b1, k1⟩
    · rw [e]
      exact ⟨b1, sk_f k1 (by decide)⟩
    · exact ih (j + 1) _ _ E hE b1 k1
def M33 (u v : OS) : Prop := (∀ k, k ≠ 26 → k ≠ 27 → k ≠ 29 → v.1 k = u.1 k) ∧ v.2.1 = u.2.1
theorem MF.m33 {u v : OS} (h : MF u v) : M33 u v := ⟨h.1, by rw [h.2]⟩
theorem M33.tr {u v w : OS} (h1 : M33 u v) (h2 : M33 v w) : M33 u w := ⟨fun k a b c => (h2.1 k a b c).trans (h1.1 k a b c), h2.2.trans h1.2⟩
theorem M33.rf {u : OS} : M33 u u := ⟨fun _ _ _ _ => rfl, rfl⟩
theorem M33.sl {u : OS} {x : Int32} {y : Int64} : M33 u (sL u 33 x y) := ⟨fun _ _ _ _ => rfl, rfl⟩
set_option maxHeartbeats 1000000 in
theorem r_readAll_L51 {t : OT} {F lg : Int32} (u0 : OS) (ln : Nat) (h31 : u0.1 31 = nI ln) (hln : ln ≤ 4) (h30 : u0.1 30 = F) (h10 : u0.2.1 10 1 = lg) {Q : OS → Prop} (K : Int32 → OS → Option OS) (E : RC × (Nat → Int64)) (hK : ∀ x v, MR t E.1 v → M33 u0 v → (E.1.2.1 = 0 → ∀ i, i < ln → v.2.2.1 33 i = E.2 i) → pc (K x v) Q) : ∀ (n c j : Nat) (x : Int32) (u : OS) (s : RC) (st : Nat → Int64), x = nI j → j + c = ln → s.2.1 = 0 → sS t F lg c j s st E → MR t s u → M33 u0 u → (∀ i, i < j → u.2.2.1 33 i = st i) → pc (f_X7_readAll_L51 n K x u) Q := by
  intro n
  have eln : (nI ln).toInt = (ln : Int) := nI_toInt (by omega)
  induction n with
  | zero => intro c j x u s st _ _ _ _ _ _ _; exact pc_none
  | succ n ih =>
    intro c j x u s st hx hj z hE h hF hst
    have ex : x.toInt = j := by rw [hx, nI_toInt (by omega)]
    have exn : x.toNatClampNeg = j := by
      show x.toInt.toNat = j
      omega
    have e31 : u.1 31 = nI ln := (hF.1 31 (by decide) (by decide) (by decide)).trans h31
    have e30 : u.1 30 = F := (hF.1 30 (by decide) (by decide) (by decide)).trans h30
    unfold f_X7_readAll_L51
    rw [e31]
    refine pc_ite (fun d => ?_) (fun d => pc_ite (fun z27 => ?_) (fun z27 => absurd (h.2.1.trans z) z27))
    · have d1 := Int32.le_iff_toInt_le.mp d
      rw [eln, ex] at d1
      have c0 : c = 0 := by omega
      subst c0
      have hE : E = (s, st) := hE
      rw [hE] at hK
      exact hK x u h hF (fun _ i hi => hst i (by omega))
    have d1 := mt Int32.le_iff_toInt_le.mpr d
    rw [eln, ex] at d1
    obtain ⟨c', rfl⟩ : ∃ c', c = c' + 1 := ⟨c - 1, by omega⟩
    have e1 : x + (1 : Int32) = nI (j + 1) := by rw [hx, nI_1]
    -- something is broken: the loop ends
    have out : ∀ (x2 : Int32) (w : OS), ¬ E.1.2.1 = 0 → MR t E.1 w → M33 u0 w → pc (f_X7_readAll_L51 n K x2 w) Q := by
      intro x2 w nz hw hFw
      have hk : ∀ x, pc (K x w) Q := fun x => hK x w hw hFw (fun q => absurd q nz)
      cases n with
      | zero => exact pc_none
      | succ n =>
        unfold f_X7_readAll_L51
        exact pc_ite (fun _ => hk _) (fun _ => pc_ite (fun q => absurd (hw.2.1.symm.trans q) nz) (fun _ => hk _))
    have key : ∀ a : Int32, a.toInt = wF F → pc (oC2 (f_X7_nextWide u a) fun u73 r74 =>
    gdi x 4 <|
    bnd (sL u73 33 x r74) fun u77 =>
    if (u77.1 27) = (0 : Int32) then (
    gdi x 4 <|
    oC1 (f_X7_isInSpan u77 (u77.2.2.1 33 (x).toNatClampNeg)) fun r81 =>
    if r81 = (0 : Int32) then (
    oC1 (f_X7_fail u77 (4 : Int32)) fun u85 =>
    bnd (x + (1 : Int32)) fun x87 =>
    f_X7_readAll_L51 n K x87 u85) else (
    bnd (x + (1 : Int32)) fun x84 =>
    f_X7_readAll_L51 n K x84 u77)) else (
    bnd (x + (1 : Int32)) fun x79 =>
    f_X7_readAll_L51 n K x79 u77)) Q := by
      intro a ha
      refine pc_oC2 (r_nextWide (s := s) u a (wF F) ha h) (fun v r hv => pc_gdi (fun _ _ => pc_bnd ?_))
      have er : r = (sW t (wF F) (s, 0)).2 := hv.2.1
      have hv2 : MR t (sW t (wF F) (s, 0)).1 (sL v 33 x r) := hv.1
      have hF2 : M33 u0 (sL v 33 x r) := (hF.tr hv.2.2.m33).tr M33.sl
      have e10 : (sL v 33 x r).2.1 10 1 = lg := by rw [hF2.2]; exact h10
      have f30 : (sL v 33 x r).1 30 = F := (hF2.1 30 (by decide) (by decide) (by decide)).trans h30
      have ey : (sL v 33 x r).2.2.1 33 x.toNatClampNeg = r := by
        show va_up v.2.2.1 33 (vp_updL (v.2.2.1 33) x.toNatClampNeg r) 33 x.toNatClampNeg = r
        unfold va_up vp_updL
        rw [if_pos rfl, if_pos rfl]
      have est : ∀ i, i < j + 1 → (sL v 33 x r).2.2.1 33 i = vp_updL st j r i := by
        intro i hi
        show va_up v.2.2.1 33 (vp_updL (v.2.2.1 33) x.toNatClampNeg r) 33 i = _
        have e33 : va_up v.2.2.1 33 (vp_updL (v.2.2.1 33) x.toNatClampNeg r) 33 = vp_updL (v.2.2.1 33) x.toNatClampNeg r := by
          unfold va_up
          rw [if_pos rfl]
        rw [e33]
        unfold vp_updL
        rw [exn]
        by_cases q : i = j
        · rw [if_pos q, if_pos q]
        · rw [if_neg q, if_neg q, hv.2.2.2]
          exact hst i (by omega)
      refine pc_ite (fun z7 => pc_gdi (fun _ _ => ?_)) (fun z7 => pc_bnd (out _ _ ?_ ?_ hF2))
      · have zz : (sW t (wF F) (s, 0)).1.2.1 = 0 := hv2.2.1.symm.trans z7
        rw [ey]
        refine pc_oC1 (r_isInSpan (lg := lg) (sL v 33 x r) r e10) (fun a ha => ?_)
        rw [f30, er] at ha
        refine pc_ite (fun a0 => pc_oC1 (r_fail _ 4) (fun w hw => pc_bnd ?_)) (fun a0 => pc_bnd ?_)
        · have ni : ¬ inS F lg (sW t (wF F) (s, 0)).2 := by
            rcases ha with q | q
            · exact q.2
            · rw [a0] at q
              exact absurd q.1 (by decide)
          have eE : E.1 = ((sW t (wF F) (s, 0)).1.1, (4 : Int32), (sW t (wF F) (s, 0)).1.2.2) := by
            rcases hE with ⟨q, _⟩ | ⟨_, _, e⟩ | ⟨_, q, _⟩
            · exact absurd zz q
            · exact e
            · exact absurd q ni
          rw [if_pos z7] at hw
          refine out _ w ?_ ?_ ?_
          · rw [eE]
            show ¬ (4 : Int32) = 0
            decide
          · rw [eE, hw]
            exact ⟨hv2.1, rfl, hv2.2.2.1, hv2.2.2.2.1, sk_f hv2.2.2.2.2 (by decide)⟩
          · rw [hw]
            exact hF2.tr ⟨fun k _ b _ => va_ne (f := (sL v 33 x r).1) b, rfl⟩
        · have ii : inS F lg (sW t (wF F) (s, 0)).2 := by
            rcases ha with q | q
            · exact absurd q.1 a0
            · exact q.2
          have hE2 : sS t F lg c' (j + 1) (sW t (wF F) (s, 0)).1 (vp_updL st j (sW t (wF F) (s, 0)).2) E := by
            rcases hE with ⟨q, _⟩ | ⟨_, q, _⟩ | ⟨_, _, e⟩
            · exact absurd zz q
            · exact absurd ii q
            · exact e
          refine ih c' (j + 1) _ _ _ _ e1 (by omega) zz hE2 hv2 hF2 (fun i hi => ?_)
          rw [← er]
          exact est i hi
      · have nz : ¬ (sW t (wF F) (s, 0)).1.2.1 = 0 := fun q => z7 (hv2.2.1.trans q)
        rcases hE with ⟨_, e⟩ | ⟨q, _⟩ | ⟨q, _⟩
        · rw [e]; exact nz
        · exact absurd q nz
        · exact absurd q nz
      · have nz : ¬ (sW t (wF F) (s, 0)).1.2.1 = 0 := fun q => z7 (hv2.2.1.trans q)
        rcases hE with ⟨_, e⟩ | ⟨q, _⟩ | ⟨q, _⟩
        · rw [e]; exact hv2
        · exact absurd q nz
        · exact absurd q nz
    rw [e30]
    refine pc_bnd (pc_ite (fun f1 => key 8 ?_) (fun f1 => pc_ite (fun f2 => key 2 ?_) (fun f2 => key 4 ?_)))
    · unfold wF
      rw [if_pos f1]
      rfl
    · unfold wF
      rw [if_neg f1, if_pos f2]
      rfl
    · unfold wF
      rw [if_neg f1, if_neg f2]
      rfl
-- the class
theorem inS_x {F lg : Int32} {k : Nat} (k1 : 5 ≤ k) (k2 : k ≤ 12) (hlg : lg = nI k) {sz : Int32} (hsz : sz = (1 : Int32) <<< (lg &&& (31 : Int32))) (y r1 r3 : Int64) (h1 : r1 = fsF F lg) (h3 : f_X6_lastState F sz = some r3) : (¬ y < r1 ∧ y ≤ r3) ↔ inS F lg y := by
  have o := one_k k (by omega)
  rw [← hlg] at o
  have sk := sk32 k1 k2 hlg
  have ak := (powA k (by omega) k1).2.2.2.2.2
  unfold f_X6_lastState at h3
  unfold fsF at h1
  unfold inS
  by_cases f1 : F = (1 : Int32)
  · have f2 : ¬ F = (2 : Int32) := by rw [f1]; decide
    rw [if_neg f2, if_pos f1] at h3
    rw [if_pos f1] at h1 ⊢
    cases h3
    rw [h1]
    refine ⟨fun q => q.1, fun q => ⟨q, ?_⟩⟩
    refine Int64.le_iff_toInt_le.mpr ?_
    have e : (9223372036854775807 : Int64).toInt = 9223372036854775807 := by decide
    have hi := i64_hi y
    rw [e]
    omega
  · rw [if_neg f1] at h1 ⊢
    by_cases f2 : F = (2 : Int32)
    · rw [if_pos f2] at h3 h1 ⊢
      cases h3
      rw [h1]
      have e2 : ((2 : Int64) * sz.toInt64 - (1 : Int64)).toInt = 2 * ((2 ^ k : Nat) : Int) - 1 := by
        have a : ((2 : Int64)).toInt = 2 := by decide
        have b : ((1 : Int64)).toInt = 1 := by decide
        have m : ((2 : Int64) * sz.toInt64).toInt = 2 * ((2 ^ k : Nat) : Int) := by
          rw [mul64 (by rw [a, tl32, hsz, sk]; omega) (by rw [a, tl32, hsz, sk]; omega), a, tl32, hsz, sk]
        rw [sub64 (by rw [m, b]; omega) (by rw [m, b]; omega), m, b]
      refine ⟨fun q => ⟨q.1, fun w => ?_⟩, fun q => ⟨q.1, Int64.le_iff_toInt_le.mpr ?_⟩⟩
      · have w1 := Int64.le_iff_toInt_le.mp w
        have q1 := Int64.le_iff_toInt_le.mp q.2
        rw [o.2] at w1
        rw [e2] at q1
        omega
      · have w1 := mt Int64.le_iff_toInt_le.mpr q.2
        rw [o.2] at w1
        rw [e2]
        omega
    · rw [if_neg f2, if_neg f1] at h3
      rw [if_neg f2] at h1 ⊢
      cases h3
      rw [h1]
      have e2 : (2147483647 : Int64).toInt = 2147483647 := by decide
      have e3 : (2147483648 : Int64).toInt = 2147483648 := by decide
      refine ⟨fun q => ⟨q.1, fun w => ?_⟩, fun q => ⟨q.1, Int64.le_iff_toInt_le.mpr ?_⟩⟩
      · have w1 := Int64.le_iff_toInt_le.mp w
        have q1 := Int64.le_iff_toInt_le.mp q.2
        omega
      · have w1 := mt Int64.le_iff_toInt_le.mpr q.2
        omega
def XF3 (u v : OS) : Prop := (∀ k, k ≠ 4 → k ≠ 5 → k ≠ 6 → k ≠ 7 → v.1 k = u.1 k) ∧ v.2.1 = u.2.1 ∧ v.2.2.2 = u.2.2.2
theorem XF.x3 {u v : OS} (h : XF u v) : XF3 u v := ⟨h.1, by rw [h.2], by rw [h.2]⟩
theorem XF3.tr {u v w : OS} (h1 : XF3 u v) (h2 : XF3 v w) : XF3 u w := ⟨fun k a b c d => (h2.1 k a b c d).trans (h1.1 k a b c d), h2.2.1.trans h1.2.1, h2.2.2.trans h1.2.2⟩
theorem XF3.rf {u : OS} : XF3 u u := ⟨fun _ _ _ _ _ => rfl, rfl, rfl⟩
theorem XF3.sl {u : OS} {x : Int32} {y : Int64} : XF3 u (sL u 1 x y) := ⟨fun _ _ _ _ _ => rfl, rfl, rfl⟩
set_option maxHeartbeats 1000000 in
theorem x_takeStates_L34 {t : OT} {F lg : Int32} (O : OS) (hO : XO t O) (r1 r3 : Int64) (hin : ∀ y : Int64, (¬ y < r1 ∧ y ≤ r3) ↔ inS F lg y) (u0 : OS) (ln : Nat) (h9 : u0.1 9 = nI ln) (hln : ln ≤ 4) (h8 : u0.1 8 = F) {Q : OS → Prop} (K : Int32 → OS → Option OS) (E : RC × (Nat → Int64)) (hE0 : ¬ E.1.2.1 = 0 → ∀ v, v.1 5 = E.1.1 → v.1 4 = E.1.2.1 → XF3 u0 v → Q v) (hK : E.1.2.1 = 0 → ∀ x v, XR t E.1 v → XF3 u0 v → (∀ i, i < ln → v.2.2.1 1 i = E.2 i) → pc (K x v) Q) : ∀ (n c j : Nat) (x : Int32) (u : OS) (s : RC) (st : Nat → Int64), x = nI j → j + c = ln → s.2.1 = 0 → s.2.2 = 0 → sS t F lg c j s st E → XR t s u → XF3 u0 u → (∀ i, i < j → u.2.2.1 1 i = st i) → pc (f_X3_takeStates_L34 O r1 r3 n K x u) Q := by
  intro n
  have eln : (nI ln).toInt = (ln : Int) := nI_toInt (by omega)
  induction n with
  | zero => intro c j x u s st _ _ _ _ _ _ _ _; exact pc_none
  | succ n ih =>
    intro c j x u s st hx hj z b hE h hF hst
    have ex : x.toInt = j := by rw [hx, nI_toInt (by omega)]
    have exn : x.toNatClampNeg = j := by
      show x.toInt.toNat = j
      omega
    have e9 : u.1 9 = nI ln := (hF.1 9 (by decide) (by decide) (by decide) (by decide)).trans h9
    have e8 : u.1 8 = F := (hF.1 8 (by decide) (by decide) (by decide) (by decide)).trans h8
    have fin : c = 0 → pc (K x u) Q := by
      intro c0
      subst c0
      have hE : E = (s, st) := hE
      rw [hE] at hK
      exact hK z x u h hF (fun i hi => hst i (by omega))
    unfold f_X3_takeStates_L34
    rw [e9, e8]
    refine pc_ite (fun d => fin ?_) (fun d => pc_ite (fun d2 => fin ?_) (fun d2 => ?_))
    · have d1 := Int32.le_iff_toInt_le.mp d
      rw [eln, ex] at d1
      omega
    · have d1 := Int32.le_iff_toInt_le.mp d2
      rw [li_4, ex] at d1
      omega
    have d1 := mt Int32.le_iff_toInt_le.mpr d
    rw [eln, ex] at d1
    obtain ⟨c', rfl⟩ : ∃ c', c = c' + 1 := ⟨c - 1, by omega⟩
    have e1 : x + (1 : Int32) = nI (j + 1) := by rw [hx, nI_1]
    refine pc_oC1 (p_X6_stateWidth F) (fun w hw => pc_oC2 (x_nextNumber (s := s) u O w (wF F) hw h z b hO) (fun v r hv => pc_gdi (fun _ _ => pc_bnd ?_)))
    have hF2 : XF3 u0 (sL v 1 x r) := (hF.tr hv.2.1.x3).tr XF3.sl
    have b2 : (sW t (wF F) (s, 0)).1.2.2 = 0 := (sW_2 (t := t) (wF F) (s, 0)).trans b
    have ey : (sL v 1 x r).2.2.1 1 x.toNatClampNeg = r := by
      show va_up v.2.2.1 1 (vp_updL (v.2.2.1 1) x.toNatClampNeg r) 1 x.toNatClampNeg = r
      unfold va_up vp_updL
      rw [if_pos rfl, if_pos rfl]
    have est : ∀ i, i < j + 1 → (sL v 1 x r).2.2.1 1 i = vp_updL st j r i := by
      intro i hi
      show va_up v.2.2.1 1 (vp_updL (v.2.2.1 1) x.toNatClampNeg r) 1 i = _
      have e33 : va_up v.2.2.1 1 (vp_updL (v.2.2.1 1) x.toNatClampNeg r) 1 = vp_updL (v.2.2.1 1) x.toNatClampNeg r := by
        unfold va_up
        rw [if_pos rfl]
      rw [e33]
      unfold vp_updL
      rw [exn]
      by_cases q : i = j
      · rw [if_pos q, if_pos q]
      · rw [if_neg q, if_neg q, hv.2.1.2]
        exact hst i (by omega)
    refine pc_ite (fun z4 => pc_gdi (fun _ _ => pc_bnd ?_)) (fun z4 => pc_ite (fun q => absurd q z4) (fun _ => pc_some ?_))
    · have z4 : v.1 4 = 0 := z4
      have zz : (sW t (wF F) (s, 0)).1.2.1 = 0 := hv.1.2.1.symm.trans z4
      have er : r = (sW t (wF F) (s, 0)).2 := hv.2.2 z4
      have bad : ¬ inS F lg (sW t (wF F) (s, 0)).2 → pc (bnd (sF (sL v 1 x r) 4 (4 : Int32)) fun u25 =>
    if (u25.1 4) = (0 : Int32) then (
    bnd (x + (1 : Int32)) fun x27 =>
    f_X3_takeStates_L34 O r1 r3 n K x27 u25) else (
    some u25)) Q := by
        intro ni
        have eE : E.1 = ((sW t (wF F) (s, 0)).1.1, (4 : Int32), (sW t (wF F) (s, 0)).1.2.2) := by
          rcases hE with ⟨q, _⟩ | ⟨_, _, e⟩ | ⟨_, q, _⟩
          · exact absurd zz q
          · exact e
          · exact absurd q ni
        refine pc_bnd (pc_ite (fun q => ?_) (fun _ => pc_some (hE0 ?_ _ ?_ ?_ ?_)))
        · have q : (4 : Int32) = 0 := q
          exact absurd q (by decide)
        · rw [eE]
          show ¬ (4 : Int32) = 0
          decide
        · rw [eE]
          exact hv.1.1
        · rw [eE]
          rfl
        · exact hF2.tr XF.s4.x3
      rw [ey]
      refine pc_ite (fun a => bad ?_) (fun a => pc_gdi (fun _ _ => pc_ite (fun c => pc_ite (fun _ => pc_bnd ?_) (fun q => absurd z4 q)) (fun c => bad ?_)))
      · rw [← er]
        exact fun q => ((hin r).mpr q).1 a
      · have ii : inS F lg (sW t (wF F) (s, 0)).2 := by
          rw [← er]
          exact (hin r).mp ⟨a, c⟩
        have hE2 : sS t F lg c' (j + 1) (sW t (wF F) (s, 0)).1 (vp_updL st j (sW t (wF F) (s, 0)).2) E := by
          rcases hE with ⟨q, _⟩ | ⟨_, q, _⟩ | ⟨_, _, e⟩
          · exact absurd zz q
          · exact absurd ii q
          · exact e
        refine ih c' (j + 1) _ _ _ _ e1 (by omega) zz b2 hE2 ⟨hv.1.1, hv.1.2.1, hv.1.2.2.1, hv.1.2.2.2.1, hv.1.2.2.2.2⟩ hF2 (fun i hi => ?_)
        rw [← er]
        exact est i hi
      · rw [← er]
        exact fun q => c ((hin r).mpr q).2
    · have z4 : ¬ v.1 4 = 0 := z4
      have nz : ¬ (sW t (wF F) (s, 0)).1.2.1 = 0 := fun q => z4 (hv.1.2.1.trans q)
      have eE : E.1 = (sW t (wF F) (s, 0)).1 := by
        rcases hE with ⟨_, e⟩ | ⟨q, _⟩ | ⟨q, _⟩
        · exact e
        · exact absurd q nz
        · exact absurd q nz
      refine hE0 ?_ _ ?_ ?_ hF2
      · rw [eE]; exact nz
      · rw [eE]; exact hv.1.1
      · rw [eE]; exact hv.1.2.1
def XS (t : OT) (E : RC × (Nat → Int64)) (ln : Nat) (R v : OS) : Prop := v.1 5 = E.1.1 ∧ v.1 4 = E.1.2.1 ∧ (∀ k, k ≠ 4 → k ≠ 5 → k ≠ 6 → k ≠ 7 → k ≠ 11 → v.1 k = R.1 k) ∧ v.2.1 = R.2.1 ∧ v.2.2.2 = R.2.2.2 ∧ (¬ E.1.2.1 = 0 → v.1 11 = R.1 11) ∧ (E.1.2.1 = 0 → XR t E.1 v ∧ v.1 11 = 1 ∧ ∀ i, i < ln → v.2.2.1 1 i = E.2 i)
theorem x_takeStates {t : OT} {F lg : Int32} {k : Nat} (k1 : 5 ≤ k) (k2 : k ≤ 12) (hlg : lg = nI k) {s : RC} (R Z O : OS) (hsz : Z.1 1 = (1 : Int32) <<< (lg &&& (31 : Int32))) (h8 : R.1 8 = F) (ln : Nat) (h9 : R.1 9 = nI ln) (hln : ln ≤ 4) (z : s.2.1 = 0) (b : s.2.2 = 0) (st : Nat → Int64) (E : RC × (Nat → Int64)) (hE : sS t F lg ln 0 s st E) (h : XR t s R) (hO : XO t O) : pc (f_X3_takeStates R Z O) (XS t E ln R) := by
  unfold f_X3_takeStates
  rw [h8, hsz]
  refine pc_oC1 (p_X6_firstState k1 k2 hlg rfl) (fun r1 h1 => pc_oC1 (R := fun r3 => f_X6_lastState F ((1 : Int32) <<< (lg &&& (31 : Int32))) = some r3) (fun a e => e) (fun r3 h3 => pc_bnd ?_))
  refine x_takeStates_L34 O hO r1 r3 (fun y => inS_x k1 k2 hlg rfl y r1 r3 h1 h3) R ln h9 hln h8 _ E ?_ ?_ FU ln 0 0 R s st rfl (by omega) z b hE h XF3.rf (fun i hi => absurd hi (Nat.not_lt_zero i))
  · intro nz v e5 e4 hF
    exact ⟨e5, e4, fun k a b c d _ => hF.1 k a b c d, hF.2.1, hF.2.2, fun _ => hF.1 11 (by decide) (by decide) (by decide) (by decide), fun q => absurd q nz⟩
  · intro zE x v hv hF hs
    refine pc_bnd (pc_some ⟨hv.1, hv.2.1, fun k a b c d e => ?_, hF.2.1, hF.2.2, fun q => absurd zE q, fun _ => ⟨⟨hv.1, hv.2.1, hv.2.2.1, hv.2.2.2.1, hv.2.2.2.2⟩, rfl, hs⟩⟩)
    show va_up v.1 11 (1 : Int32) k = R.1 k
    rw [va_ne e]
    exact hF.1 k a b c d

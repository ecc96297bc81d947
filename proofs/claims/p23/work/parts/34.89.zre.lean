-- ===== agree: what is read is the row, in both =====
def SAME (g : GH) (D : DR) : Prop := D.1.2 = 0 ∧ D.2.1.1 = g.1.1.2.2 ∧ ∀ i : Nat, (i : Int) < g.1.1.2.2.toInt → D.2.1.2 i = g.1.2.1 i
noncomputable def DJ (g : GH) (pf pl : Nat → Int32) (j : Nat) : DR := rdD (WOUT (gF g (nI j)) pf pl)
def AGX (g : GH) (pf pl : Nat → Int32) (j : Nat) (y : Int32) : Prop := (y = 1 ∧ ∀ i, i < j → SAME g (DJ g pf pl i)) ∨ (y = 0 ∧ ¬ ∀ i, i < j → SAME g (DJ g pf pl i))
theorem AGX.yes {g : GH} {pf pl : Nat → Int32} {j : Nat} {y : Int32} (h : AGX g pf pl j y) (s : SAME g (DJ g pf pl j)) : AGX g pf pl (j + 1) y := by
  rcases h with ⟨a, b⟩ | ⟨a, b⟩
  · refine Or.inl ⟨a, fun i hi => ?_⟩
    by_cases q : i = j
    · rw [q]; exact s
    · exact b i (by omega)
  · exact Or.inr ⟨a, fun q => b (fun i hi => q i (by omega))⟩
theorem AGX.no {g : GH} {pf pl : Nat → Int32} {j : Nat} (s : ¬ SAME g (DJ g pf pl j)) : AGX g pf pl (j + 1) 0 := Or.inr ⟨rfl, fun q => s (q j (by omega))⟩
theorem AGX.eq {g : GH} {pf pl : Nat → Int32} {j : Nat} {a b : Int32} (h : AGX g pf pl j a) (k : AGX g pf pl j b) : a = b := by
  rcases h with ⟨p, q⟩ | ⟨p, q⟩
  · rcases k with ⟨r, s⟩ | ⟨r, s⟩
    · rw [p, r]
    · exact absurd q s
  · rcases k with ⟨r, s⟩ | ⟨r, s⟩
    · exact absurd s q
    · rw [p, r]
theorem ro8 {g : GH} {t : OT} {v : OS} (h : RO t (v.1 15) (v.2.1 14)) (hM : IM g v) : T8 t := fun i hi => by
  have e := hM.2.2.2.2.2.2.2.2.1 i
  rw [h.2.2 i (by rw [h.1]; exact hi)] at e
  exact e
theorem m_L68 (u : OS) {P E : Prop} (hp : P → ∀ s : Nat, (s : Int) < (u.1 5).toInt → u.2.1 24 s = u.2.1 4 s) (hq : E → (∀ s : Nat, (s : Int) < (u.1 5).toInt → u.2.1 24 s = u.2.1 4 s) → P) {Q : OS × Int32 → Prop} (K : Int32 → Int32 → Option (OS × Int32)) (hK : ∀ a b, ((a = 1 ∧ P) ∨ (a = 0 ∧ ¬ P)) → pc (K a b) Q) : ∀ (n i : Nat) (x y : Int32), x = nI i → i ≤ 1000 → ((y = 1 ∧ E ∧ ∀ s, s < i → u.2.1 24 s = u.2.1 4 s) ∨ (y = 0 ∧ ¬ P)) → pc (f_X7_agree_L68 u n K x y) Q := by
  intro n
  induction n with
  | zero => intro i x y _ _ _; exact pc_none
  | succ n ih =>
    intro i x y hx hi hy
    have ex : x.toInt = i := by rw [hx, nI_toInt (by omega)]
    have en : x.toNatClampNeg = i := by
      show x.toInt.toNat = i
      omega
    have e1 : x + (1 : Int32) = nI (i + 1) := by rw [hx, nI_1]
    unfold f_X7_agree_L68
    refine pc_ite (fun c => ?_) (fun c => pc_ite (fun z => ?_) (fun z => pc_gdi (fun _ _ => pc_gdi (fun g0 g1 => pc_ite (fun e => pc_bnd ?_) (fun e => pc_bnd ?_)))))
    · rcases hy with ⟨a, b, d⟩ | q
      · refine hK _ _ (Or.inl ⟨a, hq b (fun s hs => d s ?_)⟩)
        have c1 := Int32.le_iff_toInt_le.mp c
        omega
      · exact hK _ _ (Or.inr q)
    · rcases hy with ⟨a, b, d⟩ | q
      · rw [a] at z
        exact absurd z (by decide)
      · exact hK _ _ (Or.inr q)
    · rcases hy with ⟨a, b, d⟩ | q
      · refine ih (i + 1) _ _ e1 (by omega) (Or.inl ⟨rfl, b, fun s hs => ?_⟩)
        by_cases w : s = i
        · rw [en] at e
          rw [w]
          exact e
        · exact d s (by omega)
      · exact absurd q.1 z
    · rcases hy with ⟨a, b, d⟩ | q
      · refine ih (i + 1) _ _ e1 (by omega) (Or.inr ⟨rfl, fun w => e ?_⟩)
        rw [en]
        have c1 := mt Int32.le_iff_toInt_le.mpr c
        exact hp w i (by omega)
      · exact absurd q.1 z
set_option maxHeartbeats 2000000 in
theorem r_agree_L19 {g : GH} {pf pl : Nat → Int32} (w : WR g) (hGW : ∀ j, j < 4 → ∃ k, GW (gF g (nI j)) pf pl k) {Q : OS × Int32 → Prop} (K : Int32 → Int32 → OS → Option (OS × Int32)) (hK : ∀ a b u, AGX g pf pl 4 a → (∀ i, i < 4 → T8 (WOUT (gF g (nI i)) pf pl)) → MWR (gF g 3) pf pl u → MRES (DJ g pf pl 3) u → u.1 28 = u.1 27 → pc (K a b u) Q) : ∀ (n j : Nat) (x y : Int32) (u : OS), x = nI j → j ≤ 4 → (j = 4 → MWR (gF g 3) pf pl u ∧ MRES (DJ g pf pl 3) u ∧ u.1 28 = u.1 27) → AGX g pf pl j y → (∀ i, i < j → T8 (WOUT (gF g (nI i)) pf pl)) → IM g u → (∀ i, i < 4096 → u.2.1 13 i = pl i) → u.1 7 = 1 → POS u (u.1 5).toInt → pc (f_X7_agree_L19 n K x y u) Q := by
  intro n
  induction n with
  | zero => intro j x y u _ _ _ _ _ _ _ _ _; exact pc_none
  | succ n ih =>
    intro j x y u hx hj hL hA h8 h h13 z hP
    have ex : x.toInt = j := by rw [hx, nI_toInt (by omega)]
    unfold f_X7_agree_L19
    refine pc_ite (fun c => ?_) (fun c => ?_)
    · have c1 := Int32.le_iff_toInt_le.mp c
      rw [li_4, ex] at c1
      have e4 : j = 4 := by clear hK ih; omega
      have l := hL e4
      rw [e4] at hA h8
      exact hK _ _ _ hA h8 l.1 l.2.1 l.2.2
    have c1 := mt Int32.le_iff_toInt_le.mpr c
    rw [li_4, ex] at c1
    have j4 : j < 4 := by clear hK ih; omega
    have e1 : x + (1 : Int32) = nI (j + 1) := by rw [hx, nI_1]
    obtain ⟨k, gw⟩ := hGW j j4
    have ak := (powA k (by have := gw.2.1; omega) gw.1).2.2.2.2.2
    have p4 : 2 ^ k ≤ 4096 := ak.2
    have lx := wform_m (F := x) u h w (by rw [hx]; exact gw) (fun i hi => h13 i (by omega))
    refine pc_oC1 (pc_and (pc_of_ok (s_X7_writeForm u x h (by rw [ex]; omega) (by rw [ex]; clear hK ih; omega) z hP)) lx) (fun v hvv => ?_)
    obtain ⟨hv, lv⟩ := hvv
    have lw : MWR (gF g (nI j)) pf pl v := by
      rw [← hx]
      exact lv.1
    have t8 : T8 (WOUT (gF g (nI j)) pf pl) := ro8 lw.1 hv.1
    refine pc_oC1 (pc_and (pc_and (pc_and (pc_of_ok (s_X7_readAll v hv.1)) (w_X7_readAll v hv.1)) (f15_readAll v hv.1)) (r_readAll v hv.1 lw.1 t8 (rdD_s _))) (fun w2 hww => pc_bnd ?_)
    obtain ⟨⟨⟨hw, w3⟩, f15⟩, mr⟩ := hww
    have h28 : IM g (sF w2 28 (w2.1 27)) := IM_28 hw.1
    have m28 : MRES (DJ g pf pl j) (sF w2 28 (w2.1 27)) := mr
    have e5 : w2.1 5 = u.1 5 := (hw.2.1 5 (by decide)).trans (hv.2.1 5 (by decide) (by decide) (by decide) (by decide) (by decide) (by decide))
    have e7 : w2.1 7 = 1 := ((hw.2.1 7 (by decide)).trans (hv.2.1 7 (by decide) (by decide) (by decide) (by decide) (by decide) (by decide))).trans z
    have e4 : w2.2.1 4 = u.2.1 4 := (hw.2.2.1 4 (by decide) (by decide) (by decide) (by decide) (by decide) (by decide) (by decide)).trans (hv.2.2 4 (by decide) (by decide))
    have n13 : ∀ i, i < 4096 → w2.2.1 13 i = pl i := fun i hi => by rw [(w3.1 i (by omega)).2.2, hv.2.2 13 (by decide) (by decide)]; exact h13 i hi
    have hPw : POS w2 (w2.1 5).toInt := by
      intro i hi
      rw [e5] at hi
      have r := h.2.2.2.1 i
      have rn : (u.2.1 4 i).toNatClampNeg < 32 := by
        show (u.2.1 4 i).toInt.toNat < 32
        clear hK ih
        omega
      rw [e4, hw.2.2.2.1 _ rn, hv.2.2 8 (by decide) (by decide)]
      exact hP i hi
    have hL2 : j + 1 = 4 → MWR (gF g 3) pf pl (sF w2 28 (w2.1 27)) ∧ MRES (DJ g pf pl 3) (sF w2 28 (w2.1 27)) ∧ (sF w2 28 (w2.1 27)).1 28 = (sF w2 28 (w2.1 27)).1 27 := by
      intro q
      have j3 : j = 3 := by clear hK ih; omega
      rw [j3] at lw m28
      exact ⟨MWR.fr lw f15, m28, rfl⟩
    have h82 : ∀ i, i < j + 1 → T8 (WOUT (gF g (nI i)) pf pl) := by
      intro i hi
      by_cases q : i = j
      · rw [q]; exact t8
      · exact h8 i (by omega)
    have hgU := IM_g h28
    have U5 : (sF w2 28 (w2.1 27)).1 5 = g.1.1.2.2 := hgU.2.2.1
    have U4 : (sF w2 28 (w2.1 27)).2.1 4 = g.1.2.1 := hgU.2.2.2.1
    have go : ∀ y2 : Int32, AGX g pf pl (j + 1) y2 → pc (f_X7_agree_L19 n K (x + (1 : Int32)) y2 (sF w2 28 (w2.1 27))) Q := fun y2 hy2 => ih (j + 1) _ _ _ e1 (by clear hK ih; omega) hL2 hy2 h82 h28 n13 e7 hPw
    clear ih hK
    obtain ⟨m26, m27, m25, m24, _, _⟩ := m28
    generalize hU : sF w2 28 (w2.1 27) = U at *
    have hp : SAME g (DJ g pf pl j) → ∀ s : Nat, (s : Int) < (U.1 5).toInt → U.2.1 24 s = U.2.1 4 s := by
      intro ⟨p1, p2, p3⟩ s hs
      rw [U5] at hs
      rw [U4, m24 s (by rw [p2]; exact hs)]
      exact p3 s hs
    have hq : (U.1 27 = 0 ∧ U.1 25 = U.1 5) → (∀ s : Nat, (s : Int) < (U.1 5).toInt → U.2.1 24 s = U.2.1 4 s) → SAME g (DJ g pf pl j) := by
      intro ⟨a, b⟩ d
      have p2 : (DJ g pf pl j).2.1.1 = g.1.1.2.2 := m25.symm.trans (b.trans U5)
      refine ⟨m27.symm.trans a, p2, fun i hi => ?_⟩
      rw [← m24 i (by rw [p2]; exact hi), d i (by rw [U5]; exact hi), U4]
    have hr : SAME g (DJ g pf pl j) → U.1 27 = 0 ∧ U.1 25 = U.1 5 := fun ⟨p1, p2, _⟩ => ⟨m27.trans p1, m25.trans (p2.trans U5.symm)⟩
    have key : ∀ a : Int32, ((a = 1 ∧ (U.1 27 = 0 ∧ U.1 25 = U.1 5) ∧ ∀ s, s < 0 → U.2.1 24 s = U.2.1 4 s) ∨ (a = 0 ∧ ¬ SAME g (DJ g pf pl j))) → pc (bnd (fun (x22 : Int32) (x23 : Int32) =>
    if x22 = (0 : Int32) then (
    bnd (x + (1 : Int32)) fun x26 =>
    f_X7_agree_L19 n K x26 (0 : Int32) U) else (
    bnd (x + (1 : Int32)) fun x27 =>
    f_X7_agree_L19 n K x27 y U)) fun K110_24 =>
    f_X7_agree_L68 U FU K110_24 (0 : Int32) a) Q := by
      intro a ha
      refine pc_bnd (m_L68 U hp hq _ ?_ FU 0 _ _ rfl (by decide) ha)
      intro a2 b2 hab
      refine pc_ite (fun c => pc_bnd (go _ (AGX.no ?_))) (fun c => pc_bnd (go _ (AGX.yes hA ?_)))
      · rcases hab with q | q
        · rw [q.1] at c
          exact absurd c (by decide)
        · exact q.2
      · rcases hab with q | q
        · exact q.2
        · exact absurd q.1 c
    exact pc_bnd (pc_bnd (pc_ite (fun c1 => pc_ite (fun c2 => key _ (Or.inl ⟨rfl, ⟨c1, c2⟩, fun s hs => absurd hs (Nat.not_lt_zero s)⟩)) (fun c2 => key _ (Or.inr ⟨rfl, fun q => c2 (hr q).2⟩))) (fun c1 => key _ (Or.inr ⟨rfl, fun q => c1 (hr q).1⟩))))
theorem r_X7_agree {g : GH} {pf pl : Nat → Int32} (u : OS) (h : IM g u) (hGW : WR g → ∀ j, j < 4 → ∃ k, GW (gF g (nI j)) pf pl k) (h13 : u.2.1 13 = pl) : pc (f_X7_agree u) (fun q => (¬ WR g ∧ q.2 = -2 ∧ F15 u q.1 ∧ F28 u q.1) ∨ (WR g ∧ AGX g pf pl 4 q.2 ∧ (∀ i, i < 4 → T8 (WOUT (gF g (nI i)) pf pl)) ∧ MWR (gF g 3) pf pl q.1 ∧ MRES (DJ g pf pl 3) q.1 ∧ q.1.1 28 = q.1.1 27)) := by
  unfold f_X7_agree
  refine pc_bnd (pc_oC1 (pc_and (pc_of_ok (s_X7_mayWrite _ (IM_1 h))) (p_X7_mayWrite _ (IM_1 h))) (fun a ha => pc_ite (fun c => pc_some (Or.inl ⟨?_, rfl, ⟨rfl, rfl, rfl, rfl⟩, ⟨rfl, rfl, rfl, rfl, rfl, rfl⟩⟩)) (fun c => pc_bnd ?_)))
  · rcases ha.2 with q | q
    · exact q.2
    · rw [c] at q
      exact absurd q.1 (by decide)
  · have w : WR g := by
      rcases ha.2 with q | q
      · exact absurd q.1 c
      · exact q.2
    rcases ha.1 with q | ⟨q1, q2, q3⟩
    · exact absurd q c
    · refine r_agree_L19 w (hGW w) _ ?_ FU 0 (0 : Int32) _ _ rfl (by decide) (fun q => absurd q (by decide)) (Or.inl ⟨rfl, fun i hi => absurd hi (Nat.not_lt_zero i)⟩) (fun i hi => absurd hi (Nat.not_lt_zero i)) (IM_1 h) (fun i _ => by rw [← h13]; rfl) q2 q3
      intro a b v h1 h2 h3 h4 h5
      exact pc_some (Or.inr ⟨w, h1, h2, h3, h4, h5⟩)
theorem h8_agree {g : GH} {pf pl : Nat → Int32} (u : OS) (h : IM g u) (hGW : WR g → ∀ j, j < 4 → ∃ k, GW (gF g (nI j)) pf pl k) (h13 : u.2.1 13 = pl) (w : WR g) : ∀ i, i < 4 → T8 (WOUT (gF g (nI i)) pf pl) := by
  obtain ⟨q, e, _⟩ := s_X7_agree u h
  rcases r_X7_agree u h hGW h13 q e with r | r
  · exact absurd w r.1
  · exact r.2.2.1
-- the class
theorem ans_is {D : DR} {n : Int32} (h0 : 0 ≤ D.1.1.toInt) (h1 : D.1.1.toInt ≤ 20000) (hn : 0 ≤ n.toInt) (h : ansD D = n) : D.1.2 = 0 ∧ D.2.1.1 = n := by
  unfold ansD at h
  by_cases z : D.1.2 = 0
  · rw [if_pos z] at h
    exact ⟨z, h⟩
  · exfalso
    rw [if_neg z] at h
    have m : (-10 : Int32).toInt = -10 := by decide
    have e := sub32 (a := (-10 : Int32)) (b := D.1.1) (by rw [m]; omega) (by rw [m]; omega)
    rw [h, m] at e
    omega
theorem x_isRow_L2 {g : GH} {D : DR} (X R : OS) (hX : IX g X) (hR : IR R) (hx : XRES D R) (e1 : D.1.2 = 0) (e2 : D.2.1.1 = g.1.1.2.2) : ∀ (n i : Nat) (x : Int32), x = nI i → i ≤ 1000 → (∀ s, s < i → D.2.1.2 s = g.1.2.1 s) → pc (f_X6_readIsRow_L2 X R n x) (fun r => (r = 1 ∧ SAME g D) ∨ (r = 0 ∧ ¬ SAME g D)) := by
  obtain ⟨⟨x8, x9, x7⟩, l7, l6, _, _, xr⟩ := hX
  rw [x7] at l7 xr
  have cX := nIt (n := X.2.2.2 6) (by omega)
  have cR := nIt (n := R.2.2.2 2) (by have := hR.2.1.2; omega)
  have r3 : R.1 3 = g.1.1.2.2 := hx.2.2.1.trans e2
  have rl := hR.1.2
  rw [r3] at rl
  intro n
  induction n with
  | zero => intro i x _ _ _; exact pc_none
  | succ n ih =>
    intro i x hxi hi hs
    have ex : x.toInt = i := by rw [hxi, nI_toInt (by omega)]
    have en : x.toNatClampNeg = i := by
      show x.toInt.toNat = i
      omega
    unfold f_X6_readIsRow_L2
    rw [x7]
    refine pc_ite (fun c => pc_some (Or.inl ⟨rfl, e1, e2, fun s hsl => hs s ?_⟩)) (fun c => ?_)
    · have c1 := Int32.le_iff_toInt_le.mp c
      omega
    have c1 := mt Int32.le_iff_toInt_le.mpr c
    have il : (i : Int) < g.1.1.2.2.toInt := by omega
    refine pc_ite (fun c2 => ?_) (fun c2 => pc_oC1 (R := fun r => r = D.2.1.2 i) ?_ (fun r hr => pc_gdi (fun _ _ => pc_ite (fun q => pc_bnd (ih (i + 1) _ (by rw [hxi, nI_1]) (by omega) (fun s hsl => ?_))) (fun q => pc_some (Or.inr ⟨rfl, fun sm => q ?_⟩)))))
    · exfalso
      have c3 := Int32.le_iff_toInt_le.mp c2
      rw [cX] at c3
      omega
    · unfold f_X3_signAt
      rw [r3]
      refine pc_ite (fun a => ?_) (fun a => pc_ite (fun b => absurd b c) (fun b => pc_ite (fun d => ?_) (fun d => pc_gdi (fun _ _ => pc_some ?_))))
      · exfalso
        have a1 := Int32.lt_iff_toInt_lt.mp a
        rw [li_0] at a1
        omega
      · exfalso
        have d1 := Int32.le_iff_toInt_le.mp d
        rw [cR] at d1
        omega
      · show R.2.1 2 x.toNatClampNeg = _
        rw [en]
        exact hx.2.2.2.1 i (by rw [e2]; exact il)
    · by_cases w : s = i
      · rw [w, ← hr, q, en]
        exact (xr i il).1
      · exact hs s (by omega)
    · rw [hr, en, (xr i il).1]
      exact sm.2.2 i il
set_option maxHeartbeats 2000000 in
theorem x_agree_L14 {g : GH} (uX M : OS) (hX : IX g uX) (hM : IM g M) (hJM : JM M) (w : WR g) (pf : Nat → Int32) (h8 : ∀ i, i < 4 → T8 (WOUT (gF g (nI i)) pf (M.2.1 13))) {Q : OS × OS × OS × OS × OS × OS × Int32 → Prop} (K : Int32 → Int32 → OS → OS → OS → OS → OS → OS → Option ((OS × OS × OS × OS × OS × OS × Int32) × Nat × Nat)) (hK : ∀ a b s w p r z o, AGX g pf (M.2.1 13) 4 a → XWR (gF g 3) pf (M.2.1 13) w o → XRES (DJ g pf (M.2.1 13) 3) r → pcA (K a b s w p r z o) Q) : ∀ (n j : Nat) (x y : Int32) (s w p r z o : OS), x = nI j → j ≤ 4 → (j = 4 → XWR (gF g 3) pf (M.2.1 13) w o ∧ XRES (DJ g pf (M.2.1 13) 3) r) → AGX g pf (M.2.1 13) j y → IS s → IG g.2 s → JS s → s.2.1 4 = pf → IP p → IR r → IS z → IO o → pcA (f_X6_agree_L14 uX n K x y s w p r z o) Q := by
  intro n
  induction n with
  | zero => intro j x y s w p r z o _ _ _ _ _ _ _ _ _ _ _ _; exact pcA_none
  | succ n ih =>
    intro j x y s w' p r z o hx hj hL hA hI hG hJ h4 hp hr hz ho
    have ex : x.toInt = j := by rw [hx, nI_toInt (by omega)]
    unfold f_X6_agree_L14
    refine pcA_ite (fun c => ?_) (fun c => ?_)
    · have c1 := Int32.lt_iff_toInt_lt.mp c
      rw [li_3, ex] at c1
      have e4 : j = 4 := by clear hK ih; omega
      have l := hL e4
      rw [e4] at hA
      exact hK _ _ _ _ _ _ _ _ hA l.1 l.2
    have c1 := mt Int32.lt_iff_toInt_lt.mpr c
    rw [li_3, ex] at c1
    have j4 : j < 4 := by clear hK ih; omega
    have e1 : x + (1 : Int32) = nI (j + 1) := by rw [hx, nI_1]
    obtain ⟨k, gw, s1, s2⟩ := gw_ofF (F := x) (by rw [hx]; exact nI_4 j4) hI hG hJ hM hJM w
    rw [h4] at gw s1 s2
    obtain ⟨k', ⟨k1, k2, _, sh, _, _, z0⟩, ek, _⟩ := shb hG hM w.1
    refine pcA_oA4 (pcA_and (pcA_and (pcA_cq (s_X5_writeRow s w' p o (mkA (uX.2.2.2 6) (uX.2.1 6)) (uX.1 7) x (uX.1 9) hI hp ho hX.2.2.1.2 hX.2.1.1 hX.2.2.2.1)) (q_writeRow (PS := fun v => JS v ∧ v.2.1 4 = pf) s w' p o _ _ _ _ ⟨hJ, h4⟩ (fun v m n e => ?_))) (wrow_x (F := x) uX s w' p o hX hI hp ho hG gw (fun n2 => ⟨(s1 n2).1, h4⟩) s2)) (fun a b c d m1 n1 hq => pcA_addc ?_)
    · have q := js_makeSpread k1 k2 s hI ek sh z0 hJ v m n e
      exact ⟨q.2.2, q.1.2.2.2.2.trans h4⟩
    obtain ⟨⟨⟨i4, sf⟩, ja, fa⟩, la⟩ := hq
    have la : XWR (gF g (nI j)) pf (M.2.1 13) b d := by
      rw [← hx]
      exact la
    have hd : IO d := i4.2.2.2
    refine pcA_oA3 (pcA_and (pcA_cq (s_X3_takeIn r z d hr hz hd)) (x_takeIn r z d hr hz la.1 (h8 j j4) (rdD_s _))) (fun e f t m2 n2 hq2 => pcA_addc ?_)
    obtain ⟨⟨ie, iz⟩, xe, ea⟩ := hq2
    have xe : XRES (DJ g pf (M.2.1 13) j) e := xe
    have ea : t = ansD (DJ g pf (M.2.1 13) j) := ea
    have ie : IR e := ie
    have iz : IS f := iz
    have hL2 : j + 1 = 4 → XWR (gF g 3) pf (M.2.1 13) b d ∧ XRES (DJ g pf (M.2.1 13) 3) e := by
      intro q
      have j3 : j = 3 := by clear hK ih; omega
      rw [j3] at la xe
      exact ⟨la, xe⟩
    have go : ∀ y2 : Int32, AGX g pf (M.2.1 13) (j + 1) y2 → pcA (bnd (x + (1 : Int32)) fun x2 => f_X6_agree_L14 uX n K x2 y2 a b c e f d) Q := fun y2 hy2 => pcA_bnd (ih (j + 1) _ _ _ _ _ _ _ _ e1 (by clear hK ih; omega) hL2 hy2 i4.1 (hG.fr sf) ja fa i4.2.2.1 ie iz hd)
    clear ih hK
    have on := la.1.n
    have ob : (WOUT (gF g (nI j)) pf (M.2.1 13)).1.toInt ≤ 20000 := by
      rw [← on.1]
      have := hd.2.1
      have := hd.2.2.2
      omega
    have nn : 0 ≤ (DJ g pf (M.2.1 13) j).1.2.toInt ∧ 0 ≤ (DJ g pf (M.2.1 13) j).1.1.toInt ∧ (DJ g pf (M.2.1 13) j).1.1.toInt ≤ 20000 ∧ (DJ g pf (M.2.1 13) j).2.2.2.1 ≤ 4 := RDS_nn (sk0 on.2 ob) (h8 j j4) (rdD_s _)
    have x7 : uX.1 7 = g.1.1.2.2 := hX.1.2.2
    have l7 : 0 ≤ (uX.1 7).toInt := hX.2.1.1
    refine pcA_ite (fun c1 => ?_) (fun c1 => go _ (AGX.no (fun q => c1 ?_)))
    · rw [ea] at c1
      obtain ⟨p1, p2⟩ := ans_is nn.2.1 nn.2.2.1 l7 c1
      have p2 := p2.trans x7
      refine pcA_oC1 (R := fun r => (r = 1 ∧ SAME g (DJ g pf (M.2.1 13) j)) ∨ (r = 0 ∧ ¬ SAME g (DJ g pf (M.2.1 13) j))) ?_ (fun r2 h2 => pcA_ite (fun c2 => go _ (AGX.no ?_)) (fun c2 => go _ (AGX.yes hA ?_)))
      · unfold f_X6_readIsRow
        exact x_isRow_L2 uX e hX ie xe p1 p2 FU 0 _ rfl (by decide) (fun s hs => absurd hs (Nat.not_lt_zero s))
      · rcases h2 with q | q
        · rw [q.1] at c2
          exact absurd c2 (by decide)
        · exact q.2
      · rcases h2 with q | q
        · exact q.2
        · exact absurd q.1 c2
    · rw [ea]
      unfold ansD
      rw [if_pos q.1, q.2.1, x7]
theorem x_X6_agree {g : GH} (uX uS uW uP uR uZ uO M : OS) (hX : IX g uX) (hS : IS uS) (hP : IP uP) (hR : IR uR) (hZ : IS uZ) (hO : IO uO) (hG : IG g.2 uS) (hK : LK g.1.2.2 g.2) (hM : IM g M) (hJM : JM M) (h : JS uS) : pcA (f_X6_agree uX uS uW uP uR uZ uO) (fun q => (¬ WR g ∧ q.2.2.2.2.2.2 = -2 ∧ q.2.1 = uW ∧ q.2.2.2.1 = uR ∧ q.2.2.2.2.2.1 = uO) ∨ (WR g ∧ AGX g (uS.2.1 4) (M.2.1 13) 4 q.2.2.2.2.2.2 ∧ XWR (gF g 3) (uS.2.1 4) (M.2.1 13) q.2.1 q.2.2.2.2.2.1 ∧ XRES (DJ g (uS.2.1 4) (M.2.1 13) 3) q.2.2.2.1)) := by
  unfold f_X6_agree
  refine pcA_oC1 (p_X6_isWritable uX uS hX hS hG hK) (fun r hr => pcA_ite (fun c => pcA_some (Or.inl ⟨?_, rfl, rfl, rfl, rfl⟩)) (fun c => pcA_bnd ?_))
  · rcases hr with q | q
    · exact q.2
    · rw [c] at q
      exact absurd q.1 (by decide)
  · have w : WR g := by
      rcases hr with q | q
      · exact absurd q.1 c
      · exact q.2
    have h8 := h8_agree (pf := uS.2.1 4) (pl := M.2.1 13) M hM (fun w j hj => (gw_ofF (nI_4 hj) hS hG h hM hJM w).imp (fun _ h => h.1)) rfl w
    refine x_agree_L14 uX M hX hM hJM w (uS.2.1 4) h8 _ ?_ FU 0 (0 : Int32) _ uS uW uP uR uZ uO rfl (by decide) (fun q => absurd q (by decide)) (Or.inl ⟨rfl, fun i hi => absurd hi (Nat.not_lt_zero i)⟩) hS hG h rfl hP hR hZ hO
    intro a b s w' p r z o h1 h2 h3
    exact pcA_some (Or.inr ⟨w, h1, h2, h3⟩)
theorem ra_eq {g : GH} {pf pl : Nat → Int32} {W R O w r o M m : OS} {a b : Int32} (hO : OQ O M) (hW : WVQ W M) (hR : RQV R M) (h1 : (¬ WR g ∧ a = -2 ∧ w = W ∧ r = R ∧ o = O) ∨ (WR g ∧ AGX g pf pl 4 a ∧ XWR (gF g 3) pf pl w o ∧ XRES (DJ g pf pl 3) r)) (h2 : (¬ WR g ∧ b = -2 ∧ F15 M m ∧ F28 M m) ∨ (WR g ∧ AGX g pf pl 4 b ∧ (∀ i, i < 4 → T8 (WOUT (gF g (nI i)) pf pl)) ∧ MWR (gF g 3) pf pl m ∧ MRES (DJ g pf pl 3) m ∧ m.1 28 = m.1 27)) : OQ o m ∧ WVQ w m ∧ RQV r m ∧ a = b := by
  rcases h1 with ⟨p, q, e1, e2, e3⟩ | ⟨p, q, x, y⟩
  · rcases h2 with ⟨_, s, f, f2⟩ | ⟨s, _⟩
    · rw [e1, e2, e3]
      exact ⟨hO.fr f, hW.fr f, hR.fr f2, by rw [q, s]⟩
    · exact absurd s p
  · rcases h2 with ⟨s, _⟩ | ⟨_, s, h8, mw, mr, e⟩
    · exact absurd p s
    · have k := ow_of mw x
      have on := x.1.n
      have hd := x.1.2
      have ob : (WOUT (gF g 3) pf pl).1.toInt ≤ 20000 := by
        rw [← on.1]
        have := hd.2.1
        have := hd.2.2.2
        omega
      have nn : 0 ≤ (DJ g pf pl 3).1.2.toInt ∧ 0 ≤ (DJ g pf pl 3).1.1.toInt ∧ (DJ g pf pl 3).1.1.toInt ≤ 20000 ∧ (DJ g pf pl 3).2.2.2.1 ≤ 4 := RDS_nn (t := WOUT (gF g (nI 3)) pf pl) (sk0 on.2 ob) (h8 3 (by decide)) (rdD_s _)
      exact ⟨k.1, k.2, rqv_of nn.2.2.2 y mr e, AGX.eq q s⟩
theorem pc_self {a : Type} (o : Option a) : pc o (fun z => o = some z) := fun _ e => e

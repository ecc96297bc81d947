-- ===== a row written: head, table, states, and how long it is =====
theorem tab_c {f g : Nat → Int32} (h : ∀ i, i < 32 → f i = g i) : ∀ (k j : Nat) (y : Int32) (s : OT × Int32), j + k ≤ 32 → tab f k j y s = tab g k j y s := by
  intro k
  induction k with
  | zero => intro j y s _; rfl
  | succ k ih =>
    intro j y s hj
    unfold tab
    rw [h j (by omega)]
    by_cases z : y ≤ (0 : Int32)
    · rw [if_pos z, if_pos z]
    · rw [if_neg z, if_neg z]
      exact ih _ _ _ (by omega)
theorem tab_n {f : Nat → Int32} (hf : ∀ i, i < 32 → 0 ≤ (f i).toInt) : ∀ (k j : Nat) (y : Int32) (s : OT × Int32), j + k ≤ 32 → y.toInt ≤ 4096 → 1 ≤ s.1.1.toInt → s.1.1.toInt + 13 * k < 50000 → s.1.1.toInt ≤ (tab f k j y s).1.1.toInt ∧ (tab f k j y s).1.1.toInt ≤ s.1.1.toInt + 13 * k := by
  intro k
  induction k with
  | zero =>
    intro j y s _ _ _ _
    show s.1.1.toInt ≤ s.1.1.toInt ∧ s.1.1.toInt ≤ s.1.1.toInt + 13 * ((0 : Nat) : Int)
    omega
  | succ k ih =>
    intro j y s hj hy h1 h2
    have e : tab f (k + 1) j y s = if y ≤ (0 : Int32) then s else tab f k (j + 1) (y - f j) (pbits (f j) (blen y) s) := rfl
    rw [e]
    by_cases z : y ≤ (0 : Int32)
    · rw [if_pos z]
      omega
    · rw [if_neg z]
      have z1 := mt i0_le.mpr z
      have b13 := (bo_eq y (by omega)).2.2 hy
      have p := pbits_n (f j) (blen y) s (by omega) (by omega) (fun _ => h1)
      have s0 := hf j (by omega)
      have hi := i32_hi (f j)
      have ey : (y - f j).toInt ≤ 4096 := by
        rw [sub32 (by omega) (by omega)]
        omega
      have r := ih (j + 1) (y - f j) (pbits (f j) (blen y) s) (by omega) ey (by omega) (by omega)
      omega
theorem wid_n (v : Int64) : ∀ (n : Nat) (t : OT), 0 ≤ t.1.toInt → t.1.toInt + n < 100000 → (wid v n t).1.toInt = t.1.toInt + n := by
  intro n
  induction n with
  | zero =>
    intro t _ _
    show t.1.toInt = t.1.toInt + ((0 : Nat) : Int)
    omega
  | succ n ih =>
    intro t h0 h1
    have a := ap_n t ((v >>> (((8 : Int32) * nI n).toInt64 &&& (63 : Int64))).toInt32) (by omega)
    have e : wid v (n + 1) t = wid v n (ap t ((v >>> (((8 : Int32) * nI n).toInt64 &&& (63 : Int64))).toInt32)) := rfl
    rw [e, ih _ (by omega) (by omega), a]
    omega
def stO (w : Nat) (st : Nat → Int64) : Nat → Nat → OT → OT
  | 0, _, t => t
  | c + 1, j, t => stO w st c (j + 1) (wid (st j) w t)
theorem stO_n {w : Nat} (hw : w ≤ 8) {st : Nat → Int64} : ∀ (c j : Nat) (t : OT), 0 ≤ t.1.toInt → t.1.toInt + 8 * c < 90000 → t.1.toInt ≤ (stO w st c j t).1.toInt ∧ (stO w st c j t).1.toInt ≤ t.1.toInt + 8 * c := by
  intro c
  induction c with
  | zero =>
    intro j t _ _
    show t.1.toInt ≤ t.1.toInt ∧ t.1.toInt ≤ t.1.toInt + 8 * ((0 : Nat) : Int)
    omega
  | succ c ih =>
    intro j t h0 h1
    have a := wid_n (st j) w t h0 (by omega)
    have e : stO w st (c + 1) j t = stO w st c (j + 1) (wid (st j) w t) := rfl
    have r := ih (j + 1) (wid (st j) w t) (by omega) (by omega)
    rw [e]
    omega
theorem stO_c {w : Nat} {st st2 : Nat → Int64} (h : ∀ i, i < 4 → st i = st2 i) : ∀ (c j : Nat) (t : OT), j + c ≤ 4 → stO w st c j t = stO w st2 c j t := by
  intro c
  induction c with
  | zero => intro j t _; rfl
  | succ c ih =>
    intro j t hj
    unfold stO
    rw [h j (by omega)]
    exact ih _ _ (by omega)
def wF (F : Int32) : Nat := if F = (1 : Int32) then 8 else if F = (2 : Int32) then 2 else 4
theorem wF_8 (F : Int32) : wF F ≤ 8 := by
  unfold wF
  by_cases a : F = (1 : Int32)
  · rw [if_pos a]; decide
  · rw [if_neg a]
    by_cases b : F = (2 : Int32)
    · rw [if_pos b]; decide
    · rw [if_neg b]; decide
def fsF (F lg : Int32) : Int64 := if F = (1 : Int32) then (2147483648 : Int64) else if F = (2 : Int32) then ((1 : Int64) <<< (lg.toInt64 &&& (63 : Int64))) else (8388608 : Int64)
theorem p_X7_firstState (F lg : Int32) : pc (f_X7_firstState F lg) (fun y => y = fsF F lg) := by
  unfold f_X7_firstState fsF
  refine pc_ite (fun a => ?_) (fun a => pc_ite (fun b => ?_) (fun b => ?_))
  · rw [if_pos a]; exact pc_some rfl
  · rw [if_neg a, if_pos b]; exact pc_some rfl
  · rw [if_neg a, if_neg b]; exact pc_some rfl
theorem p_X7_writeForm_L55 {F lg : Int32} (u0 : OS) (hl : u0.1 0 = lg) {Q : OS → Prop} (K : Int32 → OS → Option OS) (hK : ∀ x u, u.1 = u0.1 → u.2.1 = u0.2.1 → (∀ i, i < 4 → u.2.2.1 16 i = fsF F lg) → u.2.2.1 33 = u0.2.2.1 33 → pc (K x u) Q) : ∀ (n j : Nat) (x : Int32) (u : OS), x = nI j → j ≤ 4 → u.1 = u0.1 → u.2.1 = u0.2.1 → (∀ i, i < j → u.2.2.1 16 i = fsF F lg) → u.2.2.1 33 = u0.2.2.1 33 → pc (f_X7_writeForm_L55 F n K x u) Q := by
  intro n
  induction n with
  | zero => intro j x u _ _ _ _ _ _; exact pc_none
  | succ n ih =>
    intro j x u hx hj e0 e1 hA e33
    have ex : x.toInt = j := by rw [hx, nI_toInt (by omega)]
    have exn : x.toNatClampNeg = j := by
      show x.toInt.toNat = j
      omega
    unfold f_X7_writeForm_L55
    refine pc_ite (fun c => hK _ _ e0 e1 ?_ e33) (fun c => ?_)
    · have c1 := Int32.le_iff_toInt_le.mp c
      rw [li_4, ex] at c1
      intro i hi
      exact hA i (by omega)
    · have c1 := mt Int32.le_iff_toInt_le.mpr c
      rw [li_4, ex] at c1
      have e2 : x + (1 : Int32) = nI (j + 1) := by rw [hx, nI_1]
      have el : u.1 0 = lg := by rw [e0, hl]
      rw [el]
      refine pc_oC1 (p_X7_firstState F lg) (fun y hy => pc_gdi (fun _ _ => pc_bnd (pc_bnd (ih (j + 1) _ _ e2 (by omega) e0 e1 ?_ e33))))
      intro i hi
      show vp_updL (u.2.2.1 16) x.toNatClampNeg y i = fsF F lg
      unfold vp_updL
      rw [exn]
      by_cases e : i = j
      · rw [if_pos e]; exact hy
      · rw [if_neg e]; exact hA i (by omega)
theorem p_X7_writeForm_L218 {F c : Int32} (u0 : OS) (ln : Nat) (h3 : (u0.1 3).toInt = ln) (hln : ln ≤ 4) {Q : OS → Prop} (K : Int32 → OS → Option OS) (T : OT) (hK : ∀ x v, MO T c v → v.1 20 = u0.1 20 → v.2.1 19 = u0.2.1 19 → v.1 3 = u0.1 3 → (∀ i, i < ln → v.2.2.1 17 i = u0.2.2.1 16 i) → v.2.2.1 33 = u0.2.2.1 33 → pc (K x v) Q) : ∀ (n j : Nat) (x : Int32) (u : OS) (t : OT), x = nI j → j ≤ ln → stO (wF F) (u0.2.2.1 16) (ln - j) j t = T → MO t c u → u.1 20 = u0.1 20 → u.2.1 19 = u0.2.1 19 → u.1 3 = u0.1 3 → u.2.2.1 16 = u0.2.2.1 16 → (∀ i, i < j → u.2.2.1 17 i = u0.2.2.1 16 i) → u.2.2.1 33 = u0.2.2.1 33 → pc (f_X7_writeForm_L218 F n K x u) Q := by
  intro n
  induction n with
  | zero => intro j x u t _ _ _ _ _ _ _ _ _ _; exact pc_none
  | succ n ih =>
    intro j x u t hx hj hT h e20 e19 e3 e16 hA e33
    have ex : x.toInt = j := by rw [hx, nI_toInt (by omega)]
    have exn : x.toNatClampNeg = j := by
      show x.toInt.toNat = j
      omega
    unfold f_X7_writeForm_L218
    rw [e3]
    refine pc_ite (fun d => hK _ _ ?_ e20 e19 e3 ?_ e33) (fun d => pc_gdi (fun _ _ => pc_bnd ?_))
    · have d1 := Int32.le_iff_toInt_le.mp d
      rw [h3, ex] at d1
      have : ln - j = 0 := by omega
      rw [this] at hT
      rw [← hT]
      exact h
    · have d1 := Int32.le_iff_toInt_le.mp d
      rw [h3, ex] at d1
      intro i hi
      exact hA i (by omega)
    · have d1 := mt Int32.le_iff_toInt_le.mpr d
      rw [h3, ex] at d1
      obtain ⟨r, hr⟩ : ∃ r, ln - j = r + 1 := ⟨ln - j - 1, by omega⟩
      rw [hr] at hT
      have hT : stO (wF F) (u0.2.2.1 16) r (j + 1) (wid (u0.2.2.1 16 j) (wF F) t) = T := hT
      have e2 : x + (1 : Int32) = nI (j + 1) := by rw [hx, nI_1]
      rw [e16, exn]
      have key : ∀ (q : Int32) (w : Nat), q.toInt = w → w = wF F → pc (oC1 (f_X7_putWide u (u0.2.2.1 16 j) q) fun u56 => gdi x 4 <| gdi x 4 <| bnd (sL u56 17 x (u56.2.2.1 16 j)) fun u60 => bnd (x + (1 : Int32)) fun x61 => f_X7_writeForm_L218 F n K x61 u60) Q := by
        intro q w hq hw
        refine pc_oC1 (p_X7_putWide u _ q w hq (by have := wF_8 F; omega) h) (fun v hv => pc_gdi (fun _ _ => pc_gdi (fun _ _ => pc_bnd (pc_bnd (ih (j + 1) _ _ (wid (u0.2.2.1 16 j) w t) e2 (by omega) ?_ hv.1 ?_ ?_ ?_ ?_ ?_ ?_)))))
        · rw [hw, show ln - (j + 1) = r by omega]
          exact hT
        · exact (hv.2.1 20 (by decide) (by decide)).trans e20
        · exact (hv.2.2.1 19 (by decide)).trans e19
        · exact (hv.2.1 3 (by decide) (by decide)).trans e3
        · have q1 : (sL v 17 x (v.2.2.1 16 j)).2.2.1 16 = v.2.2.1 16 := rfl
          rw [q1, hv.2.2.2, e16]
        · intro i hi
          show va_up v.2.2.1 17 (vp_updL (v.2.2.1 17) x.toNatClampNeg (v.2.2.1 16 j)) 17 i = _
          have e17 : va_up v.2.2.1 17 (vp_updL (v.2.2.1 17) x.toNatClampNeg (v.2.2.1 16 j)) 17 = vp_updL (v.2.2.1 17) x.toNatClampNeg (v.2.2.1 16 j) := by
            unfold va_up
            rw [if_pos rfl]
          rw [e17]
          unfold vp_updL
          rw [exn, hv.2.2.2, e16]
          by_cases z : i = j
          · rw [if_pos z, z]
          · rw [if_neg z]; exact hA i (by omega)
        · have q1 : (sL v 17 x (v.2.2.1 16 j)).2.2.1 33 = v.2.2.1 33 := rfl
          rw [q1, hv.2.2.2, e33]
      refine pc_ite (fun f1 => key 8 8 (by decide) ?_) (fun f1 => pc_ite (fun f2 => key 2 2 (by decide) ?_) (fun f2 => key 4 4 (by decide) ?_))
      · unfold wF
        rw [if_pos f1]
      · unfold wF
        rw [if_neg f1, if_pos f2]
      · unfold wF
        rw [if_neg f1, if_neg f2]
-- bits go out, the last first
def rvT (f : Nat → Int32) : Nat → OT × Int32 → OT × Int32
  | 0, s => s
  | k + 1, s => rvT f k (pbits (f k) 1 s)
theorem p_X7_out_T (f : Nat → Int32) (N : Nat) (hN : N ≤ 70000) (u0 : OS) {Q : OS → Prop} (K : Int32 → OS → Option OS) (T : OT × Int32) (hK : ∀ x v, MO T.1 T.2 v → PO u0 v → pc (K x v) Q) (hf : ∀ i, i < N → u0.2.1 19 i = f i) : ∀ (n m : Nat) (x : Int32) (u : OS) (s : OT × Int32), x.toInt = (m : Int) - 1 → m ≤ N → rvT f m s = T → MO s.1 s.2 u → PO u0 u → pc (f_X7_writeForm_L294 2 n K x u) Q := by
  intro n
  induction n with
  | zero => intro m x u s _ _ _ _ _; exact pc_none
  | succ n ih =>
    intro m x u s hx hm hT h hP
    unfold f_X7_writeForm_L294
    refine pc_ite (fun d => hK _ _ ?_ hP) (fun d => ?_)
    · have d1 := Int32.lt_iff_toInt_lt.mp d
      rw [li_0, hx] at d1
      have : m = 0 := by omega
      subst this
      rw [← hT]
      exact h
    · have d1 := mt Int32.lt_iff_toInt_lt.mpr d
      rw [li_0, hx] at d1
      obtain ⟨k, rfl⟩ : ∃ k, m = k + 1 := ⟨m - 1, by omega⟩
      have en : x.toNatClampNeg = k := by
        show x.toInt.toNat = k
        omega
      have e1 := dec32 (x := x) (by omega)
      have e19 : u.2.1 19 k = f k := by
        rw [hP.2.1 19 (by decide)]
        exact hf k (by omega)
      rw [if_neg (by decide), if_pos rfl]
      refine pc_gdi (fun _ _ => pc_oC1 (p_X7_putBits (s := s) u _ 1 1 rfl (by decide) h) (fun v hv => pc_bnd (ih k _ v _ (by rw [e1, hx]; omega) (by omega) ?_ hv.1 (hP.tr hv.2))))
      rw [en, e19]
      exact hT
def pourF (F : Int32) (t o : OT) : OT := if F = (1 : Int32) then rvW t.2 t.1.toInt.toNat o else if F = (2 : Int32) then (rvT t.2 t.1.toInt.toNat (o, 0)).1 else rvB t.2 t.1.toInt.toNat o
theorem p_X7_pour {F : Int32} {t o : OT} (u : OS) (hRO : RO t (u.1 20) (u.2.1 19)) (hn : t.1.toInt ≤ 70000) (hM : MO o 0 u) : pc (f_X7_writeForm_L294 F FU (fun _ v => some v) ((u.1 20) - (1 : Int32)) u) (fun v => RO (pourF F t o) (v.1 15) (v.2.1 14) ∧ PO u v) := by
  obtain ⟨r1, r2, r3⟩ := hRO
  have ex : ((u.1 20) - (1 : Int32)).toInt = ((t.1.toInt.toNat : Nat) : Int) - 1 := by
    rw [r1] at r2 ⊢
    rw [sub32 (by rw [li_1]; omega) (by rw [li_1]; omega), li_1]
    omega
  have hf : ∀ i, i < t.1.toInt.toNat → u.2.1 19 i = t.2 i := fun i hi => r3 i (by rw [r1]; omega)
  unfold pourF
  by_cases f1 : F = (1 : Int32)
  · rw [if_pos f1, f1]
    exact p_X7_out_W t.2 0 t.1.toInt.toNat (by omega) u _ _ (fun x v hv hp => pc_some ⟨hv.1, hp⟩) hf FU _ _ u o ex (Nat.le_refl _) rfl hM PO.rf
  · rw [if_neg f1]
    by_cases f2 : F = (2 : Int32)
    · rw [if_pos f2, f2]
      exact p_X7_out_T t.2 t.1.toInt.toNat (by omega) u _ _ (fun x v hv hp => pc_some ⟨hv.1, hp⟩) hf FU _ _ u (o, 0) ex (Nat.le_refl _) rfl hM PO.rf
    · rw [if_neg f2]
      exact p_X7_out_B F f1 f2 t.2 0 t.1.toInt.toNat (by omega) u _ _ (fun x v hv hp => pc_some ⟨hv.1, hp⟩) hf FU _ _ u o ex (Nat.le_refl _) rfl hM PO.rf
theorem PO.s21 {u : OS} {x : Int32} : PO u (sF u 21 x) := ⟨fun _ _ b => va_ne (f := u.1) b, fun _ _ => rfl, rfl⟩
theorem p_X7_writeTable {c lg : Int32} {k : Nat} {t : OT} (h1 : 5 ≤ k) (h2 : k ≤ 12) (hlg : lg = nI k) (u : OS) (hl : u.1 0 = lg) (hs : ∀ i, i < 32 → 0 ≤ (u.2.1 8 i).toInt) (h : MO t c u) : pc (f_X7_writeTable u) (fun v => MO (tab (u.2.1 8) 32 0 ((1 : Int32) <<< (lg &&& (31 : Int32))) (t, 0)).1 0 v ∧ PO u v) := by
  have sk := sk32 h1 h2 hlg
  have ak := (powA k (by omega) h1).2.2.2.2.2
  unfold f_X7_writeTable
  rw [hl]
  refine pc_bnd (pc_bnd (pc_bnd (p_X7_writeTable_L14 u _ (tab (u.2.1 8) 32 0 ((1 : Int32) <<< (lg &&& (31 : Int32))) (t, 0)) (fun a b v hv hp => pc_bnd (pc_some ⟨⟨hv.1, rfl⟩, hp.tr PO.s21⟩)) FU 32 0 (0 : Int32) _ (sF u 21 (0 : Int32)) (t, 0) rfl rfl (by rw [sk]; omega) hs rfl ⟨h.1, rfl⟩ PO.s21)))

-- ===== form 2: a sign by the table =====
def rn2 (B : Int64) : Nat → Int64 × OT → Int64 × OT
  | 0, s => s
  | k + 1, s => if s.1 < B then s else rn2 B k (s.1 >>> (((1 : Int32)).toInt64 &&& (63 : Int64)), apw s.2 (s.1.toInt32 &&& (1 : Int32)))
theorem rn2_st (B : Int64) : ∀ (k : Nat) (s : Int64 × OT), s.1 < B → rn2 B k s = s := by
  intro k s h
  cases k with
  | zero => rfl
  | succ k =>
    unfold rn2
    rw [if_pos h]
def bnd2 (q : Int32) : Int64 := (2 : Int64) * q.toInt64
theorem bnd2_v {q : Int32} (h1 : 1 ≤ q.toInt) (h2 : q.toInt ≤ 4096) : (bnd2 q).toInt = 2 * q.toInt := by
  have o : ((2 : Int64)).toInt = 2 := by decide
  unfold bnd2
  rw [mul64 (by rw [o, tl32]; omega) (by rw [o, tl32]; omega), o, tl32]
def sgT (lg q r : Int32) (pl : Nat → Int32) (l : Nat) (s : SS) : SS := ((rn2 (bnd2 q) 13 (s.2 l, s.1)).2, vp_updL s.2 l (((1 : Int64) <<< (lg.toInt64 &&& (63 : Int64))) + (pl ((r + (rn2 (bnd2 q) 13 (s.2 l, s.1)).1.toInt32) - q).toNatClampNeg).toInt64))
theorem p_X7_writeBitsOf_L8 (q : Int32) (lg : Int32) {Q : OS → Prop} (K : Int64 → OS → Option OS) (st : Nat → Int64) (F : Int64 × OT) (hF : F.1 < bnd2 q) (u0 : OS) (hK : ∀ v, MST lg (F.2, st) v → WS u0 v → pc (K F.1 v) Q) : ∀ (n k : Nat) (y : Int64) (t : OT) (u : OS), rn2 (bnd2 q) k (y, t) = F → MST lg (t, st) u → WS u0 u → pc (f_X7_writeBitsOf_L8 q n K y u) Q := by
  intro n
  induction n with
  | zero => intro k y t u _ _ _; exact pc_none
  | succ n ih =>
    intro k y t u hk h hW
    obtain ⟨h0, h1, h2⟩ := h
    have h1 : RO t (u.1 20) (u.2.1 19) := h1
    unfold f_X7_writeBitsOf_L8
    refine pc_ite (fun c => ?_) (fun c => pc_gdi (fun _ g1 => pc_bnd (pc_bnd (pc_bnd ?_))))
    · have c : y < bnd2 q := c
      rw [rn2_st _ k (y, t) c] at hk
      have e : y = F.1 := by rw [← hk]
      have e2 : t = F.2 := by rw [← hk]
      rw [e]
      refine hK u ⟨h0, ?_, h2⟩ hW
      rw [← e2]
      exact h1
    · have c : ¬ y < bnd2 q := c
      cases k with
      | zero =>
        exfalso
        apply c
        have hk : (y, t) = F := hk
        have e : y = F.1 := by rw [← hk]
        rw [e]
        exact hF
      | succ k =>
        have hk : (if y < bnd2 q then (y, t) else rn2 (bnd2 q) k (y >>> (((1 : Int32)).toInt64 &&& (63 : Int64)), apw t (y.toInt32 &&& (1 : Int32)))) = F := hk
        rw [if_neg c] at hk
        exact ih k _ _ _ hk ⟨h0, h1.apw (y.toInt32 &&& (1 : Int32)) (by omega), h2⟩ hW.push
theorem p_X7_writeBitsOf {lg : Int32} {s : SS} (u : OS) (p q r : Int32) (l : Nat) (hp : p.toInt = l) (hl : l < 4) (h : MST lg s u) (hB : (rn2 (bnd2 q) 13 (s.2 l, s.1)).1 < bnd2 q) : pc (f_X7_writeBitsOf u p q r) (fun v => MST lg (sgT lg q r (u.2.1 13) l s) v ∧ WV u v) := by
  have en : p.toNatClampNeg = l := by
    show p.toInt.toNat = l
    omega
  unfold f_X7_writeBitsOf
  refine pc_gdi (fun _ _ => pc_bnd (pc_bnd ?_))
  rw [en, h.2.2 l hl]
  refine p_X7_writeBitsOf_L8 q lg _ s.2 _ hB u (fun v hv hW => pc_gdi (fun _ _ => pc_gdi (fun _ _ => pc_bnd (pc_some ⟨⟨hv.1, hv.2.1, fun i hi => ?_⟩, hW.wv.setL⟩)))) FU 13 (s.2 l) s.1 u rfl h WS.rf
  show vp_updL (v.2.2.1 16) p.toNatClampNeg _ i = vp_updL s.2 l _ i
  unfold vp_updL
  rw [en, hv.1, hW.2.1 13 (by decide)]
  by_cases z : i = l
  · rw [if_pos z, if_pos z]
  · rw [if_neg z, if_neg z]
    exact hv.2.2 i hi
theorem sr1 (y : Int64) : (y >>> (((1 : Int32)).toInt64 &&& (63 : Int64))).toInt = y.toInt / 2 := by
  have s := shr64 y ((((1 : Int32)).toInt64 &&& (63 : Int64))) 1 sh_1
  have p1 : ((2 ^ 1 : Nat) : Int) = 2 := by decide
  rw [p1] at s
  exact s
theorem apw_n (t : OT) (b : Int32) (h : t.1.toInt < 100000) : (apw t b).1.toInt = t.1.toInt + 1 := inc32 (by omega)
theorem rn2_all {q : Int32} (hq : 1 ≤ q.toInt) (hq2 : q.toInt ≤ 4096) : ∀ (k : Nat) (y : Int64) (t : OT), q.toInt ≤ y.toInt → y.toInt < ((2 ^ k : Nat) : Int) → 0 ≤ t.1.toInt → t.1.toInt + k ≤ 100000 → q.toInt ≤ (rn2 (bnd2 q) k (y, t)).1.toInt ∧ (rn2 (bnd2 q) k (y, t)).1.toInt < 2 * q.toInt ∧ t.1.toInt ≤ (rn2 (bnd2 q) k (y, t)).2.1.toInt ∧ (rn2 (bnd2 q) k (y, t)).2.1.toInt ≤ t.1.toInt + k := by
  have eb := bnd2_v hq hq2
  intro k
  induction k with
  | zero =>
    intro y t h0 h1 h2 h3
    have h1 : y.toInt < 1 := h1
    omega
  | succ k ih =>
    intro y t h0 h1 h2 h3
    have e : rn2 (bnd2 q) (k + 1) (y, t) = if y < bnd2 q then (y, t) else rn2 (bnd2 q) k (y >>> (((1 : Int32)).toInt64 &&& (63 : Int64)), apw t (y.toInt32 &&& (1 : Int32))) := rfl
    rw [e]
    by_cases c : y < bnd2 q
    · rw [if_pos c]
      have c1 := Int64.lt_iff_toInt_lt.mp c
      rw [eb] at c1
      exact ⟨h0, c1, Int.le_refl _, by show t.1.toInt ≤ t.1.toInt + ((k + 1 : Nat) : Int); omega⟩
    · rw [if_neg c]
      have c1 := mt Int64.lt_iff_toInt_lt.mpr c
      rw [eb] at c1
      have s := sr1 y
      have a := apw_n t (y.toInt32 &&& (1 : Int32)) (by omega)
      have pe : ((2 ^ (k + 1) : Nat) : Int) = ((2 ^ k : Nat) : Int) * 2 := by rw [Nat.pow_succ, Int.natCast_mul]; rfl
      rw [pe] at h1
      have r := ih (y >>> (((1 : Int32)).toInt64 &&& (63 : Int64))) (apw t (y.toInt32 &&& (1 : Int32))) (by omega) (by omega) (by omega) (by omega)
      refine ⟨r.1, r.2.1, ?_, ?_⟩
      · have := r.2.2.1
        omega
      · have := r.2.2.2
        omega
set_option maxHeartbeats 1000000 in
theorem p_X5_putByTable_L19 (q : Int32) (hq : 1 ≤ q.toInt) (hq2 : q.toInt ≤ 4096) (F : Int64 × OT) (cap : Nat → Nat) {Q : OS × OS → Prop} (K : Int32 → Int32 → OS → Option (OS × OS)) (hK : ∀ x v, PSB F.2 v → v.2.2.2 = cap → pc (K F.1.toInt32 x v) Q) : ∀ (n k : Nat) (x z : Int32) (y : Int64) (t : OT) (P : OS), x.toInt = 13 - (k : Int) → k ≤ 13 → z = y.toInt32 → q.toInt ≤ y.toInt → y.toInt < ((2 ^ k : Nat) : Int) → rn2 (bnd2 q) k (y, t) = F → PSB t P → P.2.2.2 = cap → t.1.toInt + k ≤ 8 * (cap 0 : Int) → cap 0 ≤ 8000 → pc (f_X5_putByTable_L19 q n K x z P) Q := by
  have eb := bnd2_v hq hq2
  have e2q : ((2 : Int32) * q).toInt = 2 * q.toInt := by rw [mul32 (by rw [li_2]; omega) (by rw [li_2]; omega), li_2]
  intro n
  induction n with
  | zero => intro k x z y t P _ _ _ _ _ _ _ _ _ _; exact pc_none
  | succ n ih =>
    intro k x z y t P hx hk hz hy0 hy1 hF h hcap hc h8
    have pk : 2 ^ k ≤ 2 ^ 13 := Nat.pow_le_pow_right (by decide) hk
    have p13 : 2 ^ 13 = 8192 := by decide
    have ez : z.toInt = y.toInt := by rw [hz, ti32 (by omega) (by omega)]
    have fin : rn2 (bnd2 q) k (y, t) = (y, t) → pc (K z x P) Q := by
      intro e
      rw [e] at hF
      have e1 : y = F.1 := by rw [← hF]
      have e2 : t = F.2 := by rw [← hF]
      rw [hz, e1]
      refine hK x P ?_ hcap
      rw [← e2]
      exact h
    unfold f_X5_putByTable_L19
    refine pc_ite (fun c => fin ?_) (fun c => pc_ite (fun d => fin (rn2_st _ k (y, t) ?_)) (fun d => ?_))
    · have c1 := Int32.lt_iff_toInt_lt.mp c
      rw [li_12, hx] at c1
      have : k = 0 := by omega
      subst this
      rfl
    · have d1 := Int32.lt_iff_toInt_lt.mp d
      rw [e2q, ez] at d1
      exact Int64.lt_iff_toInt_lt.mpr (by rw [eb]; exact d1)
    · have c1 := mt Int32.lt_iff_toInt_lt.mpr c
      rw [li_12, hx] at c1
      have d1 := mt Int32.lt_iff_toInt_lt.mpr d
      rw [e2q, ez] at d1
      obtain ⟨k', rfl⟩ : ∃ k', k = k' + 1 := ⟨k - 1, by omega⟩
      have nd : ¬ y < bnd2 q := fun w => by
        have := Int64.lt_iff_toInt_lt.mp w
        omega
      have hF2 : (if y < bnd2 q then (y, t) else rn2 (bnd2 q) k' (y >>> (((1 : Int32)).toInt64 &&& (63 : Int64)), apw t (y.toInt32 &&& (1 : Int32)))) = F := hF
      rw [if_neg nd] at hF2
      have s := sr1 y
      have e1 := inc32 (x := x) (by omega)
      have pe : ((2 ^ (k' + 1) : Nat) : Int) = ((2 ^ k' : Nat) : Int) * 2 := by rw [Nat.pow_succ, Int.natCast_mul]; rfl
      rw [pe] at hy1
      have ea := apw_n t (z &&& (1 : Int32)) (by omega)
      have ez2 : z / (2 : Int32) = (y >>> (((1 : Int32)).toInt64 &&& (63 : Int64))).toInt32 := by
        refine Int32.toInt_inj.mp ?_
        rw [div32 (by omega) (by decide), li_2, ez, ti32 (by omega) (by omega), s]
      refine pc_oC1 (p_pushB P z h (by rw [hcap]; omega)) (fun v hv => pc_bnd (pc_bnd (ih k' _ _ (y >>> (((1 : Int32)).toInt64 &&& (63 : Int64))) (apw t (z &&& (1 : Int32))) v (by rw [e1, hx]; omega) (by omega) ez2 (by omega) (by omega) ?_ hv.1 (hv.2.trans hcap) (by omega) h8)))
      rw [hz]
      exact hF2
theorem p_X4_fromOf (u : OS) (p : Int32) (j : Nat) (hp : p.toInt = j) (hj : j < 32) : pc (f_X4_fromOf u p) (fun r => r = u.2.1 4 j) := by
  have en : p.toNatClampNeg = j := by
    show p.toInt.toNat = j
    omega
  unfold f_X4_fromOf
  refine pc_oC1 (pc_of_ok (s_X6_isSign' p j hp hj)) (fun r hr => pc_ite (fun c => ?_) (fun _ => pc_gdi (fun _ _ => pc_some (by rw [en]))))
  exfalso
  rw [hr] at c
  exact absurd c (by decide)
set_option maxHeartbeats 1000000 in
theorem p_X5_putByTable {k : Nat} (h1 : 5 ≤ k) (h2 : k ≤ 12) (lg : Int32) (hlg : lg = nI k) (uS W P : OS) (pl : Nat → Int32) (hsz : uS.1 1 = (1 : Int32) <<< (lg &&& (31 : Int32))) (p1 : Int32) (l p : Nat) (hp1 : p1.toInt = l) (hl : l < 4) (hp : p < 32) (s : SS) (hW : ∀ i, i < 4 → W.2.2.1 0 i = s.2 i) (hP : PSB s.1 P) (hc : s.1.1.toInt + 13 ≤ 8 * (P.2.2.2 0 : Int)) (q1 : 1 ≤ (uS.2.1 3 p).toInt) (f0 : 0 ≤ (uS.2.1 4 p).toInt) (fq : (uS.2.1 3 p).toInt + (uS.2.1 4 p).toInt ≤ ((2 ^ k : Nat) : Int)) (y0 : ((2 ^ k : Nat) : Int) ≤ (s.2 l).toInt) (y1 : (s.2 l).toInt < 2 * ((2 ^ k : Nat) : Int)) (hpl : ∀ i, i < 2 ^ k → uS.2.1 10 i = pl i ∧ 0 ≤ (pl i).toInt ∧ (pl i).toInt < ((2 ^ k : Nat) : Int)) (c0 : 2 ^ k ≤ uS.2.2.2 10) (c1 : uS.2.2.2 10 ≤ 4096) : pc (f_X5_putByTable uS W P p1 (nI p)) (fun v => (∀ i, i < 4 → v.1.2.2.1 0 i = (sgT lg (uS.2.1 3 p) (uS.2.1 4 p) pl l s).2 i) ∧ PSB (sgT lg (uS.2.1 3 p) (uS.2.1 4 p) pl l s).1 v.2 ∧ v.2.2.2.2 = P.2.2.2 ∧ v.1.1 = W.1) := by
  have en : p1.toNatClampNeg = l := by
    show p1.toInt.toNat = l
    omega
  have ep : (nI p).toInt = (p : Int) := nI_toInt (by omega)
  have ak := powA k (by omega) h1
  have sk := sk32 h1 h2 hlg
  have k13 : ((2 ^ 13 : Nat) : Int) = 8192 := by decide
  have b := rn2_all q1 (by omega) 13 (s.2 l) s.1 (by omega) (by omega) hP.1 (by have := hP.2.2.2.2; omega)
  unfold f_X5_putByTable
  refine pc_gdi (fun _ _ => pc_bnd_eq (fun x2 hx2 => pc_oC1 (p_X4_shareOf uS (nI p) p ep hp) (fun r3 h3 => pc_bnd ?_)))
  rw [en, hW l hl] at hx2
  rw [h3]
  refine p_X5_putByTable_L19 (uS.2.1 3 p) q1 (by omega) (rn2 (bnd2 (uS.2.1 3 p)) 13 (s.2 l, s.1)) P.2.2.2 _ (fun x v hv hcv => ?_) FU 13 0 x2 (s.2 l) s.1 P (by rw [li_0]; decide) (by decide) hx2 (by omega) (by omega) rfl hP rfl (by omega) hP.2.2.2.2
  unfold f_X4_placeOf
  generalize hz : rn2 (bnd2 (uS.2.1 3 p)) 13 (s.2 l, s.1) = Z at b hv
  have ez : Z.1.toInt32.toInt = Z.1.toInt := ti32 (by omega) (by omega)
  have e5 : ((uS.2.1 4 p + Z.1.toInt32) - uS.2.1 3 p).toInt = (uS.2.1 4 p).toInt + Z.1.toInt - (uS.2.1 3 p).toInt := by
    have a : (uS.2.1 4 p + Z.1.toInt32).toInt = (uS.2.1 4 p).toInt + Z.1.toInt := by rw [add32 (by rw [ez]; omega) (by rw [ez]; omega), ez]
    rw [sub32 (by rw [a]; omega) (by rw [a]; omega), a]
  have slot : ((uS.2.1 4 p + Z.1.toInt32) - uS.2.1 3 p).toNatClampNeg < 2 ^ k := by
    show ((uS.2.1 4 p + Z.1.toInt32) - uS.2.1 3 p).toInt.toNat < 2 ^ k
    omega
  have hq := hpl _ slot
  have en10 := nIt (n := uS.2.2.2 10) (by omega)
  refine pc_oC1 (R := fun r => r = pl ((uS.2.1 4 p + Z.1.toInt32) - uS.2.1 3 p).toNatClampNeg) ?_ (fun r12 h12 => pc_gdi (fun _ _ => pc_bnd (pc_some ⟨fun i hi => ?_, ?_, hcv, rfl⟩)))
  · refine pc_oC1 (p_X4_fromOf uS (nI p) p ep hp) (fun r1 hr1 => pc_oC1 (p_X4_shareOf uS (nI p) p ep hp) (fun r3 hr3 => ?_))
    rw [hr1, hr3]
    refine pc_bnd (pc_ite (fun w => ?_) (fun _ => pc_ite (fun w => ?_) (fun _ => pc_ite (fun w => ?_) (fun _ => pc_gdi (fun _ _ => pc_some hq.1)))))
    · exfalso
      have := Int32.lt_iff_toInt_lt.mp w
      rw [li_0, e5] at this
      omega
    · exfalso
      have := Int32.le_iff_toInt_le.mp w
      rw [hsz, sk, e5] at this
      omega
    · exfalso
      have := Int32.le_iff_toInt_le.mp w
      rw [en10, e5] at this
      omega
  · have val : (uS.1 1 + r12).toInt64 = ((1 : Int64) <<< (lg.toInt64 &&& (63 : Int64))) + (pl ((uS.2.1 4 p + Z.1.toInt32) - uS.2.1 3 p).toNatClampNeg).toInt64 := by
      have o1 := (one_k k (by omega)).1
      rw [← hlg] at o1
      refine Int64.toInt_inj.mp ?_
      rw [h12, tl32, add32 (by rw [hsz, sk]; omega) (by rw [hsz, sk]; omega), hsz, sk, add64 (by rw [o1, tl32]; omega) (by rw [o1, tl32]; omega), o1, tl32]
    have eS : (sgT lg (uS.2.1 3 p) (uS.2.1 4 p) pl l s).2 = vp_updL s.2 l (((1 : Int64) <<< (lg.toInt64 &&& (63 : Int64))) + (pl ((uS.2.1 4 p + Z.1.toInt32) - uS.2.1 3 p).toNatClampNeg).toInt64) := by
      unfold sgT
      rw [hz]
    rw [eS]
    show vp_updL (W.2.2.1 0) p1.toNatClampNeg (uS.1 1 + r12).toInt64 i = _
    rw [val]
    unfold vp_updL
    rw [en]
    by_cases z : i = l
    · rw [if_pos z, if_pos z]
    · rw [if_neg z, if_neg z]
      exact hW i hi
  · have eS : (sgT lg (uS.2.1 3 p) (uS.2.1 4 p) pl l s).1 = Z.2 := by
      unfold sgT
      rw [hz]
    show PSB (sgT lg (uS.2.1 3 p) (uS.2.1 4 p) pl l s).1 v
    rw [eS]
    exact hv

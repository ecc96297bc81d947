-- ===== the class writes octets =====
-- MX: the row so far, c bits of its last octet used
def XO (t : OT) (u : OS) : Prop := RO t (u.1 1) (u.2.1 0) ∧ IO u
def spr (c : Int32) (s : Int32) : Prop := 0 ≤ c.toInt ∧ c.toInt ≤ 7 ∧ (c = 0 → s = 0) ∧ (¬ c = 0 → s = (8 : Int32) - c)
theorem p_X1_append {t : OT} (u : OS) (p : Int32) (h : XO t u) (hl : (u.1 1).toInt < 8000) : pcA (f_X1_append u p) (fun q => XO (ap t p) q.1 ∧ q.1.1 2 = u.1 2) := by
  have hI := s_X1_append u p h.2
  intro q m k e
  have hIO : IO q.1 := by
    obtain ⟨z, ez, pz⟩ := hI
    rw [e] at ez
    cases ez
    exact pz.1
  have key : pcA (f_X1_append u p) (fun q => RO (ap t p) (q.1.1 1) (q.1.2.1 0) ∧ q.1.1 2 = u.1 2) := by
    obtain ⟨h0, h1, h2, h3⟩ := h.2
    unfold f_X1_append
    refine pcA_oA2 (R := fun (z : Nat × (Nat → Int32)) => (∀ i, i < u.2.2.2 0 → z.2 i = u.2.1 0 i) ∧ (u.1 1).toInt < (z.1 : Int) ∧ z.1 ≤ 8000) (fun z m n ez => ?_) (fun n f kc ks hr => pcA_addc (pcA_bnd (pcA_ite (fun c => pcA_gdi (fun _ _ => pcA_bnd (pcA_bnd (pcA_some ⟨?_, rfl⟩)))) (fun c => ?_))))
    · obtain ⟨w, ew, pw⟩ := s_withRoom (lm := 8000) (u.2.1 0) h2 li_8000 h3 (by decide) (by omega : (u.1 1).toInt ≤ 100000)
      rw [ez] at ew
      cases ew
      obtain ⟨r1, r2, r3, r4, _, _⟩ := pw
      refine ⟨r4, ?_, r2⟩
      rcases r3 with q | q
      · exact q
      · rw [li_8000] at q
        omega
    · have r : RO t (u.1 1) f := by
        obtain ⟨a, b, c2⟩ := h.1
        exact ⟨a, b, fun i hi => (hr.1 i (by omega)).trans (c2 i hi)⟩
      exact r.ap p (by omega)
    · exfalso
      apply c
      show u.1 1 < nI n
      refine Int32.lt_iff_toInt_lt.mpr ?_
      rw [nIt (by have := hr.2.2; omega)]
      exact hr.2.1
  have kq := key q m k e
  exact ⟨⟨kq.1, hIO⟩, kq.2⟩
theorem ap_n (t : OT) (b : Int32) (h : t.1.toInt < 100000) : (ap t b).1.toInt = t.1.toInt + 1 := inc32 (by omega)
theorem XO.n {t : OT} {u : OS} (h : XO t u) : u.1 1 = t.1 ∧ 0 ≤ t.1.toInt := ⟨h.1.1, by rw [← h.1.1]; exact h.1.2.1⟩
-- a number that is not negative: both ways of shifting are one
theorem ush64 (v : Int64) (h0 : 0 ≤ v.toInt) (s : UInt64) (k : Nat) (hk : s.toNat % 64 = k) : ((v.toUInt64 >>> s).toInt64).toInt = v.toInt / ((2 ^ k : Nat) : Int) := by
  have e := tn64 h0
  have e1 : ((v.toUInt64 >>> s).toInt64).toBitVec.toNat = v.toBitVec.toNat / 2 ^ k := by
    show (v.toUInt64 >>> s).toNat = _
    rw [UInt64.toNat_shiftRight, hk, Nat.shiftRight_eq_div_pow]
    rfl
  have h := i64_hi v
  have hle : v.toBitVec.toNat / 2 ^ k ≤ v.toBitVec.toNat := Nat.div_le_self _ _
  rw [it64 (by rw [e1]; omega), e1, Int.natCast_ediv, e]
theorem la_5 : ∀ k : Nat, k < 8 → ((((8 : Int32) * nI k)).toInt64.toUInt64 &&& Int64.toUInt64 63).toNat % 64 = 8 * k := by decide
theorem la_6 : ∀ k : Nat, k < 8 → ((((8 : Int32) * nI k).toInt64 &&& (63 : Int64)).toBitVec.smod 64).toNat = 8 * k := by decide
theorem ushr_o (v : Int64) (h0 : 0 ≤ v.toInt) (k : Nat) (hk : k < 8) : ((v).toUInt64 >>> ((((8 : Int32) * nI k)).toInt64.toUInt64 &&& Int64.toUInt64 63)).toInt64 = v >>> ((((8 : Int32) * nI k)).toInt64 &&& (63 : Int64)) := by
  refine Int64.toInt_inj.mp ?_
  rw [ush64 v h0 _ (8 * k) (la_5 k hk), shr64 v _ (8 * k) (la_6 k hk)]
theorem ap_c {t : OT} {a b : Int32} (h : a &&& (255 : Int32) = b &&& (255 : Int32)) : ap t a = ap t b := by
  unfold ap
  rw [h]
theorem p_X1_appendNumber_L5 (v : Int64) (v0 : 0 ≤ v.toInt) {Q : OS → Prop} (K : Int32 → OS → Option (OS × Nat × Nat)) (T : OT) (hK : ∀ x w, XO T w → pcA (K x w) Q) : ∀ (n m : Nat) (x : Int32) (u : OS) (t : OT), x.toInt = (m : Int) - 1 → m ≤ 8 → t.1.toInt + m ≤ 8000 → wid v m t = T → XO t u → pcA (f_X1_appendNumber_L5 v n K x u) Q := by
  intro n
  induction n with
  | zero => intro m x u t _ _ _ _ _; exact pcA_none
  | succ n ih =>
    intro m x u t hx hm hb hT h
    unfold f_X1_appendNumber_L5
    refine pcA_ite (fun d => hK _ _ ?_) (fun d => ?_)
    · have d1 := Int32.lt_iff_toInt_lt.mp d
      rw [li_0, hx] at d1
      have : m = 0 := by omega
      subst this
      rw [← hT]
      exact h
    · have d1 := mt Int32.lt_iff_toInt_lt.mpr d
      rw [li_0, hx] at d1
      obtain ⟨k, rfl⟩ : ∃ k, m = k + 1 := ⟨m - 1, by omega⟩
      have ex : x = nI k := by
        refine Int32.toInt_inj.mp ?_
        rw [hx, nI_toInt (by omega)]
        omega
      have e1 := dec32 (x := x) (by omega)
      have hn := h.n
      refine pcA_oA2 (p_X1_append u _ h (by rw [hn.1]; omega)) (fun w r kc ks hw => pcA_addc (pcA_bnd (ih k _ w _ (by rw [e1, hx]; omega) (by omega) (by rw [ap_n _ _ (by omega)]; omega) ?_ hw.1)))
      rw [ex, ushr_o v v0 k (by omega)]
      exact hT
theorem p_X1_appendNumber {t : OT} (u : OS) (v : Int64) (q : Int32) (m : Nat) (hq : q.toInt = m) (hm : m ≤ 8) (v0 : 0 ≤ v.toInt) (hb : t.1.toInt + m ≤ 8000) (h : XO t u) : pcA (f_X1_appendNumber u v q) (fun w => XO (wid v m t) w) := by
  unfold f_X1_appendNumber
  have e : (q - (1 : Int32)).toInt = (m : Int) - 1 := by rw [sub32 (by rw [li_1]; omega) (by rw [li_1]; omega), li_1, hq]
  exact pcA_bnd (pcA_bnd (p_X1_appendNumber_L5 v v0 _ (wid v m t) (fun x w hw => pcA_some hw) FU m _ _ t e hm hb rfl h))
theorem IO_2 {u : OS} {x : Int32} (h : IO u) : IO (sF u 2 x) := h
theorem IO_0 {u : OS} {i v : Int32} (h : IO u) : IO (sA u 0 i v) := h
-- spare bits of the class, used bits of the reference
theorem spr_st {c s : Int32} (h : spr c s) : ((if c = 0 then (8 : Int32) else s) - (1 : Int32)) = (7 : Int32) - c ∧ spr ((c + (1 : Int32)) - (c + (1 : Int32)) / (8 : Int32) * (8 : Int32)) ((7 : Int32) - c) := by
  obtain ⟨h0, h1, h2, h3⟩ := h
  have e1 := inc32 (x := c) (by omega)
  have er := rem32 (a := c + (1 : Int32)) (b := 8) (by omega) (by decide)
  rw [e1, li_8] at er
  have e7 : ((7 : Int32) - c).toInt = 7 - c.toInt := by rw [sub32 (by rw [li_7]; omega) (by rw [li_7]; omega), li_7]
  refine ⟨?_, by omega, by omega, fun q => ?_, fun q => ?_⟩
  · by_cases z : c = 0
    · rw [if_pos z, z]
      decide
    · rw [if_neg z, h3 z]
      refine Int32.toInt_inj.mp ?_
      have e8 : ((8 : Int32) - c).toInt = 8 - c.toInt := by rw [sub32 (by rw [li_8]; omega) (by rw [li_8]; omega), li_8]
      rw [sub32 (by rw [e8, li_1]; omega) (by rw [e8, li_1]; omega), e8, e7, li_1]
      omega
  · refine Int32.toInt_inj.mp ?_
    have : ((c + (1 : Int32)) - (c + (1 : Int32)) / (8 : Int32) * (8 : Int32)).toInt = 0 := by rw [q, li_0]
    rw [e7, li_0]
    omega
  · refine Int32.toInt_inj.mp ?_
    have n0 : ((c + (1 : Int32)) - (c + (1 : Int32)) / (8 : Int32) * (8 : Int32)).toInt ≠ 0 := fun z => q (Int32.toInt_inj.mp (by rw [z, li_0]))
    have e9 : ((8 : Int32) - ((c + (1 : Int32)) - (c + (1 : Int32)) / (8 : Int32) * (8 : Int32))).toInt = 8 - (c.toInt + 1) % 8 := by rw [sub32 (by rw [er, li_8]; omega) (by rw [er, li_8]; omega), er, li_8]
    rw [e9, e7]
    omega
def XB (s : OT × Int32) (u : OS) : Prop := XO s.1 u ∧ spr s.2 (u.1 2) ∧ (¬ s.2 = 0 → 1 ≤ s.1.1.toInt)
theorem pbit_n (s : OT × Int32) (b : Int32) (h0 : 0 ≤ s.1.1.toInt) (h1 : s.1.1.toInt < 100000) (hc : ¬ s.2 = 0 → 1 ≤ s.1.1.toInt) : s.1.1.toInt ≤ (pbit s b).1.1.toInt ∧ (pbit s b).1.1.toInt ≤ s.1.1.toInt + 1 ∧ 1 ≤ (pbit s b).1.1.toInt := by
  show s.1.1.toInt ≤ (if s.2 = (0 : Int32) then ap s.1 (0 : Int32) else s.1).1.toInt ∧ (if s.2 = (0 : Int32) then ap s.1 (0 : Int32) else s.1).1.toInt ≤ s.1.1.toInt + 1 ∧ 1 ≤ (if s.2 = (0 : Int32) then ap s.1 (0 : Int32) else s.1).1.toInt
  by_cases z : s.2 = (0 : Int32)
  · rw [if_pos z, ap_n _ _ h1]
    omega
  · rw [if_neg z]
    have := hc z
    omega
set_option maxHeartbeats 1000000 in
theorem p_X1_appendBits_L4 (p : Int32) {Q : OS → Prop} (K : Int32 → OS → Option (OS × Nat × Nat)) (T : OT × Int32) (hK : ∀ x w, XB T w → pcA (K x w) Q) : ∀ (n m : Nat) (x : Int32) (u : OS) (s : OT × Int32), x.toInt = (m : Int) - 1 → m ≤ 31 → s.1.1.toInt + m ≤ 8000 → pbits p m s = T → XB s u → pcA (f_X1_appendBits_L4 p n K x u) Q := by
  intro n
  induction n with
  | zero => intro m x u s _ _ _ _ _; exact pcA_none
  | succ n ih =>
    intro m x u s hx hm hb hT h
    have hn := h.1.n
    unfold f_X1_appendBits_L4
    refine pcA_ite (fun d => hK _ _ ?_) (fun d => ?_)
    · have d1 := Int32.lt_iff_toInt_lt.mp d
      rw [li_0, hx] at d1
      have : m = 0 := by omega
      subst this
      rw [← hT]
      exact h
    · have d1 := mt Int32.lt_iff_toInt_lt.mpr d
      rw [li_0, hx] at d1
      obtain ⟨k, rfl⟩ : ∃ k, m = k + 1 := ⟨m - 1, by omega⟩
      have ex : x = nI k := by
        refine Int32.toInt_inj.mp ?_
        rw [hx, nI_toInt (by omega)]
        omega
      have e1 := dec32 (x := x) (by omega)
      have sp := spr_st h.2.1
      have pn := pbit_n s ((p >>> (x &&& (31 : Int32))) &&& (1 : Int32)) hn.2 (by omega) h.2.2
      have key : ∀ (w : OS) (t : OT), XO t w → t = (if s.2 = (0 : Int32) then ap s.1 (0 : Int32) else s.1) → (w.1 2) - (1 : Int32) = (7 : Int32) - s.2 → pcA (bnd (sF w 2 ((w.1 2) - (1 : Int32))) fun u13 =>
    if (u13.1 1) ≤ (0 : Int32) then (
    bnd (x + (-1 : Int32)) fun x15 =>
    f_X1_appendBits_L4 p n K x15 u13) else (
    gdi ((u13.1 1) - (1 : Int32)) (u13.2.2.2 0) <|
    gdi ((u13.1 1) - (1 : Int32)) (u13.2.2.2 0) <|
    bnd (sA u13 0 ((u13.1 1) - (1 : Int32)) ((u13.2.1 0 (((u13.1 1) - (1 : Int32))).toNatClampNeg) ||| (((p >>> (x &&& (31 : Int32))) &&& (1 : Int32)) <<< ((u13.1 2) &&& (31 : Int32))))) fun u18 =>
    bnd (x + (-1 : Int32)) fun x19 =>
    f_X1_appendBits_L4 p n K x19 u18)) Q := by
        intro w t hw ht e2
        have tn : 1 ≤ t.1.toInt := by
          rw [ht]
          exact pn.2.2
        refine pcA_bnd (pcA_ite (fun z => ?_) (fun z => pcA_gdi (fun _ _ => pcA_gdi (fun _ _ => pcA_bnd (pcA_bnd (ih k _ _ (pbit s ((p >>> (x &&& (31 : Int32))) &&& (1 : Int32))) (by rw [e1, hx]; omega) (by omega) (by omega) (by rw [ex]; exact hT) ⟨⟨?_, IO_0 (IO_2 hw.2)⟩, ?_, fun _ => pn.2.2⟩))))))
        · exfalso
          have z : w.1 1 ≤ (0 : Int32) := z
          have z1 := i0_le.mp z
          rw [hw.n.1] at z1
          omega
        · have r := hw.1.orl (((p >>> (x &&& (31 : Int32))) &&& (1 : Int32)) <<< (((7 : Int32) - s.2) &&& (31 : Int32))) (by rw [hw.n.1]; exact tn)
          rw [ht] at r
          show RO _ (w.1 1) (upd (w.2.1 0) ((w.1 1) - (1 : Int32)).toNatClampNeg ((w.2.1 0 (((w.1 1) - (1 : Int32))).toNatClampNeg) ||| (((p >>> (x &&& (31 : Int32))) &&& (1 : Int32)) <<< (((w.1 2) - (1 : Int32)) &&& (31 : Int32)))))
          rw [e2]
          exact r
        · show spr _ ((w.1 2) - (1 : Int32))
          rw [e2]
          exact sp.2
      refine pcA_bnd (pcA_ite (fun z => ?_) (fun z => key u s.1 h.1 ?_ ?_))
      · have z0 : s.2 = 0 := by
          rcases Classical.em (s.2 = 0) with q | q
          · exact q
          · exfalso
            have e := h.2.1.2.2.2 q
            have a1 := h.2.1.1
            have a2 := h.2.1.2.1
            have : (u.1 2).toInt = 8 - s.2.toInt := by rw [e, sub32 (by rw [li_8]; omega) (by rw [li_8]; omega), li_8]
            rw [z, li_0] at this
            omega
        refine pcA_oA2 (p_X1_append u _ h.1 (by rw [hn.1]; omega)) (fun w r kc ks hw => pcA_addc (pcA_bnd (key _ _ ⟨hw.1.1, IO_2 hw.1.2⟩ ?_ ?_)))
        · rw [if_pos z0]
        · show (8 : Int32) - (1 : Int32) = (7 : Int32) - s.2
          rw [z0]
          decide
      · have z0 : ¬ s.2 = 0 := fun q => z (h.2.1.2.2.1 q)
        rw [if_neg z0]
      · have z0 : ¬ s.2 = 0 := fun q => z (h.2.1.2.2.1 q)
        have a := sp.1
        rw [if_neg z0] at a
        exact a
theorem p_X1_appendBits {s : OT × Int32} (u : OS) (p q : Int32) (m : Nat) (hq : q = nI m) (hm : m ≤ 31) (hb : s.1.1.toInt + m ≤ 8000) (h : XB s u) : pcA (f_X1_appendBits u p q) (fun w => XB (pbits p m s) w) := by
  unfold f_X1_appendBits
  have eq : q.toInt = m := by rw [hq, nI_toInt (by omega)]
  have e : (q - (1 : Int32)).toInt = (m : Int) - 1 := by rw [sub32 (by rw [li_1]; omega) (by rw [li_1]; omega), li_1, eq]
  exact pcA_bnd (pcA_bnd (p_X1_appendBits_L4 p _ (pbits p m s) (fun x w hw => pcA_some hw) FU m _ _ s e hm hb rfl h))
theorem pbits_n (v : Int32) : ∀ (n : Nat) (s : OT × Int32), 0 ≤ s.1.1.toInt → s.1.1.toInt + n < 100000 → (¬ s.2 = 0 → 1 ≤ s.1.1.toInt) → s.1.1.toInt ≤ (pbits v n s).1.1.toInt ∧ (pbits v n s).1.1.toInt ≤ s.1.1.toInt + n := by
  intro n
  induction n with
  | zero =>
    intro s h0 h1 hc
    show s.1.1.toInt ≤ s.1.1.toInt ∧ s.1.1.toInt ≤ s.1.1.toInt + ((0 : Nat) : Int)
    omega
  | succ n ih =>
    intro s h0 h1 hc
    have p := pbit_n s ((v >>> (nI n &&& (31 : Int32))) &&& (1 : Int32)) h0 (by omega) hc
    have q := ih (pbit s ((v >>> (nI n &&& (31 : Int32))) &&& (1 : Int32))) (by omega) (by omega) (fun _ => p.2.2)
    show s.1.1.toInt ≤ (pbits v n (pbit s ((v >>> (nI n &&& (31 : Int32))) &&& (1 : Int32)))).1.1.toInt ∧ (pbits v n (pbit s ((v >>> (nI n &&& (31 : Int32))) &&& (1 : Int32)))).1.1.toInt ≤ s.1.1.toInt + ((n + 1 : Nat) : Int)
    omega
theorem p_X4_shareOf (u : OS) (p : Int32) (j : Nat) (hp : p.toInt = j) (hj : j < 32) : pc (f_X4_shareOf u p) (fun r => r = u.2.1 3 j) := by
  have en : p.toNatClampNeg = j := by
    show p.toInt.toNat = j
    omega
  unfold f_X4_shareOf
  refine pc_oC1 (pc_of_ok (s_X6_isSign' p j hp hj)) (fun r hr => pc_ite (fun c => ?_) (fun _ => pc_gdi (fun _ _ => pc_some (by rw [en]))))
  exfalso
  rw [hr] at c
  exact absurd c (by decide)
set_option maxHeartbeats 1000000 in
theorem p_X5_putTable_L8 (uS : OS) (hs : ∀ i, i < 32 → 0 ≤ (uS.2.1 3 i).toInt) {Q : OS → Prop} (K : Int32 → Int32 → OS → Option (OS × Nat × Nat)) (T : OT × Int32) (hK : ∀ a b w, XB T w → pcA (K a b w) Q) : ∀ (n k j : Nat) (x y : Int32) (u : OS) (s : OT × Int32), x = nI j → j + k = 32 → y.toInt ≤ 4096 → s.1.1.toInt + 13 * k ≤ 8000 → tab (uS.2.1 3) k j y s = T → XB s u → pcA (f_X5_putTable_L8 uS n K x y u) Q := by
  intro n
  induction n with
  | zero => intro k j x y u s _ _ _ _ _ _; exact pcA_none
  | succ n ih =>
    intro k j x y u s hx hj hy hb hT h
    have ex : x.toInt = j := by rw [hx, nI_toInt (by omega)]
    have hn := h.1.n
    unfold f_X5_putTable_L8
    refine pcA_ite (fun d => hK _ _ _ ?_) (fun d => ?_)
    · have d1 := Int32.le_iff_toInt_le.mp d
      rw [li_32, ex] at d1
      have : k = 0 := by omega
      subst this
      rw [← hT]
      exact h
    · have d1 := mt Int32.le_iff_toInt_le.mpr d
      rw [li_32, ex] at d1
      obtain ⟨k', rfl⟩ : ∃ k', k = k' + 1 := ⟨k - 1, by omega⟩
      have hj32 : j < 32 := by omega
      have eT : tab (uS.2.1 3) (k' + 1) j y s = if y ≤ (0 : Int32) then s else tab (uS.2.1 3) k' (j + 1) (y - uS.2.1 3 j) (pbits (uS.2.1 3 j) (blen y) s) := rfl
      rw [eT] at hT
      refine pcA_ite (fun z => hK _ _ _ ?_) (fun z => ?_)
      · rw [if_pos z] at hT
        rw [← hT]
        exact h
      · rw [if_neg z] at hT
        have z1 := mt i0_le.mpr z
        have bo := bo_eq y (by omega)
        have b13 := bo.2.2 hy
        have e1 : x + (1 : Int32) = nI (j + 1) := by rw [hx, nI_1]
        have s0 := hs j hj32
        have hi := i32_hi (uS.2.1 3 j)
        have ey : (y - uS.2.1 3 j).toInt ≤ 4096 := by
          rw [sub32 (by omega) (by omega)]
          omega
        have pn := pbits_n (uS.2.1 3 j) (blen y) s hn.2 (by omega) h.2.2
        refine pcA_oC1 (p_X4_shareOf uS x j ex hj32) (fun r13 h13 => ?_)
        rw [bo.2.1]
        refine pcA_oC1 (pc_some (Q := fun r => r = nI (blen y)) rfl) (fun r15 h15 => ?_)
        rw [h13]
        refine pcA_oA1 (p_X1_appendBits (s := s) u (uS.2.1 3 j) r15 (blen y) h15 (by omega) (by omega) h) (fun w kc ks hw => pcA_addc (pcA_oC1 (p_X4_shareOf uS x j ex hj32) (fun r22 h22 => ?_)))
        rw [h22]
        exact pcA_bnd (pcA_bnd (ih k' (j + 1) _ _ _ _ e1 (by omega) ey (by omega) hT hw))

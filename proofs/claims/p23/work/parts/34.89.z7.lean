-- ===== the class writes a form: how long =====
theorem p_X6_firstState {F lg : Int32} {k : Nat} (h1 : 5 ≤ k) (h2 : k ≤ 12) (hlg : lg = nI k) {sz : Int32} (hsz : sz = (1 : Int32) <<< (lg &&& (31 : Int32))) : pc (f_X6_firstState F sz) (fun y => y = fsF F lg) := by
  have sk := sk32 h1 h2 hlg
  unfold f_X6_firstState fsF
  refine pc_ite (fun a => pc_some ?_) (fun a => pc_ite (fun b => pc_some ?_) (fun b => pc_some ?_))
  · rw [if_neg (by rw [a]; decide), if_pos a]
    refine Int64.toInt_inj.mp ?_
    rw [tl32, hsz, sk, hlg, (one_k k (by omega)).1]
  · rw [if_pos b]
  · rw [if_neg b, if_neg a]
theorem p_X6_stateWidth (F : Int32) : pc (f_X6_stateWidth F) (fun r => r.toInt = wF F) := by
  unfold f_X6_stateWidth wF
  refine pc_ite (fun a => pc_some ?_) (fun a => pc_ite (fun b => pc_some ?_) (fun b => pc_some ?_))
  · rw [if_neg (by rw [a]; decide), if_pos a]; decide
  · rw [if_pos b]; decide
  · rw [if_neg b, if_neg a]; decide
theorem k_X1_appendNumber_L5 (v : Int64) (x0 : Int32) {Q : OS → Prop} (K : Int32 → OS → Option (OS × Nat × Nat)) (hK : ∀ x w, IO w → w.1 2 = x0 → pcA (K x w) Q) : ∀ (n : Nat) (x : Int32) (u : OS), IO u → (u.1 1).toInt + x.toInt < 8000 → u.1 2 = x0 → pcA (f_X1_appendNumber_L5 v n K x u) Q := by
  intro n
  induction n with
  | zero => intro x u _ _ _; exact pcA_none
  | succ n ih =>
    intro x u hI hb h
    unfold f_X1_appendNumber_L5
    refine pcA_ite (fun _ => hK _ _ hI h) (fun d => ?_)
    have d1 := mt Int32.lt_iff_toInt_lt.mpr d
    rw [li_0] at d1
    have e1 := dec32 (x := x) (by omega)
    have xo : XO (u.1 1, u.2.1 0) u := ⟨⟨rfl, hI.1, fun _ _ => rfl⟩, hI⟩
    refine pcA_oA2 (p_X1_append u _ xo (by omega)) (fun w r kc ks hw => pcA_addc (pcA_bnd (ih _ w hw.1.2 ?_ (hw.2.trans h))))
    have en : w.1 1 = u.1 1 + (1 : Int32) := hw.1.1.1
    rw [en, e1, inc32 (by omega)]
    omega
theorem k_X1_appendNumber (u : OS) (v : Int64) (q : Int32) (h0 : 0 ≤ q.toInt) (hI : IO u) (hb : (u.1 1).toInt + q.toInt ≤ 8000) : pcA (f_X1_appendNumber u v q) (fun w => w.1 2 = u.1 2) := by
  unfold f_X1_appendNumber
  have e : (q - (1 : Int32)).toInt = q.toInt - 1 := by
    have := i32_hi q
    rw [sub32 (by rw [li_1]; omega) (by rw [li_1]; omega), li_1]
  exact pcA_bnd (pcA_bnd (k_X1_appendNumber_L5 v (u.1 2) _ (fun x w _ hw => pcA_some hw) FU _ _ hI (by rw [e]; omega) rfl))
theorem p_X5_putHead {t : OT} (uS uW u : OS) (F len b0 : Int32) (hb : (F * (4 : Int32)) + ((uW.1 2) / (2 : Int32)) = b0) (hlen : 0 ≤ len.toInt) (h : XO t u) (ht : t.1.toInt ≤ 100) (z : u.1 2 = 0) : pcA (f_X5_putHead uS uW u F len) (fun w => XB (wid len.toInt64 2 (ap (ap t b0) (uS.1 0)), 0) w) := by
  have hn := h.n
  have a1 := ap_n t b0 (by omega)
  have a2 := ap_n (ap t b0) (uS.1 0) (by omega)
  unfold f_X5_putHead
  rw [hb]
  refine pcA_oA2 (p_X1_append u b0 h (by rw [hn.1]; omega)) (fun w r kc ks hw => pcA_addc (pcA_oA2 (p_X1_append w (uS.1 0) hw.1 (by rw [hw.1.n.1]; omega)) (fun w2 r2 kc2 ks2 hw2 => pcA_addc (pcA_oA1 (pcA_and (p_X1_appendNumber (t := ap (ap t b0) (uS.1 0)) w2 len.toInt64 2 2 (by decide) (by decide) (by rw [tl32]; exact hlen) (by omega) hw2.1) (k_X1_appendNumber w2 len.toInt64 2 (by decide) hw2.1.2 (by rw [hw2.1.n.1, li_2]; omega))) (fun w3 kc3 ks3 hw3 => pcA_addc (pcA_some ⟨hw3.1, ?_, fun q => absurd rfl q⟩))))))
  have e2 : w3.1 2 = 0 := by rw [hw3.2, hw2.2, hw.2, z]
  rw [e2]
  exact ⟨by show 0 ≤ (0 : Int32).toInt; decide, by show (0 : Int32).toInt ≤ 7; decide, fun _ => rfl, fun q => absurd rfl q⟩
theorem p_X5_putTable {t : OT} (uS u : OS) (hs : ∀ i, i < 32 → 0 ≤ (uS.2.1 3 i).toInt) (hz : (uS.1 1).toInt ≤ 4096) (ht : t.1.toInt ≤ 1000) (h : XB (t, 0) u) : pcA (f_X5_putTable uS u) (fun w => XB (tab (uS.2.1 3) 32 0 (uS.1 1) (t, 0)) w) := by
  unfold f_X5_putTable
  exact pcA_bnd (pcA_bnd (p_X5_putTable_L8 uS hs _ (tab (uS.2.1 3) 32 0 (uS.1 1) (t, 0)) (fun a b w hw => pcA_some hw) FU 32 0 (0 : Int32) (uS.1 1) u (t, 0) rfl rfl hz (by show t.1.toInt + 13 * ((32 : Nat) : Int) ≤ 8000; omega) rfl h))
theorem p_X5_writeRow_L116 {F : Int32} (uW : OS) (st : Nat → Int64) (hW : ∀ i, i < 4 → uW.2.2.1 0 i = st i) (h0 : ∀ i, i < 4 → 0 ≤ (st i).toInt) (ln : Nat) (hl2 : uW.1 2 = nI ln) (hln : ln ≤ 4) {Q : OS × OS × OS × OS → Prop} (K : Int32 → OS → Option ((OS × OS × OS × OS) × Nat × Nat)) (R : OT) (hK : ∀ x w, XO R w → pcA (K x w) Q) : ∀ (n j : Nat) (x : Int32) (u : OS) (t : OT), x = nI j → j ≤ ln → stO (wF F) st (ln - j) j t = R → t.1.toInt + 8 * ((ln - j : Nat) : Int) ≤ 8000 → XO t u → pcA (f_X5_writeRow_L116 F uW n K x u) Q := by
  have elt : (nI ln).toInt = (ln : Int) := nI_toInt (by omega)
  have w8 := wF_8 F
  intro n
  induction n with
  | zero => intro j x u t _ _ _ _ _; exact pcA_none
  | succ n ih =>
    intro j x u t hx hj hR hb h
    have ex : x.toInt = j := by rw [hx, nI_toInt (by omega)]
    have exn : x.toNatClampNeg = j := by
      show x.toInt.toNat = j
      omega
    unfold f_X5_writeRow_L116
    rw [hl2]
    refine pcA_ite (fun d => hK _ _ ?_) (fun d => pcA_gdi (fun _ _ => ?_))
    · have d1 := Int32.le_iff_toInt_le.mp d
      rw [elt, ex] at d1
      rw [show ln - j = 0 by omega] at hR
      rw [← hR]
      exact h
    · have d1 := mt Int32.le_iff_toInt_le.mpr d
      rw [elt, ex] at d1
      obtain ⟨r, hr⟩ : ∃ r, ln - j = r + 1 := ⟨ln - j - 1, by omega⟩
      rw [hr] at hR hb
      have hR : stO (wF F) st r (j + 1) (wid (st j) (wF F) t) = R := hR
      have e2 : x + (1 : Int32) = nI (j + 1) := by rw [hx, nI_1]
      have hn := h.n
      have wn := wid_n (st j) (wF F) t hn.2 (by omega)
      rw [exn, hW j (by omega)]
      refine pcA_oC1 (p_X6_stateWidth F) (fun q hq => pcA_oA1 (p_X1_appendNumber (t := t) u (st j) q (wF F) hq w8 (h0 j (by omega)) (by omega) h) (fun w kc ks hw => pcA_addc (pcA_bnd (ih (j + 1) _ w _ e2 (by omega) (by rw [show ln - (j + 1) = r by omega]; exact hR) (by rw [show ln - (j + 1) = r by omega, wn]; omega) hw))))
theorem p_X2_pour_n (uP : OS) (x2 : Int32) (N : Int) (hN : N ≤ 8000) {Q : OS → Prop} (K : Int32 → OS → Option (OS × Nat × Nat)) (hK : ∀ x w, IO w → (w.1 1).toInt = N → pcA (K x w) Q) : ∀ (n m : Nat) (x : Int32) (u : OS), x.toInt = (m : Int) - 1 → m ≤ 8000 → IO u → (u.1 1).toInt + m = N → pcA (f_X2_pourInto_L28 uP x2 n K x u) Q := by
  intro n
  induction n with
  | zero => intro m x u _ _ _ _; exact pcA_none
  | succ n ih =>
    intro m x u hx hm hI hb
    unfold f_X2_pourInto_L28
    refine pcA_ite (fun d => hK _ _ hI ?_) (fun d => ?_)
    · have d1 := Int32.lt_iff_toInt_lt.mp d
      rw [li_0, hx] at d1
      omega
    · have d1 := mt Int32.lt_iff_toInt_lt.mpr d
      rw [li_0, hx] at d1
      have e1 := dec32 (x := x) (by omega)
      have xo : XO (u.1 1, u.2.1 0) u := ⟨⟨rfl, hI.1, fun _ _ => rfl⟩, hI⟩
      have key : ∀ x13 : Int32, pcA (gdi x (uP.2.2.2 0) <|
    oA2 (f_X1_append u (((uP.2.1 0 (x).toNatClampNeg) <<< (((8 : Int32) - x2) &&& (31 : Int32))) ||| (x13 >>> (x2 &&& (31 : Int32))))) fun u16 r18 kc20 ks20 =>
    addc kc20 ks20 <|
    bnd (x + (-1 : Int32)) fun x22 =>
    f_X2_pourInto_L28 uP x2 n K x22 u16) Q := by
        intro x13
        refine pcA_gdi (fun _ _ => pcA_oA2 (p_X1_append u _ xo (by omega)) (fun w r kc ks hw => pcA_addc (pcA_bnd (ih (m - 1) _ w (by rw [e1, hx]; omega) (by omega) hw.1.2 ?_))))
        have en : w.1 1 = u.1 1 + (1 : Int32) := hw.1.1.1
        rw [en, inc32 (by omega)]
        omega
      exact pcA_bnd (pcA_ite (fun _ => key _) (fun _ => pcA_gdi (fun _ _ => key _)))
def octF (F : Int32) (t : OT) : Nat := if F = (1 : Int32) then 4 * t.1.toInt.toNat else if F = (2 : Int32) then (t.1.toInt.toNat + 7) / 8 else t.1.toInt.toNat
theorem PIL.oct {F : Int32} {t : OT} {P : OS} (h : PIL F t P) : 0 ≤ (P.1 1).toInt ∧ ((P.1 1).toInt + 7) / 8 = (octF F t : Int) := by
  unfold octF
  by_cases f1 : F = (1 : Int32)
  · obtain ⟨w, PS⟩ := h.2.1 f1
    rw [if_pos f1]
    have a := PS.1
    have b := PS.2.1
    omega
  · rw [if_neg f1]
    by_cases f2 : F = (2 : Int32)
    · have PS := h.1 f2
      rw [if_pos f2]
      have a := PS.1
      have b := PS.2.1
      rw [b]
      omega
    · have PS := h.2.2 f1 f2
      rw [if_neg f2]
      have a := PS.1
      have b := PS.2.1
      omega
theorem p_X2_pourInto_n (uP u : OS) (m : Nat) (h0 : 0 ≤ (uP.1 1).toInt) (h8 : (uP.1 1).toInt ≤ 70000) (hm : ((uP.1 1).toInt + 7) / 8 = (m : Int)) (hI : IO u) (hb : (u.1 1).toInt + m ≤ 8000) : pcA (f_X2_pourInto uP u) (fun w => (w.1 1).toInt = (u.1 1).toInt + m) := by
  unfold f_X2_pourInto
  have e7 : ((uP.1 1) + (7 : Int32)).toInt = (uP.1 1).toInt + 7 := by rw [add32 (by rw [li_7]; omega) (by rw [li_7]; omega), li_7]
  have e1 : (((uP.1 1) + (7 : Int32)) / (8 : Int32)).toInt = (m : Int) := by rw [div32 (by rw [e7]; omega) (by decide), e7, li_8, hm]
  have e2 : ((((uP.1 1) + (7 : Int32)) / (8 : Int32)) - (1 : Int32)).toInt = (m : Int) - 1 := by rw [sub32 (by rw [e1, li_1]; omega) (by rw [e1, li_1]; omega), e1, li_1]
  have i0 := hI.1
  exact pcA_bnd (pcA_bnd (pcA_bnd (pcA_bnd (p_X2_pour_n uP _ ((u.1 1).toInt + m) hb _ (fun x w _ hw => pcA_some hw) FU m _ u e2 (by omega) hI rfl))))
theorem octF_b {F : Int32} {k M : Nat} {s : SS} (hM : M ≤ 1000) (h : SI F k s M) : octF F s.1 ≤ 7512 := by
  unfold octF
  by_cases f1 : F = (1 : Int32)
  · have w := h.1 f1
    rw [if_pos f1]
    have a := w.1
    have b := w.2.1
    omega
  · rw [if_neg f1]
    by_cases f2 : F = (2 : Int32)
    · have w := h.2.1 f2
      rw [if_pos f2]
      have a := w.1
      have b := w.2.1
      omega
    · have w := (h.2.2 f1 f2).n
      rw [if_neg f2]
      omega
theorem p_X2_empty (u : OS) : pc (f_X2_empty u) (fun v => v.1 1 = 0 ∧ v.2 = u.2) := by
  unfold f_X2_empty
  exact pc_bnd (pc_some ⟨rfl, rfl⟩)

-- ===== the table =====
theorem nand_or {a b : Prop} : ¬ (a ∧ b) ↔ (¬ a ∨ ¬ b) := ⟨fun h => (Classical.em a).elim (fun x => Or.inr (fun y => h ⟨x, y⟩)) Or.inl, fun h q => h.elim (fun x => x q.1) (fun y => y q.2)⟩
def bl0 (y : Int32) : Nat := if y ≤ (0 : Int32) then 0 else blen y
theorem bo0 {y : Int32} : f_X7_bitsOf y = some (nI (bl0 y)) ∧ (y.toInt ≤ 4096 → bl0 y ≤ 13) := by
  unfold bl0
  by_cases c : y ≤ (0 : Int32)
  · rw [if_pos c]
    refine ⟨?_, fun _ => Nat.zero_le _⟩
    unfold f_X7_bitsOf bnd
    have e : FU = 99999 + 1 := rfl
    rw [e]
    unfold f_X7_bitsOf_L2
    have e0 : y >>> ((0 : Int32) &&& (31 : Int32)) = y := by
      have s := shr32 y 0 (by decide)
      have e : nI 0 = (0 : Int32) := rfl
      rw [e] at s
      refine Int32.toInt_inj.mp ?_
      rw [s]
      have p : ((2 ^ 0 : Nat) : Int) = 1 := rfl
      rw [p, Int.ediv_one]
    rw [e0]
    show (if y ≤ (0 : Int32) then some (0 : Int32) else (bnd ((0 : Int32) + (1 : Int32)) fun x5 => f_X7_bitsOf_L2 y 99999 (fun x2 => some x2) x5)) = some (nI 0)
    rw [if_pos c]
    rfl
  · rw [if_neg c]
    have c1 := mt i0_le.mpr c
    have b := bo_eq y (by omega)
    exact ⟨b.1, b.2.2⟩
def sT (t : OT) : Nat → Nat → Int32 → RC → (Nat → Int32) → RC × Int32 × (Nat → Int32)
  | 0, _, y, s, sh => (s, y, sh)
  | c + 1, j, y, s, sh =>
    if (sBs t (bl0 y) (s, 0)).1.2.1 = (0 : Int32) then
      (if (sBs t (bl0 y) (s, 0)).2 ≤ y then sT t c (j + 1) (y - (sBs t (bl0 y) (s, 0)).2) (sBs t (bl0 y) (s, 0)).1 (upd sh j (sBs t (bl0 y) (s, 0)).2)
       else (((sBs t (bl0 y) (s, 0)).1.1, (3 : Int32), (sBs t (bl0 y) (s, 0)).1.2.2), y, sh))
    else ((sBs t (bl0 y) (s, 0)).1, y, sh)
theorem sT_g {t : OT} {c j : Nat} {y : Int32} {s : RC} {sh : Nat → Int32} (z : (sBs t (bl0 y) (s, 0)).1.2.1 = (0 : Int32)) (d : (sBs t (bl0 y) (s, 0)).2 ≤ y) : sT t (c + 1) j y s sh = sT t c (j + 1) (y - (sBs t (bl0 y) (s, 0)).2) (sBs t (bl0 y) (s, 0)).1 (upd sh j (sBs t (bl0 y) (s, 0)).2) := by
  rw [sT, if_pos z, if_pos d]
theorem sT_3 {t : OT} {c j : Nat} {y : Int32} {s : RC} {sh : Nat → Int32} (z : (sBs t (bl0 y) (s, 0)).1.2.1 = (0 : Int32)) (d : ¬ (sBs t (bl0 y) (s, 0)).2 ≤ y) : sT t (c + 1) j y s sh = (((sBs t (bl0 y) (s, 0)).1.1, (3 : Int32), (sBs t (bl0 y) (s, 0)).1.2.2), y, sh) := by
  rw [sT, if_pos z, if_neg d]
theorem sT_e {t : OT} {c j : Nat} {y : Int32} {s : RC} {sh : Nat → Int32} (z : ¬ (sBs t (bl0 y) (s, 0)).1.2.1 = (0 : Int32)) : sT t (c + 1) j y s sh = ((sBs t (bl0 y) (s, 0)).1, y, sh) := by
  rw [sT, if_neg z]
-- nothing left: the rest are 0
theorem sT_0 {t : OT} {s : RC} (z : s.2.1 = (0 : Int32)) : ∀ (c j : Nat) (sh : Nat → Int32), (∀ i, j ≤ i → sh i = 0) → sT t c j 0 s sh = (s, 0, sh) := by
  intro c
  induction c with
  | zero => intro j sh _; rfl
  | succ c ih =>
    intro j sh h0
    have e : bl0 (0 : Int32) = 0 := by
      unfold bl0
      rw [if_pos (by decide)]
    have eS : sBs t (bl0 (0 : Int32)) (s, 0) = (s, 0) := by
      rw [e]
      rfl
    have z2 : (sBs t (bl0 (0 : Int32)) (s, 0)).1.2.1 = (0 : Int32) := by rw [eS]; exact z
    have d2 : (sBs t (bl0 (0 : Int32)) (s, 0)).2 ≤ (0 : Int32) := by rw [eS]; show (0 : Int32) ≤ 0; decide
    rw [sT_g z2 d2, eS]
    have eu : upd sh j (0 : Int32) = sh := by
      funext i
      unfold upd
      by_cases q : i = j
      · rw [if_pos q, h0 i (by omega)]
      · rw [if_neg q]
    show sT t c (j + 1) ((0 : Int32) - (0 : Int32)) s (upd sh j (0 : Int32)) = (s, 0, sh)
    have es : (0 : Int32) - (0 : Int32) = 0 := by decide
    rw [eu, es]
    exact ih (j + 1) sh (fun i hi => h0 i (by omega))
theorem sk_sT {t : OT} : ∀ (c j : Nat) (y : Int32) (s : RC) (sh : Nat → Int32), SK t s → SK t (sT t c j y s sh).1 := by
  intro c
  induction c with
  | zero => intro j y s sh h; exact h
  | succ c ih =>
    intro j y s sh h
    have k := sk_sBs (t := t) (bl0 y) (s, 0) h
    by_cases z : (sBs t (bl0 y) (s, 0)).1.2.1 = (0 : Int32)
    · by_cases d : (sBs t (bl0 y) (s, 0)).2 ≤ y
      · rw [sT_g z d]
        exact ih _ _ _ _ k
      · rw [sT_3 z d]
        exact sk_f k (by decide)
    · rw [sT_e z]
      exact k
theorem r_readTable_L30 {t : OT} (u0 : OS) {Q : OS → Prop} (K : Int32 → Int32 → OS → Option OS) (T : RC × Int32) (hK : ∀ x v, MR t T.1 v → MF u0 v → pc (K T.2 x v) Q) : ∀ (n m : Nat) (x y : Int32) (u : OS) (s : RC), x.toInt = (m : Int) → sBs t m (s, y) = T → MR t s u → MF u0 u → pc (f_X7_readTable_L30 n K x y u) Q := by
  intro n
  induction n with
  | zero => intro m x y u s _ _ _ _; exact pc_none
  | succ n ih =>
    intro m x y u s hm hT h hF
    unfold f_X7_readTable_L30
    refine pc_ite (fun c => ?_) (fun c => pc_oC2 (r_nextBit u h) (fun v r hv => pc_bnd (pc_bnd ?_)))
    · have c1 := i0_le.mp c
      have : m = 0 := by omega
      subst this
      have hT : (s, y) = T := hT
      rw [← hT] at hK
      exact hK _ _ h hF
    · have c1 := mt i0_le.mpr c
      have e1 := dec32 (x := x) (by omega)
      obtain ⟨m', rfl⟩ : ∃ m', m = m' + 1 := ⟨m - 1, by omega⟩
      refine ih m' _ _ v (sB t s).1 (by omega) ?_ hv.1 (hF.tr hv.2.2)
      have hr : r = (sB t s).2 := hv.2.1
      rw [hr]
      exact hT
theorem ix_32 {j : Nat} (hj : j < 32) : ((32 : Int32) + nI j).toNatClampNeg = 32 + j := by
  show ((32 : Int32) + nI j).toInt.toNat = 32 + j
  rw [add32 (by rw [li_32, nI_toInt (by omega)]; omega) (by rw [li_32, nI_toInt (by omega)]; omega), li_32, nI_toInt (by omega)]
  omega
set_option maxHeartbeats 1000000 in
theorem r_readTable_L16 {t : OT} {Q : OS → Prop} (K : Int32 → Int32 → OS → Option OS) (T : RC × Int32 × (Nat → Int32)) (hB : ¬ T.1.2.1 = 0 → ∀ v, MR t T.1 v → Q v) (hK : T.1.2.1 = 0 → ∀ x v, MR t T.1 v → (∀ i, i < 32 → v.2.1 8 (32 + i) = T.2.2 i) → pc (K T.2.1 x v) Q) : ∀ (n c j : Nat) (x y : Int32) (u : OS) (s : RC) (sh : Nat → Int32), x = nI j → j + c = 32 → y.toInt ≤ 4096 → s.2.1 = 0 → sT t c j y s sh = T → MR t s u → (∀ i, i < j → u.2.1 8 (32 + i) = sh i) → pc (f_X7_readTable_L16 n K x y u) Q := by
  intro n
  induction n with
  | zero => intro c j x y u s sh _ _ _ _ _ _ _; exact pc_none
  | succ n ih =>
    intro c j x y u s sh hx hj hy z0 hT h hs
    have ex : x.toInt = j := by rw [hx, nI_toInt (by omega)]
    unfold f_X7_readTable_L16
    refine pc_ite (fun d => ?_) (fun d => ?_)
    · have d1 := Int32.le_iff_toInt_le.mp d
      rw [li_32, ex] at d1
      have c0 : c = 0 := by omega
      subst c0
      have hT : (s, y, sh) = T := hT
      rw [← hT] at hK
      exact hK z0 _ _ h (fun i hi => hs i (by omega))
    have d1 := mt Int32.le_iff_toInt_le.mpr d
    rw [li_32, ex] at d1
    have j32 : j < 32 := by omega
    obtain ⟨c', rfl⟩ : ∃ c', c = c' + 1 := ⟨c - 1, by omega⟩
    have bo := bo0 (y := y)
    have b13 := bo.2 hy
    have e1 : x + (1 : Int32) = nI (j + 1) := by rw [hx, nI_1]
    rw [bo.1]
    have sv := sBs_v (t := t) (bl0 y) 0 (s, 0) (by omega) (by show 0 ≤ (0 : Int32).toInt; decide) (by show (0 : Int32).toInt < ((2 ^ 0 : Nat) : Int); decide)
    refine pc_bnd (r_readTable_L30 u _ (sBs t (bl0 y) (s, 0)) ?_ FU (bl0 y) _ 0 u s (by rw [nI_toInt (by omega)]) rfl h MF.rf)
    intro x35 v hv hF
    have hvs : ∀ i, i < j → v.2.1 8 (32 + i) = sh i := fun i hi => by rw [hF.2]; exact hs i hi
    refine pc_bnd ?_
    have set : ∀ (w : OS) (a : Int32), (∀ i, i < j → w.2.1 8 (32 + i) = sh i) → ∀ i, i < j + 1 → (sA w 8 ((32 : Int32) + x) a).2.1 8 (32 + i) = upd sh j a i := by
      intro w a hw i hi
      show upd (w.2.1 8) ((32 : Int32) + x).toNatClampNeg a (32 + i) = upd sh j a i
      rw [hx, ix_32 j32]
      unfold upd
      by_cases q : i = j
      · rw [if_pos (by omega), if_pos q]
      · rw [if_neg (by omega), if_neg q]
        exact hw i (by omega)
    refine pc_ite (fun z => pc_ite (fun a => ?_) (fun a => ?_)) (fun z => ?_)
    · have zz : (sBs t (bl0 y) (s, 0)).1.2.1 = (0 : Int32) := hv.2.1.symm.trans z
      rw [sT_g zz a] at hT
      refine pc_gdi (fun _ _ => pc_bnd (pc_bnd (pc_ite (fun q => pc_bnd (ih c' (j + 1) _ _ _ (sBs t (bl0 y) (s, 0)).1 (upd sh j (sBs t (bl0 y) (s, 0)).2) e1 (by omega) ?_ zz hT hv (set v _ hvs))) (fun q => ?_))))
      · have a1 := Int32.le_iff_toInt_le.mp a
        have lo := i32_lo y
        have sv0 : 0 ≤ (sBs t (bl0 y) (s, 0)).2.toInt := sv.1
        rw [sub32 (by omega) (by omega)]
        omega
      · exfalso
        apply q
        show v.1 27 ≤ (0 : Int32)
        rw [z]
        decide
    · have zz : (sBs t (bl0 y) (s, 0)).1.2.1 = (0 : Int32) := hv.2.1.symm.trans z
      rw [sT_3 zz a] at hT
      refine pc_oC1 (r_fail v 3) (fun w hw => ?_)
      rw [if_pos z] at hw
      refine pc_gdi (fun _ _ => pc_bnd (pc_bnd (pc_ite (fun q => ?_) (fun q => pc_some (hB ?_ _ ?_)))))
      · exfalso
        have q : w.1 27 ≤ (0 : Int32) := q
        rw [hw] at q
        have q : (3 : Int32) ≤ (0 : Int32) := q
        exact absurd q (by decide)
      · rw [← hT]
        show ¬ (3 : Int32) = 0
        decide
      · rw [← hT, hw]
        exact ⟨hv.1, rfl, hv.2.2.1, hv.2.2.2.1, sk_f hv.2.2.2.2 (by decide)⟩
    · have zz : ¬ (sBs t (bl0 y) (s, 0)).1.2.1 = (0 : Int32) := fun q => z (hv.2.1.trans q)
      rw [sT_e zz] at hT
      refine pc_gdi (fun _ _ => pc_bnd (pc_bnd (pc_ite (fun q => ?_) (fun q => pc_some (hB ?_ _ ?_)))))
      · exfalso
        have q : v.1 27 ≤ (0 : Int32) := q
        have q1 := i0_le.mp q
        have q2 := hv.2.2.2.2.2.2.2.1
        rw [hv.2.1] at q1
        exact zz (Int32.toInt_inj.mp (by rw [li_0]; omega))
      · rw [← hT]
        exact zz
      · rw [← hT]
        exact hv
-- what is left of the last octet
def rsd (t : OT) (s : RC) : Prop := ¬ ((t.2 (s.1 - (1 : Int32)).toNatClampNeg) &&& (((1 : Int32) <<< (s.2.2 &&& (31 : Int32))) - (1 : Int32))) = (0 : Int32)
theorem dr_1 : ∀ b : Nat, b < 8 → ∀ v : Nat, v < 256 → ((nI v &&& (((1 : Int32) <<< (nI (b + 1) &&& (31 : Int32))) - (1 : Int32))) = (0 : Int32) ↔ (((nI v >>> (nI b &&& (31 : Int32))) &&& (1 : Int32)) = (0 : Int32) ∧ (nI v &&& (((1 : Int32) <<< (nI b &&& (31 : Int32))) - (1 : Int32))) = (0 : Int32))) := by decide +kernel
theorem rsd_0 {t : OT} {s : RC} (b : s.2.2 = 0) : ¬ rsd t s := by
  unfold rsd
  rw [b]
  have e : (((1 : Int32) <<< ((0 : Int32) &&& (31 : Int32))) - (1 : Int32)) = 0 := by decide
  rw [e, Int32.and_zero]
  exact fun q => q rfl
theorem rsd_s {t : OT} {s : RC} (h : SK t s) (h8 : T8 t) (b : ¬ s.2.2 = 0) : rsd t s ↔ (¬ (btr t s).2 = 0 ∨ rsd t (btr t s).1) := by
  have b1 := bl_ne h b
  obtain ⟨a1, a2, a3, a4, a5, a6⟩ := h
  have e : (s.1 - (1 : Int32)).toInt = s.1.toInt - 1 := by rw [sub32 (by rw [li_1]; omega) (by rw [li_1]; omega), li_1]
  obtain ⟨v, hv, ev⟩ := nI_o (h8 (s.1 - (1 : Int32)).toNatClampNeg (by show ((s.1 - (1 : Int32)).toInt.toNat : Int) < _; omega))
  obtain ⟨k, ek, ek2, _⟩ := nI_ex (x := s.2.2) (by omega)
  obtain ⟨j, rfl⟩ : ∃ j, k = j + 1 := ⟨k - 1, by omega⟩
  have ej : s.2.2 - (1 : Int32) = nI j := by
    refine Int32.toInt_inj.mp ?_
    rw [sub32 (by rw [li_1]; omega) (by rw [li_1]; omega), li_1, nI_toInt (by omega)]
    omega
  have d := dr_1 j (by omega) v hv
  unfold rsd
  show ¬ ((t.2 (s.1 - (1 : Int32)).toNatClampNeg) &&& (((1 : Int32) <<< (s.2.2 &&& (31 : Int32))) - (1 : Int32))) = (0 : Int32) ↔ (¬ (((t.2 (s.1 - (1 : Int32)).toNatClampNeg) >>> ((s.2.2 - (1 : Int32)) &&& (31 : Int32))) &&& (1 : Int32)) = 0 ∨ ¬ ((t.2 (s.1 - (1 : Int32)).toNatClampNeg) &&& (((1 : Int32) <<< ((s.2.2 - (1 : Int32)) &&& (31 : Int32))) - (1 : Int32))) = (0 : Int32))
  rw [ev, ej, ek, d]
  exact nand_or
theorem r_L97 {t : OT} (h8 : T8 t) {Q : OS → Prop} (K : Int32 → OS → Option OS) (u0 : OS) (s1 : RC) (P : Prop) (hK : ∀ x v, (x = 0 ↔ P) → MR t (s1.1, s1.2.1, (0 : Int32)) v → MF u0 v → pc (K x v) Q) : ∀ (n : Nat) (x : Int32) (u : OS) (s : RC), s.1 = s1.1 → s.2.1 = s1.2.1 → s1.2.1 = 0 → ((x = 0 ∨ rsd t s) ↔ P) → (x = 0 ∨ x = 1) → MR t s u → MF u0 u → pc (f_X7_readTable_L97 n K x u) Q := by
  intro n
  induction n with
  | zero => intro x u s _ _ _ _ _ _ _; exact pc_none
  | succ n ih =>
    intro x u s e1 e2 z hP hx h hF
    unfold f_X7_readTable_L97
    refine pc_ite (fun c => ?_) (fun c => pc_oC2 (r_nextBit u h) (fun v r hv => ?_))
    · have c1 := i0_le.mp c
      have b : s.2.2 = 0 := by
        have := h.2.2.2.2.2.2.2.2.1.1
        rw [h.2.2.1] at c1
        exact Int32.toInt_inj.mp (by rw [li_0]; omega)
      refine hK x u ?_ ⟨h.1.trans e1, h.2.1.trans e2, h.2.2.1.trans b, h.2.2.2.1, ?_⟩ hF
      · rw [← hP]
        exact ⟨Or.inl, fun q => q.elim id (fun w => absurd w (rsd_0 b))⟩
      · have k := h.2.2.2.2
        rw [← e1, ← e2]
        exact ⟨k.1, k.2.1, k.2.2.1, k.2.2.2.1, ⟨by show 0 ≤ (0 : Int32).toInt; decide, by show (0 : Int32).toInt ≤ 8; decide⟩, Or.inl li_0⟩
    · have b : ¬ s.2.2 = 0 := fun q => c (by rw [h.2.2.1, q]; decide)
      have eS := sB_t (t := t) b
      have hv1 : MR t (btr t s).1 v := by rw [← eS]; exact hv.1
      have er : r = (btr t s).2 := by rw [← eS]; exact hv.2.1
      have rs := rsd_s h.2.2.2.2 h8 b
      rw [rs] at hP
      have nx : ∀ x2 : Int32, ((x2 = 0 ∨ rsd t (btr t s).1) ↔ P) → (x2 = 0 ∨ x2 = 1) → pc (f_X7_readTable_L97 n K x2 v) Q := fun x2 a1 a2 => ih x2 v (btr t s).1 e1 e2 z a1 a2 hv1 (hF.tr hv.2.2)
      refine pc_ite (fun r0 => pc_ite (fun x0 => nx 0 ?_ (Or.inl rfl)) (fun x0 => nx 1 ?_ (Or.inr rfl))) (fun r0 => nx 0 ?_ (Or.inl rfl))
      · rw [← hP]
        exact ⟨fun _ => Or.inl x0, fun _ => Or.inl rfl⟩
      · rw [← hP]
        rw [er] at r0
        exact ⟨fun q => q.elim (fun w => absurd w (by decide)) (fun w => Or.inr (Or.inr w)), fun q => q.elim (fun w => absurd w x0) (fun w => w.elim (fun w2 => absurd r0 w2) Or.inr)⟩
      · rw [← hP]
        rw [er] at r0
        exact ⟨fun _ => Or.inr (Or.inl r0), fun _ => Or.inl rfl⟩
-- the table as a whole: lg is the logarithm
def tbT (t : OT) (lg : Int32) (s : RC) : RC × Int32 × (Nat → Int32) := sT t 32 0 ((1 : Int32) <<< (lg &&& (31 : Int32))) s (fun _ => 0)
def tbB (t : OT) (lg : Int32) (s : RC) : Prop := (0 : Int32) < (tbT t lg s).2.1 ∨ rsd t (tbT t lg s).1
def tbE (t : OT) (lg : Int32) (s : RC) (r : RC) : Prop := (¬ (tbT t lg s).1.2.1 = 0 ∧ r = (tbT t lg s).1) ∨ ((tbT t lg s).1.2.1 = 0 ∧ tbB t lg s ∧ r = ((tbT t lg s).1.1, (3 : Int32), (0 : Int32))) ∨ ((tbT t lg s).1.2.1 = 0 ∧ ¬ tbB t lg s ∧ r = ((tbT t lg s).1.1, (0 : Int32), (0 : Int32)))
theorem tbE_ex (t : OT) (lg : Int32) (s : RC) : ∃ r, tbE t lg s r := by
  by_cases z : (tbT t lg s).1.2.1 = 0
  · rcases Classical.em (tbB t lg s) with q | q
    · exact ⟨_, Or.inr (Or.inl ⟨z, q, rfl⟩)⟩
    · exact ⟨_, Or.inr (Or.inr ⟨z, q, rfl⟩)⟩
  · exact ⟨_, Or.inl ⟨z, rfl⟩⟩
theorem tbE_0 {t : OT} {lg : Int32} {s r : RC} (h : tbE t lg s r) (z : r.2.1 = 0) : (tbT t lg s).1.2.1 = 0 ∧ ¬ tbB t lg s ∧ r = ((tbT t lg s).1.1, (0 : Int32), (0 : Int32)) := by
  rcases h with ⟨a, b⟩ | ⟨a, b, c⟩ | h
  · rw [b] at z
    exact absurd z a
  · rw [c] at z
    have z : (3 : Int32) = 0 := z
    exact absurd z (by decide)
  · exact h
theorem r_readTable {t : OT} {k : Nat} (k1 : 5 ≤ k) (k2 : k ≤ 12) (h8 : T8 t) {s r : RC} (u : OS) (hl : u.2.1 10 1 = nI k) (z : s.2.1 = 0) (b : s.2.2 = 0) (hr : tbE t (nI k) s r) (h : MRw t s u) : pc (f_X7_readTable u) (fun v => MR t r v ∧ (r.2.1 = 0 → ∀ i, i < 32 → v.2.1 8 (32 + i) = (tbT t (nI k) s).2.2 i)) := by
  have e10 : u.2.1 10 ((1 : Int32)).toNatClampNeg = nI k := hl
  have sk := sk32 k1 k2 (rfl : nI k = nI k)
  have ak := (powA k (by omega) k1).2.2.2.2.2
  unfold f_X7_readTable
  rw [e10]
  refine pc_gdi (fun _ _ => pc_bnd (pc_bnd (pc_bnd ?_)))
  have h0 : MR t s (sF u 29 (0 : Int32)) := ⟨h.1, h.2.1, b.symm, h.2.2.1, h.2.2.2⟩
  refine r_readTable_L16 _ (tbT t (nI k) s) ?_ ?_ FU 32 0 0 _ (sF u 29 (0 : Int32)) s (fun _ => 0) rfl rfl (by rw [sk]; omega) z rfl h0 (fun i hi => absurd hi (Nat.not_lt_zero i))
  · intro nz v hv
    rcases hr with ⟨_, e⟩ | ⟨q, _⟩ | ⟨q, _⟩
    · rw [e]
      exact ⟨hv, fun q => absurd q nz⟩
    · exact absurd q nz
    · exact absurd q nz
  · intro zT x v hv hs
    refine pc_bnd (r_L97 h8 _ v (tbT t (nI k) s).1 (rsd t (tbT t (nI k) s).1) ?_ FU 1 v (tbT t (nI k) s).1 rfl rfl zT ⟨fun q => q.elim (fun w => absurd w (by decide)) id, Or.inr⟩ (Or.inr rfl) hv MF.rf)
    intro x13 w hx hw hF
    have ws : ∀ i, i < 32 → w.2.1 8 (32 + i) = (tbT t (nI k) s).2.2 i := fun i hi => by rw [hF.2]; exact hs i hi
    have z27 : w.1 27 = 0 := hw.2.1.trans zT
    have bad : tbB t (nI k) s → pc (oC1 (f_X7_fail w (3 : Int32)) fun u17 => some u17) (fun v => MR t r v ∧ (r.2.1 = 0 → ∀ i, i < 32 → v.2.1 8 (32 + i) = (tbT t (nI k) s).2.2 i)) := by
      intro q
      have er : r = ((tbT t (nI k) s).1.1, (3 : Int32), (0 : Int32)) := by
        rcases hr with ⟨a, _⟩ | ⟨_, _, e⟩ | ⟨_, a, _⟩
        · exact absurd zT a
        · exact e
        · exact absurd q a
      refine pc_oC1 (r_fail w 3) (fun y hy => pc_some ?_)
      rw [if_pos z27] at hy
      rw [hy, er]
      refine ⟨⟨hw.1, rfl, hw.2.2.1, hw.2.2.2.1, sk_f hw.2.2.2.2 (by decide)⟩, fun q => ?_⟩
      have q : (3 : Int32) = 0 := q
      exact absurd q (by decide)
    refine pc_ite (fun a => bad (Or.inl a)) (fun a => pc_ite (fun c => bad (Or.inr (hx.mp c))) (fun c => pc_some ?_))
    have nb : ¬ tbB t (nI k) s := fun q => q.elim a (fun w => c (hx.mpr w))
    have er : r = ((tbT t (nI k) s).1.1, (0 : Int32), (0 : Int32)) := by
      rcases hr with ⟨a, _⟩ | ⟨_, a, _⟩ | ⟨_, _, e⟩
      · exact absurd zT a
      · exact absurd a nb
      · exact e
    rw [er]
    refine ⟨⟨hw.1, z27, hw.2.2.1, hw.2.2.2.1, ?_⟩, fun _ => ws⟩
    have k := hw.2.2.2.2
    rw [zT] at k
    exact k
-- the class
def ZF (u v : OS) : Prop := v.1 = u.1 ∧ v.2.2 = u.2.2
theorem x_give (z : OS) (x a : Int32) (j : Nat) (hx : x = nI j) (hj : j < 32) : pc (f_X4_give z x a) (fun v => v.2.1 3 = upd (z.2.1 3) j a ∧ ZF z v) := by
  have ex : x.toInt = j := by rw [hx, nI_toInt (by omega)]
  unfold f_X4_give
  refine pc_oC1 (pc_of_ok (s_X6_isSign' x j ex hj)) (fun r hr => pc_ite (fun c => ?_) (fun _ => pc_gdi (fun _ _ => pc_bnd (pc_some ⟨?_, rfl, rfl⟩))))
  · exfalso
    rw [hr] at c
    exact absurd c (by decide)
  · show upd (z.2.1 3) x.toNatClampNeg a = _
    rw [show x.toNatClampNeg = j by show x.toInt.toNat = j; omega]
set_option maxHeartbeats 1000000 in
theorem x_takeTable_L10 {t : OT} (O : OS) (hO : XO t O) (u0 z0 : OS) {Q : OS × OS → Prop} (K : Int32 → Int32 → OS → OS → Option (OS × OS)) (T : RC × Int32 × (Nat → Int32)) (hE : T.1.2.1 = 1 → ∀ u z, XR t T.1 u → XF u0 u → Q (u, z)) (hK3 : T.1.2.1 = 3 → ∀ x y u z, ¬ y = 0 → u.1 5 = T.1.1 → XF u0 u → pc (K y x u z) Q) (hK : T.1.2.1 = 0 → ∀ x u z, XR t T.1 u → XF u0 u → ZF z0 z → (∀ i, i < 32 → z.2.1 3 i = T.2.2 i) → pc (K T.2.1 x u z) Q) : ∀ (n c j : Nat) (x y : Int32) (u z : OS) (s : RC) (sh : Nat → Int32), x = nI j → j + c = 32 → 0 ≤ y.toInt → y.toInt ≤ 4096 → s.2.1 = 0 → sT t c j y s sh = T → XR t s u → XF u0 u → ZF z0 z → (∀ i, i < 32 → z.2.1 3 i = sh i) → (∀ i, j ≤ i → sh i = 0) → pc (f_X3_takeTable_L10 O n K x y u z) Q := by
  intro n
  induction n with
  | zero => intro c j x y u z s sh _ _ _ _ _ _ _ _ _ _ _; exact pc_none
  | succ n ih =>
    intro c j x y u z s sh hx hj y0 hy z0' hT h hF hZ hs hs0
    have ex : x.toInt = j := by rw [hx, nI_toInt (by omega)]
    unfold f_X3_takeTable_L10
    refine pc_ite (fun d => ?_) (fun d => pc_ite (fun dy => ?_) (fun dy => ?_))
    · have d1 := Int32.le_iff_toInt_le.mp d
      rw [li_32, ex] at d1
      have c0 : c = 0 := by omega
      subst c0
      have hT : (s, y, sh) = T := hT
      rw [← hT] at hK
      exact hK z0' _ _ _ h hF hZ hs
    · have y1 := i0_le.mp dy
      have ey : y = 0 := Int32.toInt_inj.mp (by rw [li_0]; omega)
      rw [ey, sT_0 z0' c j sh hs0] at hT
      rw [← hT] at hK
      rw [ey]
      exact hK z0' _ _ _ h hF hZ hs
    · have d1 := mt Int32.le_iff_toInt_le.mpr d
      rw [li_32, ex] at d1
      have j32 : j < 32 := by omega
      obtain ⟨c', rfl⟩ : ∃ c', c = c' + 1 := ⟨c - 1, by omega⟩
      have y1 := mt i0_le.mpr dy
      have bo := bo_eq y (by omega)
      have b13 := bo.2.2 hy
      have eb : bl0 y = blen y := by
        unfold bl0
        rw [if_neg dy]
      have e1 : x + (1 : Int32) = nI (j + 1) := by rw [hx, nI_1]
      rw [bo.2.1]
      have sv := sBs_v (t := t) (bl0 y) 0 (s, 0) (by omega) (by show 0 ≤ (0 : Int32).toInt; decide) (by show (0 : Int32).toInt < ((2 ^ 0 : Nat) : Int); decide)
      have sv0 : 0 ≤ (sBs t (bl0 y) (s, 0)).2.toInt := sv.1
      have pw : 2 ^ (0 + bl0 y) ≤ 2 ^ 13 := Nat.pow_le_pow_right (by decide) (by omega)
      have p13 : 2 ^ 13 = 8192 := by decide
      have sv1 : (sBs t (bl0 y) (s, 0)).2.toInt < 8192 := by
        have := sv.2
        omega
      have xb := x_nextBits (t := t) (s := s) u O (nI (blen y)) (bl0 y) (by rw [eb, nI_toInt (by omega)]) h z0' hO
      refine pc_oC2 xb (fun v r hv => ?_)
      have hFv := hF.tr hv.2.1
      refine pc_ite (fun z4 => ?_) (fun z4 => pc_some ?_)
      · have zz : (sBs t (bl0 y) (s, 0)).1.2.1 = (0 : Int32) := hv.1.2.1.symm.trans z4
        have er : r = (sBs t (bl0 y) (s, 0)).2 := hv.2.2 z4
        rw [er]
        refine pc_oC1 (x_give z x _ j hx j32) (fun w hw => pc_bnd (pc_bnd ?_))
        by_cases a : (sBs t (bl0 y) (s, 0)).2 ≤ y
        · rw [sT_g zz a] at hT
          have a1 := Int32.le_iff_toInt_le.mp a
          have es : (y - (sBs t (bl0 y) (s, 0)).2).toInt = y.toInt - (sBs t (bl0 y) (s, 0)).2.toInt := sub32 (by omega) (by omega)
          refine ih c' (j + 1) _ _ v w (sBs t (bl0 y) (s, 0)).1 (upd sh j (sBs t (bl0 y) (s, 0)).2) e1 (by omega) (by omega) (by omega) zz hT hv.1 hFv ⟨hw.2.1.trans hZ.1, hw.2.2.trans hZ.2⟩ (fun i hi => ?_) (fun i hi => ?_)
          · rw [hw.1]
            unfold upd
            by_cases q : i = j
            · rw [if_pos q, if_pos q]
            · rw [if_neg q, if_neg q]
              exact hs i hi
          · unfold upd
            rw [if_neg (by omega)]
            exact hs0 i (by omega)
        · rw [sT_3 zz a] at hT
          have a1 := mt Int32.le_iff_toInt_le.mpr a
          have es : (y - (sBs t (bl0 y) (s, 0)).2).toInt = y.toInt - (sBs t (bl0 y) (s, 0)).2.toInt := sub32 (by omega) (by omega)
          have ne : ¬ y - (sBs t (bl0 y) (s, 0)).2 = 0 := fun q => by
            rw [q, li_0] at es
            omega
          have le : y - (sBs t (bl0 y) (s, 0)).2 ≤ 0 := i0_le.mpr (by omega)
          have k3 : T.1.2.1 = 3 := by rw [← hT]
          have k5 : v.1 5 = T.1.1 := by rw [← hT]; exact hv.1.1
          cases n with
          | zero => exact pc_none
          | succ n =>
            unfold f_X3_takeTable_L10
            exact pc_ite (fun _ => hK3 k3 _ _ _ _ ne k5 hFv) (fun _ => pc_ite (fun _ => hK3 k3 _ _ _ _ ne k5 hFv) (fun q => absurd le q))
      · have zz : ¬ (sBs t (bl0 y) (s, 0)).1.2.1 = (0 : Int32) := fun q => z4 (hv.1.2.1.trans q)
        rw [sT_e zz] at hT
        have k1 : T.1.2.1 = 1 := by
          rw [← hT]
          rcases sBs_k (t := t) (bl0 y) (s, 0) z0' with q | q
          · exact absurd q zz
          · exact q.1
        refine hE k1 v z ?_ hFv
        rw [← hT]
        exact hv.1
theorem sT_k {t : OT} : ∀ (c j : Nat) (y : Int32) (s : RC) (sh : Nat → Int32), s.2.1 = 0 → (sT t c j y s sh).1.2.1 = 0 ∨ (sT t c j y s sh).1.2.1 = 1 ∨ (sT t c j y s sh).1.2.1 = 3 := by
  intro c
  induction c with
  | zero => intro j y s sh h; exact Or.inl h
  | succ c ih =>
    intro j y s sh h
    by_cases z : (sBs t (bl0 y) (s, 0)).1.2.1 = (0 : Int32)
    · by_cases d : (sBs t (bl0 y) (s, 0)).2 ≤ y
      · rw [sT_g z d]
        exact ih _ _ _ _ z
      · rw [sT_3 z d]
        exact Or.inr (Or.inr rfl)
    · rw [sT_e z]
      rcases sBs_k (t := t) (bl0 y) (s, 0) h with q | q
      · exact absurd q z
      · exact Or.inr (Or.inl q.1)
theorem sT_y {t : OT} : ∀ (c j : Nat) (y : Int32) (s : RC) (sh : Nat → Int32), 0 ≤ y.toInt → y.toInt ≤ 4096 → (sT t c j y s sh).1.2.1 = 0 → 0 ≤ (sT t c j y s sh).2.1.toInt := by
  intro c
  induction c with
  | zero => intro j y s sh h _ _; exact h
  | succ c ih =>
    intro j y s sh h0 h1 hz
    by_cases z : (sBs t (bl0 y) (s, 0)).1.2.1 = (0 : Int32)
    · by_cases d : (sBs t (bl0 y) (s, 0)).2 ≤ y
      · rw [sT_g z d] at hz ⊢
        have d1 := Int32.le_iff_toInt_le.mp d
        have b13 := (bo0 (y := y)).2 h1
        have sv := (sBs_v (t := t) (bl0 y) 0 (s, 0) (by omega) (by show 0 ≤ (0 : Int32).toInt; decide) (by show (0 : Int32).toInt < ((2 ^ 0 : Nat) : Int); decide)).1
        have es : (y - (sBs t (bl0 y) (s, 0)).2).toInt = y.toInt - (sBs t (bl0 y) (s, 0)).2.toInt := sub32 (by omega) (by omega)
        exact ih _ _ _ _ (by omega) (by omega) hz
      · rw [sT_3 z d] at hz
        have hz : (3 : Int32) = 0 := hz
        exact absurd hz (by decide)
    · rw [sT_e z] at hz
      exact absurd hz z
theorem x_restIsSet {t : OT} {s : RC} (R : OS) (h : XR t s R) : pc (f_X3_restIsSet R) (fun a => (a = 0 ∧ ¬ rsd t s) ∨ (a = 1 ∧ rsd t s)) := by
  unfold f_X3_restIsSet
  have e : ((R.1 6) &&& (((1 : Int32) <<< ((R.1 7) &&& (31 : Int32))) - (1 : Int32))) = ((t.2 (s.1 - (1 : Int32)).toNatClampNeg) &&& (((1 : Int32) <<< (s.2.2 &&& (31 : Int32))) - (1 : Int32))) := by
    rw [h.2.2.1]
    by_cases b : s.2.2 = 0
    · rw [b]
      have e0 : (((1 : Int32) <<< ((0 : Int32) &&& (31 : Int32))) - (1 : Int32)) = 0 := by decide
      rw [e0, Int32.and_zero, Int32.and_zero]
    · rw [h.2.2.2.1 b]
  refine pc_ite (fun c => pc_some (Or.inl ⟨rfl, ?_⟩)) (fun c => pc_some (Or.inr ⟨rfl, ?_⟩))
  · rw [e] at c
    exact fun q => q c
  · rw [e] at c
    exact c
theorem sT_sh {t : OT} : ∀ (c j : Nat) (y : Int32) (s : RC) (sh : Nat → Int32), 0 ≤ y.toInt → y.toInt ≤ 4096 → (∀ i, 0 ≤ (sh i).toInt ∧ (sh i).toInt < 8192) → ∀ i, 0 ≤ ((sT t c j y s sh).2.2 i).toInt ∧ ((sT t c j y s sh).2.2 i).toInt < 8192 := by
  intro c
  induction c with
  | zero => intro j y s sh _ _ h; exact h
  | succ c ih =>
    intro j y s sh h0 h1 h
    by_cases z : (sBs t (bl0 y) (s, 0)).1.2.1 = (0 : Int32)
    · by_cases d : (sBs t (bl0 y) (s, 0)).2 ≤ y
      · rw [sT_g z d]
        have d1 := Int32.le_iff_toInt_le.mp d
        have b13 := (bo0 (y := y)).2 h1
        have sv := (sBs_v (t := t) (bl0 y) 0 (s, 0) (by omega) (by show 0 ≤ (0 : Int32).toInt; decide) (by show (0 : Int32).toInt < ((2 ^ 0 : Nat) : Int); decide)).1
        have es : (y - (sBs t (bl0 y) (s, 0)).2).toInt = y.toInt - (sBs t (bl0 y) (s, 0)).2.toInt := sub32 (by omega) (by omega)
        exact ih _ _ _ _ (by omega) (by omega) (upd_R h (by omega) (by omega))
      · rw [sT_3 z d]
        exact h
    · rw [sT_e z]
      exact h
theorem x_finish (z : OS) : pc (f_X4_finish z) (fun v => v.1 0 = z.1 0 ∧ v.1 1 = z.1 1 ∧ v.1 7 = z.1 7 ∧ v.2.1 3 = z.2.1 3) := by
  unfold f_X4_finish
  refine pc_bnd (q_finish_L4 z _ (fun a b v e h => pc_gdi (fun _ _ => pc_bnd (pc_ite (fun _ => pc_bnd (pc_some ⟨?_, ?_, ?_, h⟩)) (fun _ => pc_bnd (pc_some ⟨?_, ?_, ?_, h⟩))))) FU _ _ z rfl rfl)
  · show v.1 0 = z.1 0
    rw [e]
  · show v.1 1 = z.1 1
    rw [e]
  · show v.1 7 = z.1 7
    rw [e]
  · show v.1 0 = z.1 0
    rw [e]
  · show v.1 1 = z.1 1
    rw [e]
  · show v.1 7 = z.1 7
    rw [e]
def ZT (lg : Int32) (sh : Nat → Int32) (z : OS) : Prop := z.1 0 = lg ∧ z.1 1 = (1 : Int32) <<< (lg &&& (31 : Int32)) ∧ z.1 7 = 0 ∧ (∀ i, i < 32 → z.2.1 3 i = sh i) ∧ (∀ j, j ≤ 32 → (z.2.1 4 j).toInt = psum sh j)
def XT (t : OT) (lg : Int32) (s r : RC) (R : OS) (q : OS × OS) : Prop := q.1.1 5 = r.1 ∧ q.1.1 4 = r.2.1 ∧ XF R q.1 ∧ (r.2.1 = 0 → XR t r q.1 ∧ ZT lg (tbT t lg s).2.2 q.2)
set_option maxHeartbeats 1000000 in
theorem x_takeTable {t : OT} {k : Nat} (k1 : 5 ≤ k) (k2 : k ≤ 12) {s r : RC} (R Z Z0 O : OS) (z : s.2.1 = 0) (hr : tbE t (nI k) s r) (h : XR t s R) (hZ : BW (nI k) Z0 Z) (hO : XO t O) : pc (f_X3_takeTable R Z O) (XT t (nI k) s r R) := by
  have sk := sk32 k1 k2 (rfl : nI k = nI k)
  have ak := (powA k (by omega) k1).2.2.2.2.2
  obtain ⟨hz0, hz1, hz7, hz3, _⟩ := hZ
  have y0 : 0 ≤ ((1 : Int32) <<< (nI k &&& (31 : Int32))).toInt := by omega
  have y1 : ((1 : Int32) <<< (nI k &&& (31 : Int32))).toInt ≤ 4096 := by omega
  unfold f_X3_takeTable
  rw [hz1]
  refine pc_bnd (pc_bnd (x_takeTable_L10 O hO R Z _ (tbT t (nI k) s) ?_ ?_ ?_ FU 32 0 0 _ R Z s (fun _ => 0) rfl rfl y0 y1 z rfl h XF.rf ⟨rfl, rfl⟩ hz3 (fun _ _ => rfl)))
  · intro k1 u zz hu hF
    have er : r = (tbT t (nI k) s).1 := by
      rcases hr with ⟨_, e⟩ | ⟨q, _⟩ | ⟨q, _⟩
      · exact e
      · rw [k1] at q
        exact absurd q (by decide)
      · rw [k1] at q
        exact absurd q (by decide)
    rw [er]
    refine ⟨hu.1, hu.2.1, hF, fun q => ?_⟩
    rw [k1] at q
    exact absurd q (by decide)
  · intro k3 x y u zz ny h5 hF
    have er : r = (tbT t (nI k) s).1 := by
      rcases hr with ⟨_, e⟩ | ⟨q, _⟩ | ⟨q, _⟩
      · exact e
      · rw [k3] at q
        exact absurd q (by decide)
      · rw [k3] at q
        exact absurd q (by decide)
    refine pc_ite (fun q => absurd q ny) (fun _ => pc_bnd (pc_some ?_))
    rw [er]
    refine ⟨h5, k3.symm, hF.tr XF.s4, fun q => ?_⟩
    rw [k3] at q
    exact absurd q (by decide)
  · intro zT x u zz hu hF hZF hs
    have yy := sT_y (t := t) 32 0 _ s (fun _ => 0) y0 y1 zT
    have yy : 0 ≤ (tbT t (nI k) s).2.1.toInt := yy
    have bad : tbB t (nI k) s → XT t (nI k) s r R (sF u 4 (3 : Int32), zz) := by
      intro q
      have er : r = ((tbT t (nI k) s).1.1, (3 : Int32), (0 : Int32)) := by
        rcases hr with ⟨a, _⟩ | ⟨_, _, e⟩ | ⟨_, a, _⟩
        · exact absurd zT a
        · exact e
        · exact absurd q a
      rw [er]
      refine ⟨hu.1, rfl, hF.tr XF.s4, fun q => ?_⟩
      have q : (3 : Int32) = 0 := q
      exact absurd q (by decide)
    refine pc_ite (fun q0 => pc_oC1 (x_restIsSet u hu) (fun a ha => pc_ite (fun a0 => pc_bnd ?_) (fun a0 => pc_bnd (pc_some (bad ?_))))) (fun q0 => pc_bnd (pc_some (bad ?_)))
    · have nr : ¬ rsd t (tbT t (nI k) s).1 := by
        rcases ha with q | q
        · exact q.2
        · rw [a0] at q
          exact absurd q.1 (by decide)
      have nb : ¬ tbB t (nI k) s := fun q => q.elim (fun w => by rw [q0] at w; exact absurd w (by decide)) nr
      have er : r = ((tbT t (nI k) s).1.1, (0 : Int32), (0 : Int32)) := by
        rcases hr with ⟨a, _⟩ | ⟨_, a, _⟩ | ⟨_, _, e⟩
        · exact absurd zT a
        · exact absurd a nb
        · exact e
      have sb := sT_sh (t := t) 32 0 _ s (fun _ => 0) y0 y1 (fun i => ⟨by show 0 ≤ (0 : Int32).toInt; decide, by show (0 : Int32).toInt < 8192; decide⟩)
      have hB : B3 zz := fun i hi => by rw [hs i hi]; exact sb i
      refine pc_oC1 (pc_and (x_finish zz) (p_finish zz hB)) (fun w hw => pc_some ?_)
      obtain ⟨⟨w0, w1, w7, w3⟩, w4⟩ := hw
      have e3 : ∀ i, i < 32 → w.2.1 3 i = (tbT t (nI k) s).2.2 i := fun i hi => by rw [w3]; exact hs i hi
      have kk := hu.2.2.2.2
      rw [er]
      refine ⟨hu.1, hu.2.1.trans zT, hF.tr XF.s7, fun _ => ⟨⟨hu.1, hu.2.1.trans zT, rfl, fun q => absurd rfl q, ?_⟩, ⟨?_, ?_, ?_, e3, fun j hj => ?_⟩⟩⟩
      · exact ⟨kk.1, kk.2.1, kk.2.2.1, by show 0 ≤ (0 : Int32).toInt; decide, ⟨by show 0 ≤ (0 : Int32).toInt; decide, by show (0 : Int32).toInt ≤ 8; decide⟩, Or.inl li_0⟩
      · show w.1 0 = nI k
        rw [w0, hZF.1, hz0]
      · show w.1 1 = _
        rw [w1, hZF.1, hz1]
      · show w.1 7 = 0
        rw [w7, hZF.1, hz7]
      · show (w.2.1 4 j).toInt = _
        rw [w4 j hj]
        exact psum_congr j (fun i hi => e3 i (by omega))
    · rcases ha with q | q
      · exact absurd q.1 a0
      · exact Or.inr q.2
    · refine Or.inl (Int32.lt_iff_toInt_lt.mpr ?_)
      have := ne32 q0
      rw [li_0] at this ⊢
      omega

-- ===== form 2: by the table =====
def saF (k : Nat) (sh : Nat → Int32) : Nat → Int32 := (wl (2 ^ k) sh 32 0 (0, fun _ => 0)).2
def naF (k : Nat) (sh : Nat → Int32) (p : Nat) : Int32 := nI ((sh (saF k sh p).toNatClampNeg).toInt.toNat + cw (saF k sh) al (saF k sh p) p)
theorem saF_spc (k : Nat) (sh : Nat → Int32) : SPC sh (2 ^ k) (saF k sh) := ⟨fun _ => 0, fun _ _ => rfl⟩
theorem SPD.sa {k : Nat} {sh f a b : Nat → Int32} (hG : GSH k sh) (h : SPD sh (2 ^ k) f a b) : (∀ p, p < 2 ^ k → f p = saF k sh p) ∧ (∀ p, p < 2 ^ k → b p = naF k sh p) := by
  have e := SPC.eq hG.2.2 h.1 (saF_spc k sh)
  refine ⟨e, fun p hp => ?_⟩
  obtain ⟨t, ht, et⟩ := (h.1.cnt hG.2.2).1 p hp
  have n := h.2.2 p t hp ht et
  rw [n]
  unfold naF
  have es : saF k sh p = nI t := (e p hp).symm.trans et
  rw [es, nIn (by omega)]
  rw [cw_congr p (fun i hi => e i (by omega))]
theorem sa_r {k : Nat} {sh : Nat → Int32} (hG : GSH k sh) {p : Nat} (hp : p < 2 ^ k) : ∃ t, t < 32 ∧ saF k sh p = nI t ∧ 1 ≤ (naF k sh p).toInt ∧ (naF k sh p).toInt < 2 * ((2 ^ k : Nat) : Int) ∧ ((sh t).toInt = ((2 ^ k : Nat) : Int) → (naF k sh p).toInt = ((2 ^ k : Nat) : Int) + p) := by
  have sp := saF_spc k sh
  obtain ⟨t, ht, et⟩ := (sp.cnt hG.2.2).1 p hp
  have sl := slot_lt hG.2.2 sp hp ht et
  have el := psum_el (f := sh) (N := 32) (s := t) hG.2.2.2.1 ht
  have gm := hG.m
  have s0 := hG.2.2.2.1 t ht
  have ev : (naF k sh p).toInt = (sh t).toInt + (cw (saF k sh) al (nI t) p : Int) := by
    unfold naF
    rw [et, nIn (by omega), nI_toInt (by omega)]
    omega
  refine ⟨t, ht, et, by rw [ev]; omega, by rw [ev]; omega, fun q => ?_⟩
  rw [ev, q]
  -- all places are this sign's
  have all : ∀ i, i < 2 ^ k → saF k sh i = nI t := by
    intro i hi
    obtain ⟨t2, ht2, et2⟩ := (sp.cnt hG.2.2).1 i hi
    rcases Nat.lt_or_ge t2 t with w | w
    · exfalso
      have s2 := slot_lt hG.2.2 sp hi ht2 et2
      have m := psum_mono (f := sh) (N := 32) (m := t2 + 1) (n := t) hG.2.2.2.1 (by omega) (by omega)
      omega
    · rcases Nat.lt_or_ge t t2 with w2 | w2
      · exfalso
        have s2 := slot_lt hG.2.2 sp hi ht2 et2
        have m := psum_mono (f := sh) (N := 32) (m := t + 1) (n := t2) hG.2.2.2.1 (by omega) (by omega)
        have ep : psum sh (t + 1) = psum sh t + (sh t).toInt := rfl
        omega
      · rw [et2, show t2 = t by omega]
  have cnt : ∀ m, m ≤ 2 ^ k → cw (saF k sh) al (nI t) m = m := by
    intro m
    induction m with
    | zero => intro _; rfl
    | succ m ih =>
      intro hm
      rw [cw_s, ih (by omega), if_pos (all m (by omega))]
  rw [cnt p (by omega)]
def nrT (t : OT) (sz : Int32) : Nat → RC × Int32 → RC × Int32
  | 0, q => q
  | c + 1, q => if sz ≤ q.2 then q else if q.1.2.1 = (0 : Int32) then nrT t sz c ((sB t q.1).1, ((2 : Int32) * q.2) + (sB t q.1).2) else q
theorem nrT_d {t : OT} {sz : Int32} {q : RC × Int32} (h : sz ≤ q.2) : ∀ c : Nat, nrT t sz c q = q := by
  intro c
  cases c with
  | zero => rfl
  | succ c => rw [nrT, if_pos h]
theorem nrT_b {t : OT} {sz : Int32} {q : RC × Int32} (h : ¬ q.1.2.1 = (0 : Int32)) : ∀ c : Nat, nrT t sz c q = q := by
  intro c
  cases c with
  | zero => rfl
  | succ c =>
    rw [nrT]
    by_cases d : sz ≤ q.2
    · rw [if_pos d]
    · rw [if_neg d, if_neg h]
theorem nrT_s {t : OT} {sz : Int32} {q : RC × Int32} (d : ¬ sz ≤ q.2) (h : q.1.2.1 = (0 : Int32)) (c : Nat) : nrT t sz (c + 1) q = nrT t sz c ((sB t q.1).1, ((2 : Int32) * q.2) + (sB t q.1).2) := by
  rw [nrT, if_neg d, if_pos h]
theorem nrT_k {t : OT} {sz : Int32} : ∀ (c : Nat) (q : RC × Int32), SK t q.1 → SK t (nrT t sz c q).1 := by
  intro c
  induction c with
  | zero => intro q h; exact h
  | succ c ih =>
    intro q hk
    by_cases d : sz ≤ q.2
    · rw [nrT_d d]; exact hk
    · by_cases h : q.1.2.1 = (0 : Int32)
      · rw [nrT_s d h]
        exact ih _ (sk_sB hk)
      · rw [nrT_b h]; exact hk
theorem db_v {t : OT} {s : RC} {v : Int32} (h0 : 0 ≤ v.toInt) (h1 : v.toInt < 4096) : (((2 : Int32) * v) + (sB t s).2).toInt = 2 * v.toInt + (sB t s).2.toInt ∧ 0 ≤ (sB t s).2.toInt ∧ (sB t s).2.toInt ≤ 1 := by
  have e2 : ((2 : Int32) * v).toInt = 2 * v.toInt := by rw [mul32 (by rw [li_2]; omega) (by rw [li_2]; omega), li_2]
  have r : 0 ≤ (sB t s).2.toInt ∧ (sB t s).2.toInt ≤ 1 := by
    rcases sB_01 (t := t) (s := s) with e | e <;> rw [e]
    · exact ⟨by decide, by decide⟩
    · exact ⟨by decide, by decide⟩
  exact ⟨by rw [add32 (by omega) (by omega), e2], r⟩
theorem nrT_r {t : OT} {sz : Int32} {N : Nat} (hN : N ≤ 4096) (hs : sz.toInt = (N : Int)) : ∀ (c : Nat) (q : RC × Int32), c ≤ 13 → ((2 ^ (13 - c) : Nat) : Int) ≤ q.2.toInt → q.2.toInt < 2 * (N : Int) → (sz ≤ (nrT t sz c q).2 ∨ ¬ (nrT t sz c q).1.2.1 = (0 : Int32)) ∧ (nrT t sz c q).2.toInt < 2 * (N : Int) := by
  intro c
  induction c with
  | zero =>
    intro q _ h0 h1
    exfalso
    have p : ((2 ^ (13 - 0) : Nat) : Int) = 8192 := rfl
    rw [p] at h0
    omega
  | succ c ih =>
    intro q hc h0 h1
    have pp : 1 ≤ 2 ^ (13 - (c + 1)) := Nat.two_pow_pos _
    by_cases d : sz ≤ q.2
    · rw [nrT_d d]
      exact ⟨Or.inl d, h1⟩
    · by_cases h : q.1.2.1 = (0 : Int32)
      · rw [nrT_s d h]
        have d1 := mt Int32.le_iff_toInt_le.mpr d
        rw [hs] at d1
        have b := db_v (t := t) (s := q.1) (v := q.2) (by omega) (by omega)
        have pe : ((2 ^ (13 - c) : Nat) : Int) = ((2 ^ (13 - (c + 1)) : Nat) : Int) * 2 := by
          rw [show 13 - c = 13 - (c + 1) + 1 by omega, Nat.pow_succ, Int.natCast_mul]
          rfl
        refine ih _ (by omega) ?_ ?_
        · show _ ≤ (((2 : Int32) * q.2) + (sB t q.1).2).toInt
          omega
        · show (((2 : Int32) * q.2) + (sB t q.1).2).toInt < _
          omega
      · rw [nrT_b h]
        exact ⟨Or.inr h, h1⟩
theorem r_L93 {t : OT} {lg sz : Int32} {k : Nat} (k1 : 5 ≤ k) (k2 : k ≤ 12) (hlg : lg = nI k) (hs : sz.toInt = ((2 ^ k : Nat) : Int)) (u0 : OS) {Q : OS → Prop} (K : Int64 → OS → Option OS) (T : RC × Int32) (hT : sz ≤ T.2 ∨ ¬ T.1.2.1 = (0 : Int32)) (hK : ∀ v, MR t T.1 v → MF u0 v → pc (K T.2.toInt64 v) Q) : ∀ (n c : Nat) (y : Int64) (v : Int32) (u : OS) (s : RC), y = v.toInt64 → 0 ≤ v.toInt → nrT t sz c (s, v) = T → MR t s u → MF u0 u → pc (f_X7_readSign_L93 lg n K y u) Q := by
  have o := (one_k k (by omega)).1
  rw [← hlg] at o
  have ak := (powA k (by omega) k1).2.2.2.2.2
  intro n
  induction n with
  | zero => intro c y v u s _ _ _ _ _; exact pc_none
  | succ n ih =>
    intro c y v u s hy h0 hk h hF
    have cmp : ((1 : Int64) <<< (lg.toInt64 &&& (63 : Int64))) ≤ y ↔ sz ≤ v := by
      rw [Int64.le_iff_toInt_le, Int32.le_iff_toInt_le, o, hs, hy, tl32]
    unfold f_X7_readSign_L93
    refine pc_ite (fun c1 => ?_) (fun c1 => pc_ite (fun z => pc_oC2 (r_nextBit u h) (fun w r hw => pc_bnd ?_)) (fun z => ?_))
    · rw [nrT_d (q := (s, v)) (cmp.mp c1)] at hk
      rw [← hk] at hK
      rw [hy]
      exact hK u h hF
    · have d : ¬ sz ≤ v := fun q => c1 (cmp.mpr q)
      have zs : s.2.1 = (0 : Int32) := h.2.1.symm.trans z
      cases c with
      | zero =>
        exfalso
        have hk : (s, v) = T := hk
        rw [← hk] at hT
        exact hT.elim d (fun q => q zs)
      | succ c =>
        rw [nrT_s (q := (s, v)) d zs] at hk
        have d1 := mt Int32.le_iff_toInt_le.mpr d
        rw [hs] at d1
        have b := db_v (t := t) (s := s) (v := v) h0 (by omega)
        have er : r = (sB t s).2 := hw.2.1
        refine ih c _ (((2 : Int32) * v) + (sB t s).2) w (sB t s).1 ?_ (by omega) hk hw.1 (hF.tr hw.2.2)
        refine Int64.toInt_inj.mp ?_
        have e2 : ((2 : Int64)).toInt = 2 := by decide
        have m : ((2 : Int64) * y).toInt = 2 * v.toInt := by rw [hy, mul64 (by rw [e2, tl32]; omega) (by rw [e2, tl32]; omega), e2, tl32]
        rw [add64 (by rw [m, tl32, er]; omega) (by rw [m, tl32, er]; omega), m, tl32, tl32, er, b.1]
    · have zs : ¬ s.2.1 = (0 : Int32) := fun q => z (h.2.1.trans q)
      rw [nrT_b (q := (s, v)) zs] at hk
      rw [← hk] at hK
      rw [hy]
      exact hK u h hF
theorem x_L29 {t : OT} (Z O : OS) (hO : XO t O) {sz : Int32} (hz : Z.1 1 = sz) (u0 : OS) {Q : OS × Int32 → Prop} (K : Int32 → Int32 → OS → Option (OS × Int32)) (T : RC × Int32) (hE : ¬ T.1.2.1 = 0 → ∀ v r, XR t T.1 v → XF u0 v → Q (v, r)) (hK : T.1.2.1 = 0 → ∀ x v, XR t T.1 v → XF u0 v → pc (K T.2 x v) Q) : ∀ (n c : Nat) (x y : Int32) (u : OS) (s : RC), x.toInt = 13 - (c : Int) → c ≤ 13 → s.2.1 = 0 → nrT t sz c (s, y) = T → XR t s u → XF u0 u → pc (f_X3_takeByTable_L29 Z O n K x y u) Q := by
  intro n
  induction n with
  | zero => intro c x y u s _ _ _ _ _ _; exact pc_none
  | succ n ih =>
    intro c x y u s hx hc z hT h hF
    unfold f_X3_takeByTable_L29
    rw [hz]
    refine pc_ite (fun c1 => ?_) (fun c1 => pc_ite (fun d => ?_) (fun d => ?_))
    · have c2 := Int32.lt_iff_toInt_lt.mp c1
      rw [li_12, hx] at c2
      have : c = 0 := by omega
      subst this
      have hT : (s, y) = T := hT
      rw [← hT] at hK
      exact hK z _ _ h hF
    · rw [nrT_d (q := (s, y)) d] at hT
      rw [← hT] at hK
      exact hK z _ _ h hF
    · have c2 := mt Int32.lt_iff_toInt_lt.mpr c1
      rw [li_12, hx] at c2
      have e1 := inc32 (x := x) (by omega)
      obtain ⟨c', rfl⟩ : ∃ c', c = c' + 1 := ⟨c - 1, by omega⟩
      rw [nrT_s (q := (s, y)) d z] at hT
      refine pc_oC2 (x_nextBits (s := s) u O 1 1 (by decide) h z hO) (fun v r hv => ?_)
      have hv1 : XR t (sB t s).1 v := hv.1
      refine pc_ite (fun z4 => pc_bnd (pc_bnd ?_)) (fun z4 => pc_some (hE ?_ v _ ?_ (hF.tr hv.2.1)))
      · have zz : (sB t s).1.2.1 = 0 := hv1.2.1.symm.trans z4
        have er : r = ((2 : Int32) * (0 : Int32)) + (sB t s).2 := hv.2.2 z4
        have e0 : (2 : Int32) * (0 : Int32) = 0 := by decide
        rw [e0, Int32.zero_add] at er
        rw [er]
        exact ih c' _ _ v (sB t s).1 (by omega) (by omega) zz hT hv1 (hF.tr hv.2.1)
      · have nz : ¬ (sB t s).1.2.1 = 0 := fun q => z4 (hv1.2.1.trans q)
        have hT : nrT t sz c' ((sB t s).1, ((2 : Int32) * y) + (sB t s).2) = T := hT
        rw [nrT_b (q := ((sB t s).1, ((2 : Int32) * y) + (sB t s).2)) nz] at hT
        rw [← hT]
        exact nz
      · have nz : ¬ (sB t s).1.2.1 = 0 := fun q => z4 (hv1.2.1.trans q)
        have hT : nrT t sz c' ((sB t s).1, ((2 : Int32) * y) + (sB t s).2) = T := hT
        rw [nrT_b (q := ((sB t s).1, ((2 : Int32) * y) + (sB t s).2)) nz] at hT
        rw [← hT]
        exact hv1
def LaT (k ln : Nat) (st : Nat → Int64) : Prop := ∀ i, i < ln → ((2 ^ k : Nat) : Int) ≤ (st i).toInt ∧ (st i).toInt < 2 * ((2 ^ k : Nat) : Int)
def pT (k l : Nat) (w : RW) : Nat := ((w.2 l).toInt - ((2 ^ k : Nat) : Int)).toNat
def qTw (t : OT) (k : Nat) (sh : Nat → Int32) (l : Nat) (w : RW) : RC × Int32 := nrT t ((1 : Int32) <<< (nI k &&& (31 : Int32))) 13 (w.1, naF k sh (pT k l w))
def rdT (t : OT) (k : Nat) (sh : Nat → Int32) (l : Nat) (w : RW) : RW × Int32 := (((qTw t k sh l w).1, if (qTw t k sh l w).1.2.1 = (0 : Int32) then vp_updL w.2 l (qTw t k sh l w).2.toInt64 else w.2), saF k sh (pT k l w))
theorem rdT_ok {t : OT} {k : Nat} {sh : Nat → Int32} (hG : GSH k sh) {ln l : Nat} (hl : l < ln) {w : RW} (hk : SK t w.1) (hS : LaT k ln w.2) : pT k l w < 2 ^ k ∧ ((1 : Int32) <<< (nI k &&& (31 : Int32)) ≤ (qTw t k sh l w).2 ∨ ¬ (qTw t k sh l w).1.2.1 = (0 : Int32)) ∧ LaT k ln (rdT t k sh l w).1.2 ∧ SK t (rdT t k sh l w).1.1 := by
  have gm := hG.m
  have sk := sk32 hG.1 hG.2.1 (rfl : nI k = nI k)
  have s := hS l hl
  have hp : pT k l w < 2 ^ k := by
    unfold pT
    omega
  obtain ⟨tt, ht, et, n1, n2, _⟩ := sa_r hG hp
  have r := nrT_r (t := t) gm.2.1 sk 13 (w.1, naF k sh (pT k l w)) (by decide) (by have p : ((2 ^ (13 - 13) : Nat) : Int) = 1 := rfl; rw [p]; exact n1) n2
  have r1 : (1 : Int32) <<< (nI k &&& (31 : Int32)) ≤ (qTw t k sh l w).2 ∨ ¬ (qTw t k sh l w).1.2.1 = (0 : Int32) := r.1
  have r2 : (qTw t k sh l w).2.toInt < 2 * ((2 ^ k : Nat) : Int) := r.2
  refine ⟨hp, r1, ?_, nrT_k 13 (w.1, naF k sh (pT k l w)) hk⟩
  intro i hi
  show ((2 ^ k : Nat) : Int) ≤ ((if (qTw t k sh l w).1.2.1 = (0 : Int32) then vp_updL w.2 l (qTw t k sh l w).2.toInt64 else w.2) i).toInt ∧ ((if (qTw t k sh l w).1.2.1 = (0 : Int32) then vp_updL w.2 l (qTw t k sh l w).2.toInt64 else w.2) i).toInt < 2 * ((2 ^ k : Nat) : Int)
  by_cases z : (qTw t k sh l w).1.2.1 = (0 : Int32)
  · rw [if_pos z]
    unfold vp_updL
    by_cases c : i = l
    · rw [if_pos c, tl32]
      rcases r1 with q | q
      · have q1 := Int32.le_iff_toInt_le.mp q
        rw [sk] at q1
        exact ⟨q1, r2⟩
      · exact absurd z q
    · rw [if_neg c]
      exact hS i hi
  · rw [if_neg z]
    exact hS i hi
-- ===== a sign, by its form =====
def sg01 (t : OT) (F : Int32) (k : Nat) (sh : Nat → Int32) (l : Nat) (w : RW) : RW := if (1 : Int32) <<< (nI k &&& (31 : Int32)) ≤ sh (fnd sh ((w.2 l).toInt % ((2 ^ k : Nat) : Int)) 32) then w else if F = (0 : Int32) then nwB t (nI k) (sh (fnd sh ((w.2 l).toInt % ((2 ^ k : Nat) : Int)) 32)) (pfn sh (fnd sh ((w.2 l).toInt % ((2 ^ k : Nat) : Int)) 32)) l w else nwW t (nI k) (sh (fnd sh ((w.2 l).toInt % ((2 ^ k : Nat) : Int)) 32)) (pfn sh (fnd sh ((w.2 l).toInt % ((2 ^ k : Nat) : Int)) 32)) l w
def rdG (t : OT) (F : Int32) (k : Nat) (sh : Nat → Int32) (l : Nat) (w : RW) : RW × Int32 := if F = (3 : Int32) then ((rd3 t (nI k) ((1 : Int32) <<< (nI k &&& (31 : Int32))) (pfn sh) l 5 0 w).1, nI (rd3 t (nI k) ((1 : Int32) <<< (nI k &&& (31 : Int32))) (pfn sh) l 5 0 w).2) else if F = (2 : Int32) then rdT t k sh l w else (sg01 t F k sh l w, nI (fnd sh ((w.2 l).toInt % ((2 ^ k : Nat) : Int)) 32))
def SPF (F : Int32) (k ln : Nat) (st : Nat → Int64) : Prop := (F = 1 → LaW ln st) ∧ (F = 2 → LaT k ln st) ∧ (¬ F = 1 → ¬ F = 2 → LaB ln st)
theorem SPF.p {F : Int32} {k ln : Nat} {st : Nat → Int64} (h : SPF F k ln st) : ∀ i, i < ln → 0 ≤ (st i).toInt := by
  intro i hi
  by_cases f1 : F = 1
  · have := h.1 f1 i hi; omega
  · by_cases f2 : F = 2
    · have := h.2.1 f2 i hi; omega
    · have := h.2.2 f1 f2 i hi; omega
-- the sign that a rest belongs to
theorem fn_ok {k : Nat} {sh : Nat → Int32} (hG : GSH k sh) (x : Int64) : fnd sh (x.toInt % ((2 ^ k : Nat) : Int)) 32 < 32 ∧ 1 ≤ (sh (fnd sh (x.toInt % ((2 ^ k : Nat) : Int)) 32)).toInt ∧ (sh (fnd sh (x.toInt % ((2 ^ k : Nat) : Int)) 32)).toInt ≤ ((2 ^ k : Nat) : Int) ∧ 0 ≤ (pfn sh (fnd sh (x.toInt % ((2 ^ k : Nat) : Int)) 32)).toInt ∧ (pfn sh (fnd sh (x.toInt % ((2 ^ k : Nat) : Int)) 32)).toInt ≤ x.toInt % ((2 ^ k : Nat) : Int) ∧ x.toInt % ((2 ^ k : Nat) : Int) < (pfn sh (fnd sh (x.toInt % ((2 ^ k : Nat) : Int)) 32)).toInt + (sh (fnd sh (x.toInt % ((2 ^ k : Nat) : Int)) 32)).toInt ∧ ((sh (fnd sh (x.toInt % ((2 ^ k : Nat) : Int)) 32)).toInt = ((2 ^ k : Nat) : Int) → (pfn sh (fnd sh (x.toInt % ((2 ^ k : Nat) : Int)) 32)).toInt = 0) := by
  have gm := hG.m
  have m0 : 0 ≤ x.toInt % ((2 ^ k : Nat) : Int) := Int.emod_nonneg _ (by omega)
  have m1 : x.toInt % ((2 ^ k : Nat) : Int) < ((2 ^ k : Nat) : Int) := Int.emod_lt_of_pos _ (by omega)
  have f := fnd_p (sh := sh) m0 32 (by rw [gm.2.2.1]; exact m1)
  generalize fnd sh (x.toInt % ((2 ^ k : Nat) : Int)) 32 = j at f
  have pf := hG.p.2.2 j (by omega)
  have ep : psum sh (j + 1) = psum sh j + (sh j).toInt := rfl
  have el := psum_el (f := sh) (N := 32) (s := j) hG.2.2.2.1 f.1
  rw [gm.2.2.1] at el
  exact ⟨f.1, by omega, by omega, by omega, by omega, by omega, fun q => by omega⟩
theorem rdG_ok {t : OT} (h8 : T8 t) {F : Int32} (hF : F = 0 ∨ F = 1 ∨ F = 2 ∨ F = 3) {k : Nat} {sh : Nat → Int32} (hG : GSH k sh) {ln l : Nat} (hl : l < ln) {w : RW} (hk : SK t w.1) (hS : SPF F k ln w.2) : SPF F k ln (rdG t F k sh l w).1.2 ∧ SK t (rdG t F k sh l w).1.1 ∧ (¬ F = 2 → (rdG t F k sh l w).1.1.2.2 = w.1.2.2) := by
  have fo := fn_ok hG (w.2 l)
  unfold rdG
  by_cases f3 : F = (3 : Int32)
  · rw [if_pos f3]
    have n1 : ¬ F = 1 := by rw [f3]; decide
    have n2 : ¬ F = 2 := by rw [f3]; decide
    have r := rd3_ok (t := t) h8 hG (rfl : nI k = nI k) hl 5 0 w hk (hS.2.2 n1 n2)
    exact ⟨⟨fun q => absurd q n1, fun q => absurd q n2, fun _ _ => r.1⟩, r.2.1, fun _ => r.2.2⟩
  · rw [if_neg f3]
    by_cases f2 : F = (2 : Int32)
    · rw [if_pos f2]
      have n1 : ¬ F = 1 := by rw [f2]; decide
      have r := rdT_ok (t := t) hG hl hk (hS.2.1 f2)
      exact ⟨⟨fun q => absurd q n1, fun _ => r.2.2.1, fun _ q => absurd f2 q⟩, r.2.2.2, fun q => absurd f2 q⟩
    · rw [if_neg f2]
      show SPF F k ln (sg01 t F k sh l w).2 ∧ SK t (sg01 t F k sh l w).1 ∧ (¬ F = 2 → (sg01 t F k sh l w).1.2.2 = w.1.2.2)
      unfold sg01
      by_cases c : (1 : Int32) <<< (nI k &&& (31 : Int32)) ≤ sh (fnd sh ((w.2 l).toInt % ((2 ^ k : Nat) : Int)) 32)
      · rw [if_pos c]
        exact ⟨hS, hk, fun _ => rfl⟩
      · rw [if_neg c]
        by_cases f0 : F = (0 : Int32)
        · rw [if_pos f0]
          have n1 : ¬ F = 1 := by rw [f0]; decide
          have r := nwB_ok (t := t) h8 hG.1 hG.2.1 (rfl : nI k = nI k) hl hk (hS.2.2 n1 f2) fo.2.1 fo.2.2.1 fo.2.2.2.1 fo.2.2.2.2.1 fo.2.2.2.2.2.1
          exact ⟨⟨fun q => absurd q n1, fun q => absurd q f2, fun _ _ => r.2.1⟩, r.2.2.1, fun _ => r.2.2.2⟩
        · rw [if_neg f0]
          have f1 : F = 1 := by
            rcases hF with q | q | q | q
            · exact absurd q f0
            · exact q
            · exact absurd q f2
            · exact absurd q f3
          have r := nwW_ok (t := t) h8 hG.1 hG.2.1 (rfl : nI k = nI k) hl hk (hS.1 f1) fo.2.1 fo.2.2.1 fo.2.2.2.1 fo.2.2.2.2.1
          exact ⟨⟨fun _ => r.2.1, fun q => absurd q f2, fun q => absurd f1 q⟩, r.2.2.1, fun _ => r.2.2.2⟩
-- the reference
def RTM2 (k : Nat) (sh : Nat → Int32) (u : OS) : Prop := RTM k sh u ∧ (∀ p, p < 2 ^ k → u.2.1 11 (4096 + p) = saF k sh p) ∧ (∀ p, p < 2 ^ k → u.2.1 12 (4096 + p) = naF k sh p)
def RSF (u v : OS) : Prop := (∀ k, k ≠ 22 → k ≠ 23 → k ≠ 25 → k ≠ 26 → k ≠ 27 → k ≠ 29 → v.1 k = u.1 k) ∧ (∀ k, k ≠ 24 → v.2.1 k = u.2.1 k)
theorem RMF.sf {u v : OS} (h : RMF u v) : RSF u v := ⟨fun k a b _ c d e => h.1 k a b c d e, fun k _ => by rw [h.2]⟩
theorem RSF.tr {u v w : OS} (h1 : RSF u v) (h2 : RSF v w) : RSF u w := ⟨fun k a b c d e f => (h2.1 k a b c d e f).trans (h1.1 k a b c d e f), fun k a => (h2.2 k a).trans (h1.2 k a)⟩
theorem RSF.rf {u : OS} : RSF u u := ⟨fun _ _ _ _ _ _ _ => rfl, fun _ _ => rfl⟩
theorem RTM2.fr {k : Nat} {sh : Nat → Int32} {u v : OS} (h : RTM2 k sh u) (f : RSF u v) : RTM2 k sh v := by
  unfold RTM2 RTM at *
  rw [f.2 10 (by decide), f.2 8 (by decide), f.2 9 (by decide), f.2 11 (by decide), f.2 12 (by decide)]
  exact h
def KM (t : OT) (g : RW × Int32) (ln : Nat) (u v : OS) : Prop := MR t g.1.1 v ∧ (∀ i, i < ln → v.2.2.1 33 i = g.1.2 i) ∧ RSF u v ∧ (g.1.1.2.1 = 0 → v.1 25 = u.1 25 + (1 : Int32) ∧ v.2.1 24 = upd (u.2.1 24) (u.1 25).toNatClampNeg g.2) ∧ (¬ g.1.1.2.1 = 0 → v.1 25 = u.1 25 ∧ v.2.1 24 = u.2.1 24)
theorem r_keep {t : OT} {g : RW × Int32} {ln : Nat} (u y : OS) (x : Int32) (hx : g.1.1.2.1 = 0 → x = g.2) (h : MR t g.1.1 y) (hs : ∀ i, i < ln → y.2.2.1 33 i = g.1.2 i) (hF : RMF u y) : pc (if (y.1 27) = (0 : Int32) then (
  gdi (y.1 25) 65536 <|
  bnd (sA y 24 (y.1 25) x) fun u8 =>
  bnd (sF u8 25 ((u8.1 25) + (1 : Int32))) fun u9 =>
  some u9) else (
  some y)) (KM t g ln u) := by
  have e25 : y.1 25 = u.1 25 := hF.1 25 (by decide) (by decide) (by decide) (by decide) (by decide)
  have e24 : y.2.1 24 = u.2.1 24 := by rw [hF.2]
  refine pc_ite (fun z => pc_gdi (fun _ _ => pc_bnd (pc_bnd (pc_some ⟨⟨h.1, h.2.1, h.2.2.1, h.2.2.2.1, h.2.2.2.2⟩, hs, ?_, fun zz => ⟨?_, ?_⟩, fun q => absurd (h.2.1.symm.trans z) q⟩)))) (fun z => pc_some ⟨h, hs, hF.sf, fun q => absurd (h.2.1.trans q) z, fun _ => ⟨e25, e24⟩⟩)
  · refine hF.sf.tr ⟨fun k _ _ c _ _ _ => va_ne (f := y.1) c, fun k a => ?_⟩
    exact va_ne (f := y.2.1) a
  · show y.1 25 + (1 : Int32) = _
    rw [e25]
  · show upd (y.2.1 24) (y.1 25).toNatClampNeg x = _
    rw [e25, e24, hx zz]
set_option maxHeartbeats 2000000 in
theorem r_readSign {t : OT} (h8 : T8 t) {F : Int32} (hF : F = 0 ∨ F = 1 ∨ F = 2 ∨ F = 3) {k : Nat} {sh : Nat → Int32} (hG : GSH k sh) {ln l : Nat} (p1 : Int32) (hp1 : p1.toInt = l) (hl : l < ln) (u : OS) (h30 : u.1 30 = F) (hT : RTM2 k sh u) (w : RW) (z : w.1.2.1 = 0) (hS : SPF F k ln w.2) (h : MR t w.1 u) (hst : ∀ i, i < ln → u.2.2.1 33 i = w.2 i) : pc (f_X7_readSign u p1) (KM t (rdG t F k sh l w) ln u) := by
  obtain ⟨k1, k2, hSH⟩ := id hG
  have sk := sk32 k1 k2 (rfl : nI k = nI k)
  have gm := hG.m
  have e10 : u.2.1 10 ((1 : Int32)).toNatClampNeg = nI k := hT.1.1
  have en : p1.toNatClampNeg = l := by
    show p1.toInt.toNat = l
    omega
  have x0 := hS.p l hl
  unfold f_X7_readSign
  rw [e10, h30, en, hst l hl]
  refine pc_gdi (fun _ _ => pc_bnd (pc_bnd (pc_ite (fun f3 => ?_) (fun f3 => pc_ite (fun f2 => ?_) (fun f2 => ?_)))))
  · -- two sides
    have n1 : ¬ F = 1 := by rw [f3]; decide
    have n2 : ¬ F = 2 := by rw [f3]; decide
    have eg : rdG t F k sh l w = ((rd3 t (nI k) ((1 : Int32) <<< (nI k &&& (31 : Int32))) (pfn sh) l 5 0 w).1, nI (rd3 t (nI k) ((1 : Int32) <<< (nI k &&& (31 : Int32))) (pfn sh) l 5 0 w).2) := by
      unfold rdG
      rw [if_pos f3]
    rw [eg]
    exact pc_oC2 (r_readSides h8 hG rfl p1 hp1 hl u hT.1 w z (hS.2.2 n1 n2) h hst) (fun y r hy => r_keep u y r hy.2.2.2 hy.1 hy.2.1 hy.2.2.1)
  · -- the table
    have eg : rdG t F k sh l w = rdT t k sh l w := by
      unfold rdG
      rw [if_neg f3, if_pos f2]
    rw [eg]
    have s := hS.2.1 f2 l hl
    have ro := rdT_ok (t := t) hG hl h.2.2.2.2 (hS.2.1 f2)
    obtain ⟨tt, ht, et, n1, n2, n3⟩ := sa_r hG ro.1
    have ep : (pT k l w : Int) = (w.2 l).toInt - ((2 ^ k : Nat) : Int) := by
      unfold pT
      omega
    have ex : ((w.2 l).toInt32 - ((1 : Int32) <<< (nI k &&& (31 : Int32)))).toInt = (pT k l w : Int) := by
      have e1 : (w.2 l).toInt32.toInt = (w.2 l).toInt := ti32 (by omega) (by omega)
      rw [sub32 (by rw [e1, sk]; omega) (by rw [e1, sk]; omega), e1, sk, ep]
    refine pc_gdi (fun _ _ => pc_bnd ?_)
    generalize ((w.2 l).toInt32 - ((1 : Int32) <<< (nI k &&& (31 : Int32)))) = x27 at ex
    have rp := ro.1
    have e4n : ((4096 : Int32) + x27).toNatClampNeg = 4096 + pT k l w := by
      show ((4096 : Int32) + x27).toInt.toNat = _
      rw [add32 (by rw [li_4096]; omega) (by rw [li_4096]; omega), li_4096, ex]
      omega
    rw [e4n, hT.2.1 _ ro.1, hT.2.2 _ ro.1]
    have e32 : ((32 : Int32) + saF k sh (pT k l w)).toNatClampNeg = 32 + tt := by rw [et]; exact ix_32 ht
    refine pc_gdi (fun _ _ => pc_bnd (pc_gdi (fun _ _ => pc_bnd ?_)))
    rw [e32, hT.1.2.1 tt ht]
    refine pc_gdi (fun _ _ => pc_bnd ?_)
    -- what is kept: the old state where the sign is alone or OUT ends, the new one else
    have fin : ∀ (v : OS) (y : Int64), MR t (qTw t k sh l w).1 v → MF u v → (vp_updL w.2 l y l = (rdT t k sh l w).1.2 l) → pc (gdi p1 4 <|
  bnd (sL v 33 p1 y) fun u43 =>
  if (u43.1 27) = (0 : Int32) then (
  gdi (u43.1 25) 65536 <|
  bnd (sA u43 24 (u43.1 25) (saF k sh (pT k l w))) fun u8 =>
  bnd (sF u8 25 ((u8.1 25) + (1 : Int32))) fun u9 =>
  some u9) else (
  some u43)) (KM t (rdT t k sh l w) ln u) := by
      intro v y hv hFv hy
      refine pc_gdi (fun _ _ => pc_bnd (r_keep (g := rdT t k sh l w) u (sL v 33 p1 y) (saF k sh (pT k l w)) (fun _ => rfl) ⟨hv.1, hv.2.1, hv.2.2.1, hv.2.2.2.1, hv.2.2.2.2⟩ (fun i hi => ?_) (hFv.m33.rm.tr M33.sl.rm)))
      rw [sl_at en]
      by_cases q : i = l
      · rw [q, ← hy]
        unfold vp_updL
        rw [if_pos rfl, if_pos rfl]
      · have a1 : vp_updL (v.2.2.1 33) l y i = w.2 i := by
          unfold vp_updL
          rw [if_neg q, hFv.2]
          exact hst i hi
        have a2 : (rdT t k sh l w).1.2 i = w.2 i := by
          show (if (qTw t k sh l w).1.2.1 = (0 : Int32) then vp_updL w.2 l (qTw t k sh l w).2.toInt64 else w.2) i = w.2 i
          by_cases zq : (qTw t k sh l w).1.2.1 = (0 : Int32)
          · rw [if_pos zq]
            unfold vp_updL
            rw [if_neg q]
          · rw [if_neg zq]
        rw [a1, a2]
    have vat : ∀ y : Int64, vp_updL w.2 l y l = y := fun y => by
      unfold vp_updL
      rw [if_pos rfl]
    have key : ∀ x33 : Int32, (x33 = 0 ∨ (sh tt).toInt = ((2 ^ k : Nat) : Int)) → pc (bnd (fun (y37 : Int64) (u38 : OS) =>
  bnd (fun (y40 : Int64) =>
  gdi p1 4 <|
  bnd (sL u38 33 p1 y40) fun u43 =>
  (fun (x3 : Int32) (u4 : OS) =>
  if (u4.1 27) = (0 : Int32) then (
  gdi (u4.1 25) 65536 <|
  bnd (sA u4 24 (u4.1 25) x3) fun u8 =>
  bnd (sF u8 25 ((u8.1 25) + (1 : Int32))) fun u9 =>
  some u9) else (
  some u4)) (saF k sh (pT k l w)) u43) fun K154_41 =>
  bnd (gdi p1 4 <|
  K154_41 (u38.2.2.1 33 l)) fun K148_44 =>
  if (u38.1 27) = (0 : Int32) then (
  if x33 = (0 : Int32) then (
  K154_41 y37) else (
  K148_44)) else (
  K148_44)) fun K126_39 =>
  f_X7_readSign_L93 (nI k) FU K126_39 (naF k sh (pT k l w)).toInt64 u) (KM t (rdT t k sh l w) ln u) := by
      intro x33 h33
      refine pc_bnd (r_L93 (t := t) (sz := (1 : Int32) <<< (nI k &&& (31 : Int32))) k1 k2 rfl sk u _ (qTw t k sh l w) ro.2.1 ?_ FU 13 _ (naF k sh (pT k l w)) u w.1 rfl (by omega) rfl h MF.rf)
      intro v hv hFv
      have ev : v.2.2.1 33 l = w.2 l := by rw [hFv.2]; exact hst l hl
      have old : (¬ (qTw t k sh l w).1.2.1 = (0 : Int32) ∨ (sh tt).toInt = ((2 ^ k : Nat) : Int)) → vp_updL w.2 l (v.2.2.1 33 l) l = (rdT t k sh l w).1.2 l := by
        intro q
        rw [vat, ev]
        show w.2 l = (if (qTw t k sh l w).1.2.1 = (0 : Int32) then vp_updL w.2 l (qTw t k sh l w).2.toInt64 else w.2) l
        by_cases zq : (qTw t k sh l w).1.2.1 = (0 : Int32)
        · rw [if_pos zq, vat]
          have q2 := q.resolve_left (fun w => w zq)
          have nv := n3 q2
          have eq : qTw t k sh l w = (w.1, naF k sh (pT k l w)) := nrT_d (q := (w.1, naF k sh (pT k l w))) (Int32.le_iff_toInt_le.mpr (by rw [sk, nv]; omega)) 13
          rw [eq]
          refine Int64.toInt_inj.mp ?_
          rw [tl32, nv]
          omega
        · rw [if_neg zq]
      refine pc_bnd (pc_bnd (pc_ite (fun z7 => pc_ite (fun z3 => fin v _ hv hFv ?_) (fun z3 => pc_gdi (fun _ _ => fin v _ hv hFv (old (Or.inr (h33.resolve_left z3)))))) (fun z7 => pc_gdi (fun _ _ => fin v _ hv hFv (old (Or.inl (fun q => z7 (hv.2.1.trans q))))))))
      have zq : (qTw t k sh l w).1.2.1 = (0 : Int32) := hv.2.1.symm.trans z7
      rw [vat]
      show _ = (if (qTw t k sh l w).1.2.1 = (0 : Int32) then vp_updL w.2 l (qTw t k sh l w).2.toInt64 else w.2) l
      rw [if_pos zq, vat]
    refine pc_ite (fun q => key 1 (Or.inr ?_)) (fun q => key 0 (Or.inl rfl))
    rw [q]
    exact sk
  · -- by a rest
    have eg : rdG t F k sh l w = (sg01 t F k sh l w, nI (fnd sh ((w.2 l).toInt % ((2 ^ k : Nat) : Int)) 32)) := by
      unfold rdG
      rw [if_neg f3, if_neg f2]
    rw [eg]
    have fo := fn_ok hG (w.2 l)
    have ri := rst_i k1 k2 (rfl : nI k = nI k) (w.2 l) x0 sk
    have rv := rst32 k1 k2 (w.2 l) sk
    have m0 : 0 ≤ (w.2 l).toInt % ((2 ^ k : Nat) : Int) := Int.emod_nonneg _ (by omega)
    have m1 : (w.2 l).toInt % ((2 ^ k : Nat) : Int) < ((2 ^ k : Nat) : Int) := Int.emod_lt_of_pos _ (by omega)
    rw [ri]
    refine pc_gdi (fun _ _ => pc_oC1 (r_signOf hSH.2.1 gm.2.2.2 u hT.1.2.1 hT.1.2.2 _ (by rw [rv]; exact m0) (by rw [rv, gm.2.2.1]; exact m1)) (fun r hr => ?_))
    rw [rv] at hr
    have e8 : u.2.1 8 ((32 : Int32) + r).toNatClampNeg = sh (fnd sh ((w.2 l).toInt % ((2 ^ k : Nat) : Int)) 32) := by rw [hr, ix_32 fo.1]; exact hT.1.2.1 _ fo.1
    have e9 : u.2.1 9 ((32 : Int32) + r).toNatClampNeg = pfn sh (fnd sh ((w.2 l).toInt % ((2 ^ k : Nat) : Int)) 32) := by
      rw [hr, ix_32 fo.1]
      refine Int32.toInt_inj.mp ?_
      rw [hT.1.2.2 _ fo.1, hG.p.2.2 _ (by have := fo.1; omega)]
    rw [e8, e9]
    refine pc_gdi (fun _ _ => pc_ite (fun c => ?_) (fun c => pc_ite (fun f0 => pc_gdi (fun _ _ => pc_gdi (fun _ _ => ?_))) (fun f0 => pc_gdi (fun _ _ => pc_gdi (fun _ _ => ?_)))))
    · have e1 : sg01 t F k sh l w = w := by
        unfold sg01
        rw [if_pos c]
      rw [e1]
      exact r_keep (g := (w, nI (fnd sh ((w.2 l).toInt % ((2 ^ k : Nat) : Int)) 32))) u u r (fun _ => hr) h hst RMF.rf
    · have n1 : ¬ F = 1 := by rw [f0]; decide
      have e1 : sg01 t F k sh l w = nwB t (nI k) (sh (fnd sh ((w.2 l).toInt % ((2 ^ k : Nat) : Int)) 32)) (pfn sh (fnd sh ((w.2 l).toInt % ((2 ^ k : Nat) : Int)) 32)) l w := by
        unfold sg01
        rw [if_neg c, if_pos f0]
      rw [e1]
      have nb := nwB_ok (t := t) h8 k1 k2 (rfl : nI k = nI k) hl h.2.2.2.2 (hS.2.2 n1 f2) fo.2.1 fo.2.2.1 fo.2.2.2.1 fo.2.2.2.2.1 fo.2.2.2.2.2.1
      exact pc_oC1 (r_readBytes (w := w) (ln := ln) u p1 _ _ l hp1 hl hT.1.1 h hst nb.1) (fun y hy => r_keep (g := (nwB t (nI k) (sh (fnd sh ((w.2 l).toInt % ((2 ^ k : Nat) : Int)) 32)) (pfn sh (fnd sh ((w.2 l).toInt % ((2 ^ k : Nat) : Int)) 32)) l w, nI (fnd sh ((w.2 l).toInt % ((2 ^ k : Nat) : Int)) 32))) u y r (fun _ => hr) hy.1 hy.2.1 hy.2.2.rm)
    · have f1 : F = 1 := by
        rcases hF with q | q | q | q
        · exact absurd q f0
        · exact q
        · exact absurd q f2
        · exact absurd q f3
      have e1 : sg01 t F k sh l w = nwW t (nI k) (sh (fnd sh ((w.2 l).toInt % ((2 ^ k : Nat) : Int)) 32)) (pfn sh (fnd sh ((w.2 l).toInt % ((2 ^ k : Nat) : Int)) 32)) l w := by
        unfold sg01
        rw [if_neg c, if_neg f0]
      rw [e1]
      have nb := nwW_ok (t := t) h8 k1 k2 (rfl : nI k = nI k) hl h.2.2.2.2 (hS.1 f1) fo.2.1 fo.2.2.1 fo.2.2.2.1 fo.2.2.2.2.1
      exact pc_oC1 (r_readWords (w := w) (ln := ln) u p1 _ _ l hp1 hl hT.1.1 h hst nb.1) (fun y hy => r_keep (g := (nwW t (nI k) (sh (fnd sh ((w.2 l).toInt % ((2 ^ k : Nat) : Int)) 32)) (pfn sh (fnd sh ((w.2 l).toInt % ((2 ^ k : Nat) : Int)) 32)) l w, nI (fnd sh ((w.2 l).toInt % ((2 ^ k : Nat) : Int)) 32))) u y r (fun _ => hr) hy.1 hy.2.1 hy.2.2.rm)
-- the class
def RTX2 (F : Int32) (k : Nat) (sh : Nat → Int32) (z : OS) : Prop := RTX k sh z ∧ (F = 2 → 2 ^ k ≤ z.2.2.2 8 ∧ z.2.2.2 9 = z.2.2.2 8 ∧ z.2.2.2 8 ≤ 4096 ∧ (∀ p, p < 2 ^ k → z.2.1 8 p = saF k sh p) ∧ (∀ p, p < 2 ^ k → z.2.1 9 p = naF k sh p))
set_option maxHeartbeats 2000000 in
theorem x_takeSign {t : OT} (h8 : T8 t) {F : Int32} (hF : F = 0 ∨ F = 1 ∨ F = 2 ∨ F = 3) {k : Nat} {sh : Nat → Int32} (hG : GSH k sh) {ln l : Nat} (p1 : Int32) (hp1 : p1.toInt = l) (hl : l < ln) (R Z O : OS) (hF8 : R.1 8 = F) (hZ : RTX2 F k sh Z) (hO : XO t O) (w : RW) (z : w.1.2.1 = 0) (b0 : ¬ F = 2 → w.1.2.2 = 0) (hS : SPF F k ln w.2) (h : XR t w.1 R) (hst : ∀ i, i < ln → R.2.2.1 1 i = w.2 i) : pc (f_X3_takeSign R Z O p1) (fun q => XR t (rdG t F k sh l w).1.1 q.1 ∧ (∀ i, i < ln → q.1.2.2.1 1 i = (rdG t F k sh l w).1.2 i) ∧ XF3 R q.1 ∧ ((rdG t F k sh l w).1.1.2.1 = 0 → q.2 = (rdG t F k sh l w).2)) := by
  obtain ⟨k1, k2, hSH⟩ := id hG
  have sk := sk32 k1 k2 (rfl : nI k = nI k)
  have gm := hG.m
  have en : p1.toNatClampNeg = l := by
    show p1.toInt.toNat = l
    omega
  have x0 := hS.p l hl
  unfold f_X3_takeSign
  rw [hF8]
  refine pc_ite (fun f2 => ?_) (fun f2 => pc_ite (fun f3 => ?_) (fun f3 => ?_))
  · have f3 : ¬ F = (3 : Int32) := by rw [f2]; decide
    have eg : rdG t F k sh l w = rdT t k sh l w := by
      unfold rdG
      rw [if_neg f3, if_pos f2]
    rw [eg]
    have s := hS.2.1 f2 l hl
    have ro := rdT_ok (t := t) hG hl h.2.2.2.2 (hS.2.1 f2)
    have rp := ro.1
    obtain ⟨c8, c9, c4, za, zn⟩ := hZ.2 f2
    have e8 := nIt (n := Z.2.2.2 8) (by omega)
    have ep : (pT k l w : Int) = (w.2 l).toInt - ((2 ^ k : Nat) : Int) := by
      unfold pT
      omega
    have ex : ((w.2 l).toInt32 - ((1 : Int32) <<< (nI k &&& (31 : Int32)))).toInt = (pT k l w : Int) := by
      have e1 : (w.2 l).toInt32.toInt = (w.2 l).toInt := ti32 (by omega) (by omega)
      rw [sub32 (by rw [e1, sk]; omega) (by rw [e1, sk]; omega), e1, sk, ep]
    refine pc_oC2 (R := fun q => XR t (rdT t k sh l w).1.1 q.1 ∧ (∀ i, i < ln → q.1.2.2.1 1 i = (rdT t k sh l w).1.2 i) ∧ XF3 R q.1 ∧ ((rdT t k sh l w).1.1.2.1 = 0 → q.2 = (rdT t k sh l w).2)) ?_ (fun v r hv => pc_some hv)
    unfold f_X3_takeByTable
    rw [en, hst l hl, hZ.1.2.1]
    refine pc_gdi (fun _ _ => pc_bnd ?_)
    generalize ((w.2 l).toInt32 - ((1 : Int32) <<< (nI k &&& (31 : Int32)))) = x2 at ex
    have exn : x2.toNatClampNeg = pT k l w := by
      show x2.toInt.toNat = _
      omega
    have l0 : ¬ x2 < (0 : Int32) := fun q => by have := Int32.lt_iff_toInt_lt.mp q; rw [li_0, ex] at this; omega
    have l1 : ¬ Z.1 1 ≤ x2 := fun q => by have := Int32.le_iff_toInt_le.mp q; rw [hZ.1.2.1, sk, ex] at this; omega
    have l2 : ¬ nI (Z.2.2.2 9) ≤ x2 := fun q => by have := Int32.le_iff_toInt_le.mp q; rw [c9, e8, ex] at this; omega
    have l3 : ¬ nI (Z.2.2.2 8) ≤ x2 := fun q => by have := Int32.le_iff_toInt_le.mp q; rw [e8, ex] at this; omega
    refine pc_oC1 (R := fun a => a = naF k sh (pT k l w)) ?_ (fun r3 h3 => pc_bnd ?_)
    · unfold f_X4_numberAt
      rw [if_neg l0, if_neg l1, if_neg l2, exn]
      exact pc_gdi (fun _ _ => pc_some (zn _ ro.1))
    rw [h3]
    refine x_L29 (t := t) Z O hO hZ.1.2.1 R _ (qTw t k sh l w) ?_ ?_ FU 13 0 _ R w.1 (by rw [li_0]; rfl) (by decide) z rfl h XF.rf
    · intro nz v r hv hFv
      refine ⟨hv, fun i hi => ?_, hFv.x3, fun q => absurd q nz⟩
      show _ = (if (qTw t k sh l w).1.2.1 = (0 : Int32) then vp_updL w.2 l (qTw t k sh l w).2.toInt64 else w.2) i
      rw [if_neg nz, hFv.2]
      exact hst i hi
    · intro zq x v hv hFv
      refine pc_gdi (fun _ _ => pc_bnd (pc_oC1 (R := fun a => a = saF k sh (pT k l w)) ?_ (fun r hr => pc_some ⟨⟨hv.1, hv.2.1, hv.2.2.1, hv.2.2.2.1, hv.2.2.2.2⟩, fun i hi => ?_, hFv.x3.tr XF3.sl, fun _ => hr⟩)))
      · unfold f_X4_signAt
        rw [if_neg l0, if_neg l1, if_neg l3, exn]
        exact pc_gdi (fun _ _ => pc_some (za _ ro.1))
      · rw [sl_at en]
        show _ = (if (qTw t k sh l w).1.2.1 = (0 : Int32) then vp_updL w.2 l (qTw t k sh l w).2.toInt64 else w.2) i
        rw [if_pos zq]
        refine vp_c ?_
        rw [hFv.2]
        exact hst i hi
  · have n1 : ¬ F = 1 := by rw [f3]; decide
    have eg : rdG t F k sh l w = ((rd3 t (nI k) ((1 : Int32) <<< (nI k &&& (31 : Int32))) (pfn sh) l 5 0 w).1, nI (rd3 t (nI k) ((1 : Int32) <<< (nI k &&& (31 : Int32))) (pfn sh) l 5 0 w).2) := by
      unfold rdG
      rw [if_pos f3]
    rw [eg]
    exact pc_oC2 (x_takeTwoSided h8 n1 f2 hG rfl p1 hp1 hl R Z O hZ.1 hO hF8 w z (b0 f2) (hS.2.2 n1 f2) h hst) (fun v r hv => pc_some hv)
  · have eg : rdG t F k sh l w = (sg01 t F k sh l w, nI (fnd sh ((w.2 l).toInt % ((2 ^ k : Nat) : Int)) 32)) := by
      unfold rdG
      rw [if_neg f3, if_neg f2]
    rw [eg]
    have fo := fn_ok hG (w.2 l)
    have rv := rst32 k1 k2 (w.2 l) sk
    have m0 : 0 ≤ (w.2 l).toInt % ((2 ^ k : Nat) : Int) := Int.emod_nonneg _ (by omega)
    have m1 : (w.2 l).toInt % ((2 ^ k : Nat) : Int) < ((2 ^ k : Nat) : Int) := Int.emod_lt_of_pos _ (by omega)
    refine pc_oC1 (x_restOf R Z p1 l hp1) (fun r3 h3 => ?_)
    rw [hst l hl, hZ.1.2.1] at h3
    have e3 : r3.toInt = (w.2 l).toInt % ((2 ^ k : Nat) : Int) := by rw [h3]; exact rv
    refine pc_oC1 (x_signOver hSH.2.1 Z hZ.1.2.2.2 r3 (by rw [e3]; exact m0) (by rw [e3, gm.2.2.1]; exact m1)) (fun r5 h5 => ?_)
    rw [e3] at h5
    generalize hj : fnd sh ((w.2 l).toInt % ((2 ^ k : Nat) : Int)) 32 = j at fo h5
    have ej : r5.toInt = (j : Int) := by rw [h5, nI_toInt (by omega)]
    refine pc_oC1 (p_X4_shareOf Z r5 j ej fo.1) (fun r7 h7 => pc_oC1 (p_X4_fromOf Z r5 j ej fo.1) (fun r9 h9 => ?_))
    rw [hZ.1.2.2.1 j fo.1] at h7
    rw [hZ.1.pf hG j (by omega)] at h9
    rw [h7, h9]
    by_cases f1 : F = 1
    · have al : (1 : Int32) <<< (nI k &&& (31 : Int32)) ≤ sh j → (nwW t (nI k) (sh j) (pfn sh j) l w).1 = w.1 ∧ ∀ i, (nwW t (nI k) (sh j) (pfn sh j) l w).2 i = w.2 i := by
        intro c
        have c1 := Int32.le_iff_toInt_le.mp c
        rw [sk] at c1
        have q : (sh j).toInt = ((2 ^ k : Nat) : Int) := by omega
        exact nwW_all k1 k2 rfl hl z (hS.1 f1) q (fo.2.2.2.2.2.2 q)
      have hF81 : R.1 8 = 1 := by rw [hF8, f1]
      refine pc_oC1 (x_narrowW h8 k1 k2 rfl R Z O hO p1 (sh j) (pfn sh j) l hp1 hl hF81 hZ.1.1 hZ.1.2.1 z (b0 f2) h hst x0) (fun v hv => pc_some ⟨?_, fun i hi => ?_, hv.2.2, fun _ => h5⟩)
      · show XR t (sg01 t F k sh l w).1 v
        unfold sg01
        rw [hj]
        by_cases c : (1 : Int32) <<< (nI k &&& (31 : Int32)) ≤ sh j
        · rw [if_pos c, ← (al c).1]
          exact hv.1
        · rw [if_neg c, if_neg (by rw [f1]; decide)]
          exact hv.1
      · show v.2.2.1 1 i = (sg01 t F k sh l w).2 i
        unfold sg01
        rw [hj]
        by_cases c : (1 : Int32) <<< (nI k &&& (31 : Int32)) ≤ sh j
        · rw [if_pos c, ← (al c).2 i]
          exact hv.2.1 i hi
        · rw [if_neg c, if_neg (by rw [f1]; decide)]
          exact hv.2.1 i hi
    · have f0 : F = 0 := by
        rcases hF with q | q | q | q
        · exact q
        · exact absurd q f1
        · exact absurd q f2
        · exact absurd q f3
      have al : (1 : Int32) <<< (nI k &&& (31 : Int32)) ≤ sh j → (nwB t (nI k) (sh j) (pfn sh j) l w).1 = w.1 ∧ ∀ i, (nwB t (nI k) (sh j) (pfn sh j) l w).2 i = w.2 i := by
        intro c
        have c1 := Int32.le_iff_toInt_le.mp c
        rw [sk] at c1
        have q : (sh j).toInt = ((2 ^ k : Nat) : Int) := by omega
        exact nwB_all k1 k2 rfl hl z (hS.2.2 f1 f2) q (fo.2.2.2.2.2.2 q)
      refine pc_oC1 (x_narrowB h8 k1 k2 rfl f1 f2 R Z O hO p1 (sh j) (pfn sh j) l hp1 hl hF8 hZ.1.1 hZ.1.2.1 z (b0 f2) h hst x0) (fun v hv => pc_some ⟨?_, fun i hi => ?_, hv.2.2, fun _ => h5⟩)
      · show XR t (sg01 t F k sh l w).1 v
        unfold sg01
        rw [hj]
        by_cases c : (1 : Int32) <<< (nI k &&& (31 : Int32)) ≤ sh j
        · rw [if_pos c, ← (al c).1]
          exact hv.1
        · rw [if_neg c, if_pos f0]
          exact hv.1
      · show v.2.2.1 1 i = (sg01 t F k sh l w).2 i
        unfold sg01
        rw [hj]
        by_cases c : (1 : Int32) <<< (nI k &&& (31 : Int32)) ≤ sh j
        · rw [if_pos c, ← (al c).2 i]
          exact hv.2.1 i hi
        · rw [if_neg c, if_pos f0]
          exact hv.2.1 i hi

-- ===== form 3: five steps =====
def RMF (u v : OS) : Prop := (∀ k, k ≠ 22 → k ≠ 23 → k ≠ 26 → k ≠ 27 → k ≠ 29 → v.1 k = u.1 k) ∧ v.2.1 = u.2.1
theorem RMF.rf {u : OS} : RMF u u := ⟨fun _ _ _ _ _ _ => rfl, rfl⟩
theorem RMF.tr {u v w : OS} (h1 : RMF u v) (h2 : RMF v w) : RMF u w := ⟨fun k a b c d e => (h2.1 k a b c d e).trans (h1.1 k a b c d e), h2.2.trans h1.2⟩
theorem M33.rm {u v : OS} (h : M33 u v) : RMF u v := ⟨fun k _ _ c d e => h.1 k c d e, h.2⟩
theorem LSD.rm {u v : OS} (h : LSD u v) : RMF u v := ⟨fun k a b _ _ _ => h.1 k a b, by rw [h.2]⟩
def pfn (sh : Nat → Int32) (i : Nat) : Int32 := nI (psum sh i).toNat
def GSH (k : Nat) (sh : Nat → Int32) : Prop := 5 ≤ k ∧ k ≤ 12 ∧ SHN sh (2 ^ k)
theorem GSH.m {k : Nat} {sh : Nat → Int32} (h : GSH k sh) : 32 ≤ 2 ^ k ∧ 2 ^ k ≤ 4096 ∧ psum sh 32 = ((2 ^ k : Nat) : Int) ∧ psum sh 32 ≤ 4096 := by
  have ak := (powA k (by have := h.2.1; omega) h.1).2.2.2.2.2
  refine ⟨ak.1, ak.2, h.2.2.2.2, ?_⟩
  rw [h.2.2.2.2]
  omega
theorem GSH.p {k : Nat} {sh : Nat → Int32} (h : GSH k sh) : PFX sh (pfn sh) := by
  refine ⟨h.2.2.2.1, h.m.2.2.2, fun i hi => ?_⟩
  have m := psum_mono (f := sh) (N := 32) (m := i) (n := 32) h.2.2.2.1 hi (Nat.le_refl _)
  have m0 := psum_mono (f := sh) (N := 32) (m := 0) (n := i) h.2.2.2.1 (Nat.zero_le _) hi
  have z : psum sh 0 = 0 := rfl
  have m4 := h.m.2.2.2
  unfold pfn
  rw [nI_toInt (by omega)]
  omega
def b3 (sz : Int32) (pf : Nat → Int32) (x a : Nat) (r : Int32) : Nat := if dL pf x a ≤ (0 : Int32) then 1 else if dT pf x a ≤ dL pf x a then 0 else if chn sz (dL pf x a) (dT pf x a) ≤ r then 1 else 0
def w3 (t : OT) (lg sz : Int32) (pf : Nat → Int32) (x a l : Nat) (w : RW) : RW := if dL pf x a ≤ (0 : Int32) then w else if dT pf x a ≤ dL pf x a then w else if chn sz (dL pf x a) (dT pf x a) ≤ ((w.2 l).toInt32 &&& (sz - (1 : Int32))) then nwB t lg (sz - chn sz (dL pf x a) (dT pf x a)) (chn sz (dL pf x a) (dT pf x a)) l w else nwB t lg (chn sz (dL pf x a) (dT pf x a)) 0 l w
def rd3 (t : OT) (lg sz : Int32) (pf : Nat → Int32) (l : Nat) : Nat → Nat → RW → RW × Nat
  | 0, a, w => (w, a)
  | c + 1, a, w => if (w3 t lg sz pf (4 - c) a l w).1.2.1 = (0 : Int32) then rd3 t lg sz pf l c (a + b3 sz pf (4 - c) a ((w.2 l).toInt32 &&& (sz - (1 : Int32))) * 2 ^ c) (w3 t lg sz pf (4 - c) a l w) else (w3 t lg sz pf (4 - c) a l w, 0)
theorem rd3_g {t : OT} {lg sz : Int32} {pf : Nat → Int32} {l c a : Nat} {w : RW} (z : (w3 t lg sz pf (4 - c) a l w).1.2.1 = (0 : Int32)) : rd3 t lg sz pf l (c + 1) a w = rd3 t lg sz pf l c (a + b3 sz pf (4 - c) a ((w.2 l).toInt32 &&& (sz - (1 : Int32))) * 2 ^ c) (w3 t lg sz pf (4 - c) a l w) := by
  rw [rd3, if_pos z]
theorem rd3_e {t : OT} {lg sz : Int32} {pf : Nat → Int32} {l c a : Nat} {w : RW} (z : ¬ (w3 t lg sz pf (4 - c) a l w).1.2.1 = (0 : Int32)) : rd3 t lg sz pf l (c + 1) a w = (w3 t lg sz pf (4 - c) a l w, 0) := by
  rw [rd3, if_neg z]
theorem frm_a {c a b : Nat} (hc : c < 5) (ha : a = b * 2 ^ (c + 1)) : frm (4 - c) a = a ∧ 4 - (4 - c) = c := by
  have e : 4 - (4 - c) = c := by omega
  refine ⟨?_, e⟩
  unfold frm
  rw [e]
  have p : 2 * 2 ^ c = 2 ^ (c + 1) := by rw [Nat.pow_succ]; omega
  rw [p, ha, Nat.mul_div_cancel _ (Nat.two_pow_pos _)]
-- the two sums
theorem dLT {k : Nat} {sh : Nat → Int32} (h : GSH k sh) {c a b : Nat} (hc : c < 5) (ha : a = b * 2 ^ (c + 1)) (h32 : a + 2 ^ (c + 1) ≤ 32) : (dL (pfn sh) (4 - c) a).toInt = psum sh (a + 2 ^ c) - psum sh a ∧ (dT (pfn sh) (4 - c) a).toInt = psum sh (a + 2 ^ (c + 1)) - psum sh a ∧ 0 ≤ (dL (pfn sh) (4 - c) a).toInt ∧ (dT (pfn sh) (4 - c) a).toInt ≤ 4096 ∧ (dL (pfn sh) (4 - c) a).toInt ≤ (dT (pfn sh) (4 - c) a).toInt := by
  obtain ⟨f1, f2⟩ := frm_a hc ha
  have pf := h.p
  have p : 2 * 2 ^ c = 2 ^ (c + 1) := by rw [Nat.pow_succ]; omega
  have d1 := pf.d (a := a) (b := a + 2 ^ c) (by omega) (by omega)
  have d2 := pf.d (a := a) (b := a + 2 ^ (c + 1)) (by omega) h32
  have m := psum_mono (f := sh) (N := 32) (m := a + 2 ^ c) (n := a + 2 ^ (c + 1)) h.2.2.2.1 (by omega) h32
  have m2 := psum_mono (f := sh) (N := 32) (m := a + 2 ^ (c + 1)) (n := 32) h.2.2.2.1 h32 (Nat.le_refl _)
  have m3 := psum_mono (f := sh) (N := 32) (m := 0) (n := a) h.2.2.2.1 (Nat.zero_le _) (by omega)
  have z : psum sh 0 = 0 := rfl
  have m4 := h.m.2.2.2
  unfold dL dT
  rw [f1, f2, p]
  refine ⟨d1.1, d2.1, d1.2, ?_, ?_⟩
  · rw [d2.1]; omega
  · rw [d1.1, d2.1]; omega
-- a step keeps the span; what it needs
theorem w3_ok {t : OT} (h8 : T8 t) {k : Nat} {sh : Nat → Int32} (h : GSH k sh) {lg : Int32} (hlg : lg = nI k) {ln l x a : Nat} (hl : l < ln) {w : RW} (hk : SK t w.1) (hS : LaB ln w.2) : LaB ln (w3 t lg ((1 : Int32) <<< (lg &&& (31 : Int32))) (pfn sh) x a l w).2 ∧ SK t (w3 t lg ((1 : Int32) <<< (lg &&& (31 : Int32))) (pfn sh) x a l w).1 ∧ (w3 t lg ((1 : Int32) <<< (lg &&& (31 : Int32))) (pfn sh) x a l w).1.2.2 = w.1.2.2 ∧ (¬ dL (pfn sh) x a ≤ (0 : Int32) → ¬ dT (pfn sh) x a ≤ dL (pfn sh) x a → (chn ((1 : Int32) <<< (lg &&& (31 : Int32))) (dL (pfn sh) x a) (dT (pfn sh) x a) ≤ ((w.2 l).toInt32 &&& (((1 : Int32) <<< (lg &&& (31 : Int32))) - (1 : Int32))) → ((8388608 : Int64) ≤ (nrB t 2 (w.1, yN lg (((1 : Int32) <<< (lg &&& (31 : Int32))) - chn ((1 : Int32) <<< (lg &&& (31 : Int32))) (dL (pfn sh) x a) (dT (pfn sh) x a)) (chn ((1 : Int32) <<< (lg &&& (31 : Int32))) (dL (pfn sh) x a) (dT (pfn sh) x a)) (w.2 l))).2 ∨ ¬ (nrB t 2 (w.1, yN lg (((1 : Int32) <<< (lg &&& (31 : Int32))) - chn ((1 : Int32) <<< (lg &&& (31 : Int32))) (dL (pfn sh) x a) (dT (pfn sh) x a)) (chn ((1 : Int32) <<< (lg &&& (31 : Int32))) (dL (pfn sh) x a) (dT (pfn sh) x a)) (w.2 l))).1.2.1 = (0 : Int32))) ∧ (¬ chn ((1 : Int32) <<< (lg &&& (31 : Int32))) (dL (pfn sh) x a) (dT (pfn sh) x a) ≤ ((w.2 l).toInt32 &&& (((1 : Int32) <<< (lg &&& (31 : Int32))) - (1 : Int32))) → ((8388608 : Int64) ≤ (nrB t 2 (w.1, yN lg (chn ((1 : Int32) <<< (lg &&& (31 : Int32))) (dL (pfn sh) x a) (dT (pfn sh) x a)) 0 (w.2 l))).2 ∨ ¬ (nrB t 2 (w.1, yN lg (chn ((1 : Int32) <<< (lg &&& (31 : Int32))) (dL (pfn sh) x a) (dT (pfn sh) x a)) 0 (w.2 l))).1.2.1 = (0 : Int32)))) := by
  obtain ⟨k1, k2, _⟩ := h
  have sk := sk32 k1 k2 hlg
  have ak := (powA k (by omega) k1).2.2.2.2.2
  have r := rst32 k1 k2 (w.2 l) sk
  unfold w3
  generalize dL (pfn sh) x a = D
  generalize dT (pfn sh) x a = E
  by_cases c1 : D ≤ (0 : Int32)
  · rw [if_pos c1]
    exact ⟨hS, hk, rfl, fun q => absurd c1 q⟩
  · rw [if_neg c1]
    by_cases c2 : E ≤ D
    · rw [if_pos c2]
      exact ⟨hS, hk, rfl, fun _ q => absurd c2 q⟩
    · rw [if_neg c2]
      have cb := chn_b (sz := (1 : Int32) <<< (lg &&& (31 : Int32))) (l := D) (t := E) (by omega)
      generalize chn ((1 : Int32) <<< (lg &&& (31 : Int32))) D E = C at cb
      have m0 : 0 ≤ (w.2 l).toInt % ((2 ^ k : Nat) : Int) := Int.emod_nonneg _ (by omega)
      have m1 : (w.2 l).toInt % ((2 ^ k : Nat) : Int) < ((2 ^ k : Nat) : Int) := Int.emod_lt_of_pos _ (by omega)
      by_cases c3 : C ≤ ((w.2 l).toInt32 &&& (((1 : Int32) <<< (lg &&& (31 : Int32))) - (1 : Int32)))
      · rw [if_pos c3]
        have c4 := Int32.le_iff_toInt_le.mp c3
        rw [r] at c4
        have es : (((1 : Int32) <<< (lg &&& (31 : Int32))) - C).toInt = ((2 ^ k : Nat) : Int) - C.toInt := by rw [sub32 (by rw [sk]; omega) (by rw [sk]; omega), sk]
        have n := nwB_ok (t := t) h8 k1 k2 (f := ((1 : Int32) <<< (lg &&& (31 : Int32))) - C) (r := C) hlg hl hk hS (by omega) (by omega) (by omega) c4 (by omega)
        exact ⟨n.2.1, n.2.2.1, n.2.2.2, fun _ _ => ⟨fun _ => n.1, fun q => absurd c3 q⟩⟩
      · rw [if_neg c3]
        have c4 := mt Int32.le_iff_toInt_le.mpr c3
        rw [r] at c4
        have n := nwB_ok (t := t) h8 k1 k2 (f := C) (r := 0) hlg hl hk hS (by omega) (by omega) (by decide) (by rw [li_0]; omega) (by rw [li_0]; omega)
        exact ⟨n.2.1, n.2.2.1, n.2.2.2, fun _ _ => ⟨fun q => absurd q c3, fun _ => n.1⟩⟩
-- the way goes on where there are signs
theorem b3_pos {k : Nat} {sh : Nat → Int32} (h : GSH k sh) {c a b : Nat} (hc : c < 5) (ha : a = b * 2 ^ (c + 1)) (h32 : a + 2 ^ (c + 1) ≤ 32) (hp : psum sh a < psum sh (a + 2 ^ (c + 1))) (sz r : Int32) : b3 sz (pfn sh) (4 - c) a r ≤ 1 ∧ psum sh (a + b3 sz (pfn sh) (4 - c) a r * 2 ^ c) < psum sh (a + b3 sz (pfn sh) (4 - c) a r * 2 ^ c + 2 ^ c) := by
  have d := dLT h hc ha h32
  have p : 2 * 2 ^ c = 2 ^ (c + 1) := by rw [Nat.pow_succ]; omega
  have one : ¬ psum sh (a + 2 ^ (c + 1)) ≤ psum sh (a + 2 ^ c) → psum sh (a + 1 * 2 ^ c) < psum sh (a + 1 * 2 ^ c + 2 ^ c) := by
    intro q
    rw [Nat.one_mul, Nat.add_assoc, show 2 ^ c + 2 ^ c = 2 ^ (c + 1) by omega]
    omega
  have zero : ¬ psum sh (a + 2 ^ c) ≤ psum sh a → psum sh (a + 0 * 2 ^ c) < psum sh (a + 0 * 2 ^ c + 2 ^ c) := by
    intro q
    rw [Nat.zero_mul, Nat.add_zero]
    omega
  unfold b3
  by_cases c1 : dL (pfn sh) (4 - c) a ≤ (0 : Int32)
  · rw [if_pos c1]
    have e := i0_le.mp c1
    exact ⟨Nat.le_refl _, one (by omega)⟩
  · rw [if_neg c1]
    have e := mt i0_le.mpr c1
    by_cases c2 : dT (pfn sh) (4 - c) a ≤ dL (pfn sh) (4 - c) a
    · rw [if_pos c2]
      exact ⟨by decide, zero (by omega)⟩
    · rw [if_neg c2]
      have e2 := mt Int32.le_iff_toInt_le.mpr c2
      by_cases c3 : chn sz (dL (pfn sh) (4 - c) a) (dT (pfn sh) (4 - c) a) ≤ r
      · rw [if_pos c3]
        exact ⟨Nat.le_refl _, one (by omega)⟩
      · rw [if_neg c3]
        exact ⟨by decide, zero (by omega)⟩
theorem ls_b : ∀ c : Nat, c < 5 → ∀ b : Nat, b < 32 → ¬ b * 2 ^ (c + 1) < 32 ∨ (nI (b * 2 ^ (c + 1)) >>> (((5 : Int32) - nI (4 - c)) &&& (31 : Int32))) = nI b := by decide +kernel
theorem sub_c : ∀ c : Nat, c < 5 → nI (4 - c) + (1 : Int32) = nI (5 - c) ∧ (c = 0 ∨ 5 - c = 4 - (c - 1)) := by decide
def RTM (k : Nat) (sh : Nat → Int32) (u : OS) : Prop := u.2.1 10 1 = nI k ∧ (∀ i, i < 32 → u.2.1 8 (32 + i) = sh i) ∧ (∀ i, i < 32 → (u.2.1 9 (32 + i)).toInt = psum sh i)
theorem RTM.fr {k : Nat} {sh : Nat → Int32} {u v : OS} (h : RTM k sh u) (e : v.2.1 = u.2.1) : RTM k sh v := by
  unfold RTM at *
  rw [e]
  exact h
set_option maxHeartbeats 2000000 in
theorem r_readSides_L14 {t : OT} (h8 : T8 t) {k : Nat} {sh : Nat → Int32} (hG : GSH k sh) {lg : Int32} (hlg : lg = nI k) (p1 : Int32) {ln l : Nat} (hp1 : p1.toInt = l) (hl : l < ln) (u0 : OS) (hT0 : RTM k sh u0) {Q : OS × Int32 → Prop} (K : Int32 → Int32 → OS → Option (OS × Int32)) (T : RW × Nat) (hK : ∀ a x v, MR t T.1.1 v → (∀ i, i < ln → v.2.2.1 33 i = T.1.2 i) → RMF u0 v → (T.1.1.2.1 = 0 → a = nI T.2) → pc (K a x v) Q) : ∀ (n c a b : Nat) (x3 x4 : Int32) (u : OS) (w : RW), c ≤ 5 → x3 = nI (5 - c) → x4 = nI b → a = b * 2 ^ c → a + 2 ^ c ≤ 32 → psum sh a < psum sh (a + 2 ^ c) → w.1.2.1 = 0 → SK t w.1 → LaB ln w.2 → rd3 t lg ((1 : Int32) <<< (lg &&& (31 : Int32))) (pfn sh) l c a w = T → MR t w.1 u → (∀ i, i < ln → u.2.2.1 33 i = w.2 i) → RMF u0 u → pc (f_X7_readSides_L14 p1 ((1 : Int32) <<< (lg &&& (31 : Int32))) n K x3 x4 u) Q := by
  obtain ⟨k1, k2, hSH⟩ := id hG
  have sk := sk32 k1 k2 hlg
  have gm := hG.m
  have en : p1.toNatClampNeg = l := by
    show p1.toInt.toNat = l
    omega
  intro n
  induction n with
  | zero => intro c a b x3 x4 u w _ _ _ _ _ _ _ _ _ _ _ _ _; exact pc_none
  | succ n ih =>
    intro c a b x3 x4 u w hc hx3 hx4 ha h32 hpos z hk hS hT h hst hF
    unfold f_X7_readSides_L14
    have ex3 : x3.toInt = ((5 - c : Nat) : Int) := by rw [hx3, nI_toInt (by omega)]
    refine pc_ite (fun d => ?_) (fun d => pc_ite (fun z27 => ?_) (fun z27 => absurd (h.2.1.trans z) z27))
    · have d1 := Int32.le_iff_toInt_le.mp d
      rw [li_5, ex3] at d1
      have c0 : c = 0 := by omega
      subst c0
      have hT : (w, a) = T := hT
      rw [← hT] at hK
      refine hK _ _ u h hst hF (fun _ => ?_)
      have ea : a = b := by rw [ha, Nat.pow_zero, Nat.mul_one]
      rw [hx4]
      show nI b = nI a
      rw [ea]
    have d1 := mt Int32.le_iff_toInt_le.mpr d
    rw [li_5, ex3] at d1
    obtain ⟨c', rfl⟩ : ∃ c', c = c' + 1 := ⟨c - 1, by omega⟩
    have c5 : c' < 5 := by omega
    have pp := Nat.two_pow_pos c'
    have p2 : 2 ^ (c' + 1) = 2 * 2 ^ c' := by rw [Nat.pow_succ]; omega
    have bl : b < 32 := by
      have : b * 1 ≤ b * 2 ^ (c' + 1) := Nat.mul_le_mul_left b (by omega)
      omega
    have e5 : 5 - (c' + 1) = 4 - c' := by omega
    rw [e5] at hx3
    have lb := (ls_b c' c5 b bl).resolve_left (fun q => q (by omega))
    rw [← ha] at lb
    obtain ⟨f1, f2⟩ := frm_a c5 ha
    have dd := dLT hG c5 ha h32
    have hT2 := hT0.fr hF.2
    have ls := r_laySides sh u hT2.2.1 (4 - c') a (by omega) (by omega) hSH.2.1 gm.2.2.2
    rw [lb, ← hx4, ← hx3, f1, f2, ← p2] at ls
    refine pc_oC1 ls (fun v hv => ?_)
    have hF2 : RMF u0 v := hF.tr hv.1.rm
    have e22 : v.1 22 = dT (pfn sh) (4 - c') a := Int32.toInt_inj.mp (by rw [hv.2.1, dd.2.1])
    have e23 : v.1 23 = dL (pfn sh) (4 - c') a := Int32.toInt_inj.mp (by rw [hv.2.2, dd.1])
    have hv2 : MR t w.1 v := by
      refine ⟨?_, ?_, ?_, ?_, hk⟩
      · rw [hv.1.1 26 (by decide) (by decide)]; exact h.1
      · rw [hv.1.1 27 (by decide) (by decide)]; exact h.2.1
      · rw [hv.1.1 29 (by decide) (by decide)]; exact h.2.2.1
      · rw [hv.1.1 15 (by decide) (by decide), hv.1.2]; exact h.2.2.2.1
    have hst2 : ∀ i, i < ln → v.2.2.1 33 i = w.2 i := fun i hi => by rw [hv.1.2]; exact hst i hi
    have wo := w3_ok (x := 4 - c') (a := a) h8 hG hlg hl hk hS
    have bp := b3_pos hG c5 ha h32 hpos ((1 : Int32) <<< (lg &&& (31 : Int32))) ((w.2 l).toInt32 &&& (((1 : Int32) <<< (lg &&& (31 : Int32))) - (1 : Int32)))
    have ext : x3 + (1 : Int32) = nI (5 - c') := by rw [hx3, (sub_c c' c5).1]
    -- the bit is known, and what it made of the states
    have go : ∀ (B : Int32) (y : OS), B = nI (b3 ((1 : Int32) <<< (lg &&& (31 : Int32))) (pfn sh) (4 - c') a ((w.2 l).toInt32 &&& (((1 : Int32) <<< (lg &&& (31 : Int32))) - (1 : Int32)))) → MR t (w3 t lg ((1 : Int32) <<< (lg &&& (31 : Int32))) (pfn sh) (4 - c') a l w).1 y → (∀ i, i < ln → y.2.2.1 33 i = (w3 t lg ((1 : Int32) <<< (lg &&& (31 : Int32))) (pfn sh) (4 - c') a l w).2 i) → RMF u0 y → pc (bnd (((2 : Int32) * x4) + B) fun x19 => bnd (x3 + (1 : Int32)) fun x20 => f_X7_readSides_L14 p1 ((1 : Int32) <<< (lg &&& (31 : Int32))) n K x20 x19 y) Q := by
      intro B y hB hy hys hFy
      rw [ext]
      refine pc_bnd (pc_bnd ?_)
      by_cases zz : (w3 t lg ((1 : Int32) <<< (lg &&& (31 : Int32))) (pfn sh) (4 - c') a l w).1.2.1 = (0 : Int32)
      · rw [rd3_g zz] at hT
        generalize b3 ((1 : Int32) <<< (lg &&& (31 : Int32))) (pfn sh) (4 - c') a ((w.2 l).toInt32 &&& (((1 : Int32) <<< (lg &&& (31 : Int32))) - (1 : Int32))) = bb at bp hB hT
        have m2 : bb * 2 ^ c' ≤ 1 * 2 ^ c' := Nat.mul_le_mul_right _ bp.1
        refine ih c' (a + bb * 2 ^ c') (2 * b + bb) _ _ y _ (by omega) rfl ?_ ?_ (by omega) bp.2 zz wo.2.1 wo.1 hT hy hys hFy
        · refine Int32.toInt_inj.mp ?_
          have e2 : ((2 : Int32) * x4).toInt = 2 * (b : Int) := by rw [mul32 (by rw [li_2, hx4, nI_toInt (by omega)]; omega) (by rw [li_2, hx4, nI_toInt (by omega)]; omega), li_2, hx4, nI_toInt (by omega)]
          rw [add32 (by rw [e2, hB, nI_toInt (by omega)]; omega) (by rw [e2, hB, nI_toInt (by omega)]; omega), e2, hB, nI_toInt (by omega), nI_toInt (by omega)]
          omega
        · rw [Nat.add_mul, ha, p2]
          congr 1
          rw [Nat.mul_comm 2 b, Nat.mul_assoc]
      · rw [rd3_e zz] at hT
        rw [← hT] at hK
        have hk : ∀ aa x, pc (K aa x y) Q := fun aa x => hK aa x y hy hys hFy (fun q => absurd q zz)
        cases n with
        | zero => exact pc_none
        | succ n =>
          unfold f_X7_readSides_L14
          exact pc_ite (fun _ => hk _ _) (fun _ => pc_ite (fun q => absurd (hy.2.1.symm.trans q) zz) (fun _ => hk _ _))
    clear ih hT hK
    rw [e22, e23]
    -- no choice
    have skip1 : dL (pfn sh) (4 - c') a ≤ (0 : Int32) → w3 t lg ((1 : Int32) <<< (lg &&& (31 : Int32))) (pfn sh) (4 - c') a l w = w ∧ b3 ((1 : Int32) <<< (lg &&& (31 : Int32))) (pfn sh) (4 - c') a ((w.2 l).toInt32 &&& (((1 : Int32) <<< (lg &&& (31 : Int32))) - (1 : Int32))) = 1 := by
      intro q
      unfold w3 b3
      rw [if_pos q, if_pos q]
      exact ⟨rfl, rfl⟩
    have skip0 : ¬ dL (pfn sh) (4 - c') a ≤ (0 : Int32) → dT (pfn sh) (4 - c') a ≤ dL (pfn sh) (4 - c') a → w3 t lg ((1 : Int32) <<< (lg &&& (31 : Int32))) (pfn sh) (4 - c') a l w = w ∧ b3 ((1 : Int32) <<< (lg &&& (31 : Int32))) (pfn sh) (4 - c') a ((w.2 l).toInt32 &&& (((1 : Int32) <<< (lg &&& (31 : Int32))) - (1 : Int32))) = 0 := by
      intro q r
      unfold w3 b3
      rw [if_neg q, if_neg q, if_pos r, if_pos r]
      exact ⟨rfl, rfl⟩
    refine pc_bnd (pc_ite (fun q => pc_bnd (pc_ite (fun _ => ?_) (fun q2 => absurd q q2))) (fun q => pc_bnd (pc_ite (fun q2 => absurd q2 q) (fun _ => pc_ite (fun r => ?_) (fun r => ?_)))))
    · have s := skip1 q
      refine go 1 v ?_ ?_ ?_ hF2
      · rw [s.2]; rfl
      · rw [s.1]; exact hv2
      · rw [s.1]; exact hst2
    · have s := skip0 q r
      refine go 0 v ?_ ?_ ?_ hF2
      · rw [s.2]; rfl
      · rw [s.1]; exact hv2
      · rw [s.1]; exact hst2
    · have wq := wo.2.2.2 q r
      have ev10 : v.2.1 10 1 = lg := by rw [hF2.2, hT0.1, hlg]
      refine pc_oC1 (p_X7_sideChance v ((1 : Int32) <<< (lg &&& (31 : Int32)))) (fun C hC => pc_gdi (fun _ _ => pc_bnd ?_))
      rw [e22, e23] at hC
      have cmp : C.toInt64 ≤ ((v.2.2.1 33 p1.toNatClampNeg) &&& (((1 : Int32) <<< (lg &&& (31 : Int32))) - (1 : Int32)).toInt64) ↔ chn ((1 : Int32) <<< (lg &&& (31 : Int32))) (dL (pfn sh) (4 - c') a) (dT (pfn sh) (4 - c') a) ≤ ((w.2 l).toInt32 &&& (((1 : Int32) <<< (lg &&& (31 : Int32))) - (1 : Int32))) := by
        have s := hS l hl
        have o := (one_k k (by omega)).1
        rw [← hlg] at o
        have o1 : ((1 : Int64)).toInt = 1 := by decide
        have em : (((1 : Int32) <<< (lg &&& (31 : Int32))) - (1 : Int32)).toInt64 = ((1 : Int64) <<< (lg.toInt64 &&& (63 : Int64))) - (1 : Int64) := by
          refine Int64.toInt_inj.mp ?_
          rw [tl32, sub32 (by rw [sk, li_1]; omega) (by rw [sk, li_1]; omega), sk, li_1, sub64 (by rw [o, o1]; omega) (by rw [o, o1]; omega), o, o1]
        rw [en, hst2 l hl, em, Int64.le_iff_toInt_le, Int32.le_iff_toInt_le, m64 k1 k2 hlg (w.2 l) (by omega), rst32 k1 k2 (w.2 l) sk, tl32, hC]
      refine pc_ite (fun cc => pc_bnd (pc_ite (fun i0 => absurd i0 (by decide)) (fun _ => pc_bnd (pc_ite (fun i0 => absurd i0 (by decide)) (fun _ => ?_))))) (fun cc => pc_bnd (pc_ite (fun _ => pc_bnd (pc_ite (fun _ => ?_) (fun i0 => absurd rfl i0))) (fun i0 => absurd rfl i0)))
      · have c3 := cmp.mp cc
        have ew : w3 t lg ((1 : Int32) <<< (lg &&& (31 : Int32))) (pfn sh) (4 - c') a l w = nwB t lg (((1 : Int32) <<< (lg &&& (31 : Int32))) - chn ((1 : Int32) <<< (lg &&& (31 : Int32))) (dL (pfn sh) (4 - c') a) (dT (pfn sh) (4 - c') a)) (chn ((1 : Int32) <<< (lg &&& (31 : Int32))) (dL (pfn sh) (4 - c') a) (dT (pfn sh) (4 - c') a)) l w := by
          unfold w3
          rw [if_neg q, if_neg r, if_pos c3]
        have eb : b3 ((1 : Int32) <<< (lg &&& (31 : Int32))) (pfn sh) (4 - c') a ((w.2 l).toInt32 &&& (((1 : Int32) <<< (lg &&& (31 : Int32))) - (1 : Int32))) = 1 := by
          unfold b3
          rw [if_neg q, if_neg r, if_pos c3]
        rw [hC]
        refine pc_oC1 (r_readBytes (w := w) (ln := ln) v p1 _ _ l hp1 hl ev10 hv2 hst2 (wq.1 c3)) (fun y hy => ?_)
        rw [← ew] at hy
        exact go 1 y (by rw [eb]; rfl) hy.1 hy.2.1 (hF2.tr hy.2.2.rm)
      · have c3 : ¬ chn ((1 : Int32) <<< (lg &&& (31 : Int32))) (dL (pfn sh) (4 - c') a) (dT (pfn sh) (4 - c') a) ≤ ((w.2 l).toInt32 &&& (((1 : Int32) <<< (lg &&& (31 : Int32))) - (1 : Int32))) := fun q => cc (cmp.mpr q)
        have ew : w3 t lg ((1 : Int32) <<< (lg &&& (31 : Int32))) (pfn sh) (4 - c') a l w = nwB t lg (chn ((1 : Int32) <<< (lg &&& (31 : Int32))) (dL (pfn sh) (4 - c') a) (dT (pfn sh) (4 - c') a)) 0 l w := by
          unfold w3
          rw [if_neg q, if_neg r, if_neg c3]
        have eb : b3 ((1 : Int32) <<< (lg &&& (31 : Int32))) (pfn sh) (4 - c') a ((w.2 l).toInt32 &&& (((1 : Int32) <<< (lg &&& (31 : Int32))) - (1 : Int32))) = 0 := by
          unfold b3
          rw [if_neg q, if_neg r, if_neg c3]
        rw [hC]
        refine pc_oC1 (r_readBytes (w := w) (ln := ln) v p1 _ _ l hp1 hl ev10 hv2 hst2 (wq.2 c3)) (fun y hy => ?_)
        rw [← ew] at hy
        exact go 0 y (by rw [eb]; rfl) hy.1 hy.2.1 (hF2.tr hy.2.2.rm)
theorem r_readSides {t : OT} (h8 : T8 t) {k : Nat} {sh : Nat → Int32} (hG : GSH k sh) {lg : Int32} (hlg : lg = nI k) (p1 : Int32) {ln l : Nat} (hp1 : p1.toInt = l) (hl : l < ln) (u : OS) (hT0 : RTM k sh u) (w : RW) (z : w.1.2.1 = 0) (hS : LaB ln w.2) (h : MR t w.1 u) (hst : ∀ i, i < ln → u.2.2.1 33 i = w.2 i) : pc (f_X7_readSides u p1) (fun q => MR t (rd3 t lg ((1 : Int32) <<< (lg &&& (31 : Int32))) (pfn sh) l 5 0 w).1.1 q.1 ∧ (∀ i, i < ln → q.1.2.2.1 33 i = (rd3 t lg ((1 : Int32) <<< (lg &&& (31 : Int32))) (pfn sh) l 5 0 w).1.2 i) ∧ RMF u q.1 ∧ ((rd3 t lg ((1 : Int32) <<< (lg &&& (31 : Int32))) (pfn sh) l 5 0 w).1.1.2.1 = 0 → q.2 = nI (rd3 t lg ((1 : Int32) <<< (lg &&& (31 : Int32))) (pfn sh) l 5 0 w).2)) := by
  have e10 : u.2.1 10 ((1 : Int32)).toNatClampNeg = lg := hT0.1.trans hlg.symm
  have gm := hG.m
  unfold f_X7_readSides
  rw [e10]
  refine pc_gdi (fun _ _ => pc_bnd (pc_bnd (r_readSides_L14 h8 hG hlg p1 hp1 hl u hT0 _ _ (fun a x v hv hs hF ha => pc_some ⟨hv, hs, hF, ha⟩) FU 5 0 0 0 0 u w (by decide) rfl rfl rfl (by decide) ?_ z h.2.2.2.2 hS rfl h hst RMF.rf)))
  have z0 : psum sh 0 = 0 := rfl
  have e : 0 + 2 ^ 5 = 32 := by decide
  rw [e, z0, gm.2.2.1]
  omega
-- the class
def RTX (k : Nat) (sh : Nat → Int32) (z : OS) : Prop := z.1 0 = nI k ∧ z.1 1 = (1 : Int32) <<< (nI k &&& (31 : Int32)) ∧ (∀ i, i < 32 → z.2.1 3 i = sh i) ∧ (∀ j, j ≤ 32 → (z.2.1 4 j).toInt = psum sh j)
theorem RTX.pf {k : Nat} {sh : Nat → Int32} {z : OS} (hG : GSH k sh) (h : RTX k sh z) : ∀ j, j ≤ 32 → z.2.1 4 j = pfn sh j := fun j hj => Int32.toInt_inj.mp (by rw [h.2.2.2 j hj, hG.p.2.2 j hj])
set_option maxHeartbeats 2000000 in
theorem x_takeTwoSided_L6 {t : OT} (h8 : T8 t) {F : Int32} (f1 : ¬ F = 1) (f2 : ¬ F = 2) {k : Nat} {sh : Nat → Int32} (hG : GSH k sh) {lg : Int32} (hlg : lg = nI k) (p1 : Int32) {ln l : Nat} (hp1 : p1.toInt = l) (hl : l < ln) (Z O : OS) (hZ : RTX k sh Z) (hO : XO t O) (u0 : OS) (hF8 : u0.1 8 = F) (T : RW × Nat) : ∀ (n c a b : Nat) (x1 x2 : Int32) (u : OS) (w : RW), c ≤ 5 → x1 = nI (2 ^ c / 2) → x2 = nI a → a = b * 2 ^ c → a + 2 ^ c ≤ 32 → psum sh a < psum sh (a + 2 ^ c) → w.1.2.1 = 0 → w.1.2.2 = 0 → LaB ln w.2 → rd3 t lg ((1 : Int32) <<< (lg &&& (31 : Int32))) (pfn sh) l c a w = T → XR t w.1 u → (∀ i, i < ln → u.2.2.1 1 i = w.2 i) → XF3 u0 u → pc (f_X3_takeTwoSided_L6 Z p1 O n x1 x2 u) (fun q => XR t T.1.1 q.1 ∧ (∀ i, i < ln → q.1.2.2.1 1 i = T.1.2 i) ∧ XF3 u0 q.1 ∧ (T.1.1.2.1 = 0 → q.2 = nI T.2)) := by
  obtain ⟨k1, k2, hSH⟩ := id hG
  have sk := sk32 k1 k2 hlg
  have gm := hG.m
  have hz0 : Z.1 0 = lg := hZ.1.trans hlg.symm
  have hz1 : Z.1 1 = (1 : Int32) <<< (lg &&& (31 : Int32)) := by rw [hlg]; exact hZ.2.1
  have hpf := hZ.pf hG
  intro n
  induction n with
  | zero => intro c a b x1 x2 u w _ _ _ _ _ _ _ _ _ _ _ _ _; exact pc_none
  | succ n ih =>
    intro c a b x1 x2 u w hc hx1 hx2 ha h32 hpos z b0 hS hT h hst hF
    unfold f_X3_takeTwoSided_L6
    cases c with
    | zero =>
      have x0 : x1 ≤ (0 : Int32) := by rw [hx1]; decide
      rw [if_pos x0]
      have hT : (w, a) = T := hT
      rw [← hT]
      exact pc_some ⟨h, hst, hF, fun _ => hx2⟩
    | succ c' =>
      obtain ⟨s1, s2, s3, s4⟩ := so_h c' (by omega)
      have c5 : c' < 5 := by omega
      have pp := Nat.two_pow_pos c'
      have p16 : 2 ^ c' ≤ 2 ^ 4 := Nat.pow_le_pow_right (by decide) (by omega)
      rw [if_neg (by rw [hx1]; exact s2)]
      have ex1 : x1 = nI (2 ^ c') := by rw [hx1, s3]
      obtain ⟨fr1, fr2⟩ := frm_a c5 ha
      have dd := dLT hG c5 ha h32
      have so := p_X4_shareOfZero Z (4 - c') a (by omega) (by omega) (by rw [hz1, sk]; omega)
      rw [fr1, fr2, ← ex1, ← hx2, hz1, hpf (a + 2 ^ c') (by omega), hpf a (by omega), hpf (a + 2 * 2 ^ c') (by omega)] at so
      have eD : pfn sh (a + 2 ^ c') - pfn sh a = dL (pfn sh) (4 - c') a := by
        unfold dL
        rw [fr1, fr2]
      have eT : pfn sh (a + 2 * 2 ^ c') - pfn sh a = dT (pfn sh) (4 - c') a := by
        unfold dT
        rw [fr1, fr2]
      rw [eD, eT] at so
      have tpos : ¬ dT (pfn sh) (4 - c') a ≤ (0 : Int32) := fun q => by
        have := i0_le.mp q
        omega
      have wo := w3_ok (x := 4 - c') (a := a) h8 hG hlg hl h.2.2.2.2 hS
      have bp := b3_pos hG c5 ha h32 hpos ((1 : Int32) <<< (lg &&& (31 : Int32))) ((w.2 l).toInt32 &&& (((1 : Int32) <<< (lg &&& (31 : Int32))) - (1 : Int32)))
      have sp := hS l hl
      have rr := rst32 k1 k2 (w.2 l) sk
      have m0 : 0 ≤ (w.2 l).toInt % ((2 ^ k : Nat) : Int) := Int.emod_nonneg _ (by omega)
      have m1 : (w.2 l).toInt % ((2 ^ k : Nat) : Int) < ((2 ^ k : Nat) : Int) := Int.emod_lt_of_pos _ (by omega)
      have nar : ∀ f r : Int32, pc (f_X3_narrow u Z O p1 f r) (fun v => XR t (nwB t lg f r l w).1 v ∧ (∀ i, i < ln → v.2.2.1 1 i = (nwB t lg f r l w).2 i) ∧ XF3 u v) := fun f r => x_narrowB h8 k1 k2 hlg f1 f2 u Z O hO p1 f r l hp1 hl ((hF.1 8 (by decide) (by decide) (by decide) (by decide)).trans hF8) hz0 hz1 z b0 h hst (by omega)
      have go : ∀ (x9 : Int32) (v : OS) (W : RW), x9 = nI (a + b3 ((1 : Int32) <<< (lg &&& (31 : Int32))) (pfn sh) (4 - c') a ((w.2 l).toInt32 &&& (((1 : Int32) <<< (lg &&& (31 : Int32))) - (1 : Int32))) * 2 ^ c') → XR t W.1 v → (∀ i, i < ln → v.2.2.1 1 i = W.2 i) → XF3 u v → W.1 = (w3 t lg ((1 : Int32) <<< (lg &&& (31 : Int32))) (pfn sh) (4 - c') a l w).1 → (∀ i, W.2 i = (w3 t lg ((1 : Int32) <<< (lg &&& (31 : Int32))) (pfn sh) (4 - c') a l w).2 i) → pc (if (v.1 4) = (0 : Int32) then (
    bnd (x1 / (2 : Int32)) fun x13 =>
    f_X3_takeTwoSided_L6 Z p1 O n x13 x9 v) else (
    some (v, (-1 : Int32)))) (fun q => XR t T.1.1 q.1 ∧ (∀ i, i < ln → q.1.2.2.1 1 i = T.1.2 i) ∧ XF3 u0 q.1 ∧ (T.1.1.2.1 = 0 → q.2 = nI T.2)) := by
        intro x9 v W h9 hv hvs hFv eW1 eW2
        rw [eW1] at hv
        have hvs2 : ∀ i, i < ln → v.2.2.1 1 i = (w3 t lg ((1 : Int32) <<< (lg &&& (31 : Int32))) (pfn sh) (4 - c') a l w).2 i := fun i hi => (hvs i hi).trans (eW2 i)
        refine pc_ite (fun z4 => pc_bnd ?_) (fun z4 => pc_some ?_)
        · have zz : (w3 t lg ((1 : Int32) <<< (lg &&& (31 : Int32))) (pfn sh) (4 - c') a l w).1.2.1 = (0 : Int32) := hv.2.1.symm.trans z4
          rw [rd3_g zz] at hT
          generalize b3 ((1 : Int32) <<< (lg &&& (31 : Int32))) (pfn sh) (4 - c') a ((w.2 l).toInt32 &&& (((1 : Int32) <<< (lg &&& (31 : Int32))) - (1 : Int32))) = bb at bp h9 hT
          have mb : bb * 2 ^ c' ≤ 1 * 2 ^ c' := Nat.mul_le_mul_right _ bp.1
          refine ih c' (a + bb * 2 ^ c') (2 * b + bb) _ _ v _ (by omega) (by rw [hx1, s1]) h9 ?_ (by omega) bp.2 zz (wo.2.2.1.trans b0) wo.1 hT hv hvs2 (hF.tr hFv)
          rw [Nat.add_mul, ha, s4]
          congr 1
          rw [Nat.mul_comm 2 b, Nat.mul_assoc]
        · have zz : ¬ (w3 t lg ((1 : Int32) <<< (lg &&& (31 : Int32))) (pfn sh) (4 - c') a l w).1.2.1 = (0 : Int32) := fun q => z4 (hv.2.1.trans q)
          rw [rd3_e zz] at hT
          rw [← hT]
          exact ⟨hv, hvs2, hF.tr hFv, fun q => absurd q zz⟩
      clear ih hT
      refine pc_oC1 so (fun r5 h5 => pc_oC1 (x_restOf u Z p1 l hp1) (fun r7 h7 => pc_bnd ?_))
      rw [hst l hl, hz1] at h7
      have r7v : r7.toInt = (w.2 l).toInt % ((2 ^ k : Nat) : Int) := by rw [h7]; exact rr
      unfold sz0 at h5
      rw [if_neg tpos] at h5
      have es0 : ((1 : Int32) <<< (lg &&& (31 : Int32))) - (0 : Int32) = (1 : Int32) <<< (lg &&& (31 : Int32)) := Int32.sub_zero _
      have x2a : x2 + x1 = nI (a + 1 * 2 ^ c') := by
        refine Int32.toInt_inj.mp ?_
        rw [hx2, ex1, add32 (by rw [nI_toInt (by omega), nI_toInt (by omega)]; omega) (by rw [nI_toInt (by omega), nI_toInt (by omega)]; omega), nI_toInt (by omega), nI_toInt (by omega), nI_toInt (by omega)]
        omega
      have x20 : x2 = nI (a + 0 * 2 ^ c') := by rw [hx2, Nat.zero_mul, Nat.add_zero]
      rw [hz1]
      by_cases c1 : dL (pfn sh) (4 - c') a ≤ (0 : Int32)
      · -- all on the second side
        have e0 : dL (pfn sh) (4 - c') a = (0 : Int32) := Int32.toInt_inj.mp (by have := i0_le.mp c1; rw [li_0]; omega)
        have ne : ¬ dL (pfn sh) (4 - c') a = dT (pfn sh) (4 - c') a := fun q => tpos (by rw [← q]; exact c1)
        rw [if_neg ne, if_pos e0] at h5
        have ew : w3 t lg ((1 : Int32) <<< (lg &&& (31 : Int32))) (pfn sh) (4 - c') a l w = w := by
          unfold w3
          rw [if_pos c1]
        have eb : b3 ((1 : Int32) <<< (lg &&& (31 : Int32))) (pfn sh) (4 - c') a ((w.2 l).toInt32 &&& (((1 : Int32) <<< (lg &&& (31 : Int32))) - (1 : Int32))) = 1 := by
          unfold b3
          rw [if_pos c1]
        have al := nwB_all (t := t) k1 k2 (f := ((1 : Int32) <<< (lg &&& (31 : Int32))) - (0 : Int32)) (r := 0) hlg hl z hS (by rw [es0]; exact sk) li_0
        refine pc_ite (fun q => ?_) (fun q => ?_)
        · rw [h5]
          refine pc_oC1 (nar _ _) (fun v hv => pc_bnd (go _ v _ (by rw [eb]; exact x2a) hv.1 hv.2.1 hv.2.2 (by rw [ew]; exact al.1) (fun i => by rw [ew]; exact al.2 i)))
        · exfalso
          apply q
          rw [h5]
          exact Int32.le_iff_toInt_le.mpr (by rw [li_0, r7v]; exact m0)
      · by_cases c2 : dT (pfn sh) (4 - c') a ≤ dL (pfn sh) (4 - c') a
        · -- all on the first side
          have e0 : dL (pfn sh) (4 - c') a = dT (pfn sh) (4 - c') a := Int32.toInt_inj.mp (by have := Int32.le_iff_toInt_le.mp c2; omega)
          rw [if_pos e0] at h5
          have ew : w3 t lg ((1 : Int32) <<< (lg &&& (31 : Int32))) (pfn sh) (4 - c') a l w = w := by
            unfold w3
            rw [if_neg c1, if_pos c2]
          have eb : b3 ((1 : Int32) <<< (lg &&& (31 : Int32))) (pfn sh) (4 - c') a ((w.2 l).toInt32 &&& (((1 : Int32) <<< (lg &&& (31 : Int32))) - (1 : Int32))) = 0 := by
            unfold b3
            rw [if_neg c1, if_pos c2]
          have al := nwB_all (t := t) k1 k2 (f := (1 : Int32) <<< (lg &&& (31 : Int32))) (r := 0) hlg hl z hS sk li_0
          refine pc_ite (fun q => ?_) (fun q => ?_)
          · exfalso
            rw [h5] at q
            have := Int32.le_iff_toInt_le.mp q
            rw [sk, r7v] at this
            omega
          · rw [h5]
            exact pc_oC1 (nar _ _) (fun v hv => go _ v _ (by rw [eb]; exact x20) hv.1 hv.2.1 hv.2.2 (by rw [ew]; exact al.1) (fun i => by rw [ew]; exact al.2 i))
        · have ne : ¬ dL (pfn sh) (4 - c') a = dT (pfn sh) (4 - c') a := fun q => c2 (by rw [q]; exact Int32.le_refl _)
          have n0 : ¬ dL (pfn sh) (4 - c') a = (0 : Int32) := fun q => c1 (by rw [q]; decide)
          rw [if_neg ne, if_neg n0] at h5
          refine pc_ite (fun q => ?_) (fun q => ?_)
          · rw [h5, h7] at q
            have ew : w3 t lg ((1 : Int32) <<< (lg &&& (31 : Int32))) (pfn sh) (4 - c') a l w = nwB t lg (((1 : Int32) <<< (lg &&& (31 : Int32))) - chn ((1 : Int32) <<< (lg &&& (31 : Int32))) (dL (pfn sh) (4 - c') a) (dT (pfn sh) (4 - c') a)) (chn ((1 : Int32) <<< (lg &&& (31 : Int32))) (dL (pfn sh) (4 - c') a) (dT (pfn sh) (4 - c') a)) l w := by
              unfold w3
              rw [if_neg c1, if_neg c2, if_pos q]
            have eb : b3 ((1 : Int32) <<< (lg &&& (31 : Int32))) (pfn sh) (4 - c') a ((w.2 l).toInt32 &&& (((1 : Int32) <<< (lg &&& (31 : Int32))) - (1 : Int32))) = 1 := by
              unfold b3
              rw [if_neg c1, if_neg c2, if_pos q]
            rw [h5]
            exact pc_oC1 (nar _ _) (fun v hv => pc_bnd (go _ v _ (by rw [eb]; exact x2a) hv.1 hv.2.1 hv.2.2 (by rw [ew]) (fun i => by rw [ew])))
          · rw [h5, h7] at q
            have ew : w3 t lg ((1 : Int32) <<< (lg &&& (31 : Int32))) (pfn sh) (4 - c') a l w = nwB t lg (chn ((1 : Int32) <<< (lg &&& (31 : Int32))) (dL (pfn sh) (4 - c') a) (dT (pfn sh) (4 - c') a)) 0 l w := by
              unfold w3
              rw [if_neg c1, if_neg c2, if_neg q]
            have eb : b3 ((1 : Int32) <<< (lg &&& (31 : Int32))) (pfn sh) (4 - c') a ((w.2 l).toInt32 &&& (((1 : Int32) <<< (lg &&& (31 : Int32))) - (1 : Int32))) = 0 := by
              unfold b3
              rw [if_neg c1, if_neg c2, if_neg q]
            rw [h5]
            exact pc_oC1 (nar _ _) (fun v hv => go _ v _ (by rw [eb]; exact x20) hv.1 hv.2.1 hv.2.2 (by rw [ew]) (fun i => by rw [ew]))
theorem x_takeTwoSided {t : OT} (h8 : T8 t) {F : Int32} (f1 : ¬ F = 1) (f2 : ¬ F = 2) {k : Nat} {sh : Nat → Int32} (hG : GSH k sh) {lg : Int32} (hlg : lg = nI k) (p1 : Int32) {ln l : Nat} (hp1 : p1.toInt = l) (hl : l < ln) (R Z O : OS) (hZ : RTX k sh Z) (hO : XO t O) (hF8 : R.1 8 = F) (w : RW) (z : w.1.2.1 = 0) (b0 : w.1.2.2 = 0) (hS : LaB ln w.2) (h : XR t w.1 R) (hst : ∀ i, i < ln → R.2.2.1 1 i = w.2 i) : pc (f_X3_takeTwoSided R Z O p1) (fun q => XR t (rd3 t lg ((1 : Int32) <<< (lg &&& (31 : Int32))) (pfn sh) l 5 0 w).1.1 q.1 ∧ (∀ i, i < ln → q.1.2.2.1 1 i = (rd3 t lg ((1 : Int32) <<< (lg &&& (31 : Int32))) (pfn sh) l 5 0 w).1.2 i) ∧ XF3 R q.1 ∧ ((rd3 t lg ((1 : Int32) <<< (lg &&& (31 : Int32))) (pfn sh) l 5 0 w).1.1.2.1 = 0 → q.2 = nI (rd3 t lg ((1 : Int32) <<< (lg &&& (31 : Int32))) (pfn sh) l 5 0 w).2)) := by
  have gm := hG.m
  unfold f_X3_takeTwoSided
  refine x_takeTwoSided_L6 h8 f1 f2 hG hlg p1 hp1 hl Z O hZ hO R hF8 _ FU 5 0 0 16 0 R w (by decide) (by decide) rfl rfl (by decide) ?_ z b0 hS rfl h hst XF3.rf
  have z0 : psum sh 0 = 0 := rfl
  have e : 0 + 2 ^ 5 = 32 := by decide
  rw [e, z0, gm.2.2.1]
  omega
-- the span after five steps
theorem rd3_ok {t : OT} (h8 : T8 t) {k : Nat} {sh : Nat → Int32} (hG : GSH k sh) {lg : Int32} (hlg : lg = nI k) {ln l : Nat} (hl : l < ln) : ∀ (c a : Nat) (w : RW), SK t w.1 → LaB ln w.2 → LaB ln (rd3 t lg ((1 : Int32) <<< (lg &&& (31 : Int32))) (pfn sh) l c a w).1.2 ∧ SK t (rd3 t lg ((1 : Int32) <<< (lg &&& (31 : Int32))) (pfn sh) l c a w).1.1 ∧ (rd3 t lg ((1 : Int32) <<< (lg &&& (31 : Int32))) (pfn sh) l c a w).1.1.2.2 = w.1.2.2 := by
  intro c
  induction c with
  | zero => intro a w hk hS; exact ⟨hS, hk, rfl⟩
  | succ c ih =>
    intro a w hk hS
    have wo := w3_ok (x := 4 - c) (a := a) h8 hG hlg hl hk hS
    by_cases z : (w3 t lg ((1 : Int32) <<< (lg &&& (31 : Int32))) (pfn sh) (4 - c) a l w).1.2.1 = (0 : Int32)
    · rw [rd3_g z]
      have r := ih (a + b3 ((1 : Int32) <<< (lg &&& (31 : Int32))) (pfn sh) (4 - c) a ((w.2 l).toInt32 &&& (((1 : Int32) <<< (lg &&& (31 : Int32))) - (1 : Int32))) * 2 ^ c) _ wo.2.1 wo.1
      exact ⟨r.1, r.2.1, r.2.2.trans wo.2.2.1⟩
    · rw [rd3_e z]
      exact ⟨wo.1, wo.2.1, wo.2.2.1⟩

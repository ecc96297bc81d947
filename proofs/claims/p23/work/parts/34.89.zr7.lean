-- ===== which sign a rest belongs to =====
def fnd (sh : Nat → Int32) (r : Int) : Nat → Nat
  | 0 => 0
  | c + 1 => if psum sh c ≤ r then c else fnd sh r c
theorem fnd_p {sh : Nat → Int32} {r : Int} (h0 : 0 ≤ r) : ∀ c : Nat, r < psum sh c → fnd sh r c < c ∧ psum sh (fnd sh r c) ≤ r ∧ r < psum sh (fnd sh r c + 1) := by
  intro c
  induction c with
  | zero =>
    intro h
    have h : r < 0 := h
    omega
  | succ c ih =>
    intro h
    have e : fnd sh r (c + 1) = if psum sh c ≤ r then c else fnd sh r c := rfl
    rw [e]
    by_cases q : psum sh c ≤ r
    · rw [if_pos q]
      exact ⟨Nat.lt_succ_self c, q, h⟩
    · rw [if_neg q]
      have k := ih (by omega)
      exact ⟨by omega, k.2⟩
theorem r_signOf_L2 {sh : Nat → Int32} (hs : ∀ i, i < 32 → 0 ≤ (sh i).toInt) (hm : psum sh 32 ≤ 4096) (u : OS) (h8 : ∀ i, i < 32 → u.2.1 8 (32 + i) = sh i) (h9 : ∀ i, i < 32 → (u.2.1 9 (32 + i)).toInt = psum sh i) (p : Int32) (j : Nat) (hj : j < 32) (j1 : psum sh j ≤ p.toInt) (j2 : p.toInt < psum sh (j + 1)) {Q : Int32 → Prop} (K : Int32 → Option Int32) (hK : pc (K (nI j)) Q) : ∀ (n i : Nat) (x : Int32), x = nI i → i ≤ j → pc (f_X7_signOf_L2 u p n K x) Q := by
  intro n
  induction n with
  | zero => intro i x _ _; exact pc_none
  | succ n ih =>
    intro i x hx hi
    have en : ((32 : Int32) + x).toNatClampNeg = 32 + i := by rw [hx]; exact ix_32 (by omega)
    have e1 : x + (1 : Int32) = nI (i + 1) := by rw [hx, nI_1]
    have el := psum_el (f := sh) (N := 32) (s := i) hs (by omega)
    have s0 := hs i (by omega)
    have ep : psum sh (i + 1) = psum sh i + (sh i).toInt := rfl
    unfold f_X7_signOf_L2
    rw [en, h8 i (by omega)]
    have ea : ((u.2.1 9 (32 + i)) + sh i).toInt = psum sh (i + 1) := by
      rw [add32 (by rw [h9 i (by omega)]; omega) (by rw [h9 i (by omega)]; omega), h9 i (by omega), ep]
    refine pc_gdi (fun _ _ => pc_gdi (fun _ _ => pc_ite (fun c => ?_) (fun c => pc_bnd (ih (i + 1) _ e1 ?_))))
    · have c1 := Int32.lt_iff_toInt_lt.mp c
      rw [ea] at c1
      have : i = j := by
        rcases Nat.lt_or_ge i j with q | q
        · have m := psum_mono (f := sh) (N := 32) (m := i + 1) (n := j) hs (by omega) (by omega)
          omega
        · omega
      subst this
      rw [hx]
      exact hK
    · have c1 := mt Int32.lt_iff_toInt_lt.mpr c
      rw [ea] at c1
      rcases Nat.lt_or_ge i j with q | q
      · omega
      · have : i = j := by omega
        subst this
        omega
theorem r_signOf {sh : Nat → Int32} (hs : ∀ i, i < 32 → 0 ≤ (sh i).toInt) (hm : psum sh 32 ≤ 4096) (u : OS) (h8 : ∀ i, i < 32 → u.2.1 8 (32 + i) = sh i) (h9 : ∀ i, i < 32 → (u.2.1 9 (32 + i)).toInt = psum sh i) (p : Int32) (p0 : 0 ≤ p.toInt) (p1 : p.toInt < psum sh 32) : pc (f_X7_signOf u p) (fun r => r = nI (fnd sh p.toInt 32)) := by
  have f := fnd_p p0 32 p1
  unfold f_X7_signOf
  exact pc_bnd (r_signOf_L2 hs hm u h8 h9 p _ f.1 f.2.1 f.2.2 _ (pc_some (Q := fun r => r = nI (fnd sh p.toInt 32)) rfl) FU 0 0 rfl (Nat.zero_le _))
theorem so_h : ∀ m : Nat, m < 5 → (nI (2 ^ (m + 1) / 2)) / (2 : Int32) = nI (2 ^ m / 2) ∧ ¬ nI (2 ^ (m + 1) / 2) ≤ (0 : Int32) ∧ 2 ^ (m + 1) / 2 = 2 ^ m ∧ 2 ^ (m + 1) = 2 * 2 ^ m := by decide
theorem x_signOver_L5 {sh : Nat → Int32} (hs : ∀ i, i < 32 → 0 ≤ (sh i).toInt) (z : OS) (h4 : ∀ j, j ≤ 32 → (z.2.1 4 j).toInt = psum sh j) (p : Int32) (j : Nat) (hj : j < 32) (j1 : psum sh j ≤ p.toInt) (j2 : p.toInt < psum sh (j + 1)) {Q : Int32 → Prop} (K : Int32 → Int32 → Option Int32) (hK : ∀ b, pc (K (nI j) b) Q) : ∀ (n m a : Nat) (x y : Int32), x = nI (2 ^ m / 2) → m ≤ 5 → y = nI a → a ≤ j → j < a + 2 ^ m → a + 2 ^ m ≤ 32 → pc (f_X4_signOver_L5 z p n K x y) Q := by
  intro n
  induction n with
  | zero => intro m a x y _ _ _ _ _ _; exact pc_none
  | succ n ih =>
    intro m a x y hx hm hy ha hja h32
    unfold f_X4_signOver_L5
    cases m with
    | zero =>
      have hja : j < a + 1 := hja
      have e : a = j := by omega
      have x0 : x ≤ (0 : Int32) := by rw [hx]; decide
      rw [if_pos x0, hy, e]
      exact hK _
    | succ m =>
      obtain ⟨s1, s2, s3, s4⟩ := so_h m (by omega)
      have pp := Nat.two_pow_pos m
      have ex : x = nI (2 ^ m) := by rw [hx, s3]
      rw [if_neg (by rw [hx]; exact s2)]
      have es : y + x = nI (a + 2 ^ m) := by
        refine Int32.toInt_inj.mp ?_
        rw [hy, ex, add32 (by rw [nI_toInt (by omega), nI_toInt (by omega)]; omega) (by rw [nI_toInt (by omega), nI_toInt (by omega)]; omega), nI_toInt (by omega), nI_toInt (by omega), nI_toInt (by omega)]
        omega
      have en : (y + x).toNatClampNeg = a + 2 ^ m := by
        rw [es]
        exact nIn (by omega)
      rw [en]
      have e4 := h4 (a + 2 ^ m) (by omega)
      have xd : x / (2 : Int32) = nI (2 ^ m / 2) := by rw [hx, s1]
      refine pc_gdi (fun _ _ => pc_ite (fun c => pc_bnd (ih m a _ _ xd (by omega) hy ha ?_ (by omega))) (fun c => pc_bnd (pc_bnd (ih m (a + 2 ^ m) _ _ xd (by omega) es ?_ (by omega) (by omega)))))
      · have c1 := Int32.lt_iff_toInt_lt.mp c
        rw [e4] at c1
        rcases Nat.lt_or_ge j (a + 2 ^ m) with q | q
        · exact q
        · have mm := psum_mono (f := sh) (N := 32) (m := a + 2 ^ m) (n := j) hs q (by omega)
          omega
      · have c1 := mt Int32.lt_iff_toInt_lt.mpr c
        rw [e4] at c1
        rcases Nat.lt_or_ge j (a + 2 ^ m) with q | q
        · have mm := psum_mono (f := sh) (N := 32) (m := j + 1) (n := a + 2 ^ m) hs (by omega) (by omega)
          omega
        · exact q
theorem x_signOver {sh : Nat → Int32} (hs : ∀ i, i < 32 → 0 ≤ (sh i).toInt) (z : OS) (h4 : ∀ j, j ≤ 32 → (z.2.1 4 j).toInt = psum sh j) (p : Int32) (p0 : 0 ≤ p.toInt) (p1 : p.toInt < psum sh 32) : pc (f_X4_signOver z p) (fun r => r = nI (fnd sh p.toInt 32)) := by
  have f := fnd_p p0 32 p1
  unfold f_X4_signOver
  exact pc_bnd (x_signOver_L5 hs z h4 p _ f.1 f.2.1 f.2.2 _ (fun b => pc_some (Q := fun r => r = nI (fnd sh p.toInt 32)) rfl) FU 5 0 16 0 (by decide) (by decide) rfl (Nat.zero_le _) (by have := f.1; omega) (by decide))
-- ===== the sums of a side, as the reader sees them =====
set_option maxHeartbeats 1000000 in
theorem r_laySides_L13 (sh : Nat → Int32) (u0 : OS) (h8 : ∀ i, i < 32 → u0.2.1 8 (32 + i) = sh i) (x p : Nat) (hx : x < 5) (hp : p < 32) (h0 : ∀ i, i < 32 → 0 ≤ (sh i).toInt) (hs : psum sh 32 ≤ 4096) {Q : OS → Prop} (K : Int32 → OS → Option OS) (hK : ∀ a v, LSD u0 v → (v.1 22).toInt = seg sh (frm x p) (2 * 2 ^ (4 - x)) 32 → (v.1 23).toInt = seg sh (frm x p) (2 ^ (4 - x)) 32 → pc (K a v) Q) : ∀ (n : Nat) (y : Int32) (u : OS) (i : Nat), y = nI i → i ≤ 32 → LSD u0 u → (u.1 22).toInt = seg sh (frm x p) (2 * 2 ^ (4 - x)) i → (u.1 23).toInt = seg sh (frm x p) (2 ^ (4 - x)) i → pc (f_X7_laySides_L13 1 (nI p >>> (((5 : Int32) - nI x) &&& (31 : Int32))) (nI x) n K y u) Q := by
  intro n
  induction n with
  | zero => intro y u i _ _ _ _ _; exact pc_none
  | succ n ih =>
    intro y u i hy hi hL h22 h23
    have ey : y.toInt = i := by rw [hy, nI_toInt (by omega)]
    unfold f_X7_laySides_L13
    refine pc_ite (fun c => ?_) (fun c => ?_)
    · have c1 := Int32.le_iff_toInt_le.mp c
      rw [li_32, ey] at c1
      have : i = 32 := by omega
      subst this
      exact hK _ _ hL h22 h23
    · have c1 := mt Int32.le_iff_toInt_le.mpr c
      rw [li_32, ey] at c1
      have hi32 : i < 32 := by omega
      have e1 : y + (1 : Int32) = nI (i + 1) := by rw [hy, nI_1]
      have i1 := ix32 (p1 := 1) (x := y) (p := 1) (by decide) (by decide) (by omega) (by omega)
      have i1n : (((32 : Int32) * 1) + y).toNatClampNeg = 32 + i := by
        show (((32 : Int32) * 1) + y).toInt.toNat = 32 + i
        omega
      have e8 : u.2.1 8 (32 + i) = sh i := by rw [hL.2]; exact h8 i hi32
      have m1 := nd_1 x hx p hp i hi32
      have pm := psum_mono (f := sh) (N := 32) (m := i + 1) (n := 32) h0 (by omega) (Nat.le_refl _)
      have ep : psum sh (i + 1) = psum sh i + (sh i).toInt := rfl
      have b22 := seg_b sh (frm x p) (2 * 2 ^ (4 - x)) h0 i (by omega)
      have b23 := seg_b sh (frm x p) (2 ^ (4 - x)) h0 i (by omega)
      have hv0 := h0 i hi32
      have s22 : seg sh (frm x p) (2 * 2 ^ (4 - x)) (i + 1) = seg sh (frm x p) (2 * 2 ^ (4 - x)) i + if frm x p ≤ i ∧ i < frm x p + 2 * 2 ^ (4 - x) then (sh i).toInt else 0 := rfl
      have s23 : seg sh (frm x p) (2 ^ (4 - x)) (i + 1) = seg sh (frm x p) (2 ^ (4 - x)) i + if frm x p ≤ i ∧ i < frm x p + 2 ^ (4 - x) then (sh i).toInt else 0 := rfl
      have pp := Nat.two_pow_pos (4 - x)
      rw [hy]
      refine pc_ite (fun d => pc_gdi (fun _ _ => pc_bnd ?_)) (fun d => pc_bnd (ih _ _ (i + 1) (by rw [← hy]; exact e1) (by omega) hL ?_ ?_))
      · have d1 := m1.mp d
        have m2 := (nd_2 x hx p hp i hi32).resolve_left (fun q => q d1)
        rw [if_pos d1] at s22
        rw [← hy, i1n, e8]
        have a22 : ((u.1 22) + (sh i)).toInt = seg sh (frm x p) (2 * 2 ^ (4 - x)) (i + 1) := by rw [add32 (by omega) (by omega), h22, s22]
        rw [hy]
        refine pc_ite (fun z => pc_gdi (fun _ _ => pc_bnd (pc_bnd ?_))) (fun z => pc_bnd (pc_bnd ?_))
        · have z1 := m2.mp z
          rw [if_pos ⟨d1.1, z1⟩] at s23
          refine ih _ _ (i + 1) (by rw [← hy]; exact e1) (by omega) (hL.tr (LSD.s22.tr LSD.s23)) a22 ?_
          show ((u.1 23) + (u.2.1 8 (32 + i))).toInt = _
          rw [e8, add32 (by omega) (by omega), h23, s23]
        · have z1 : ¬ i < frm x p + 2 ^ (4 - x) := fun q => z (m2.mpr q)
          rw [if_neg (fun q => z1 q.2)] at s23
          refine ih _ _ (i + 1) (by rw [← hy]; exact e1) (by omega) (hL.tr (LSD.s22.tr LSD.s23)) a22 ?_
          show ((u.1 23) + (0 : Int32)).toInt = _
          rw [Int32.add_zero, h23, s23]
          omega
      · have d1 : ¬ (frm x p ≤ i ∧ i < frm x p + 2 * 2 ^ (4 - x)) := fun q => d (m1.mpr q)
        rw [if_neg d1] at s22
        rw [h22, s22]
        omega
      · have d1 : ¬ (frm x p ≤ i ∧ i < frm x p + 2 * 2 ^ (4 - x)) := fun q => d (m1.mpr q)
        rw [if_neg (fun q => d1 ⟨q.1, by omega⟩)] at s23
        rw [h23, s23]
        omega
theorem r_laySides (sh : Nat → Int32) (u : OS) (h8 : ∀ i, i < 32 → u.2.1 8 (32 + i) = sh i) (x p : Nat) (hx : x < 5) (hp : p < 32) (h0 : ∀ i, i < 32 → 0 ≤ (sh i).toInt) (hs : psum sh 32 ≤ 4096) : pc (f_X7_laySides u 1 (nI p >>> (((5 : Int32) - nI x) &&& (31 : Int32))) (nI x)) (fun v => LSD u v ∧ (v.1 22).toInt = psum sh (frm x p + 2 * 2 ^ (4 - x)) - psum sh (frm x p) ∧ (v.1 23).toInt = psum sh (frm x p + 2 ^ (4 - x)) - psum sh (frm x p)) := by
  have nd := (nd_3 x hx p hp).2.2
  have pp := Nat.two_pow_pos (4 - x)
  unfold f_X7_laySides
  refine pc_bnd (pc_bnd (pc_bnd (r_laySides_L13 sh u h8 x p hx hp h0 hs _ (fun a v hv h22 h23 => pc_some ⟨hv, ?_, ?_⟩) FU _ _ 0 rfl (by decide) (LSD.s22.tr LSD.s23) ?_ ?_)))
  · show (0 : Int32).toInt = 0
    decide
  · show (0 : Int32).toInt = 0
    decide
  · rw [h22, seg_v _ _ _ nd.1]
  · rw [h23, seg_v _ _ _ (by omega)]

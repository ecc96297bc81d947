-- ===== form 3: two sides =====
-- the place where the part of sign p begins, halves of h = 2^(4-x)
def frm (x p : Nat) : Nat := p / (2 * 2 ^ (4 - x)) * (2 * 2 ^ (4 - x))
theorem nd_1 : ∀ x : Nat, x < 5 → ∀ p : Nat, p < 32 → ∀ i : Nat, i < 32 → ((nI i >>> (((5 : Int32) - nI x) &&& (31 : Int32))) = (nI p >>> (((5 : Int32) - nI x) &&& (31 : Int32))) ↔ (frm x p ≤ i ∧ i < frm x p + 2 * 2 ^ (4 - x))) := by decide +kernel
theorem nd_2 : ∀ x : Nat, x < 5 → ∀ p : Nat, p < 32 → ∀ i : Nat, i < 32 → ¬ (frm x p ≤ i ∧ i < frm x p + 2 * 2 ^ (4 - x)) ∨ (((nI i >>> (((4 : Int32) - nI x) &&& (31 : Int32))) &&& (1 : Int32)) = (0 : Int32) ↔ i < frm x p + 2 ^ (4 - x)) := by decide +kernel
theorem nd_3 : ∀ x : Nat, x < 5 → ∀ p : Nat, p < 32 → (nI p &&& ((-2 : Int32) * nI (2 ^ (4 - x)))) = nI (frm x p) ∧ ((nI p &&& nI (2 ^ (4 - x))) = (0 : Int32) ↔ ((nI p >>> (((4 : Int32) - nI x) &&& (31 : Int32))) &&& (1 : Int32)) = (0 : Int32)) ∧ frm x p + 2 * 2 ^ (4 - x) ≤ 32 ∧ frm x p ≤ p ∧ p < frm x p + 2 * 2 ^ (4 - x) := by decide +kernel
-- the sum of the shares from a on, b of them, among the first i
def seg (sh : Nat → Int32) (a b : Nat) : Nat → Int
  | 0 => 0
  | i + 1 => seg sh a b i + if a ≤ i ∧ i < a + b then (sh i).toInt else 0
theorem seg_lo (sh : Nat → Int32) (a b : Nat) : ∀ i : Nat, i ≤ a → seg sh a b i = 0 := by
  intro i
  induction i with
  | zero => intro _; rfl
  | succ i ih =>
    intro h
    unfold seg
    rw [ih (by omega), if_neg (by omega)]
    rfl
theorem seg_mid (sh : Nat → Int32) (a b : Nat) : ∀ d : Nat, d ≤ b → seg sh a b (a + d) = psum sh (a + d) - psum sh a := by
  intro d
  induction d with
  | zero =>
    intro _
    rw [Nat.add_zero, seg_lo sh a b a (Nat.le_refl _)]
    omega
  | succ d ih =>
    intro h
    have e : seg sh a b (a + (d + 1)) = seg sh a b (a + d) + if a ≤ a + d ∧ a + d < a + b then (sh (a + d)).toInt else 0 := rfl
    have e2 : psum sh (a + (d + 1)) = psum sh (a + d) + (sh (a + d)).toInt := rfl
    rw [e, e2, ih (by omega), if_pos (by omega)]
    omega
theorem seg_hi (sh : Nat → Int32) (a b : Nat) : ∀ d : Nat, seg sh a b (a + b + d) = seg sh a b (a + b) := by
  intro d
  induction d with
  | zero => rfl
  | succ d ih =>
    have e : seg sh a b (a + b + (d + 1)) = seg sh a b (a + b + d) + if a ≤ a + b + d ∧ a + b + d < a + b then (sh (a + b + d)).toInt else 0 := rfl
    rw [e, ih, if_neg (by omega)]
    omega
theorem seg_v (sh : Nat → Int32) (a b : Nat) (h : a + b ≤ 32) : seg sh a b 32 = psum sh (a + b) - psum sh a := by
  have e := seg_hi sh a b (32 - (a + b))
  rw [show a + b + (32 - (a + b)) = 32 by omega] at e
  rw [e, seg_mid sh a b b (Nat.le_refl _)]
theorem seg_b (sh : Nat → Int32) (a b : Nat) (h0 : ∀ i, i < 32 → 0 ≤ (sh i).toInt) : ∀ i : Nat, i ≤ 32 → 0 ≤ seg sh a b i ∧ seg sh a b i ≤ psum sh i := by
  intro i
  induction i with
  | zero => intro _; exact ⟨Int.le_refl _, Int.le_refl _⟩
  | succ i ih =>
    intro h
    have := ih (by omega)
    have s := h0 i (by omega)
    unfold seg psum
    by_cases q : a ≤ i ∧ i < a + b
    · rw [if_pos q]; omega
    · rw [if_neg q]; omega
set_option maxHeartbeats 1000000 in
theorem p_X7_laySides_L13 (u0 : OS) (x p : Nat) (hx : x < 5) (hp : p < 32) (h0 : ∀ i, i < 32 → 0 ≤ (u0.2.1 8 i).toInt) (hs : psum (u0.2.1 8) 32 ≤ 4096) {Q : OS → Prop} (K : Int32 → OS → Option OS) (hK : ∀ a v, LSD u0 v → (v.1 22).toInt = seg (u0.2.1 8) (frm x p) (2 * 2 ^ (4 - x)) 32 → (v.1 23).toInt = seg (u0.2.1 8) (frm x p) (2 ^ (4 - x)) 32 → pc (K a v) Q) : ∀ (n : Nat) (y : Int32) (u : OS) (i : Nat), y = nI i → i ≤ 32 → LSD u0 u → (u.1 22).toInt = seg (u0.2.1 8) (frm x p) (2 * 2 ^ (4 - x)) i → (u.1 23).toInt = seg (u0.2.1 8) (frm x p) (2 ^ (4 - x)) i → pc (f_X7_laySides_L13 0 (nI p >>> (((5 : Int32) - nI x) &&& (31 : Int32))) (nI x) n K y u) Q := by
  intro n
  induction n with
  | zero => intro y u i _ _ _ _ _; exact pc_none
  | succ n ih =>
    intro y u i hy hi hL h22 h23
    have ey : y.toInt = i := by rw [hy, nI_toInt (by omega)]
    unfold f_X7_laySides_L13
    refine pc_ite (fun c => ?_) (fun c => ?_)
    · have c1 := Int32.le_iff_toInt_le.mp c
      rw [li_32, ey] at c1
      have : i = 32 := by omega
      subst this
      exact hK _ _ hL h22 h23
    · have c1 := mt Int32.le_iff_toInt_le.mpr c
      rw [li_32, ey] at c1
      have hi32 : i < 32 := by omega
      have e1 : y + (1 : Int32) = nI (i + 1) := by rw [hy, nI_1]
      have i1 := ix32 (p1 := 0) (x := y) (p := 0) (by decide) (by decide) (by omega) (by omega)
      have i1n : (((32 : Int32) * 0) + y).toNatClampNeg = i := by
        show (((32 : Int32) * 0) + y).toInt.toNat = i
        omega
      have e8 : u.2.1 8 = u0.2.1 8 := by rw [hL.2]
      have m1 := nd_1 x hx p hp i hi32
      have pm := psum_mono (f := u0.2.1 8) (N := 32) (m := i + 1) (n := 32) h0 (by omega) (Nat.le_refl _)
      have ep : psum (u0.2.1 8) (i + 1) = psum (u0.2.1 8) i + (u0.2.1 8 i).toInt := rfl
      have b22 := seg_b (u0.2.1 8) (frm x p) (2 * 2 ^ (4 - x)) h0 i (by omega)
      have b23 := seg_b (u0.2.1 8) (frm x p) (2 ^ (4 - x)) h0 i (by omega)
      have hv0 := h0 i hi32
      have s22 : seg (u0.2.1 8) (frm x p) (2 * 2 ^ (4 - x)) (i + 1) = seg (u0.2.1 8) (frm x p) (2 * 2 ^ (4 - x)) i + if frm x p ≤ i ∧ i < frm x p + 2 * 2 ^ (4 - x) then (u0.2.1 8 i).toInt else 0 := rfl
      have s23 : seg (u0.2.1 8) (frm x p) (2 ^ (4 - x)) (i + 1) = seg (u0.2.1 8) (frm x p) (2 ^ (4 - x)) i + if frm x p ≤ i ∧ i < frm x p + 2 ^ (4 - x) then (u0.2.1 8 i).toInt else 0 := rfl
      have pp := Nat.two_pow_pos (4 - x)
      rw [hy]
      refine pc_ite (fun d => pc_gdi (fun _ _ => pc_bnd ?_)) (fun d => pc_bnd (ih _ _ (i + 1) (by rw [← hy]; exact e1) (by omega) hL ?_ ?_))
      · have d1 := m1.mp d
        have m2 := (nd_2 x hx p hp i hi32).resolve_left (fun q => q d1)
        rw [if_pos d1] at s22
        rw [← hy, i1n, e8]
        have a22 : ((u.1 22) + (u0.2.1 8 i)).toInt = seg (u0.2.1 8) (frm x p) (2 * 2 ^ (4 - x)) (i + 1) := by rw [add32 (by omega) (by omega), h22, s22]
        rw [hy]
        refine pc_ite (fun z => pc_gdi (fun _ _ => pc_bnd (pc_bnd ?_))) (fun z => pc_bnd (pc_bnd ?_))
        · have z1 := m2.mp z
          rw [if_pos ⟨d1.1, z1⟩] at s23
          refine ih _ _ (i + 1) (by rw [← hy]; exact e1) (by omega) (hL.tr (LSD.s22.tr LSD.s23)) a22 ?_
          show ((u.1 23) + (u.2.1 8 i)).toInt = _
          rw [e8, add32 (by omega) (by omega), h23, s23]
        · have z1 : ¬ i < frm x p + 2 ^ (4 - x) := fun q => z (m2.mpr q)
          rw [if_neg (fun q => z1 q.2)] at s23
          refine ih _ _ (i + 1) (by rw [← hy]; exact e1) (by omega) (hL.tr (LSD.s22.tr LSD.s23)) a22 ?_
          show ((u.1 23) + (0 : Int32)).toInt = _
          rw [Int32.add_zero, h23, s23]
          omega
      · have d1 : ¬ (frm x p ≤ i ∧ i < frm x p + 2 * 2 ^ (4 - x)) := fun q => d (m1.mpr q)
        rw [if_neg d1] at s22
        rw [h22, s22]
        omega
      · have d1 : ¬ (frm x p ≤ i ∧ i < frm x p + 2 * 2 ^ (4 - x)) := fun q => d (m1.mpr q)
        rw [if_neg (fun q => d1 ⟨q.1, by omega⟩)] at s23
        rw [h23, s23]
        omega
theorem p_X7_laySides (u : OS) (x p : Nat) (hx : x < 5) (hp : p < 32) (h0 : ∀ i, i < 32 → 0 ≤ (u.2.1 8 i).toInt) (hs : psum (u.2.1 8) 32 ≤ 4096) : pc (f_X7_laySides u 0 (nI p >>> (((5 : Int32) - nI x) &&& (31 : Int32))) (nI x)) (fun v => LSD u v ∧ (v.1 22).toInt = psum (u.2.1 8) (frm x p + 2 * 2 ^ (4 - x)) - psum (u.2.1 8) (frm x p) ∧ (v.1 23).toInt = psum (u.2.1 8) (frm x p + 2 ^ (4 - x)) - psum (u.2.1 8) (frm x p)) := by
  have nd := (nd_3 x hx p hp).2.2
  have pp := Nat.two_pow_pos (4 - x)
  unfold f_X7_laySides
  refine pc_bnd (pc_bnd (pc_bnd (p_X7_laySides_L13 u x p hx hp h0 hs _ (fun a v hv h22 h23 => pc_some ⟨hv, ?_, ?_⟩) FU _ _ 0 rfl (by decide) (LSD.s22.tr LSD.s23) ?_ ?_)))
  · show (0 : Int32).toInt = 0
    decide
  · show (0 : Int32).toInt = 0
    decide
  · rw [h22, seg_v _ _ _ nd.1]
  · rw [h23, seg_v _ _ _ (by omega)]
-- the chance of the first side
def chn (sz l t : Int32) : Int32 := if (1 : Int32) ≤ ((l * sz) + (t / (2 : Int32))) / t then (if ((l * sz) + (t / (2 : Int32))) / t ≤ (sz - (1 : Int32)) then ((l * sz) + (t / (2 : Int32))) / t else sz - (1 : Int32)) else (1 : Int32)
theorem p_X7_sideChance (u : OS) (sz : Int32) : pc (f_X7_sideChance u sz) (fun r => r = chn sz (u.1 23) (u.1 22)) := by
  unfold f_X7_sideChance chn
  refine pc_gdz (pc_bnd (pc_ite (fun c => ?_) (fun c => ?_)))
  · rw [if_pos c]
    refine pc_ite (fun d => ?_) (fun d => ?_)
    · rw [if_pos d]; exact pc_some rfl
    · rw [if_neg d]; exact pc_some rfl
  · rw [if_neg c]; exact pc_some rfl

-- the class's side: prefix sums
def sz0 (sz l t : Int32) : Int32 := if t ≤ (0 : Int32) then sz else if l = t then sz else if l = (0 : Int32) then (0 : Int32) else chn sz l t
theorem chn_x {sz l t : Int32} (hs : 2 ≤ sz.toInt) : (if (sz - (1 : Int32)) < (if ((l * sz) + (t / (2 : Int32))) / t < (1 : Int32) then (1 : Int32) else ((l * sz) + (t / (2 : Int32))) / t) then (sz - (1 : Int32)) else (if ((l * sz) + (t / (2 : Int32))) / t < (1 : Int32) then (1 : Int32) else ((l * sz) + (t / (2 : Int32))) / t)) = chn sz l t := by
  unfold chn
  generalize ((l * sz) + (t / (2 : Int32))) / t = x
  have e : (sz - (1 : Int32)).toInt = sz.toInt - 1 := by
    have := i32_hi sz
    rw [sub32 (by rw [li_1]; omega) (by rw [li_1]; omega), li_1]
  by_cases a : x < (1 : Int32)
  · rw [if_pos a, if_neg (Int32.not_le.mpr a), if_neg]
    intro q
    have := Int32.lt_iff_toInt_lt.mp q
    rw [e, li_1] at this
    omega
  · rw [if_neg a, if_pos (Int32.not_lt.mp a)]
    by_cases b : (sz - (1 : Int32)) < x
    · rw [if_pos b, if_neg (Int32.not_le.mpr b)]
    · rw [if_neg b, if_pos (Int32.not_lt.mp b)]
theorem pw_5 : ∀ x : Nat, x < 5 → (nI (2 ^ (4 - x))).toInt = ((2 ^ (4 - x) : Nat) : Int) ∧ 1 ≤ 2 ^ (4 - x) ∧ 2 ^ (4 - x) ≤ 16 := by decide
set_option maxHeartbeats 1000000 in
theorem p_X4_shareOfZero (u : OS) (x p : Nat) (hx : x < 5) (hp : p < 32) (hs : 2 ≤ (u.1 1).toInt) : pc (f_X4_shareOfZero u (nI (frm x p)) (nI (2 ^ (4 - x)))) (fun r => r = sz0 (u.1 1) (u.2.1 4 (frm x p + 2 ^ (4 - x)) - u.2.1 4 (frm x p)) (u.2.1 4 (frm x p + 2 * 2 ^ (4 - x)) - u.2.1 4 (frm x p))) := by
  obtain ⟨n1, n2, n3, n4, n5⟩ := nd_3 x hx p hp
  obtain ⟨w1, w2, w3⟩ := pw_5 x hx
  have f1 : (nI (frm x p)).toInt = (frm x p : Nat) := nI_toInt (by omega)
  have e2 : ((2 : Int32) * nI (2 ^ (4 - x))).toInt = 2 * ((2 ^ (4 - x) : Nat) : Int) := by rw [mul32 (by rw [li_2, w1]; omega) (by rw [li_2, w1]; omega), li_2, w1]
  have e4 : (nI (frm x p) + ((2 : Int32) * nI (2 ^ (4 - x)))).toInt = ((frm x p + 2 * 2 ^ (4 - x) : Nat) : Int) := by
    rw [add32 (by rw [e2, f1]; omega) (by rw [e2, f1]; omega), e2, f1]
    omega
  have e5 : (nI (frm x p) + nI (2 ^ (4 - x))).toInt = ((frm x p + 2 ^ (4 - x) : Nat) : Int) := by
    rw [add32 (by rw [w1, f1]; omega) (by rw [w1, f1]; omega), w1, f1]
    omega
  have g0 : (nI (frm x p)).toNatClampNeg = frm x p := by
    show (nI (frm x p)).toInt.toNat = _
    omega
  have g4 : (nI (frm x p) + ((2 : Int32) * nI (2 ^ (4 - x)))).toNatClampNeg = frm x p + 2 * 2 ^ (4 - x) := by
    show (nI (frm x p) + ((2 : Int32) * nI (2 ^ (4 - x)))).toInt.toNat = _
    omega
  have g5 : (nI (frm x p) + nI (2 ^ (4 - x))).toNatClampNeg = frm x p + 2 ^ (4 - x) := by
    show (nI (frm x p) + nI (2 ^ (4 - x))).toInt.toNat = _
    omega
  have e3 : ((32 : Int32) - ((2 : Int32) * nI (2 ^ (4 - x)))).toInt = 32 - 2 * ((2 ^ (4 - x) : Nat) : Int) := by rw [sub32 (by rw [e2, li_32]; omega) (by rw [e2, li_32]; omega), e2, li_32]
  unfold f_X4_shareOfZero
  rw [if_neg (fun q => by have := Int32.lt_iff_toInt_lt.mp q; rw [li_0, f1] at this; omega), if_neg (fun q => by have := Int32.lt_iff_toInt_lt.mp q; rw [li_1, w1] at this; omega), if_neg (fun q => by have := Int32.lt_iff_toInt_lt.mp q; rw [li_16, w1] at this; omega), if_pos (Int32.le_iff_toInt_le.mpr (by rw [e3, f1]; omega))]
  rw [g0, g4, g5]
  unfold sz0
  refine pc_gdi (fun _ _ => pc_gdi (fun _ _ => pc_bnd (pc_gdi (fun _ _ => pc_gdi (fun _ _ => pc_bnd (pc_ite (fun a => ?_) (fun a => pc_ite (fun b => ?_) (fun b => pc_ite (fun c => ?_) (fun c => pc_gdz (pc_bnd ?_))))))))))
  · rw [if_pos a]; exact pc_some rfl
  · rw [if_neg a, if_pos b]; exact pc_some rfl
  · rw [if_neg a, if_neg b, if_pos c]; exact pc_some rfl
  · rw [if_neg a, if_neg b, if_neg c]
    exact pc_some (chn_x hs)

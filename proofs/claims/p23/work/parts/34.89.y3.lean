def PSB (t : OT) (P : OS) : Prop := 0 ≤ t.1.toInt ∧ P.1 1 = t.1 ∧ B01 t.2 t.1.toInt.toNat ∧ (∀ q : Nat, 8 * q < t.1.toInt.toNat → (P.2.1 0 q).toInt = (ocv t.2 t.1.toInt.toNat q 8 : Nat)) ∧ P.2.2.2 0 ≤ 8000
theorem bit_nI (a : Int32) : ∃ b : Nat, b < 2 ∧ (a &&& (1 : Int32)) = nI b := by
  rcases bit32 a with e | e
  · exact ⟨0, by decide, e⟩
  · exact ⟨1, by decide, e⟩
set_option maxHeartbeats 1000000 in
theorem p_pushB {t : OT} (P : OS) (p : Int32) (h : PSB t P) (hc : t.1.toInt < 8 * (P.2.2.2 0 : Int)) : pc (f_X2_pushBit P p) (fun v => PSB (apw t (p &&& (1 : Int32))) v ∧ v.2.2.2 = P.2.2.2) := by
  obtain ⟨h0, h1, h2, h3, h4⟩ := h
  obtain ⟨b, hb2, hb⟩ := bit_nI p
  generalize hn : t.1.toInt.toNat = n at h2 h3
  have en0 : t.1.toInt = n := by omega
  have en := nIt (n := P.2.2.2 0) (by omega)
  have e1 : ((P.1 1) / (8 : Int32)).toInt = ((n / 8 : Nat) : Int) := by
    rw [div32 (by rw [h1]; omega) (by decide), li_8, h1, en0]
    omega
  have e1n : ((P.1 1) / (8 : Int32)).toNatClampNeg = n / 8 := by
    show ((P.1 1) / (8 : Int32)).toInt.toNat = _
    omega
  have er : ((P.1 1) - (P.1 1) / (8 : Int32) * (8 : Int32)).toInt = ((n % 8 : Nat) : Int) := by
    rw [rem32 (by rw [h1]; omega) (by decide), li_8, h1, en0]
    omega
  have erI : ((P.1 1) - (P.1 1) / (8 : Int32) * (8 : Int32)) = nI (n % 8) := Int32.toInt_inj.mp (by rw [er, nI_toInt (by omega)])
  have ea : (apw t (p &&& (1 : Int32))).1.toInt = t.1.toInt + 1 := inc32 (x := t.1) (by omega)
  have ean : (apw t (p &&& (1 : Int32))).1.toInt.toNat = n + 1 := by omega
  have etn : t.1.toNatClampNeg = n := hn
  have fn : (apw t (p &&& (1 : Int32))).2 = upd t.2 n (nI b) := by
    show upd t.2 t.1.toNatClampNeg (p &&& (1 : Int32)) = _
    rw [etn, hb]
  have fl : ∀ i, i < n → upd t.2 n (nI b) i = t.2 i := fun i hi => by
    unfold upd
    rw [if_neg (by omega)]
  have fe : upd t.2 n (nI b) n = nI b := by
    unfold upd
    rw [if_pos rfl]
  have X7 := ocv_lt h2 (n / 8) (n % 8)
  have p7 : 2 ^ (n % 8) ≤ 2 ^ 7 := Nat.pow_le_pow_right (by decide) (by omega)
  have p128 : 2 ^ 7 = 128 := by decide
  have key : ∀ x3 : Int32, x3 = nI (ocv t.2 n (n / 8) (n % 8)) → pc (gdi ((P.1 1) / (8 : Int32)) (P.2.2.2 0) <|
  bnd (sA P 0 ((P.1 1) / (8 : Int32)) (x3 ||| ((p &&& (1 : Int32)) <<< (((P.1 1) - (P.1 1) / (8 : Int32) * (8 : Int32)) &&& (31 : Int32))))) fun u6 =>
  bnd (sF u6 1 ((u6.1 1) + (1 : Int32))) fun u7 =>
  some u7) (fun v => PSB (apw t (p &&& (1 : Int32))) v ∧ v.2.2.2 = P.2.2.2) := by
    intro x3 hx3
    have val : (x3 ||| ((p &&& (1 : Int32)) <<< (((P.1 1) - (P.1 1) / (8 : Int32) * (8 : Int32)) &&& (31 : Int32)))) = nI (ocv t.2 n (n / 8) (n % 8) + b * 2 ^ (n % 8)) := by
      rw [hx3, hb, erI]
      exact (or_add (n % 8) (by omega) _ (by omega) b hb2).resolve_left (fun z => z X7)
    rw [val]
    refine pc_gdi (fun _ _ => pc_bnd (pc_bnd (pc_some ⟨⟨by omega, ?_, ?_, ?_, h4⟩, rfl⟩)))
    · show P.1 1 + (1 : Int32) = t.1 + (1 : Int32)
      rw [h1]
    · rw [ean, fn]
      intro i hi
      rcases Nat.lt_or_ge i n with z | z
      · rw [fl i z]; exact h2 i z
      · have : i = n := by omega
        rw [this, fe]
        rcases (show b = 0 ∨ b = 1 by omega) with w | w
        · rw [w]; exact Or.inl rfl
        · rw [w]; exact Or.inr rfl
    · rw [ean, fn]
      intro q hq
      show (upd (P.2.1 0) ((P.1 1) / (8 : Int32)).toNatClampNeg (nI (ocv t.2 n (n / 8) (n % 8) + b * 2 ^ (n % 8))) q).toInt = _
      rw [e1n]
      have hm : b * 2 ^ (n % 8) ≤ 1 * 2 ^ (n % 8) := Nat.mul_le_mul_right _ (by omega)
      by_cases z : q = n / 8
      · have uq : upd (P.2.1 0) (n / 8) (nI (ocv t.2 n (n / 8) (n % 8) + b * 2 ^ (n % 8))) q = nI (ocv t.2 n (n / 8) (n % 8) + b * 2 ^ (n % 8)) := by
          unfold upd
          rw [if_pos z]
        rw [uq, nI_toInt (by omega), z]
        have e8 : ocv (upd t.2 n (nI b)) (n + 1) (n / 8) 8 = ocv (upd t.2 n (nI b)) (n + 1) (n / 8) (n % 8 + 1) := by
          have := ocv_hi (f := upd t.2 n (nI b)) (n := n + 1) (q := n / 8) (r := n % 8 + 1) (by omega) (8 - (n % 8 + 1))
          rw [show n % 8 + 1 + (8 - (n % 8 + 1)) = 8 by omega] at this
          exact this
        have e9 : ocv (upd t.2 n (nI b)) (n + 1) (n / 8) (n % 8 + 1) = ocv (upd t.2 n (nI b)) (n + 1) (n / 8) (n % 8) + if 8 * (n / 8) + n % 8 < n + 1 then (upd t.2 n (nI b) (8 * (n / 8) + n % 8)).toInt.toNat * 2 ^ (n % 8) else 0 := rfl
        have e10 : ocv (upd t.2 n (nI b)) (n + 1) (n / 8) (n % 8) = ocv t.2 n (n / 8) (n % 8) := ocv_lo (n % 8) (by omega) (by omega) (fun i hi => fl i (by omega))
        have e11 : (nI b).toInt.toNat = b := by
          rw [nI_toInt (by omega)]
          omega
        rw [e8, e9, if_pos (by omega), e10, show 8 * (n / 8) + n % 8 = n by omega, fe, e11]
      · have uq : upd (P.2.1 0) (n / 8) (nI (ocv t.2 n (n / 8) (n % 8) + b * 2 ^ (n % 8))) q = P.2.1 0 q := by
          unfold upd
          rw [if_neg z]
        rw [uq, h3 q (by omega), ocv_lo (f := t.2) (g := upd t.2 n (nI b)) (n := n) (m := n + 1) 8 (by omega) (by omega) (fun i hi => fl i (by omega))]
  unfold f_X2_pushBit
  refine pc_bnd (pc_ite (fun c => ?_) (fun _ => pc_bnd (pc_ite (fun z => key 0 ?_) (fun z => pc_gdi (fun _ _ => key _ ?_)))))
  · exfalso
    have c1 := Int32.le_iff_toInt_le.mp c
    rw [en, e1] at c1
    omega
  · rw [erI] at z
    have z1 : (nI (n % 8)).toInt = (0 : Int32).toInt := by rw [z]
    rw [nI_toInt (by omega), li_0] at z1
    have z2 : n % 8 = 0 := by omega
    rw [z2]
    rfl
  · rw [e1n]
    have z2 : n % 8 ≠ 0 := fun w => z (by rw [erI, w]; rfl)
    refine Int32.toInt_inj.mp ?_
    rw [nI_toInt (by omega), h3 (n / 8) (by omega)]
    have := ocv_hi (f := t.2) (n := n) (q := n / 8) (r := n % 8) (by omega) (8 - n % 8)
    rw [show n % 8 + (8 - n % 8) = 8 by omega] at this
    rw [this]

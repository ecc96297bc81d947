-- ===== the model writes octets =====
theorem pc_of_ok {α : Type} {o : Option α} {P : α → Prop} (h : ok o P) : pc o P := by
  obtain ⟨a, e, p⟩ := h
  intro b eb
  rw [e] at eb
  cases eb
  exact p
theorem PO.b {u : OS} {i v w : Int32} : PO u (sF (sA u 14 i v) 15 w) := by
  refine ⟨fun k a _ => ?_, fun k a => ?_, rfl⟩
  · exact va_ne (f := u.1) a
  · exact va_ne (f := u.2.1) a
def MO (t : OT) (c : Int32) (u : OS) : Prop := RO t (u.1 15) (u.2.1 14) ∧ u.1 21 = c
theorem p_X7_putByte {t : OT} {c : Int32} (u : OS) (p : Int32) (h : MO t c u) : pc (f_X7_putByte u p) (fun v => MO (ap t p) c v ∧ PO u v) := by
  unfold f_X7_putByte
  refine pc_gdi (fun h0 h1 => pc_bnd (pc_bnd (pc_some ⟨⟨?_, h.2⟩, PO.b⟩)))
  exact h.1.ap p (by omega)
theorem p_X7_putWide_L5 (p : Int64) (u0 : OS) {c : Int32} {Q : OS → Prop} (K : Int32 → OS → Option OS) (T : OT) (hK : ∀ x v, MO T c v → PO u0 v → pc (K x v) Q) : ∀ (n m : Nat) (x : Int32) (u : OS) (t : OT), x.toInt = (m : Int) - 1 → m ≤ 100 → wid p m t = T → MO t c u → PO u0 u → pc (f_X7_putWide_L5 p n K x u) Q := by
  intro n
  induction n with
  | zero => intro m x u t _ _ _ _ _; exact pc_none
  | succ n ih =>
    intro m x u t hx hm hT h hP
    unfold f_X7_putWide_L5
    refine pc_ite (fun d => hK _ _ ?_ hP) (fun d => ?_)
    · have d1 := Int32.lt_iff_toInt_lt.mp d
      rw [li_0, hx] at d1
      have : m = 0 := by omega
      subst this
      rw [← hT]
      exact h
    · have d1 := mt Int32.lt_iff_toInt_lt.mpr d
      rw [li_0, hx] at d1
      obtain ⟨k, rfl⟩ : ∃ k, m = k + 1 := ⟨m - 1, by omega⟩
      have ex : x = nI k := by
        refine Int32.toInt_inj.mp ?_
        rw [hx, nI_toInt (by omega)]
        omega
      have e1 := dec32 (x := x) (by omega)
      refine pc_oC1 (p_X7_putByte u _ h) (fun v hv => pc_bnd (ih k _ v _ (by rw [e1, hx]; omega) (by omega) ?_ hv.1 (hP.tr hv.2)))
      rw [ex]
      exact hT
theorem p_X7_putWide {t : OT} {c : Int32} (u : OS) (p : Int64) (q : Int32) (m : Nat) (hq : q.toInt = m) (hm : m ≤ 100) (h : MO t c u) : pc (f_X7_putWide u p q) (fun v => MO (wid p m t) c v ∧ PO u v) := by
  unfold f_X7_putWide
  have e : (q - (1 : Int32)).toInt = (m : Int) - 1 := by rw [sub32 (by rw [li_1]; omega) (by rw [li_1]; omega), li_1, hq]
  exact pc_bnd (pc_bnd (p_X7_putWide_L5 p u _ (wid p m t) (fun x v hv hp => pc_some ⟨hv, hp⟩) FU m _ _ t e hm rfl h PO.rf))
set_option maxHeartbeats 1000000 in
theorem p_X7_putBits_L4 (p : Int32) (u0 : OS) {Q : OS → Prop} (K : Int32 → OS → Option OS) (T : OT × Int32) (hK : ∀ x v, MO T.1 T.2 v → PO u0 v → pc (K x v) Q) : ∀ (n m : Nat) (x : Int32) (u : OS) (s : OT × Int32), x.toInt = (m : Int) - 1 → m ≤ 100 → pbits p m s = T → MO s.1 s.2 u → PO u0 u → pc (f_X7_putBits_L4 p n K x u) Q := by
  intro n
  induction n with
  | zero => intro m x u s _ _ _ _ _; exact pc_none
  | succ n ih =>
    intro m x u s hx hm hT h hP
    unfold f_X7_putBits_L4
    refine pc_ite (fun d => hK _ _ ?_ hP) (fun d => ?_)
    · have d1 := Int32.lt_iff_toInt_lt.mp d
      rw [li_0, hx] at d1
      have : m = 0 := by omega
      subst this
      rw [← hT]
      exact h
    · have d1 := mt Int32.lt_iff_toInt_lt.mpr d
      rw [li_0, hx] at d1
      obtain ⟨k, rfl⟩ : ∃ k, m = k + 1 := ⟨m - 1, by omega⟩
      have ex : x = nI k := by
        refine Int32.toInt_inj.mp ?_
        rw [hx, nI_toInt (by omega)]
        omega
      have e1 := dec32 (x := x) (by omega)
      have key : ∀ (w : OS) (t : OT), MO t s.2 w → PO u0 w → t = (if s.2 = (0 : Int32) then ap s.1 (0 : Int32) else s.1) → pc (gdi ((w.1 15) - (1 : Int32)) 20000 <| gdi ((w.1 15) - (1 : Int32)) 20000 <| bnd (sA w 14 ((w.1 15) - (1 : Int32)) ((w.2.1 14 (((w.1 15) - (1 : Int32))).toNatClampNeg) ||| (((p >>> (x &&& (31 : Int32))) &&& (1 : Int32)) <<< (((7 : Int32) - (w.1 21)) &&& (31 : Int32))))) fun u12 => bnd (sF u12 21 (((u12.1 21) + (1 : Int32)) - ((u12.1 21) + (1 : Int32)) / (8 : Int32) * (8 : Int32))) fun u13 => bnd (x + (-1 : Int32)) fun x14 => f_X7_putBits_L4 p n K x14 u13) Q := by
        intro w t hw hp ht
        refine pc_gdi (fun g0 g1 => pc_gdi (fun _ _ => pc_bnd (pc_bnd (pc_bnd (ih k _ _ (pbit s ((p >>> (x &&& (31 : Int32))) &&& (1 : Int32))) (by rw [e1, hx]; omega) (by omega) ?_ ⟨?_, ?_⟩ (hp.tr ⟨?_, ?_, rfl⟩))))))
        · rw [ex]
          exact hT
        · have n1 : 1 ≤ (w.1 15).toInt := by
            have h0 := hw.1.2.1
            have hi := i32_hi (w.1 15)
            rw [sub32 (by rw [li_1]; omega) (by rw [li_1]; omega), li_1] at g0
            omega
          have r := hw.1.orl (((p >>> (x &&& (31 : Int32))) &&& (1 : Int32)) <<< (((7 : Int32) - (w.1 21)) &&& (31 : Int32))) n1
          rw [hw.2, ht] at r
          show RO (pbit s ((p >>> (x &&& (31 : Int32))) &&& (1 : Int32))).1 (w.1 15) (upd (w.2.1 14) ((w.1 15) - (1 : Int32)).toNatClampNeg (w.2.1 14 ((w.1 15) - (1 : Int32)).toNatClampNeg ||| (((p >>> (x &&& (31 : Int32))) &&& (1 : Int32)) <<< (((7 : Int32) - (w.1 21)) &&& (31 : Int32)))))
          rw [hw.2]
          exact r
        · show ((w.1 21) + (1 : Int32)) - ((w.1 21) + (1 : Int32)) / (8 : Int32) * (8 : Int32) = _
          rw [hw.2]
          rfl
        · intro j a b
          exact va_ne (f := w.1) b
        · intro j a
          exact va_ne (f := w.2.1) a
      refine pc_bnd (pc_ite (fun q => pc_oC1 (p_X7_putByte u _ h) (fun v hv => key v _ hv.1 (hP.tr hv.2) ?_)) (fun q => key u s.1 h hP ?_))
      · rw [h.2] at q
        rw [if_pos q]
      · rw [h.2] at q
        rw [if_neg q]
theorem p_X7_putBits {s : OT × Int32} (u : OS) (p q : Int32) (m : Nat) (hq : q = nI m) (hm : m ≤ 100) (h : MO s.1 s.2 u) : pc (f_X7_putBits u p q) (fun v => MO (pbits p m s).1 (pbits p m s).2 v ∧ PO u v) := by
  unfold f_X7_putBits
  have eq : q.toInt = m := by rw [hq, nI_toInt (by omega)]
  have e : (q - (1 : Int32)).toInt = (m : Int) - 1 := by rw [sub32 (by rw [li_1]; omega) (by rw [li_1]; omega), li_1, eq]
  exact pc_bnd (pc_bnd (p_X7_putBits_L4 p u _ (pbits p m s) (fun x v hv hp => pc_some ⟨hv, hp⟩) FU m _ _ s e hm rfl h PO.rf))
theorem bo_L2 {p : Int32} {m k : Nat} (hm : p.toInt = m) (hk : k < 31) (h1 : 2 ^ k ≤ m) (h2 : m < 2 * 2 ^ k) (K : Int32 → Option Int32) : ∀ (n j : Nat), j ≤ k + 1 → k + 1 - j < n → f_X7_bitsOf_L2 p n K (nI j) = K (nI (k + 1)) := by
  intro n
  induction n with
  | zero => intro j _ h; omega
  | succ n ih =>
    intro j hj hn
    unfold f_X7_bitsOf_L2
    by_cases c : (p >>> (nI j &&& (31 : Int32))) ≤ (0 : Int32)
    · rw [if_pos c]
      have c1 := (sh_0 hm (by omega)).mp c
      have hkj : k < j := by
        rcases Nat.lt_or_ge k j with q | q
        · exact q
        · have := Nat.pow_le_pow_right (n := 2) (by decide) q
          omega
      have : j = k + 1 := by omega
      rw [this]
    · rw [if_neg c]
      have c1 := mt (sh_0 hm (by omega)).mpr c
      have hjk : j ≤ k := pw_le (by omega)
      refine bnd_e ?_
      rw [nI_1]
      exact ih (j + 1) (by omega) (by omega)
theorem blen_v {p : Int32} {m k : Nat} (hm : p.toInt = m) (hk : k < 31) (h1 : 2 ^ k ≤ m) (h2 : m < 2 * 2 ^ k) : blen p = k + 1 := by
  unfold blen
  rw [bl_eq hm hk h1 h2]
  show (nI (k + 1)).toInt.toNat = k + 1
  rw [nI_toInt (by omega)]
  omega
theorem bo_eq (p : Int32) (hp : 1 ≤ p.toInt) : f_X7_bitsOf p = some (nI (blen p)) ∧ f_X6_bitLength p = some (nI (blen p)) ∧ (p.toInt ≤ 4096 → blen p ≤ 13) := by
  have hi := i32_hi p
  obtain ⟨k, hk, h1, h2⟩ := pw_ex p.toInt.toNat (by omega) 31 (by show p.toInt.toNat < 2147483648; omega)
  have hm : p.toInt = (p.toInt.toNat : Nat) := by omega
  rw [blen_v hm hk h1 h2]
  refine ⟨?_, bl_eq hm hk h1 h2, fun h => ?_⟩
  · have h0 : nI 0 = (0 : Int32) := rfl
    unfold f_X7_bitsOf
    refine bnd_e ?_
    rw [← h0, bo_L2 hm hk h1 h2 _ FU 0 (Nat.zero_le _) (by show k + 1 - 0 < 100000; omega)]
  · have : 2 ^ k < 2 * 2 ^ 12 := by
      have e : 2 ^ 12 = 4096 := by decide
      omega
    have := pw_le this
    omega
set_option maxHeartbeats 1000000 in
theorem p_X7_writeTable_L14 (u0 : OS) {Q : OS → Prop} (K : Int32 → Int32 → OS → Option OS) (T : OT × Int32) (hK : ∀ a b v, MO T.1 T.2 v → PO u0 v → pc (K a b v) Q) : ∀ (n k j : Nat) (x y : Int32) (u : OS) (s : OT × Int32), x = nI j → j + k = 32 → y.toInt ≤ 4096 → (∀ i, i < 32 → 0 ≤ (u0.2.1 8 i).toInt) → tab (u0.2.1 8) k j y s = T → MO s.1 s.2 u → PO u0 u → pc (f_X7_writeTable_L14 n K x y u) Q := by
  intro n
  induction n with
  | zero => intro k j x y u s _ _ _ _ _ _ _; exact pc_none
  | succ n ih =>
    intro k j x y u s hx hj hy hs hT h hP
    have ex : x.toInt = j := by rw [hx, nI_toInt (by omega)]
    have exn : x.toNatClampNeg = j := by
      show x.toInt.toNat = j
      omega
    unfold f_X7_writeTable_L14
    refine pc_ite (fun d => hK _ _ _ ?_ hP) (fun d => ?_)
    · have d1 := Int32.le_iff_toInt_le.mp d
      rw [li_32, ex] at d1
      have : k = 0 := by omega
      subst this
      rw [← hT]
      exact h
    · have d1 := mt Int32.le_iff_toInt_le.mpr d
      rw [li_32, ex] at d1
      obtain ⟨k', rfl⟩ : ∃ k', k = k' + 1 := ⟨k - 1, by omega⟩
      have eT : tab (u0.2.1 8) (k' + 1) j y s = if y ≤ (0 : Int32) then s else tab (u0.2.1 8) k' (j + 1) (y - u0.2.1 8 j) (pbits (u0.2.1 8 j) (blen y) s) := rfl
      rw [eT] at hT
      refine pc_ite (fun z => hK _ _ _ ?_ hP) (fun z => pc_gdi (fun _ _ => ?_))
      · rw [if_pos z] at hT
        rw [← hT]
        exact h
      · rw [if_neg z] at hT
        have z1 := mt i0_le.mpr z
        have e8 : ∀ v : OS, PO u0 v → v.2.1 8 = u0.2.1 8 := fun v hv => hv.2.1 8 (by decide)
        have bo := bo_eq y (by omega)
        rw [bo.1, exn, e8 u hP]
        refine pc_oC1 (pc_some (Q := fun r => r = nI (blen y)) rfl) (fun r hr => ?_)
        refine pc_oC1 (p_X7_putBits (s := s) u (u0.2.1 8 j) r (blen y) hr (by have := bo.2.2 hy; omega) h) (fun v hv => pc_gdi (fun _ _ => ?_))
        rw [e8 v (hP.tr hv.2)]
        have e1 : x + (1 : Int32) = nI (j + 1) := by rw [hx, nI_1]
        have s0 := hs j (by omega)
        have ey : (y - u0.2.1 8 j).toInt ≤ 4096 := by
          have hi := i32_hi (u0.2.1 8 j)
          rw [sub32 (by omega) (by omega)]
          omega
        exact pc_bnd (pc_bnd (ih k' (j + 1) _ _ _ _ e1 (by omega) ey hs hT hv.1 (hP.tr hv.2)))

-- ===== the class: a pile by its form, a row =====
theorem pcA_ok {α : Type} {o : Option (α × Nat × Nat)} {P : α × Nat × Nat → Prop} (h : ok o P) : pcA o (fun a => ∃ m n, P (a, m, n)) := by
  obtain ⟨z, e, p⟩ := h
  obtain ⟨z1, z2, z3⟩ := z
  intro a m n ea
  rw [e] at ea
  cases ea
  exact ⟨z2, z3, p⟩
theorem pcA_cq {α : Type} {o : Option (α × Nat × Nat)} {P : α → Prop} {T : α → Nat} {b : Nat} (h : ok o (CQ P T b)) : pcA o P := by
  obtain ⟨z, e, p⟩ := h
  obtain ⟨z1, z2, z3⟩ := z
  intro a m n ea
  rw [e] at ea
  cases ea
  exact p.1
theorem pcA_and {α : Type} {o : Option (α × Nat × Nat)} {P R : α → Prop} (h1 : pcA o P) (h2 : pcA o R) : pcA o (fun a => P a ∧ R a) := fun a m n e => ⟨h1 a m n e, h2 a m n e⟩
def PIL (F : Int32) (t : OT) (P : OS) : Prop := (F = 2 → PSB t P) ∧ (F = 1 → ∃ w, PSW t w 0 P) ∧ (F ≠ 1 → F ≠ 2 → PST t P)
theorem PIL.eq {F : Int32} {t : OT} {P P' : OS} (h : PIL F t P) (e1 : P'.1 = P.1) (e2 : ∀ i, i < P.2.2.2 0 → P'.2.1 0 i = P.2.1 0 i) (hb : (P.1 1).toInt ≤ 8 * (P.2.2.2 0 : Int)) (e3 : P'.2.2.2 0 ≤ 8000) : PIL F t P' := by
  obtain ⟨a, b, c⟩ := h
  refine ⟨fun q => ?_, fun q => ?_, fun q1 q2 => ?_⟩
  · obtain ⟨a0, a1, a2, a3, a4⟩ := a q
    refine ⟨a0, by rw [e1]; exact a1, a2, fun i hi => ?_, e3⟩
    rw [a1] at hb
    rw [e2 i (by omega)]
    exact a3 i hi
  · obtain ⟨w, a0, a1, a2, a3, a4⟩ := b q
    refine ⟨w, a0, by rw [e1]; exact a1, fun i d hi hd => ?_, fun d hd => absurd hd (Nat.not_lt_zero d), e3⟩
    rw [e2 _ (by omega)]
    exact a2 i d hi hd
  · obtain ⟨a0, a1, a2, a3⟩ := c q1 q2
    refine ⟨a0, by rw [e1]; exact a1, fun i hi => ?_, e3⟩
    rw [e2 i (by omega)]
    exact a2 i hi
theorem p_X2_makeRoom {F : Int32} {t : OT} (P : OS) (h : I8 F P) (hp : PIL F t P) (hb : (P.1 1).toInt / 8 + 10 < 8000) : pcA (f_X2_makeRoomForSign P) (fun P' => I8 F P' ∧ PIL F t P' ∧ P'.1 = P.1 ∧ (P.1 1).toInt / 8 + 10 < P'.2.2.2 0 ∧ P'.2.2.2 0 ≤ 8000) := by
  refine fun a m n e => ⟨pcA_cq (s_X2_makeRoomForSign P h) a m n e, ?_⟩
  revert a m n e
  show pcA (f_X2_makeRoomForSign P) (fun P' => PIL F t P' ∧ P'.1 = P.1 ∧ (P.1 1).toInt / 8 + 10 < P'.2.2.2 0 ∧ P'.2.2.2 0 ≤ 8000)
  obtain ⟨⟨h0, h1, h2, h3⟩, h4⟩ := h
  unfold f_X2_makeRoomForSign
  have e1 : ((P.1 1) / (8 : Int32)).toInt = (P.1 1).toInt / 8 := by rw [div32 h0 (by decide), li_8]
  have e2 : (((P.1 1) / (8 : Int32)) + (10 : Int32)).toInt = (P.1 1).toInt / 8 + 10 := by rw [add32 (by rw [e1, li_10]; omega) (by rw [e1, li_10]; omega), e1, li_10]
  refine pcA_oA2 (pcA_ok (s_withRoom (lm := 8000) (P.2.1 0) h2 li_8000 h3 (by decide) (by rw [e2]; omega))) (fun n f kc ks hr => ?_)
  obtain ⟨m', n', r1, r2, r3, r4, _, _⟩ := hr
  have r1 : P.2.2.2 0 ≤ n := r1
  have r2 : n ≤ 8000 := r2
  have r3 : (((P.1 1) / (8 : Int32)) + (10 : Int32)).toInt < n ∨ (8000 : Int32).toInt ≤ (((P.1 1) / (8 : Int32)) + (10 : Int32)).toInt := r3
  have r4 : ∀ i, i < P.2.2.2 0 → f i = P.2.1 0 i := r4
  rw [e2, li_8000] at r3
  refine pcA_addc (pcA_bnd (pcA_some ⟨hp.eq rfl (fun i hi => r4 i hi) h1 r2, rfl, ?_, r2⟩))
  show (P.1 1).toInt / 8 + 10 < (n : Int)
  omega
-- the sign that has all changes nothing
theorem sgT_all {k : Nat} {lg q r : Int32} {pl : Nat → Int32} {l : Nat} {s : SS} (h1 : 5 ≤ k) (h2 : k ≤ 12) (hl : lg = nI k) (hq : q.toInt = ((2 ^ k : Nat) : Int)) (hr : r.toInt = 0) (y0 : ((2 ^ k : Nat) : Int) ≤ (s.2 l).toInt) (y1 : (s.2 l).toInt < 2 * ((2 ^ k : Nat) : Int)) (hpl : ∀ i, i < 2 ^ k → pl i = nI i) : (sgT lg q r pl l s).1 = s.1 ∧ ∀ i, (sgT lg q r pl l s).2 i = s.2 i := by
  have ak := (powA k (by omega) h1).2.2.2.2.2
  have eb := bnd2_v (q := q) (by omega) (by omega)
  have st : rn2 (bnd2 q) 13 (s.2 l, s.1) = (s.2 l, s.1) := rn2_st _ 13 (s.2 l, s.1) (Int64.lt_iff_toInt_lt.mpr (by rw [eb, hq]; exact y1))
  have ez : (s.2 l).toInt32.toInt = (s.2 l).toInt := ti32 (by omega) (by omega)
  have a : (r + (s.2 l).toInt32).toInt = (s.2 l).toInt := by rw [add32 (by rw [ez]; omega) (by rw [ez]; omega), ez]; omega
  have e5 : ((r + (s.2 l).toInt32) - q).toInt = (s.2 l).toInt - ((2 ^ k : Nat) : Int) := by rw [sub32 (by rw [a]; omega) (by rw [a]; omega), a, hq]
  have slot : ((r + (s.2 l).toInt32) - q).toNatClampNeg < 2 ^ k := by
    show ((r + (s.2 l).toInt32) - q).toInt.toNat < 2 ^ k
    omega
  have pv := hpl _ slot
  have pn : (pl ((r + (s.2 l).toInt32) - q).toNatClampNeg).toInt = (s.2 l).toInt - ((2 ^ k : Nat) : Int) := by
    rw [pv, nI_toInt (by omega)]
    show ((((r + (s.2 l).toInt32) - q).toInt.toNat : Nat) : Int) = _
    omega
  have o1 := (one_k k (by omega)).1
  rw [← hl] at o1
  have ev : ((1 : Int64) <<< (lg.toInt64 &&& (63 : Int64))) + (pl ((r + (s.2 l).toInt32) - q).toNatClampNeg).toInt64 = s.2 l := by
    refine Int64.toInt_inj.mp ?_
    rw [add64 (by rw [o1, tl32]; omega) (by rw [o1, tl32]; omega), o1, tl32, pn]
    omega
  unfold sgT
  rw [st]
  refine ⟨rfl, fun i => ?_⟩
  show vp_updL s.2 l (((1 : Int64) <<< (lg.toInt64 &&& (63 : Int64))) + (pl ((r + (s.2 l).toInt32) - q).toNatClampNeg).toInt64) i = s.2 i
  rw [ev]
  unfold vp_updL
  by_cases e : i = l
  · rw [if_pos e, e]
  · rw [if_neg e]

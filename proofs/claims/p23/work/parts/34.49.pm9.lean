def OB (g : GH) (u v : OS) (d : Int) : Prop := IM g v ∧ PO u v ∧ (u.1 15).toInt ≤ (v.1 15).toInt ∧ (v.1 15).toInt ≤ (u.1 15).toInt + d
theorem s_X7_putWide_L5 {g : GH} (p : Int64) {Q : OS → Prop} (u0 : OS) (d : Int) (hd : (u0.1 15).toInt + d ≤ 20000) (K : Int32 → OS → Option OS) (hK : ∀ x u, OB g u0 u d → u.1 21 = u0.1 21 → ok (K x u) Q) : ∀ (n : Nat) (x : Int32) (u : OS), -1 ≤ x.toInt → (x.toInt + 1).toNat < n → OB g u0 u (d - (x.toInt + 1)) → u.1 21 = u0.1 21 → ok (f_X7_putWide_L5 p n K x u) Q := by
  intro n
  induction n with
  | zero => intro x u _ hn; omega
  | succ n ih =>
    intro x u hx hn h h21
    unfold f_X7_putWide_L5
    obtain ⟨h1, h2, h3, h4⟩ := h
    refine ok_ite (fun c => hK _ _ ⟨h1, h2, h3, ?_⟩ h21) (fun c => ?_)
    · have := Int32.lt_iff_toInt_lt.mp c
      rw [li_0] at this
      omega
    · have c1 := mt Int32.lt_iff_toInt_lt.mpr c
      rw [li_0] at c1
      have e1 := dec32 (x := x) (by omega)
      refine ok_oC1 (s_X7_putByte u _ h1 (by omega)) (fun v hv => ok_bnd (ih _ _ (by omega) (by omega) ⟨hv.1, h2.tr hv.2.1, by omega, by omega⟩ (hv.2.2.2.trans h21)))
theorem s_X7_putWide {g : GH} (u : OS) (p : Int64) (q : Int32) (h : IM g u) (q0 : 0 ≤ q.toInt) (q1 : q.toInt ≤ 8) (hd : (u.1 15).toInt + q.toInt ≤ 20000) : ok (f_X7_putWide u p q) (fun v => OB g u v q.toInt ∧ v.1 21 = u.1 21) := by
  unfold f_X7_putWide
  have e : (q - (1 : Int32)).toInt = q.toInt - 1 := by rw [sub32 (by rw [li_1]; omega) (by rw [li_1]; omega), li_1]
  refine ok_bnd (ok_bnd (s_X7_putWide_L5 p u q.toInt hd _ (fun x v hv h21 => ok_some ⟨hv, h21⟩) FU _ _ (by rw [e]; omega) (by rw [e]; show _ < 100000; omega) ⟨h, PO.rf, Int.le_refl _, by rw [e]; omega⟩ rfl))
def BI (u : OS) : Prop := 0 ≤ (u.1 21).toInt ∧ (u.1 21).toInt ≤ 7 ∧ ((u.1 21).toInt = 0 ∨ 1 ≤ (u.1 15).toInt)
theorem shl8 : ∀ j : Nat, j < 8 → 0 ≤ ((1 : Int32) <<< (nI j &&& (31 : Int32))).toInt ∧ ((1 : Int32) <<< (nI j &&& (31 : Int32))).toInt ≤ 255 ∧ ((0 : Int32) <<< (nI j &&& (31 : Int32))).toInt = 0 := by decide
theorem bsh {a x : Int32} (h0 : 0 ≤ x.toInt) (h1 : x.toInt ≤ 7) : 0 ≤ ((a &&& (1 : Int32)) <<< (((7 : Int32) - x) &&& (31 : Int32))).toInt ∧ ((a &&& (1 : Int32)) <<< (((7 : Int32) - x) &&& (31 : Int32))).toInt ≤ 255 := by
  have e : ((7 : Int32) - x).toInt = 7 - x.toInt := by rw [sub32 (by rw [li_7]; omega) (by rw [li_7]; omega), li_7]
  obtain ⟨k, ek, e2, _⟩ := nI_ex (x := (7 : Int32) - x) (by omega)
  rw [ek]
  have s := shl8 k (by omega)
  rcases bit32 a with q | q
  · rw [q]; omega
  · rw [q]; omega
theorem s_X7_putBits_L4 {g : GH} (p : Int32) {Q : OS → Prop} (u0 : OS) (d : Int) (hd : (u0.1 15).toInt + d ≤ 20000) (K : Int32 → OS → Option OS) (hK : ∀ x u, OB g u0 u d → BI u → ok (K x u) Q) : ∀ (n : Nat) (x : Int32) (u : OS), -1 ≤ x.toInt → (x.toInt + 1).toNat < n → OB g u0 u (d - (x.toInt + 1)) → BI u → ok (f_X7_putBits_L4 p n K x u) Q := by
  intro n
  induction n with
  | zero => intro x u _ hn; omega
  | succ n ih =>
    intro x u hx hn h hB
    unfold f_X7_putBits_L4
    obtain ⟨h1, h2, h3, h4⟩ := h
    refine ok_ite (fun c => hK _ _ ⟨h1, h2, h3, ?_⟩ hB) (fun c => ?_)
    · have := Int32.lt_iff_toInt_lt.mp c
      rw [li_0] at this
      omega
    · have c1 := mt Int32.lt_iff_toInt_lt.mpr c
      rw [li_0] at c1
      have e1 : (x + (-1 : Int32)).toInt = x.toInt - 1 := dec32 (x := x) (by omega)
      have m1 : -1 ≤ (x + (-1 : Int32)).toInt := by rw [e1]; clear hK ih hB h3 h4; omega
      have m2 : ((x + (-1 : Int32)).toInt + 1).toNat < n := by rw [e1]; clear hK ih hB h3 h4; omega
      have key : ∀ v : OS, OB g u0 v (d - x.toInt) → 0 ≤ (v.1 21).toInt → (v.1 21).toInt ≤ 7 → 1 ≤ (v.1 15).toInt → ok (gdi ((v.1 15) - (1 : Int32)) 20000 <| gdi ((v.1 15) - (1 : Int32)) 20000 <| bnd (sA v 14 ((v.1 15) - (1 : Int32)) ((v.2.1 14 (((v.1 15) - (1 : Int32))).toNatClampNeg) ||| (((p >>> (x &&& (31 : Int32))) &&& (1 : Int32)) <<< (((7 : Int32) - (v.1 21)) &&& (31 : Int32))))) fun u12 => bnd (sF u12 21 (((u12.1 21) + (1 : Int32)) - ((u12.1 21) + (1 : Int32)) / (8 : Int32) * (8 : Int32))) fun u13 => bnd (x + (-1 : Int32)) fun x14 => f_X7_putBits_L4 p n K x14 u13) Q := by
        intro v ⟨v1, v2, v3, v4⟩ b0 b1 o1
        have e2 : ((v.1 15) - (1 : Int32)).toInt = (v.1 15).toInt - 1 := by rw [sub32 (by rw [li_1]; omega) (by rw [li_1]; omega), li_1]
        have h14 := v1.2.2.2.2.2.2.2.2.1 ((v.1 15) - (1 : Int32)).toNatClampNeg
        have hb := bsh (a := p >>> (x &&& (31 : Int32))) b0 b1
        have ho := or32 h14.1 h14.2 hb.1 hb.2
        have e3 := inc32 (x := v.1 21) (by omega)
        have e4 : (((v.1 21) + (1 : Int32)) - ((v.1 21) + (1 : Int32)) / (8 : Int32) * (8 : Int32)).toInt = ((v.1 21).toInt + 1) % 8 := by rw [rem32 (by omega) (by decide), e3, li_8]
        refine ok_gdi (by omega) (by omega) (ok_gdi (by omega) (by omega) (ok_bnd (ok_bnd (ok_bnd (ih _ _ m1 m2 ⟨?_, v2.tr ⟨?_, ?_, rfl⟩, v3, ?_⟩ ?_)))))
        · exact IM_out v1 ho.1 ho.2
        · intro k a b
          show va_up v.1 21 _ k = v.1 k
          unfold va_up
          rw [if_neg b]
        · intro k a
          show va_up v.2.1 14 _ k = v.2.1 k
          unfold va_up
          rw [if_neg a]
        · show (v.1 15).toInt ≤ _
          omega
        · refine ⟨?_, ?_, Or.inr o1⟩
          · show 0 ≤ (((v.1 21) + (1 : Int32)) - ((v.1 21) + (1 : Int32)) / (8 : Int32) * (8 : Int32)).toInt
            omega
          · show (((v.1 21) + (1 : Int32)) - ((v.1 21) + (1 : Int32)) / (8 : Int32) * (8 : Int32)).toInt ≤ 7
            omega
      obtain ⟨b0, b1, b2⟩ := hB
      refine ok_bnd (ok_ite (fun q => ok_oC1 (s_X7_putByte u _ h1 (by omega)) (fun v hv => key v ⟨hv.1, h2.tr hv.2.1, by omega, by omega⟩ ?_ ?_ ?_)) (fun q => key u ⟨h1, h2, h3, by omega⟩ b0 b1 ?_))
      · rw [hv.2.2.2]; exact b0
      · rw [hv.2.2.2]; exact b1
      · have := (IM_o h1).1
        omega
      · have := ne32 q
        rw [li_0] at this
        omega
theorem s_X7_putBits {g : GH} (u : OS) (p q : Int32) (h : IM g u) (hB : BI u) (q0 : 0 ≤ q.toInt) (q1 : q.toInt ≤ 31) (hd : (u.1 15).toInt + q.toInt ≤ 20000) : ok (f_X7_putBits u p q) (fun v => OB g u v q.toInt ∧ BI v) := by
  unfold f_X7_putBits
  have e : (q - (1 : Int32)).toInt = q.toInt - 1 := by rw [sub32 (by rw [li_1]; omega) (by rw [li_1]; omega), li_1]
  refine ok_bnd (ok_bnd (s_X7_putBits_L4 p u q.toInt hd _ (fun x v hv hb => ok_some ⟨hv, hb⟩) FU _ _ (by rw [e]; omega) (by rw [e]; show _ < 100000; omega) ⟨h, PO.rf, Int.le_refl _, by rw [e]; omega⟩ hB))
theorem s_X7_bitsOf_L2 (p : Int32) (hp : p.toInt ≤ 4096) {Q : Int32 → Prop} (K : Int32 → Option Int32) (hK : ∀ x, 0 ≤ x.toInt → x.toInt ≤ 13 → ok (K x) Q) : ∀ (n : Nat) (x : Int32), 0 ≤ x.toInt → x.toInt ≤ 13 → (13 - x.toInt).toNat < n → ok (f_X7_bitsOf_L2 p n K x) Q := by
  intro n
  induction n with
  | zero => intro x _ _ hn; omega
  | succ n ih =>
    intro x hx hx2 hn
    unfold f_X7_bitsOf_L2
    refine ok_ite (fun c => hK _ hx hx2) (fun c => ?_)
    have c1 : x.toInt < 13 := by
      rcases Int.lt_or_le x.toInt 13 with q | q
      · exact q
      · exfalso
        obtain ⟨k, e, e2, _⟩ := nI_ex hx
        subst e
        have hk : k = 13 := by omega
        subst hk
        have e3 := shr32 p 13 (by decide)
        have e5 : ((2 ^ 13 : Nat) : Int) = 8192 := by decide
        rw [e5] at e3
        apply c
        rw [Int32.le_iff_toInt_le, li_0, e3]
        omega
    have e1 := inc32 (x := x) (by omega)
    exact ok_bnd (ih _ (by omega) (by omega) (by omega))
theorem s_X7_bitsOf (p : Int32) (hp : p.toInt ≤ 4096) : ok (f_X7_bitsOf p) (fun x => 0 ≤ x.toInt ∧ x.toInt ≤ 13) := by
  unfold f_X7_bitsOf
  exact ok_bnd (s_X7_bitsOf_L2 p hp _ (fun x h1 h2 => ok_some ⟨h1, h2⟩) FU _ (by decide) (by decide) (by decide))
theorem s_X7_writeTable_L14 {g : GH} {Q : OS → Prop} (u0 : OS) (hd : (u0.1 15).toInt + 416 ≤ 20000) (hs : ∀ s, s < 32 → 0 ≤ (u0.2.1 8 s).toInt ∧ (u0.2.1 8 s).toInt ≤ 4096) (K : Int32 → Int32 → OS → Option OS) (hK : ∀ a b u, OB g u0 u 416 → ok (K a b u) Q) : ∀ (n : Nat) (x y : Int32) (u : OS), 0 ≤ x.toInt → x.toInt ≤ 32 → (32 - x.toInt).toNat < n → y.toInt ≤ 4096 → OB g u0 u (13 * x.toInt) → BI u → ok (f_X7_writeTable_L14 n K x y u) Q := by
  intro n
  induction n with
  | zero => intro x y u _ _ hn; omega
  | succ n ih =>
    intro x y u hx hx2 hn hy h hB
    unfold f_X7_writeTable_L14
    obtain ⟨h1, h2, h3, h4⟩ := h
    refine ok_ite (fun c => hK _ _ _ ⟨h1, h2, h3, by omega⟩) (fun c => ok_ite (fun c2 => hK _ _ _ ⟨h1, h2, h3, by omega⟩) (fun c2 => ?_))
    have c1 := mt Int32.le_iff_toInt_le.mpr c
    have c3 := mt Int32.le_iff_toInt_le.mpr c2
    rw [li_32] at c1
    rw [li_0] at c3
    have e1 := inc32 (x := x) (by omega)
    refine ok_gdi hx (by omega) (ok_oC1 (s_X7_bitsOf y hy) (fun r hr => ok_oC1 (s_X7_putBits u _ r h1 hB hr.1 (by omega) (by omega)) (fun v hv => ok_gdi hx (by omega) (ok_bnd (ok_bnd ?_)))))
    obtain ⟨⟨v1, v2, v3, v4⟩, vB⟩ := hv
    have e8 : v.2.1 8 = u0.2.1 8 := by rw [v2.2.1 8 (by decide), h2.2.1 8 (by decide)]
    have hsx := hs x.toInt.toNat (by omega)
    rw [e8]
    have e9 : u0.2.1 8 x.toNatClampNeg = u0.2.1 8 x.toInt.toNat := rfl
    rw [e9]
    have e2 : (y - u0.2.1 8 x.toInt.toNat).toInt = y.toInt - (u0.2.1 8 x.toInt.toNat).toInt := sub32 (by omega) (by omega)
    exact ih _ _ _ (by omega) (by omega) (by omega) (by omega) ⟨v1, h2.tr v2, by omega, by omega⟩ vB
theorem IM_sh {g : GH} {u : OS} (h : IM g u) (z : u.1 7 = 1) : ∀ s, s < 32 → 0 ≤ (u.2.1 8 s).toInt ∧ (u.2.1 8 s).toInt ≤ 4096 := by
  intro s hs
  have h0 := h.1
  have sz := sz32 h0.1 h0.2
  rcases h.2.2.2.2.2.2.1.1 with q | ⟨_, q, _⟩
  · rw [z] at q; exact absurd q (by decide)
  · have e := psum_el q.1 hs
    have e2 := q.1 s hs
    rw [q.2, ← sz.1, shr0] at e
    rw [shr0] at e2
    omega
theorem s_X7_writeTable {g : GH} (u : OS) (h : IM g u) (z : u.1 7 = 1) (hd : (u.1 15).toInt + 416 ≤ 20000) : ok (f_X7_writeTable u) (fun v => OB g u v 416 ∧ v.1 21 = 0) := by
  have sz := sz32 h.1.1 h.1.2
  have po : ∀ (w : OS) (c : Int32), PO w (sF w 21 c) := by
    intro w c
    refine ⟨fun k a b => ?_, fun _ _ => rfl, rfl⟩
    show va_up w.1 21 _ k = w.1 k
    unfold va_up
    rw [if_neg b]
  unfold f_X7_writeTable
  refine ok_bnd (ok_bnd (ok_bnd (s_X7_writeTable_L14 (sF u 21 (0 : Int32)) hd (IM_sh h z) _ (fun a b v hv => ok_bnd (ok_some ⟨⟨hv.1, ((po u 0).tr hv.2.1).tr (po v 0), hv.2.2.1, hv.2.2.2⟩, rfl⟩)) FU _ _ _ (by decide) (by decide) (by decide) sz.2.2 ⟨h, PO.rf, Int.le_refl _, ?_⟩ ?_)))
  · rw [li_0]; omega
  · exact ⟨by show 0 ≤ (0 : Int32).toInt; decide, by show (0 : Int32).toInt ≤ 7; decide, Or.inl (by show (0 : Int32).toInt = 0; decide)⟩

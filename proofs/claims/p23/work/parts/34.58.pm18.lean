-- ===== the reader of the model =====
def H14 (u : OS) : Prop := ∀ i, 0 ≤ (u.2.1 14 i).toInt ∧ (u.2.1 14 i).toInt ≤ 255
def RP (u : OS) : Prop := 0 ≤ (u.1 26).toInt ∧ (u.1 26).toInt ≤ (u.1 15).toInt ∧ (u.1 15).toInt ≤ 20000 ∧ 0 ≤ (u.1 27).toInt
def R29 (u : OS) : Prop := 0 ≤ (u.1 29).toInt ∧ (u.1 29).toInt ≤ 8 ∧ ((u.1 29).toInt = 0 ∨ 1 ≤ (u.1 26).toInt)
def NX (u v : OS) : Prop := (∀ k, k ≠ 26 → k ≠ 27 → k ≠ 29 → v.1 k = u.1 k) ∧ v.2 = u.2 ∧ RP v ∧ (u.1 26).toInt ≤ (v.1 26).toInt ∧ (u.1 27).toInt ≤ (v.1 27).toInt ∧ (R29 u → R29 v)
theorem NX.rf {u : OS} (h : RP u) : NX u u := ⟨fun _ _ _ _ => rfl, rfl, h, Int.le_refl _, Int.le_refl _, id⟩
theorem NX.tr {u v w : OS} (h1 : NX u v) (h2 : NX v w) : NX u w := ⟨fun k a b c => (h2.1 k a b c).trans (h1.1 k a b c), h2.2.1.trans h1.2.1, h2.2.2.1, Int.le_trans h1.2.2.2.1 h2.2.2.2.1, Int.le_trans h1.2.2.2.2.1 h2.2.2.2.2.1, fun r => h2.2.2.2.2.2 (h1.2.2.2.2.2 r)⟩
theorem NX.h14 {u v : OS} (h : NX u v) (hh : H14 u) : H14 v := by
  unfold H14 at *
  rw [h.2.1]
  exact hh
theorem s_X7_fail (u : OS) (p : Int32) (hp : 1 ≤ p.toInt) (h : RP u) : ok (f_X7_fail u p) (fun v => NX u v ∧ 1 ≤ (v.1 27).toInt ∧ v.1 26 = u.1 26 ∧ v.1 29 = u.1 29) := by
  unfold f_X7_fail
  refine ok_ite (fun c => ok_bnd (ok_some ⟨⟨fun k a b c => va_ne (f := u.1) b, rfl, ?_, Int.le_refl _, ?_, fun r => r⟩, hp, rfl, rfl⟩)) (fun c => ok_some ⟨NX.rf h, ?_, rfl, rfl⟩)
  · obtain ⟨a, b, c, d⟩ := h
    exact ⟨a, b, c, by show 0 ≤ p.toInt; omega⟩
  · show (u.1 27).toInt ≤ p.toInt
    rw [c, li_0]
    omega
  · have := ne32 c
    have h4 := h.2.2.2
    rw [li_0] at this
    omega
theorem s_X7_next (u : OS) (hh : H14 u) (h : RP u) : ok (f_X7_next u) (fun q => NX u q.1 ∧ q.1.1 29 = u.1 29 ∧ (0 ≤ q.2.toInt ∧ q.2.toInt ≤ 255) ∧ (1 ≤ (q.1.1 27).toInt ∨ (q.1.1 26).toInt = (u.1 26).toInt + 1)) := by
  obtain ⟨a, b, c, d⟩ := h
  have z : 0 ≤ (0 : Int32).toInt ∧ (0 : Int32).toInt ≤ 255 := by decide
  unfold f_X7_next
  refine ok_ite (fun c1 => ok_ite (fun c2 => ok_bnd ?_) (fun c2 => ok_oC1 (s_X7_fail u 1 (by decide) ⟨a, b, c, d⟩) (fun v hv => ok_some ⟨hv.1, hv.2.2.2, z, Or.inl hv.2.1⟩))) (fun c1 => ok_some ⟨NX.rf ⟨a, b, c, d⟩, rfl, z, Or.inl ?_⟩)
  · have d2 := Int32.lt_iff_toInt_lt.mp c2
    have e1 := inc32 (x := u.1 26) (by omega)
    have e2 : (((sF u 26 ((u.1 26) + (1 : Int32))).1 26) - (1 : Int32)).toInt = (u.1 26).toInt := by
      show ((u.1 26 + (1 : Int32)) - (1 : Int32)).toInt = _
      rw [sub32 (by rw [e1, li_1]; omega) (by rw [e1, li_1]; omega), e1, li_1]
      omega
    refine ok_gdi (by rw [e2]; exact a) (by rw [e2]; omega) (ok_some ⟨⟨fun k x y z => va_ne (f := u.1) x, rfl, ?_, ?_, Int.le_refl _, ?_⟩, rfl, hh _, Or.inr e1⟩)
    · exact ⟨by show 0 ≤ (u.1 26 + (1 : Int32)).toInt; omega, by show (u.1 26 + (1 : Int32)).toInt ≤ (u.1 15).toInt; omega, c, d⟩
    · show (u.1 26).toInt ≤ (u.1 26 + (1 : Int32)).toInt
      omega
    · intro r
      exact ⟨r.1, r.2.1, Or.inr (by show 1 ≤ (u.1 26 + (1 : Int32)).toInt; omega)⟩
  · have := mt Int32.le_iff_toInt_le.mpr c1
    rw [li_0] at this
    show 1 ≤ (u.1 27).toInt
    omega
theorem or64 {a b : Int64} {m : Nat} (hm : m ≤ 62) (h1 : 0 ≤ a.toInt) (h2 : a.toInt < ((2 ^ m : Nat) : Int)) (h3 : 0 ≤ b.toInt) (h4 : b.toInt < ((2 ^ m : Nat) : Int)) : 0 ≤ (a ||| b).toInt ∧ (a ||| b).toInt < ((2 ^ m : Nat) : Int) := by
  have e1 := tn64 h1
  have e2 := tn64 h3
  have e3 : (a ||| b).toBitVec.toNat < 2 ^ m := by
    rw [Int64.toBitVec_or, BitVec.toNat_or]
    exact Nat.or_lt_two_pow (by omega) (by omega)
  have e5 : 2 ^ m ≤ 2 ^ 62 := Nat.pow_le_pow_right (by decide) hm
  have e4 := it64 (x := a ||| b) (by omega)
  omega
def W2 (x : Int) (y : Int64) : Prop := (x = 0 → y.toInt = 0) ∧ (x = 1 → 0 ≤ y.toInt ∧ y.toInt ≤ 255) ∧ (x = 2 → 0 ≤ y.toInt ∧ y.toInt ≤ 65535)
theorem W2.st {x : Int} {y : Int64} {r : Int32} (hx : 0 ≤ x) (h : W2 x y) (r0 : 0 ≤ r.toInt) (r1 : r.toInt ≤ 255) : W2 (x + 1) ((y <<< (((8 : Int32)).toInt64 &&& (63 : Int64))) ||| (r).toInt64) := by
  have e : ((2 ^ 8 : Nat) : Int) = 256 := by decide
  have e16 : ((2 ^ 16 : Nat) : Int) = 65536 := by decide
  have tr := tl32 r
  refine ⟨fun q => by omega, fun q => ?_, fun q => ?_⟩
  · have y0 := h.1 (by omega)
    have s := shl64 y (((8 : Int32)).toInt64 &&& (63 : Int64)) 8 sh_8 (by omega) (by omega)
    rw [e, y0] at s
    have o := or64 (a := y <<< (((8 : Int32)).toInt64 &&& (63 : Int64))) (b := r.toInt64) (m := 8) (by decide) (by omega) (by omega) (by omega) (by omega)
    omega
  · have y0 := h.2.1 (by omega)
    have s := shl64 y (((8 : Int32)).toInt64 &&& (63 : Int64)) 8 sh_8 (by omega) (by omega)
    rw [e] at s
    have o := or64 (a := y <<< (((8 : Int32)).toInt64 &&& (63 : Int64))) (b := r.toInt64) (m := 16) (by decide) (by omega) (by omega) (by omega) (by omega)
    omega
theorem s_X7_nextWide_L5 {p : Int32} (hp : p.toInt ≤ 8) (u0 : OS) {Q : OS × Int64 → Prop} (K : Int64 → Int32 → OS → Option (OS × Int64)) (hK : ∀ y x u, NX u0 u → W2 p.toInt y → (1 ≤ (u.1 27).toInt ∨ (u.1 26).toInt = (u0.1 26).toInt + p.toInt) → u.1 29 = u0.1 29 → ok (K y x u) Q) : ∀ (n : Nat) (x : Int32) (y : Int64) (u : OS), 0 ≤ x.toInt → x.toInt ≤ p.toInt → (p.toInt - x.toInt).toNat < n → H14 u → NX u0 u → W2 x.toInt y → (1 ≤ (u.1 27).toInt ∨ (u.1 26).toInt = (u0.1 26).toInt + x.toInt) → u.1 29 = u0.1 29 → ok (f_X7_nextWide_L5 p n K x y u) Q := by
  intro n
  induction n with
  | zero => intro x y u _ _ hn; omega
  | succ n ih =>
    intro x y u hx hx2 hn hh hN hW hG e29
    unfold f_X7_nextWide_L5
    refine ok_ite (fun c => ?_) (fun c => ?_)
    · have c1 := Int32.le_iff_toInt_le.mp c
      have : x.toInt = p.toInt := by omega
      rw [this] at hW hG
      exact hK _ _ _ hN hW hG e29
    · have c1 := mt Int32.le_iff_toInt_le.mpr c
      have e1 := inc32 (x := x) (by omega)
      refine ok_oC2 (s_X7_next u hh hN.2.2.1) (fun v r hv => ok_bnd (ok_bnd (ih _ _ _ (by omega) (by omega) (by omega) (hv.1.h14 hh) (hN.tr hv.1) (by rw [e1]; exact W2.st hx hW hv.2.2.1.1 hv.2.2.1.2) ?_ (hv.2.1.trans e29))))
      have m := hv.1.2.2.2.2.1
      rcases hv.2.2.2 with q | q
      · exact Or.inl q
      · rcases hG with g | g
        · exact Or.inl (Int.le_trans g m)
        · refine Or.inr ?_
          rw [q, g, e1]
          omega
theorem s_X7_nextWide (u : OS) (p : Int32) (hp0 : 0 ≤ p.toInt) (hp : p.toInt ≤ 8) (hh : H14 u) (h : RP u) : ok (f_X7_nextWide u p) (fun q => NX u q.1 ∧ W2 p.toInt q.2 ∧ (1 ≤ (q.1.1 27).toInt ∨ (q.1.1 26).toInt = (u.1 26).toInt + p.toInt) ∧ q.1.1 29 = u.1 29) := by
  unfold f_X7_nextWide
  refine ok_bnd (s_X7_nextWide_L5 hp u _ (fun y x v a b c d => ok_some ⟨a, b, c, d⟩) FU _ _ _ (by decide) (by rw [li_0]; exact hp0) (by rw [li_0]; show _ < 100000; omega) hh (NX.rf h) ?_ (Or.inr (by rw [li_0]; omega)) rfl)
  rw [li_0]
  exact ⟨fun _ => by decide, fun q => absurd q (by decide), fun q => absurd q (by decide)⟩
set_option maxHeartbeats 1000000 in
theorem s_X7_nextBit (u : OS) (hh : H14 u) (h : RP u) (h9 : R29 u) : ok (f_X7_nextBit u) (fun q => NX u q.1 ∧ R29 q.1 ∧ (q.2 = 0 ∨ q.2 = 1) ∧ (1 ≤ (u.1 29).toInt → (q.1.1 29).toInt = (u.1 29).toInt - 1) ) := by
  have key : ∀ v : OS, H14 v → NX u v → R29 v → 1 ≤ (v.1 29).toInt → ((u.1 29).toInt = 0 ∨ v.1 29 = u.1 29) → ok (bnd (sF v 29 ((v.1 29) - (1 : Int32))) fun u3 =>
  gdi ((u3.1 26) - (1 : Int32)) 20000 <|
  some (u3, (((u3.2.1 14 (((u3.1 26) - (1 : Int32))).toNatClampNeg) >>> ((u3.1 29) &&& (31 : Int32))) &&& (1 : Int32)))) (fun q => NX u q.1 ∧ R29 q.1 ∧ (q.2 = 0 ∨ q.2 = 1) ∧ (1 ≤ (u.1 29).toInt → (q.1.1 29).toInt = (u.1 29).toInt - 1) ) := by
    intro v hv hN h9v g hz
    obtain ⟨a, b, c, d⟩ := hN.2.2.1
    obtain ⟨n1, n2, n3⟩ := h9v
    have e1 : ((v.1 29) - (1 : Int32)).toInt = (v.1 29).toInt - 1 := by rw [sub32 (by rw [li_1]; omega) (by rw [li_1]; omega), li_1]
    have e2 : ((v.1 26) - (1 : Int32)).toInt = (v.1 26).toInt - 1 := by rw [sub32 (by rw [li_1]; omega) (by rw [li_1]; omega), li_1]
    have r9 : R29 (sF v 29 ((v.1 29) - (1 : Int32))) := ⟨by show 0 ≤ ((v.1 29) - (1 : Int32)).toInt; omega, by show ((v.1 29) - (1 : Int32)).toInt ≤ 8; omega, Or.inr (by show 1 ≤ (v.1 26).toInt; omega)⟩
    refine ok_bnd (ok_gdi (by show 0 ≤ ((v.1 26) - (1 : Int32)).toInt; omega) (by show ((v.1 26) - (1 : Int32)).toInt < _; omega) (ok_some ⟨?_, r9, bit32 _, ?_⟩))
    · exact hN.tr ⟨fun k x y z => va_ne (f := v.1) z, rfl, ⟨a, b, c, d⟩, Int.le_refl _, Int.le_refl _, fun _ => r9⟩
    · intro q
      show ((v.1 29) - (1 : Int32)).toInt = _
      rcases hz with z | z
      · omega
      · rw [e1, z]
  unfold f_X7_nextBit
  refine ok_bnd (ok_ite (fun c => ok_oC2 (s_X7_next u hh h) (fun v r hv => ok_ite (fun c2 => ok_bnd ?_) (fun c2 => ok_some ?_))) (fun c => key u hh (NX.rf h) h9 ?_ (Or.inr rfl)))
  · have c2 := Int32.le_iff_toInt_le.mp c2
    rw [li_0] at c2
    have g : (v.1 26).toInt = (u.1 26).toInt + 1 := by
      rcases hv.2.2.2 with q | q
      · exact absurd q (by show ¬ 1 ≤ (v.1 27).toInt; omega)
      · exact q
    have r9 : R29 (sF v 29 (8 : Int32)) := ⟨by show 0 ≤ ((8 : Int32)).toInt; decide, by show ((8 : Int32)).toInt ≤ 8; decide, Or.inr (by show 1 ≤ (v.1 26).toInt; have := h.1; omega)⟩
    refine key _ (hv.1.h14 hh) (hv.1.tr ⟨fun k x y z => va_ne (f := v.1) z, rfl, hv.1.2.2.1, Int.le_refl _, Int.le_refl _, fun _ => r9⟩) r9 (by show 1 ≤ ((8 : Int32)).toInt; decide) (Or.inl ?_)
    rw [c, li_0]
  · refine ⟨hv.1, hv.1.2.2.2.2.2 h9, Or.inl rfl, fun q => ?_⟩
    rw [c, li_0] at q
    exact absurd q (by decide)
  · have := ne32 c
    rw [li_0] at this
    have := h9.1
    omega
theorem s_X7_readTable_L97 (u0 : OS) {Q : OS → Prop} (K : Int32 → OS → Option OS) (hK : ∀ x u, NX u0 u → R29 u → ok (K x u) Q) : ∀ (n : Nat) (x : Int32) (u : OS), (u.1 29).toInt.toNat < n → H14 u → NX u0 u → R29 u → ok (f_X7_readTable_L97 n K x u) Q := by
  intro n
  induction n with
  | zero => intro x u hn; omega
  | succ n ih =>
    intro x u hn hh hN h9
    unfold f_X7_readTable_L97
    refine ok_ite (fun c => hK _ _ hN h9) (fun c => ?_)
    have c1 := mt Int32.le_iff_toInt_le.mpr c
    rw [li_0] at c1
    refine ok_oC2 (s_X7_nextBit u hh hN.2.2.1 h9) (fun v r hv => ?_)
    have e : (v.1 29).toInt = (u.1 29).toInt - 1 := hv.2.2.2 (by omega)
    have g : ∀ x, ok (f_X7_readTable_L97 n K x v) Q := fun x => ih x v (by clear hK ih; omega) (hv.1.h14 hh) (hN.tr hv.1) hv.2.1
    exact ok_ite (fun _ => ok_ite (fun _ => g _) (fun _ => g _)) (fun _ => g _)
theorem s_X7_readTable_L30 (u0 : OS) {Q : OS → Prop} (K : Int32 → Int32 → OS → Option OS) (hK : ∀ x y u, NX u0 u → R29 u → 0 ≤ x.toInt → x.toInt < 8192 → ok (K x y u) Q) : ∀ (n : Nat) (x y : Int32) (u : OS) (c : Nat), 0 ≤ x.toInt → x.toInt = 13 - (c : Int) → 13 - c < n → 0 ≤ y.toInt → y.toInt < ((2 ^ c : Nat) : Int) → H14 u → NX u0 u → R29 u → ok (f_X7_readTable_L30 n K x y u) Q := by
  intro n
  induction n with
  | zero => intro x y u c _ _ hn; omega
  | succ n ih =>
    intro x y u c hx hc hn y0 y1 hh hN h9
    unfold f_X7_readTable_L30
    have pc : 2 ^ c ≤ 8192 := by
      have : 2 ^ c ≤ 2 ^ 13 := Nat.pow_le_pow_right (by decide) (by omega)
      exact this
    refine ok_ite (fun d => hK _ _ _ hN h9 y0 (by omega)) (fun d => ?_)
    have d1 := mt Int32.le_iff_toInt_le.mpr d
    rw [li_0] at d1
    have e1 := dec32 (x := x) (by omega)
    refine ok_oC2 (s_X7_nextBit u hh hN.2.2.1 h9) (fun v r hv => ?_)
    have r01 : 0 ≤ r.toInt ∧ r.toInt ≤ 1 := by
      rcases hv.2.2.1 with q | q
      · have q : r = 0 := q
        rw [q]; decide
      · have q : r = 1 := q
        rw [q]; decide
    have e2 : ((2 : Int32) * y).toInt = 2 * y.toInt := by rw [mul32 (by rw [li_2]; omega) (by rw [li_2]; omega), li_2]
    have e3 : (((2 : Int32) * y) + r).toInt = 2 * y.toInt + r.toInt := by rw [add32 (by rw [e2]; omega) (by rw [e2]; omega), e2]
    refine ok_bnd (ok_bnd (ih _ _ _ (c + 1) (by omega) (by omega) (by omega) (by omega) ?_ (hv.1.h14 hh) (hN.tr hv.1) hv.2.1))
    rw [Nat.pow_succ]
    omega

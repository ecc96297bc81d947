def RS (u v : OS) : Prop := (∀ j, j ≠ 22 → j ≠ 23 → j ≠ 25 → j ≠ 26 → j ≠ 27 → j ≠ 29 → v.1 j = u.1 j) ∧ (∀ j, j ≠ 24 → v.2.1 j = u.2.1 j) ∧ RP v ∧ (u.1 26).toInt ≤ (v.1 26).toInt ∧ (u.1 27).toInt ≤ (v.1 27).toInt ∧ (R29 u → R29 v)
theorem RS.rf {u : OS} (h : RP u) : RS u u := ⟨fun _ _ _ _ _ _ _ => rfl, fun _ _ => rfl, h, Int.le_refl _, Int.le_refl _, id⟩
theorem RS.tr {u v w : OS} (h1 : RS u v) (h2 : RS v w) : RS u w := ⟨fun k a b c d e f => (h2.1 k a b c d e f).trans (h1.1 k a b c d e f), fun k a => (h2.2.1 k a).trans (h1.2.1 k a), h2.2.2.1, Int.le_trans h1.2.2.2.1 h2.2.2.2.1, Int.le_trans h1.2.2.2.2.1 h2.2.2.2.2.1, fun r => h2.2.2.2.2.2 (h1.2.2.2.2.2 r)⟩
theorem NX.rs {u v : OS} (h : NX u v) : RS u v := ⟨fun k _ _ _ d e f => h.1 k d e f, fun k _ => by rw [h.2.1], h.2.2.1, h.2.2.2.1, h.2.2.2.2.1, h.2.2.2.2.2⟩
theorem LSD.rs {u v : OS} (h : LSD u v) (hr : RP u) : RS u v := by
  have e26 : v.1 26 = u.1 26 := h.1 26 (by decide) (by decide)
  have e27 : v.1 27 = u.1 27 := h.1 27 (by decide) (by decide)
  have e15 : v.1 15 = u.1 15 := h.1 15 (by decide) (by decide)
  have e29 : v.1 29 = u.1 29 := h.1 29 (by decide) (by decide)
  refine ⟨fun k a b _ _ _ _ => h.1 k a b, fun k _ => by rw [h.2], ?_, by rw [e26]; exact Int.le_refl _, by rw [e27]; exact Int.le_refl _, fun r => ?_⟩
  · unfold RP at *
    rw [e26, e27, e15]
    exact hr
  · unfold R29 at *
    rw [e26, e29]
    exact r
theorem RS.sL {u v : OS} {i : Nat} {x : Int32} {y : Int64} (h : RS u v) : RS u (sL v i x y) := h
def RK (k : Nat) (u : OS) : Prop := u.2.1 10 1 = nI k ∧ SH u 1 ((2 ^ k : Nat) : Int) ∧ LY u 1 ∧ (∀ i, i < 2 ^ k → NO u 1 (2 ^ k) i) ∧ R11 u ∧ H14 u
theorem RK.eq {k : Nat} {u v : OS} (h : RK k u) (e : ∀ j, j ≠ 24 → v.2.1 j = u.2.1 j) : RK k v := by
  unfold RK SH LY NO R11 H14 shr at *
  rw [e 10 (by decide), e 8 (by decide), e 9 (by decide), e 12 (by decide), e 11 (by decide), e 14 (by decide)]
  exact h
theorem RS.rk {k : Nat} {u v : OS} (h : RS u v) (g : RK k u) : RK k v := g.eq h.2.1
theorem s_X7_isInSpan (u : OS) (y : Int64) {k : Nat} (h1 : 5 ≤ k) (h2 : k ≤ 12) (hl : u.2.1 10 1 = nI k) : ok (f_X7_isInSpan u y) (fun r => r ≠ 0 → u.1 30 = 2 → ((2 ^ k : Nat) : Int) ≤ y.toInt ∧ y.toInt < 2 * ((2 ^ k : Nat) : Int)) := by
  have e10 : u.2.1 10 ((1 : Int32)).toNatClampNeg = nI k := hl
  have o := one_k k (by omega)
  have n0 : ∀ P : Prop, (0 : Int32) ≠ 0 → P := fun P q => absurd rfl q
  unfold f_X7_isInSpan
  rw [e10]
  refine ok_ite (fun c => ok_ite (fun _ => ok_some (fun q => n0 _ q)) (fun _ => ok_some (fun _ q => ?_))) (fun c => ok_ite (fun c2 => ok_gdi (by decide) (by decide) (ok_ite (fun d1 => ok_some (fun q => n0 _ q)) (fun d1 => ok_gdi (by decide) (by decide) (ok_ite (fun d2 => ok_some (fun q => n0 _ q)) (fun d2 => ok_some (fun _ _ => ?_)))))) (fun c2 => ok_ite (fun _ => ok_some (fun q => n0 _ q)) (fun _ => ok_ite (fun _ => ok_some (fun q => n0 _ q)) (fun _ => ok_some (fun _ q => absurd q c2)))))
  · rw [c] at q
    exact absurd q (by decide)
  · have x1 := mt Int64.lt_iff_toInt_lt.mpr d1
    have x2 := mt Int64.le_iff_toInt_le.mpr d2
    rw [o.1] at x1
    rw [o.2] at x2
    omega
theorem s_X7_signOf_L2 (u : OS) (p : Int32) {k : Nat} (h2 : k ≤ 12) (hS : SH u 1 ((2 ^ k : Nat) : Int)) (hL : LY u 1) (hp : p.toInt < ((2 ^ k : Nat) : Int)) {Q : Int32 → Prop} (K : Int32 → Option Int32) (hK : ∀ x, 0 ≤ x.toInt → x.toInt < 32 → ok (K x) Q) : ∀ (n : Nat) (x : Int32), 0 ≤ x.toInt → x.toInt < 32 → (32 - x.toInt).toNat < n → ok (f_X7_signOf_L2 u p n K x) Q := by
  intro n
  induction n with
  | zero => intro x _ _ hn; omega
  | succ n ih =>
    intro x hx hx2 hn
    have e32 : ((32 : Int32) + x).toInt = 32 + x.toInt := by rw [add32 (by rw [li_32]; omega) (by rw [li_32]; omega), li_32]
    have en : ((32 : Int32) + x).toNatClampNeg = 32 * 1 + x.toInt.toNat := by
      show ((32 : Int32) + x).toInt.toNat = _
      omega
    have e9 := hL x.toInt.toNat (by omega)
    have e8 := hS.1 x.toInt.toNat (by omega)
    have el := psum_el hS.1 (s := x.toInt.toNat) (by omega)
    rw [hS.2] at el
    have pk : 2 ^ k ≤ 4096 := by
      have : 2 ^ k ≤ 2 ^ 12 := Nat.pow_le_pow_right (by decide) h2
      exact this
    have es : ((u.2.1 9 ((32 : Int32) + x).toNatClampNeg) + (u.2.1 8 ((32 : Int32) + x).toNatClampNeg)).toInt = psum (shr u 1) x.toInt.toNat + (shr u 1 x.toInt.toNat).toInt := by
      rw [en, add32 (by rw [e9]; show _ ≤ _ + (shr u 1 x.toInt.toNat).toInt; omega) (by rw [e9]; show _ + (shr u 1 x.toInt.toNat).toInt < _; omega), e9]
      rfl
    unfold f_X7_signOf_L2
    refine ok_gdi (by omega) (by omega) (ok_gdi (by omega) (by omega) (ok_ite (fun _ => hK _ hx hx2) (fun c => ok_bnd ?_)))
    have c1 := mt Int32.lt_iff_toInt_lt.mpr c
    rw [es] at c1
    have x31 : x.toInt < 31 := by
      rcases Int.lt_or_le x.toInt 31 with q | q
      · exact q
      · exfalso
        have ex : x.toInt.toNat = 31 := by omega
        have e3 : psum (shr u 1) 32 = psum (shr u 1) 31 + (shr u 1 31).toInt := rfl
        rw [hS.2] at e3
        rw [ex] at c1
        omega
    have e1 := inc32 (x := x) (by omega)
    exact ih _ (by omega) (by omega) (by omega)
theorem s_X7_signOf (u : OS) (p : Int32) {k : Nat} (h2 : k ≤ 12) (hS : SH u 1 ((2 ^ k : Nat) : Int)) (hL : LY u 1) (hp : p.toInt < ((2 ^ k : Nat) : Int)) : ok (f_X7_signOf u p) (fun x => 0 ≤ x.toInt ∧ x.toInt < 32) := by
  unfold f_X7_signOf
  exact ok_bnd (s_X7_signOf_L2 u p h2 hS hL hp _ (fun x a b => ok_some ⟨a, b⟩) FU _ (by decide) (by decide) (by decide))
def MS (u : OS) : Nat := ((u.1 15).toInt - (u.1 26).toInt).toNat + if (u.1 27).toInt = 0 then 1 else 0
theorem MS.lt {u v : OS} (h : RP u) (hz : (u.1 27).toInt = 0) (hN : NX u v) (hg : 1 ≤ (v.1 27).toInt ∨ (u.1 26).toInt + 1 ≤ (v.1 26).toInt) : MS v < MS u := by
  have e15 : v.1 15 = u.1 15 := hN.1 15 (by decide) (by decide) (by decide)
  have hv := hN.2.2.1
  have m := hN.2.2.2.1
  obtain ⟨a, b, c, d⟩ := h
  obtain ⟨a', b', c', d'⟩ := hv
  unfold MS
  rw [e15] at *
  rw [if_pos hz]
  rcases hg with q | q
  · rw [if_neg (by omega)]
    omega
  · by_cases z : (v.1 27).toInt = 0
    · rw [if_pos z]; omega
    · rw [if_neg z]; omega
theorem MS.le {u : OS} (h : RP u) : MS u < FU := by
  obtain ⟨a, b, c, d⟩ := h
  show MS u < 100000
  unfold MS
  by_cases z : (u.1 27).toInt = 0
  · rw [if_pos z]; omega
  · rw [if_neg z]; omega
theorem z27 {u : OS} (c : u.1 27 = (0 : Int32)) : (u.1 27).toInt = 0 := by rw [c, li_0]
theorem s_X7_readBytes_L39 (u0 : OS) {Q : OS → Prop} (K : Int64 → OS → Option OS) (hK : ∀ y u, NX u0 u → ok (K y u) Q) : ∀ (n : Nat) (y : Int64) (u : OS), MS u < n → H14 u → NX u0 u → ok (f_X7_readBytes_L39 n K y u) Q := by
  intro n
  induction n with
  | zero => intro y u hn; omega
  | succ n ih =>
    intro y u hn hh hN
    unfold f_X7_readBytes_L39
    refine ok_ite (fun _ => hK _ _ hN) (fun _ => ok_ite (fun c => ok_oC2 (s_X7_next u hh hN.2.2.1) (fun v r hv => ok_bnd (ih _ _ ?_ (hv.1.h14 hh) (hN.tr hv.1)))) (fun _ => hK _ _ hN))
    have := MS.lt hN.2.2.1 (z27 c) hv.1 (by rcases hv.2.2.2 with q | q; exact Or.inl q; exact Or.inr (Int.le_of_eq q.symm))
    have this : MS v < MS u := this
    omega
theorem s_X7_readBytes (u : OS) (p1 a b : Int32) (l0 : 0 ≤ p1.toInt) (l1 : p1.toInt < 4) (hh : H14 u) (h : RP u) : ok (f_X7_readBytes u p1 a b) (fun v => RS u v ∧ v.1 25 = u.1 25) := by
  unfold f_X7_readBytes
  refine ok_gdi l0 (by omega) (ok_bnd (ok_gdi (by decide) (by decide) (ok_bnd (ok_bnd (ok_bnd (s_X7_readBytes_L39 u _ ?_ FU _ _ (MS.le h) hh (NX.rf h)))))))
  intro y v hv
  have e := hv.1 25 (by decide) (by decide) (by decide)
  exact ok_ite (fun _ => ok_gdi l0 (by omega) (ok_bnd (ok_some ⟨hv.rs.sL, e⟩))) (fun _ => ok_some ⟨hv.rs, e⟩)
theorem s_X7_readWords_L39 (u0 : OS) {Q : OS → Prop} (K : Int64 → OS → Option OS) (hK : ∀ y u, NX u0 u → ok (K y u) Q) : ∀ (n : Nat) (y : Int64) (u : OS), MS u < n → H14 u → NX u0 u → ok (f_X7_readWords_L39 n K y u) Q := by
  intro n
  induction n with
  | zero => intro y u hn; omega
  | succ n ih =>
    intro y u hn hh hN
    unfold f_X7_readWords_L39
    refine ok_ite (fun _ => hK _ _ hN) (fun _ => ok_ite (fun c => ok_oC2 (s_X7_nextWide u 4 (by decide) (by decide) hh hN.2.2.1) (fun v r hv => ok_bnd (ih _ _ ?_ (hv.1.h14 hh) (hN.tr hv.1)))) (fun _ => hK _ _ hN))
    have := MS.lt hN.2.2.1 (z27 c) hv.1 (by
      rcases hv.2.2.1 with q | q
      · exact Or.inl q
      · rw [li_4] at q
        exact Or.inr (by omega))
    have this : MS v < MS u := this
    omega
theorem s_X7_readWords (u : OS) (p1 a b : Int32) (l0 : 0 ≤ p1.toInt) (l1 : p1.toInt < 4) (hh : H14 u) (h : RP u) : ok (f_X7_readWords u p1 a b) (fun v => RS u v ∧ v.1 25 = u.1 25) := by
  unfold f_X7_readWords
  refine ok_gdi l0 (by omega) (ok_bnd (ok_gdi (by decide) (by decide) (ok_bnd (ok_bnd (ok_bnd (s_X7_readWords_L39 u _ ?_ FU _ _ (MS.le h) hh (NX.rf h)))))))
  intro y v hv
  have e := hv.1 25 (by decide) (by decide) (by decide)
  exact ok_ite (fun _ => ok_gdi l0 (by omega) (ok_bnd (ok_some ⟨hv.rs.sL, e⟩))) (fun _ => ok_some ⟨hv.rs, e⟩)
theorem RS.h14 {u v : OS} (h : RS u v) (hh : H14 u) : H14 v := by
  unfold H14 at *
  rw [h.2.1 14 (by decide)]
  exact hh
set_option maxHeartbeats 1000000 in
theorem s_X7_readSides_L14 {p1 x2 : Int32} (l0 : 0 ≤ p1.toInt) (l1 : p1.toInt < 4) (hx2 : 2 ≤ x2.toInt) (u0 : OS) (hh : H14 u0) {Q : OS × Int32 → Prop} (K : Int32 → Int32 → OS → Option (OS × Int32)) (hK : ∀ a b u, RS u0 u → u.1 25 = u0.1 25 → ok (K a b u) Q) : ∀ (n : Nat) (x y : Int32) (u : OS), 0 ≤ x.toInt → x.toInt ≤ 5 → (5 - x.toInt).toNat < n → RS u0 u → u.1 25 = u0.1 25 → ok (f_X7_readSides_L14 p1 x2 n K x y u) Q := by
  intro n
  induction n with
  | zero => intro x y u _ _ hn; omega
  | succ n ih =>
    intro x y u hx hx5 hn hR e25
    unfold f_X7_readSides_L14
    refine ok_ite (fun _ => hK _ _ _ hR e25) (fun c => ok_ite (fun _ => ?_) (fun _ => hK _ _ _ hR e25))
    have c1 := mt Int32.le_iff_toInt_le.mpr c
    rw [li_5] at c1
    have e1 := inc32 (x := x) (by omega)
    have m1 : 0 ≤ (x + (1 : Int32)).toInt ∧ (x + (1 : Int32)).toInt ≤ 5 ∧ (5 - (x + (1 : Int32)).toInt).toNat < n := by
      clear hK ih
      omega
    refine ok_oC1 (s_X7_laySides u _ x (p := 1) (by decide) (by decide)) (fun v hv => ok_bnd ?_)
    have hRv := hR.tr (hv.rs hR.2.2.1)
    have e25v : v.1 25 = u0.1 25 := (hv.1 25 (by decide) (by decide)).trans e25
    have go : ∀ (a : Int32) (w : OS), RS u0 w → w.1 25 = u0.1 25 → ok (bnd (((2 : Int32) * y) + a) fun x19 => bnd (x + (1 : Int32)) fun x20 => f_X7_readSides_L14 p1 x2 n K x20 x19 w) Q := fun a w hw ew => ok_bnd (ok_bnd (ih _ _ _ m1.1 m1.2.1 m1.2.2 hw ew))
    have key : ∀ a : Int32, ok (bnd (fun (x16 : Int32) (u17 : OS) =>
    bnd (((2 : Int32) * y) + x16) fun x19 =>
    bnd (x + (1 : Int32)) fun x20 =>
    f_X7_readSides_L14 p1 x2 n K x20 x19 u17) fun K129_18 =>
    if (v.1 23) ≤ (0 : Int32) then (
    K129_18 a v) else (
    if (v.1 22) ≤ (v.1 23) then (
    K129_18 a v) else (
    oC1 (f_X7_sideChance v x2) fun r23 =>
    gdi p1 4 <|
    bnd (fun (x26 : Int32) =>
    bnd (fun (x28 : Int32) =>
    bnd (fun (x30 : Int32) =>
    oC1 (f_X7_readBytes v p1 x28 x30) fun u32 =>
    K129_18 x26 u32) fun K126_31 =>
    if x26 = (0 : Int32) then (
    K126_31 (0 : Int32)) else (
    K126_31 r23)) fun K115_29 =>
    if x26 = (0 : Int32) then (
    K115_29 r23) else (
    K115_29 (x2 - r23))) fun K97_27 =>
    if (r23).toInt64 ≤ ((v.2.2.1 33 (p1).toNatClampNeg) &&& ((x2 - (1 : Int32))).toInt64) then (
    K97_27 (1 : Int32)) else (
    K97_27 (0 : Int32))))) Q := by
      intro a
      refine ok_bnd (ok_ite (fun _ => go a v hRv e25v) (fun d => ok_ite (fun _ => go a v hRv e25v) (fun d2 => ?_)))
      have hz : (v.1 22).toInt ≠ 0 := by
        clear hK ih
        have q1 := mt Int32.le_iff_toInt_le.mpr d
        have q2 := mt Int32.le_iff_toInt_le.mpr d2
        rw [li_0] at q1
        omega
      refine ok_oC1 (s_X7_sideChance v x2 hx2 hz) (fun r hr => ok_gdi l0 (by clear hK ih; omega) (ok_bnd ?_))
      have rb : ∀ a b c : Int32, ok (oC1 (f_X7_readBytes v p1 a b) fun u32 => bnd (((2 : Int32) * y) + c) fun x19 => bnd (x + (1 : Int32)) fun x20 => f_X7_readSides_L14 p1 x2 n K x20 x19 u32) Q := fun a b c => ok_oC1 (s_X7_readBytes v p1 a b l0 l1 (hRv.h14 hh) hRv.2.2.1) (fun w hw => go c w (hRv.tr hw.1) (hw.2.trans e25v))
      exact ok_ite (fun _ => ok_bnd (ok_ite (fun _ => ok_bnd (ok_ite (fun _ => rb _ _ _) (fun _ => rb _ _ _))) (fun _ => ok_bnd (ok_ite (fun _ => rb _ _ _) (fun _ => rb _ _ _))))) (fun _ => ok_bnd (ok_ite (fun _ => ok_bnd (ok_ite (fun _ => rb _ _ _) (fun _ => rb _ _ _))) (fun _ => ok_bnd (ok_ite (fun _ => rb _ _ _) (fun _ => rb _ _ _)))))
    exact ok_ite (fun _ => key _) (fun _ => key _)
theorem s_X7_readSides (u : OS) (p1 : Int32) {k : Nat} (h1 : 5 ≤ k) (h2 : k ≤ 12) (hl : u.2.1 10 1 = nI k) (l0 : 0 ≤ p1.toInt) (l1 : p1.toInt < 4) (hh : H14 u) (h : RP u) : ok (f_X7_readSides u p1) (fun q => RS u q.1 ∧ q.1.1 25 = u.1 25) := by
  have e10 : u.2.1 10 ((1 : Int32)).toNatClampNeg = nI k := hl
  have sk := sk32 h1 h2 e10
  have ak := (powA k (by omega) h1).2.2.2.2.2
  unfold f_X7_readSides
  exact ok_gdi (by decide) (by decide) (ok_bnd (ok_bnd (s_X7_readSides_L14 l0 l1 (by rw [sk]; omega) u hh _ (fun a b v hv e => ok_some ⟨hv, e⟩) FU _ _ _ (by decide) (by decide) (by decide) (RS.rf h) rfl)))

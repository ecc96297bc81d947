theorem bndW {p2 : Int32} {k : Nat} (h1 : 5 ≤ k) (h2 : k ≤ 12) (hp : 1 ≤ p2.toInt) (hp2 : p2.toInt < ((2 ^ k : Nat) : Int)) : (((1 : Int64) <<< ((((63 : Int32) - nI k)).toInt64 &&& (63 : Int64))) * (p2).toInt64).toInt = ((2 ^ (63 - k) : Nat) : Int) * p2.toInt ∧ 2251799813685248 ≤ ((2 ^ (63 - k) : Nat) : Int) * p2.toInt := by
  obtain ⟨-, -, -, a4, a5, a6, a7⟩ := powA k (by omega) h1
  have o : ((1 : Int64)).toInt = 1 := by decide
  have a8 : 2 ^ (63 - k) * 2 ≤ 2 ^ (63 - k) * 2 ^ k := Nat.mul_le_mul_left _ (by omega)
  have e : ((1 : Int64) <<< ((((63 : Int32) - nI k)).toInt64 &&& (63 : Int64))).toInt = ((2 ^ (63 - k) : Nat) : Int) := by
    rw [shl64 1 _ (63 - k) (la_2 k (by omega)) (by decide) (by rw [o]; omega), o, Int.one_mul]
  have m1 : ((2 ^ (63 - k) : Nat) : Int) * 1 ≤ ((2 ^ (63 - k) : Nat) : Int) * p2.toInt := Int.mul_le_mul_of_nonneg_left hp (by omega)
  have m2 : ((2 ^ (63 - k) : Nat) : Int) * p2.toInt < ((2 ^ (63 - k) : Nat) : Int) * ((2 ^ k : Nat) : Int) := Int.mul_lt_mul_of_pos_left hp2 (by omega)
  rw [← Int.natCast_mul, a4] at m2
  refine ⟨?_, by omega⟩
  rw [mul64 (by rw [e, tl32]; omega) (by rw [e, tl32]; omega), e, tl32]
set_option maxHeartbeats 4000000 in
theorem s_X7_writeWords_L8 {g : GH} {p2 : Int32} {k : Nat} (h1 : 5 ≤ k) (h2 : k ≤ 12) (hp : 1 ≤ p2.toInt) (hp2 : p2.toInt < ((2 ^ k : Nat) : Int)) (u0 : OS) (hl : u0.1 0 = nI k) (hs0 : 0 ≤ (u0.1 20).toInt) (hs1 : (u0.1 20).toInt + 1 ≤ 70000) {Q : OS → Prop} (K : Int64 → OS → Option OS)
    (hK : ∀ y u, IM g u → WS u0 u → 0 ≤ y.toInt → y.toInt < ((2 ^ (63 - k) : Nat) : Int) * p2.toInt → (u0.1 20).toInt ≤ (u.1 20).toInt → (u.1 20).toInt ≤ (u0.1 20).toInt + 1 → ok (K y u) Q) :
    ∀ (n c : Nat) (y : Int64) (u : OS), 1 - c < n → c ≤ 1 → IM g u → WS u0 u → 0 ≤ y.toInt → (c = 1 → y.toInt < 2147483648) → (u.1 20).toInt = (u0.1 20).toInt + c → ok (f_X7_writeWords_L8 p2 n K y u) Q := by
  intro n
  induction n with
  | zero => intro c y u hn; omega
  | succ n ih =>
    intro c y u hn hc h hW hy0 hy1 hst
    have b := bndW h1 h2 hp hp2
    unfold f_X7_writeWords_L8
    have el : u.1 0 = nI k := by rw [hW.1 0 (by decide), hl]
    rw [el]
    refine ok_ite (fun d => hK _ _ h hW hy0 ?_ (by omega) (by omega)) (fun d => ?_)
    · have := Int64.lt_iff_toInt_lt.mp d
      omega
    · have d1 := mt Int64.lt_iff_toInt_lt.mpr d
      have c2 : c = 0 := by
        rcases (show c = 0 ∨ c = 1 by omega) with q | q
        · exact q
        · have := hy1 q
          omega
      have e1 := inc32 (x := u.1 20) (by omega)
      have e2 := ushr64 y hy0
      have e3 := i64_hi y
      refine ok_gdi (by omega) (by omega) (ok_bnd (ok_bnd (ok_bnd (ih (c + 1) _ _ (by omega) (by omega) h hW.push (by omega) (by omega) ?_))))
      show (u.1 20 + (1 : Int32)).toInt = _
      omega
set_option maxHeartbeats 4000000 in
theorem s_X7_writeWords {g : GH} (u : OS) (p1 p2 p3 : Int32) {k : Nat} (h : IM g u) (h1 : 5 ≤ k) (h2 : k ≤ 12) (hl : u.1 0 = nI k) (l0 : 0 ≤ p1.toInt) (l1 : p1.toInt < 4) (hp : 1 ≤ p2.toInt) (hq : 0 ≤ p3.toInt) (hp2 : p2.toInt < ((2 ^ k : Nat) : Int)) (hpq : p2.toInt + p3.toInt ≤ ((2 ^ k : Nat) : Int)) (hs0 : 0 ≤ (u.1 20).toInt) (hs1 : (u.1 20).toInt + 1 ≤ 70000) (hS : ST u 0 9223372036854775808) :
    ok (f_X7_writeWords u p1 p2 p3) (fun v => IM g v ∧ WV u v ∧ ST v 0 9223372036854775808 ∧ (u.1 20).toInt ≤ (v.1 20).toInt ∧ (v.1 20).toInt ≤ (u.1 20).toInt + 1) := by
  obtain ⟨a1, a2, a3, a4, a5, a6, a7⟩ := powA k (by omega) h1
  have st := hS p1.toNatClampNeg (by show p1.toInt.toNat < 4; omega)
  unfold f_X7_writeWords
  refine ok_gdi l0 (by omega) (ok_bnd (ok_bnd (s_X7_writeWords_L8 h1 h2 hp hp2 u hl hs0 hs1 _ ?_ FU 0 _ _ (by decide) (by decide) h WS.rf st.1 (fun q => absurd q (by decide)) (by omega))))
  intro y v hv hW y0 y1 s0 s1
  have el : v.1 0 = nI k := by rw [hW.1 0 (by decide), hl]
  have sp := span (q := p2.toInt) (r := p3.toInt) (A := ((2 ^ (63 - k) : Nat) : Int)) (B := ((2 ^ k : Nat) : Int)) (M := 9223372036854775808) (by omega) (by omega) y0 y1 (by rw [← Int.natCast_mul, a4]; rfl) hq hpq
  have hz : p2.toInt64.toInt ≠ 0 := by rw [tl32]; omega
  have f0 : 0 ≤ y.toInt / p2.toInt := Int.ediv_nonneg y0 (by omega)
  have f1 : 0 ≤ y.toInt / p2.toInt * ((2 ^ k : Nat) : Int) := Int.mul_nonneg f0 (by omega)
  have f2 : 0 ≤ y.toInt % p2.toInt := Int.emod_nonneg _ (by omega)
  have e1 : (y / p2.toInt64).toInt = y.toInt / p2.toInt := by rw [div64 y0 (by rw [tl32]; omega), tl32]
  have e2 : (y - y / p2.toInt64 * p2.toInt64).toInt = y.toInt % p2.toInt := by rw [rem64 y0 (by rw [tl32]; omega), tl32]
  have e3 : ((y / p2.toInt64) <<< ((nI k).toInt64 &&& (63 : Int64))).toInt = y.toInt / p2.toInt * ((2 ^ k : Nat) : Int) := by
    rw [shl64 _ _ k (la_3 k (by omega)) (by rw [e1]; exact f0) (by rw [e1]; omega), e1]
  have e4 : (((y / p2.toInt64) <<< ((nI k).toInt64 &&& (63 : Int64))) + (y - y / p2.toInt64 * p2.toInt64)).toInt = y.toInt / p2.toInt * ((2 ^ k : Nat) : Int) + y.toInt % p2.toInt := by
    rw [add64 (by rw [e3, e2]; omega) (by rw [e3, e2]; omega), e3, e2]
  have e5 : ((((y / p2.toInt64) <<< ((nI k).toInt64 &&& (63 : Int64))) + (y - y / p2.toInt64 * p2.toInt64)) + p3.toInt64).toInt = y.toInt / p2.toInt * ((2 ^ k : Nat) : Int) + y.toInt % p2.toInt + p3.toInt := by
    rw [add64 (by rw [e4, tl32]; omega) (by rw [e4, tl32]; omega), e4, tl32]
  refine ok_gdzl hz (ok_gdzl hz (ok_gdi l0 (by omega) ?_))
  rw [el]
  refine ok_bnd (ok_some ⟨hv, hW.wv.setL, ST.set ?_ (by rw [e5]; omega) (by rw [e5]; omega), s0, s1⟩)
  intro j hj
  have : v.2.2 = u.2.2 := hW.2.2
  rw [this]
  exact hS j hj
def cap2 (c : Nat) : Int := ((2 ^ (13 - c) : Nat) : Int)
theorem cap2_s (c : Nat) (h : c < 13) : cap2 c = 2 * cap2 (c + 1) := by
  unfold cap2
  rw [show 13 - c = (13 - (c + 1)) + 1 by omega, Nat.pow_succ]
  omega
set_option maxHeartbeats 4000000 in
theorem s_X7_writeBitsOf_L8 {g : GH} {p2 : Int32} (hp : 1 ≤ p2.toInt) (hp2 : p2.toInt ≤ 4096) (u0 : OS) (hs0 : 0 ≤ (u0.1 20).toInt) (hs1 : (u0.1 20).toInt + 12 ≤ 70000) {Q : OS → Prop} (K : Int64 → OS → Option OS)
    (hK : ∀ y u, IM g u → WS u0 u → p2.toInt ≤ y.toInt → y.toInt < 2 * p2.toInt → (u0.1 20).toInt ≤ (u.1 20).toInt → (u.1 20).toInt ≤ (u0.1 20).toInt + 12 → ok (K y u) Q) :
    ∀ (n c : Nat) (y : Int64) (u : OS), 12 - c < n → c ≤ 12 → IM g u → WS u0 u → p2.toInt ≤ y.toInt → y.toInt < cap2 c → (u.1 20).toInt = (u0.1 20).toInt + c → ok (f_X7_writeBitsOf_L8 p2 n K y u) Q := by
  intro n
  induction n with
  | zero => intro c y u hn; omega
  | succ n ih =>
    intro c y u hn hc h hW hy0 hy1 hst
    have e0 : ((2 : Int64) * (p2).toInt64).toInt = 2 * p2.toInt := by
      have o : ((2 : Int64)).toInt = 2 := by decide
      rw [mul64 (by rw [o, tl32]; omega) (by rw [o, tl32]; omega), o, tl32]
    unfold f_X7_writeBitsOf_L8
    refine ok_ite (fun d => hK _ _ h hW hy0 ?_ (by omega) (by omega)) (fun d => ?_)
    · have := Int64.lt_iff_toInt_lt.mp d
      omega
    · have d1 := mt Int64.lt_iff_toInt_lt.mpr d
      have c2 : c < 12 := by
        rcases Nat.lt_or_ge c 12 with q | q
        · exact q
        · have : c = 12 := by omega
          subst this
          have : cap2 12 = 2 := by decide
          omega
      have e1 := inc32 (x := u.1 20) (by omega)
      have e2 := shr64 y ((((1 : Int32)).toInt64 &&& (63 : Int64))) 1 sh_1
      have e3 : ((2 ^ 1 : Nat) : Int) = 2 := by decide
      rw [e3] at e2
      have hc8 := cap2_s c (by omega)
      refine ok_gdi (by omega) (by omega) (ok_bnd (ok_bnd (ok_bnd (ih (c + 1) _ _ (by omega) (by omega) h hW.push (by omega) (by omega) ?_))))
      show (u.1 20 + (1 : Int32)).toInt = _
      omega
theorem one_k : ∀ k : Nat, k < 13 → ((1 : Int64) <<< ((nI k).toInt64 &&& (63 : Int64))).toInt = ((2 ^ k : Nat) : Int) ∧ ((2 : Int64) <<< ((nI k).toInt64 &&& (63 : Int64))).toInt = 2 * ((2 ^ k : Nat) : Int) := by decide
set_option maxHeartbeats 4000000 in
theorem s_X7_writeBitsOf {g : GH} (u : OS) (p1 p2 p3 : Int32) {k : Nat} (h : IM g u) (h1 : 5 ≤ k) (h2 : k ≤ 12) (hl : u.1 0 = nI k) (l0 : 0 ≤ p1.toInt) (l1 : p1.toInt < 4) (hp : 1 ≤ p2.toInt) (hq : 0 ≤ p3.toInt) (hpq : p2.toInt + p3.toInt ≤ ((2 ^ k : Nat) : Int)) (hs0 : 0 ≤ (u.1 20).toInt) (hs1 : (u.1 20).toInt + 12 ≤ 70000) (hS : ST u ((2 ^ k : Nat) : Int) (((2 ^ k : Nat) : Int) + 4096)) :
    ok (f_X7_writeBitsOf u p1 p2 p3) (fun v => IM g v ∧ WV u v ∧ ST v ((2 ^ k : Nat) : Int) (((2 ^ k : Nat) : Int) + 4096) ∧ (u.1 20).toInt ≤ (v.1 20).toInt ∧ (v.1 20).toInt ≤ (u.1 20).toInt + 12) := by
  obtain ⟨a1, a2, a3, a4, a5, a6, a7⟩ := powA k (by omega) h1
  have st := hS p1.toNatClampNeg (by show p1.toInt.toNat < 4; omega)
  have hc0 : cap2 0 = 8192 := by decide
  unfold f_X7_writeBitsOf
  refine ok_gdi l0 (by omega) (ok_bnd (ok_bnd (s_X7_writeBitsOf_L8 hp (by omega) u hs0 hs1 _ ?_ FU 0 _ _ (by decide) (by decide) h WS.rf (by omega) (by rw [hc0]; omega) (by omega))))
  intro y v hv hW y0 y1 s0 s1
  have el : v.1 0 = nI k := by rw [hW.1 0 (by decide), hl]
  have ey : y.toInt32.toInt = y.toInt := ti32 (by omega) (by omega)
  have e1 : (p3 + y.toInt32).toInt = p3.toInt + y.toInt := by rw [add32 (by rw [ey]; omega) (by rw [ey]; omega), ey]
  have e2 : ((p3 + y.toInt32) - p2).toInt = p3.toInt + y.toInt - p2.toInt := by rw [sub32 (by rw [e1]; omega) (by rw [e1]; omega), e1]
  have h13 := hv.2.2.2.2.2.2.2.2.2.2.2.2.2 ((p3 + y.toInt32) - p2).toNatClampNeg
  have ok1 := (one_k k (by omega)).1
  have e5 : (((1 : Int64) <<< ((nI k).toInt64 &&& (63 : Int64))) + (v.2.1 13 ((p3 + y.toInt32) - p2).toNatClampNeg).toInt64).toInt = ((2 ^ k : Nat) : Int) + (v.2.1 13 ((p3 + y.toInt32) - p2).toNatClampNeg).toInt := by
    rw [add64 (by rw [ok1, tl32]; omega) (by rw [ok1, tl32]; omega), ok1, tl32]
  refine ok_gdi (by omega) (by omega) (ok_gdi l0 (by omega) ?_)
  rw [el]
  refine ok_bnd (ok_some ⟨hv, hW.wv.setL, ST.set ?_ (by rw [e5]; omega) (by rw [e5]; omega), s0, s1⟩)
  intro j hj
  have : v.2.2 = u.2.2 := hW.2.2
  rw [this]
  exact hS j hj

def WS (u v : OS) : Prop := (∀ j, j ≠ 20 → v.1 j = u.1 j) ∧ (∀ j, j ≠ 19 → v.2.1 j = u.2.1 j) ∧ v.2.2 = u.2.2
theorem WS.rf {u : OS} : WS u u := ⟨fun _ _ => rfl, fun _ _ => rfl, rfl⟩
theorem WS.push {u v : OS} {i a b : Int32} (h : WS u v) : WS u (sF (sA v 19 i a) 20 b) := by
  refine ⟨fun j hj => ?_, fun j hj => ?_, h.2.2⟩
  · rw [← h.1 j hj]
    show va_up v.1 20 _ j = v.1 j
    unfold va_up
    rw [if_neg hj]
  · rw [← h.2.1 j hj]
    show va_up v.2.1 19 _ j = v.2.1 j
    unfold va_up
    rw [if_neg hj]
theorem powA : ∀ k : Nat, k < 13 → 5 ≤ k → 524288 ≤ 2 ^ (31 - k) ∧ 2 ^ (31 - k) ≤ 67108864 ∧ 2 ^ (31 - k) * 2 ^ k = 2147483648 ∧ 2 ^ (63 - k) * 2 ^ k = 9223372036854775808 ∧ 2251799813685248 ≤ 2 ^ (63 - k) ∧ 32 ≤ 2 ^ k ∧ 2 ^ k ≤ 4096 := by decide
theorem bndA {p2 : Int32} {k : Nat} (h1 : 5 ≤ k) (h2 : k ≤ 12) (hp : 1 ≤ p2.toInt) (hp2 : p2.toInt ≤ 4096) : (((1 : Int64) <<< ((((31 : Int32) - nI k)).toInt64 &&& (63 : Int64))) * (p2).toInt64).toInt = ((2 ^ (31 - k) : Nat) : Int) * p2.toInt ∧ 524288 ≤ ((2 ^ (31 - k) : Nat) : Int) * p2.toInt := by
  obtain ⟨a1, a2, -⟩ := powA k (by omega) h1
  have o : ((1 : Int64)).toInt = 1 := by decide
  have e : ((1 : Int64) <<< ((((31 : Int32) - nI k)).toInt64 &&& (63 : Int64))).toInt = ((2 ^ (31 - k) : Nat) : Int) := by
    rw [shl64 1 _ (31 - k) (la_1 k (by omega)) (by decide) (by rw [o]; omega), o, Int.one_mul]
  have m1 : ((2 ^ (31 - k) : Nat) : Int) * 1 ≤ ((2 ^ (31 - k) : Nat) : Int) * p2.toInt := Int.mul_le_mul_of_nonneg_left hp (by omega)
  have m2 : ((2 ^ (31 - k) : Nat) : Int) * p2.toInt ≤ ((2 ^ (31 - k) : Nat) : Int) * 4096 := Int.mul_le_mul_of_nonneg_left hp2 (by omega)
  refine ⟨?_, by omega⟩
  rw [mul64 (by rw [e, tl32]; omega) (by rw [e, tl32]; omega), e, tl32]
def cap8 (c : Nat) : Int := if c = 0 then 2147483648 else if c = 1 then 8388608 else 32768
set_option maxHeartbeats 4000000 in
theorem s_X7_writeBytes_L8 {g : GH} {p2 : Int32} {k : Nat} (h1 : 5 ≤ k) (h2 : k ≤ 12) (hp : 1 ≤ p2.toInt) (hp2 : p2.toInt ≤ 4096) (u0 : OS) (hl : u0.1 0 = nI k) (hs0 : 0 ≤ (u0.1 20).toInt) (hs1 : (u0.1 20).toInt + 2 ≤ 70000) {Q : OS → Prop} (K : Int64 → OS → Option OS)
    (hK : ∀ y u, IM g u → WS u0 u → 0 ≤ y.toInt → y.toInt < ((2 ^ (31 - k) : Nat) : Int) * p2.toInt → (u0.1 20).toInt ≤ (u.1 20).toInt → (u.1 20).toInt ≤ (u0.1 20).toInt + 2 → ok (K y u) Q) :
    ∀ (n c : Nat) (y : Int64) (u : OS), 2 - c < n → c ≤ 2 → IM g u → WS u0 u → 0 ≤ y.toInt → y.toInt < cap8 c → (u.1 20).toInt = (u0.1 20).toInt + c → ok (f_X7_writeBytes_L8 p2 n K y u) Q := by
  intro n
  induction n with
  | zero => intro c y u hn; omega
  | succ n ih =>
    intro c y u hn hc h hW hy0 hy1 hst
    have b := bndA h1 h2 hp hp2
    unfold f_X7_writeBytes_L8
    have el : u.1 0 = nI k := by rw [hW.1 0 (by decide), hl]
    rw [el]
    refine ok_ite (fun d => hK _ _ h hW hy0 ?_ (by omega) (by omega)) (fun d => ?_)
    · have := Int64.lt_iff_toInt_lt.mp d
      omega
    · have d1 := mt Int64.lt_iff_toInt_lt.mpr d
      have c2 : c < 2 := by
        rcases Nat.lt_or_ge c 2 with q | q
        · exact q
        · have : c = 2 := by omega
          subst this
          have : cap8 2 = 32768 := by decide
          omega
      have e1 := inc32 (x := u.1 20) (by omega)
      have e2 := shr64 y ((((8 : Int32)).toInt64 &&& (63 : Int64))) 8 sh_8
      have e3 : ((2 ^ 8 : Nat) : Int) = 256 := by decide
      rw [e3] at e2
      have hc8 : y.toInt / 256 < cap8 (c + 1) := by
        rcases (show c = 0 ∨ c = 1 by omega) with q | q
        · subst q
          have q1 : cap8 0 = 2147483648 := by decide
          have q2 : cap8 (0 + 1) = 8388608 := by decide
          omega
        · subst q
          have q1 : cap8 1 = 8388608 := by decide
          have q2 : cap8 (1 + 1) = 32768 := by decide
          omega
      refine ok_gdi (by omega) (by omega) (ok_bnd (ok_bnd (ok_bnd (ih (c + 1) _ _ (by omega) (by omega) h hW.push (by omega) (by omega) ?_))))
      show (u.1 20 + (1 : Int32)).toInt = _
      omega
def ST (u : OS) (a b : Int) : Prop := ∀ i, i < 4 → a ≤ (u.2.2.1 16 i).toInt ∧ (u.2.2.1 16 i).toInt < b
def WV (u v : OS) : Prop := (∀ j, j ≠ 20 → j ≠ 22 → j ≠ 23 → v.1 j = u.1 j) ∧ (∀ j, j ≠ 19 → v.2.1 j = u.2.1 j) ∧ (∀ j, j ≠ 16 → v.2.2.1 j = u.2.2.1 j)
theorem WV.rf {u : OS} : WV u u := ⟨fun _ _ _ _ => rfl, fun _ _ => rfl, fun _ _ => rfl⟩
theorem WV.tr {u v w : OS} (h1 : WV u v) (h2 : WV v w) : WV u w := ⟨fun k a b c => (h2.1 k a b c).trans (h1.1 k a b c), fun k a => (h2.2.1 k a).trans (h1.2.1 k a), fun k a => (h2.2.2 k a).trans (h1.2.2 k a)⟩
theorem ST.set {u : OS} {i : Int32} {v : Int64} {a b : Int} (h : ST u a b) (h1 : a ≤ v.toInt) (h2 : v.toInt < b) : ST (sL u 16 i v) a b := by
  intro j hj
  show a ≤ (vp_updL (u.2.2.1 16) i.toNatClampNeg v j).toInt ∧ (vp_updL (u.2.2.1 16) i.toNatClampNeg v j).toInt < b
  unfold vp_updL
  by_cases e : j = i.toNatClampNeg
  · rw [if_pos e]; exact ⟨h1, h2⟩
  · rw [if_neg e]; exact h j hj
theorem WV.setL {u v : OS} {i : Int32} {y : Int64} (h : WV u v) : WV u (sL v 16 i y) := by
  refine ⟨h.1, h.2.1, fun j hj => ?_⟩
  rw [← h.2.2 j hj]
  show va_up v.2.2.1 16 _ j = v.2.2.1 j
  unfold va_up
  rw [if_neg hj]
theorem WS.wv {u v : OS} (h : WS u v) : WV u v := ⟨fun j a _ _ => h.1 j a, h.2.1, fun j _ => by rw [h.2.2]⟩
set_option maxHeartbeats 4000000 in
theorem s_X7_writeBytes {g : GH} (u : OS) (p1 p2 p3 : Int32) {k : Nat} (h : IM g u) (h1 : 5 ≤ k) (h2 : k ≤ 12) (hl : u.1 0 = nI k) (l0 : 0 ≤ p1.toInt) (l1 : p1.toInt < 4) (hp : 1 ≤ p2.toInt) (hq : 0 ≤ p3.toInt) (hpq : p2.toInt + p3.toInt ≤ ((2 ^ k : Nat) : Int)) (hs0 : 0 ≤ (u.1 20).toInt) (hs1 : (u.1 20).toInt + 2 ≤ 70000) (hS : ST u 0 2147483648) :
    ok (f_X7_writeBytes u p1 p2 p3) (fun v => IM g v ∧ WV u v ∧ ST v 0 2147483648 ∧ (u.1 20).toInt ≤ (v.1 20).toInt ∧ (v.1 20).toInt ≤ (u.1 20).toInt + 2) := by
  obtain ⟨a1, a2, a3, a4, a5, a6, a7⟩ := powA k (by omega) h1
  have st := hS p1.toNatClampNeg (by show p1.toInt.toNat < 4; omega)
  have hc0 : cap8 0 = 2147483648 := by decide
  unfold f_X7_writeBytes
  refine ok_gdi l0 (by omega) (ok_bnd (ok_bnd (s_X7_writeBytes_L8 h1 h2 hp (by omega) u hl hs0 hs1 _ ?_ FU 0 _ _ (by decide) (by decide) h WS.rf st.1 (by rw [hc0]; exact st.2) (by omega))))
  intro y v hv hW y0 y1 s0 s1
  have el : v.1 0 = nI k := by rw [hW.1 0 (by decide), hl]
  have sp := span (q := p2.toInt) (r := p3.toInt) (A := ((2 ^ (31 - k) : Nat) : Int)) (B := ((2 ^ k : Nat) : Int)) (M := 2147483648) (by omega) (by omega) y0 y1 (by rw [← Int.natCast_mul, a3]; rfl) hq hpq
  have hz : p2.toInt64.toInt ≠ 0 := by rw [tl32]; omega
  have f0 : 0 ≤ y.toInt / p2.toInt := Int.ediv_nonneg y0 (by omega)
  have f1 : 0 ≤ y.toInt / p2.toInt * ((2 ^ k : Nat) : Int) := Int.mul_nonneg f0 (by omega)
  have f2 : 0 ≤ y.toInt % p2.toInt := Int.emod_nonneg _ (by omega)
  have e1 : (y / p2.toInt64).toInt = y.toInt / p2.toInt := by rw [div64 y0 (by rw [tl32]; omega), tl32]
  have e2 : (y - y / p2.toInt64 * p2.toInt64).toInt = y.toInt % p2.toInt := by rw [rem64 y0 (by rw [tl32]; omega), tl32]
  have e3 : ((y / p2.toInt64) <<< ((nI k).toInt64 &&& (63 : Int64))).toInt = y.toInt / p2.toInt * ((2 ^ k : Nat) : Int) := by
    rw [shl64 _ _ k (la_3 k (by omega)) (by rw [e1]; exact f0) (by rw [e1]; omega), e1]
  have e4 : (((y / p2.toInt64) <<< ((nI k).toInt64 &&& (63 : Int64))) + (y - y / p2.toInt64 * p2.toInt64)).toInt = y.toInt / p2.toInt * ((2 ^ k : Nat) : Int) + y.toInt % p2.toInt := by
    rw [add64 (by rw [e3, e2]; omega) (by rw [e3, e2]; omega), e3, e2]
  have e5 : ((((y / p2.toInt64) <<< ((nI k).toInt64 &&& (63 : Int64))) + (y - y / p2.toInt64 * p2.toInt64)) + p3.toInt64).toInt = y.toInt / p2.toInt * ((2 ^ k : Nat) : Int) + y.toInt % p2.toInt + p3.toInt := by
    rw [add64 (by rw [e4, tl32]; omega) (by rw [e4, tl32]; omega), e4, tl32]
  refine ok_gdzl hz (ok_gdzl hz (ok_gdi l0 (by omega) ?_))
  rw [el]
  refine ok_bnd (ok_some ⟨hv, hW.wv.setL, ST.set ?_ (by rw [e5]; omega) (by rw [e5]; omega), s0, s1⟩)
  intro j hj
  have : v.2.2 = u.2.2 := hW.2.2
  rw [this]
  exact hS j hj

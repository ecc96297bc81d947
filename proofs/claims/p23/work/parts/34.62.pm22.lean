theorem s_X7_readSign_L93 {x2 : Int32} {k : Nat} (h1 : 5 ≤ k) (h2 : k ≤ 12) (hl : x2 = nI k) (u0 : OS) {Q : OS → Prop} (K : Int64 → OS → Option OS) (hK : ∀ y u, NX u0 u → R29 u → y.toInt < 2 * ((2 ^ k : Nat) : Int) → (((2 ^ k : Nat) : Int) ≤ y.toInt ∨ (u.1 27).toInt ≠ 0) → ok (K y u) Q) : ∀ (n : Nat) (y : Int64) (u : OS) (c : Nat), 12 - c < n → c ≤ 12 → ((2 ^ c : Nat) : Int) ≤ y.toInt → y.toInt < 2 * ((2 ^ k : Nat) : Int) → H14 u → NX u0 u → R29 u → ok (f_X7_readSign_L93 x2 n K y u) Q := by
  intro n
  have ak := (powA k (by omega) h1).2.2.2.2.2
  have o := one_k k (by omega)
  induction n with
  | zero => intro y u c hn; omega
  | succ n ih =>
    intro y u c hn hc hy hy2 hh hN h9
    unfold f_X7_readSign_L93
    rw [hl]
    refine ok_ite (fun d => hK _ _ hN h9 hy2 (Or.inl ?_)) (fun d => ok_ite (fun d2 => ?_) (fun d2 => hK _ _ hN h9 hy2 (Or.inr ?_)))
    · have := Int64.le_iff_toInt_le.mp d
      rw [o.1] at this
      exact this
    · have d1 := mt Int64.le_iff_toInt_le.mpr d
      rw [o.1] at d1
      have c12 : c < 12 := by
        rcases Nat.lt_or_ge c 12 with q | q
        · exact q
        · have : c = 12 := by omega
          subst this
          exfalso
          have : ((2 ^ 12 : Nat) : Int) = 4096 := by decide
          omega
      refine ok_oC2 (s_X7_nextBit u hh hN.2.2.1 h9) (fun v r hv => ?_)
      have r01 : 0 ≤ r.toInt ∧ r.toInt ≤ 1 := by
        rcases hv.2.2.1 with q | q
        · have q : r = 0 := q
          rw [q]; decide
        · have q : r = 1 := q
          rw [q]; decide
      have o2 : ((2 : Int64)).toInt = 2 := by decide
      have y0 : 0 ≤ y.toInt := Int.le_trans (Int.natCast_nonneg _) hy
      have e2 : ((2 : Int64) * y).toInt = 2 * y.toInt := by rw [mul64 (by rw [o2]; omega) (by rw [o2]; omega), o2]
      have e3 : (((2 : Int64) * y) + r.toInt64).toInt = 2 * y.toInt + r.toInt := by rw [add64 (by rw [e2, tl32]; omega) (by rw [e2, tl32]; omega), e2, tl32]
      refine ok_bnd ?_
      have := ih (((2 : Int64) * y) + r.toInt64) v (c + 1) (by omega) (by omega) (by rw [e3, Nat.pow_succ]; omega) (by rw [e3]; omega) (hv.1.h14 hh) (hN.tr hv.1) hv.2.1
      rw [hl] at this
      exact this
    · have := ne32 d2
      rw [li_0] at this
      exact this
def SP (k : Nat) (u : OS) : Prop := u.1 30 = 2 → ∀ i : Nat, (i : Int) < (u.1 31).toInt → ((2 ^ k : Nat) : Int) ≤ (u.2.2.1 33 i).toInt ∧ (u.2.2.1 33 i).toInt < 2 * ((2 ^ k : Nat) : Int)
def R25 (u v : OS) : Prop := v.1 25 = u.1 25 ∨ (v.1 25).toInt = (u.1 25).toInt + 1
theorem SP.ne {k : Nat} {u : OS} (h : u.1 30 ≠ 2) : SP k u := fun q => absurd q h
theorem s_keep (x : Int32) (u v : OS) {k : Nat} (hv : RS u v) (e25 : v.1 25 = u.1 25) (h0 : 0 ≤ (u.1 25).toInt) (h1 : (u.1 25).toInt < 65535) (hs : SP k v) : ok (if (v.1 27) = (0 : Int32) then (
  gdi (v.1 25) 65536 <|
  bnd (sA v 24 (v.1 25) x) fun u8 =>
  bnd (sF u8 25 ((u8.1 25) + (1 : Int32))) fun u9 =>
  some u9) else (
  some v)) (fun w => RS u w ∧ R25 u w ∧ SP k w) := by
  have e1 := inc32 (x := u.1 25) (by omega)
  refine ok_ite (fun c => ok_gdi (by rw [e25]; exact h0) (by rw [e25]; omega) (ok_bnd (ok_bnd (ok_some ⟨hv.tr ⟨fun j a b c d e f => ?_, fun j a => ?_, hv.2.2.1, Int.le_refl _, Int.le_refl _, fun r => r⟩, Or.inr ?_, hs⟩)))) (fun c => ok_some ⟨hv, Or.inl e25, hs⟩)
  · exact va_ne (f := v.1) c
  · exact va_ne (f := v.2.1) a
  · show (v.1 25 + (1 : Int32)).toInt = _
    rw [e25, e1]
theorem mask64 (y : Int64) {k : Nat} (h2 : k ≤ 12) : ((y &&& (((1 : Int64) <<< ((nI k).toInt64 &&& (63 : Int64))) - (1 : Int64)))).toInt32.toInt < ((2 ^ k : Nat) : Int) := by
  have o := (one_k k (by omega)).1
  have o1 : ((1 : Int64)).toInt = 1 := by decide
  have pk : 2 ^ k ≤ 4096 := by
    have : 2 ^ k ≤ 2 ^ 12 := Nat.pow_le_pow_right (by decide) h2
    exact this
  have pp := Nat.two_pow_pos k
  have e : (((1 : Int64) <<< ((nI k).toInt64 &&& (63 : Int64))) - (1 : Int64)).toInt = ((2 ^ k : Nat) : Int) - 1 := by
    rw [sub64 (by rw [o, o1]; omega) (by rw [o, o1]; omega), o, o1]
  have a := and64 y (((1 : Int64) <<< ((nI k).toInt64 &&& (63 : Int64))) - (1 : Int64)) (by rw [e]; omega)
  rw [e] at a
  rw [ti32 (by omega) (by omega)]
  omega
set_option maxHeartbeats 1000000 in
theorem s_X7_readSign (u : OS) (p1 : Int32) {k : Nat} (h1 : 5 ≤ k) (h2 : k ≤ 12) (hK : RK k u) (h : RP u) (h9 : R29 u) (l0 : 0 ≤ p1.toInt) (l1 : p1.toInt < (u.1 31).toInt) (l2 : (u.1 31).toInt ≤ 4) (hs : SP k u) (c0 : 0 ≤ (u.1 25).toInt) (c1 : (u.1 25).toInt < 65535) : ok (f_X7_readSign u p1) (fun w => RS u w ∧ R25 u w ∧ SP k w) := by
  obtain ⟨hl, hS, hL, hO, h11, hh⟩ := hK
  have e10 : u.2.1 10 ((1 : Int32)).toNatClampNeg = nI k := hl
  have ak := (powA k (by omega) h1).2.2.2.2.2
  have sk := sk32 h1 h2 (rfl : nI k = nI k)
  have l4 : p1.toInt < (4 : Nat) := Int.lt_of_lt_of_le l1 l2
  have l4' : p1.toInt < 4 := l4
  unfold f_X7_readSign
  rw [e10]
  refine ok_gdi (by decide) (by decide) (ok_bnd (ok_bnd (ok_ite (fun f3 => ?_) (fun f3 => ok_ite (fun f2 => ?_) (fun f2 => ?_)))))
  · refine ok_oC2 (s_X7_readSides u p1 h1 h2 hl l0 l4' hh h) (fun v r hv => s_keep r u v hv.1 hv.2 c0 c1 (SP.ne ?_))
    have : v.1 30 = u.1 30 := hv.1.1 30 (by decide) (by decide) (by decide) (by decide) (by decide) (by decide)
    rw [this, f3]
    decide
  · have st := hs f2 p1.toNatClampNeg (by show ((p1.toInt.toNat : Nat) : Int) < _; rw [Int.toNat_of_nonneg l0]; exact l1)
    have et : (u.2.2.1 33 p1.toNatClampNeg).toInt32.toInt = (u.2.2.1 33 p1.toNatClampNeg).toInt := ti32 (by omega) (by omega)
    have ex : ((u.2.2.1 33 p1.toNatClampNeg).toInt32 - ((1 : Int32) <<< (nI k &&& (31 : Int32)))).toInt = (u.2.2.1 33 p1.toNatClampNeg).toInt - ((2 ^ k : Nat) : Int) := by
      rw [sub32 (by rw [et, sk]; omega) (by rw [et, sk]; omega), et, sk]
    refine ok_gdi l0 l4 (ok_bnd ?_)
    generalize ((u.2.2.1 33 p1.toNatClampNeg).toInt32 - ((1 : Int32) <<< (nI k &&& (31 : Int32)))) = x27 at ex
    have x0 : 0 ≤ x27.toInt := by omega
    have x1 : x27.toInt < ((2 ^ k : Nat) : Int) := by omega
    have e4 : ((4096 : Int32) + x27).toInt = 4096 + x27.toInt := by rw [add32 (by rw [li_4096]; omega) (by rw [li_4096]; omega), li_4096]
    have e4n : ((4096 : Int32) + x27).toNatClampNeg = 4096 * 1 + x27.toInt.toNat := by
      show ((4096 : Int32) + x27).toInt.toNat = _
      omega
    have g0 : 0 ≤ ((4096 : Int32) + x27).toInt := by omega
    have g1 : ((4096 : Int32) + x27).toInt < (8192 : Nat) := by omega
    have no := hO x27.toInt.toNat (by omega)
    unfold NO at no
    rw [← e4n] at no
    have r11 := h11 ((4096 : Int32) + x27).toNatClampNeg
    have e32 : ((32 : Int32) + u.2.1 11 ((4096 : Int32) + x27).toNatClampNeg).toInt = 32 + (u.2.1 11 ((4096 : Int32) + x27).toNatClampNeg).toInt := by rw [add32 (by rw [li_32]; omega) (by rw [li_32]; omega), li_32]
    refine ok_gdi g0 g1 (ok_bnd (ok_gdi g0 g1 (ok_bnd (ok_gdi (by omega) (by omega) (ok_bnd ?_)))))
    have nb := no.2
    have nb : (u.2.1 12 ((4096 : Int32) + x27).toNatClampNeg).toInt < 2 * ((2 ^ k : Nat) : Int) := by omega
    have key : ∀ x33 : Int32, ok (bnd (fun (y37 : Int64) (u38 : OS) =>
  bnd (fun (y40 : Int64) =>
  gdi p1 4 <|
  bnd (sL u38 33 p1 y40) fun u43 =>
  (fun (x3 : Int32) (u4 : OS) =>
  if (u4.1 27) = (0 : Int32) then (
  gdi (u4.1 25) 65536 <|
  bnd (sA u4 24 (u4.1 25) x3) fun u8 =>
  bnd (sF u8 25 ((u8.1 25) + (1 : Int32))) fun u9 =>
  some u9) else (
  some u4)) (u.2.1 11 ((4096 : Int32) + x27).toNatClampNeg) u43) fun K154_41 =>
  bnd (gdi p1 4 <|
  K154_41 (u38.2.2.1 33 (p1).toNatClampNeg)) fun K148_44 =>
  if (u38.1 27) = (0 : Int32) then (
  if x33 = (0 : Int32) then (
  K154_41 y37) else (
  K148_44)) else (
  K148_44)) fun K126_39 =>
  f_X7_readSign_L93 (nI k) FU K126_39 (u.2.1 12 ((4096 : Int32) + x27).toNatClampNeg).toInt64 u) (fun w => RS u w ∧ R25 u w ∧ SP k w) := by
      intro x33
      refine ok_bnd (s_X7_readSign_L93 h1 h2 rfl u _ ?_ FU _ _ 0 (by decide) (by decide) (by rw [tl32]; exact no.1) (by rw [tl32]; exact nb) hh (NX.rf h) h9)
      intro y v hv h9v y1 hor
      have e25 : v.1 25 = u.1 25 := hv.1 25 (by decide) (by decide) (by decide)
      have e31 : v.1 31 = u.1 31 := hv.1 31 (by decide) (by decide) (by decide)
      have el : v.2.2.1 = u.2.2.1 := by rw [hv.2.1]
      have put : ∀ y40 : Int64, ((2 ^ k : Nat) : Int) ≤ y40.toInt → y40.toInt < 2 * ((2 ^ k : Nat) : Int) → ok (gdi p1 4 <|
  bnd (sL v 33 p1 y40) fun u43 =>
  (fun (x3 : Int32) (u4 : OS) =>
  if (u4.1 27) = (0 : Int32) then (
  gdi (u4.1 25) 65536 <|
  bnd (sA u4 24 (u4.1 25) x3) fun u8 =>
  bnd (sF u8 25 ((u8.1 25) + (1 : Int32))) fun u9 =>
  some u9) else (
  some u4)) (u.2.1 11 ((4096 : Int32) + x27).toNatClampNeg) u43) (fun w => RS u w ∧ R25 u w ∧ SP k w) := by
        intro y40 q0 q1
        refine ok_gdi l0 l4 (ok_bnd (s_keep _ u (sL v 33 p1 y40) hv.rs.sL e25 c0 c1 ?_))
        intro _ i hi
        have hi : (i : Int) < (v.1 31).toInt := hi
        rw [e31] at hi
        show ((2 ^ k : Nat) : Int) ≤ (vp_updL (v.2.2.1 33) p1.toNatClampNeg y40 i).toInt ∧ (vp_updL (v.2.2.1 33) p1.toNatClampNeg y40 i).toInt < _
        unfold vp_updL
        by_cases q : i = p1.toNatClampNeg
        · rw [if_pos q]; exact ⟨q0, q1⟩
        · rw [if_neg q, el]
          exact hs f2 i hi
      have old : ok (gdi p1 4 <| (gdi p1 4 <|
  bnd (sL v 33 p1 (v.2.2.1 33 p1.toNatClampNeg)) fun u43 =>
  (fun (x3 : Int32) (u4 : OS) =>
  if (u4.1 27) = (0 : Int32) then (
  gdi (u4.1 25) 65536 <|
  bnd (sA u4 24 (u4.1 25) x3) fun u8 =>
  bnd (sF u8 25 ((u8.1 25) + (1 : Int32))) fun u9 =>
  some u9) else (
  some u4)) (u.2.1 11 ((4096 : Int32) + x27).toNatClampNeg) u43)) (fun w => RS u w ∧ R25 u w ∧ SP k w) := ok_gdi l0 l4 (put _ (by rw [el]; exact st.1) (by rw [el]; exact st.2))
      refine ok_bnd (ok_bnd (ok_ite (fun z => ok_ite (fun _ => put y ?_ y1) (fun _ => old)) (fun _ => old)))
      rcases hor with q | q
      · exact q
      · exact absurd (z27 z) q
    exact ok_ite (fun _ => key _) (fun _ => key _)
  · refine ok_gdi l0 l4 (ok_oC1 (s_X7_signOf u _ h2 hS hL (mask64 _ h2)) (fun r hr => ?_))
    have e32 : ((32 : Int32) + r).toInt = 32 + r.toInt := by rw [add32 (by rw [li_32]; omega) (by rw [li_32]; omega), li_32]
    have g0 : 0 ≤ ((32 : Int32) + r).toInt := by omega
    have g1 : ((32 : Int32) + r).toInt < (64 : Nat) := by omega
    have ne : ∀ v : OS, RS u v → v.1 30 ≠ 2 := by
      intro v hv
      rw [hv.1 30 (by decide) (by decide) (by decide) (by decide) (by decide) (by decide)]
      exact f2
    refine ok_gdi g0 g1 (ok_ite (fun _ => s_keep r u u (RS.rf h) rfl c0 c1 hs) (fun _ => ok_ite (fun _ => ok_gdi g0 g1 (ok_gdi g0 g1 (ok_oC1 (s_X7_readBytes u p1 _ _ l0 l4' hh h) (fun v hv => s_keep r u v hv.1 hv.2 c0 c1 (SP.ne (ne v hv.1)))))) (fun _ => ok_gdi g0 g1 (ok_gdi g0 g1 (ok_oC1 (s_X7_readWords u p1 _ _ l0 l4' hh h) (fun v hv => s_keep r u v hv.1 hv.2 c0 c1 (SP.ne (ne v hv.1))))))))

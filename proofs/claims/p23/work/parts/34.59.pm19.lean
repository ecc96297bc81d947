def RT (u v : OS) : Prop := (∀ k, k ≠ 26 → k ≠ 27 → k ≠ 29 → v.1 k = u.1 k) ∧ (∀ k, k ≠ 8 → v.2.1 k = u.2.1 k) ∧ (∀ i, i < 32 → v.2.1 8 i = u.2.1 8 i) ∧ v.2.2 = u.2.2 ∧ RP v ∧ (u.1 26).toInt ≤ (v.1 26).toInt ∧ (u.1 27).toInt ≤ (v.1 27).toInt
theorem RT.rf {u : OS} (h : RP u) : RT u u := ⟨fun _ _ _ _ => rfl, fun _ _ => rfl, fun _ _ => rfl, rfl, h, Int.le_refl _, Int.le_refl _⟩
theorem RT.nx {u v w : OS} (h : RT u v) (g : NX v w) : RT u w := by
  obtain ⟨a, b, c, d, e, f, k⟩ := h
  obtain ⟨a', b', c', d', e', _⟩ := g
  exact ⟨fun k x y z => (a' k x y z).trans (a k x y z), fun k x => by rw [b']; exact b k x, fun i hi => by rw [b']; exact c i hi, by rw [b']; exact d, c', Int.le_trans f d', Int.le_trans k e'⟩
theorem RT.h14 {u v : OS} (h : RT u v) (hh : H14 u) : H14 v := by
  unfold H14 at *
  rw [h.2.1 14 (by decide)]
  exact hh
theorem RT.sA {u v : OS} {x v8 : Int32} (h : RT u v) (hx : 0 ≤ x.toInt) (hx2 : x.toInt < 32) : RT u (sA v 8 ((32 : Int32) + x) v8) := by
  obtain ⟨a, b, c, d, e, f, k⟩ := h
  have e1 : ((32 : Int32) + x).toInt = 32 + x.toInt := by rw [add32 (by rw [li_32]; omega) (by rw [li_32]; omega), li_32]
  refine ⟨a, fun k hk => ?_, fun i hi => ?_, d, e, f, k⟩
  · rw [← b k hk]
    exact va_ne (f := v.2.1) hk
  · rw [← c i hi]
    show upd (v.2.1 8) ((32 : Int32) + x).toNatClampNeg v8 i = _
    unfold upd
    rw [if_neg]
    show ¬ i = ((32 : Int32) + x).toInt.toNat
    omega
set_option maxHeartbeats 1000000 in
theorem s_X7_readTable_L16 {N : Int} (hN : N ≤ 4096) (u0 : OS) {Q : OS → Prop} (K : Int32 → Int32 → OS → Option OS) (hK : ∀ y x u, RT u0 u → R29 u → 0 ≤ y.toInt → (∀ s, s < 32 → 0 ≤ (shr u 1 s).toInt) → psum (shr u 1) 32 = N - y.toInt → ok (K y x u) Q)
    (hQ : ∀ u, RT u0 u → R29 u → 1 ≤ (u.1 27).toInt → Q u) : ∀ (n : Nat) (x y : Int32) (u : OS), 0 ≤ x.toInt → x.toInt ≤ 32 → (32 - x.toInt).toNat < n → H14 u → RT u0 u → R29 u → 0 ≤ y.toInt → y.toInt ≤ N → (∀ s : Nat, (s : Int) < x.toInt → 0 ≤ (shr u 1 s).toInt) → psum (shr u 1) x.toInt.toNat = N - y.toInt → ok (f_X7_readTable_L16 n K x y u) Q := by
  intro n
  induction n with
  | zero => intro x y u _ _ hn; omega
  | succ n ih =>
    intro x y u hx hx2 hn hh hT h9 y0 y1 hs hp
    unfold f_X7_readTable_L16
    refine ok_ite (fun c => ?_) (fun c => ?_)
    · have c1 := Int32.le_iff_toInt_le.mp c
      rw [li_32] at c1
      have ex : x.toInt.toNat = 32 := by omega
      rw [ex] at hp
      exact hK _ _ _ hT h9 y0 (fun s hs2 => hs s (by omega)) hp
    · have c1 := mt Int32.le_iff_toInt_le.mpr c
      rw [li_32] at c1
      have e1 := inc32 (x := x) (by omega)
      have e32 : ((32 : Int32) + x).toInt = 32 + x.toInt := by rw [add32 (by rw [li_32]; omega) (by rw [li_32]; omega), li_32]
      have en : ((32 : Int32) + x).toNatClampNeg = 32 * 1 + x.toInt.toNat := by
        show ((32 : Int32) + x).toInt.toNat = _
        omega
      refine ok_oC1 (s_X7_bitsOf y (by omega)) (fun r hr => ok_bnd (s_X7_readTable_L30 u _ ?_ FU _ _ _ (13 - r.toInt.toNat) hr.1 (by omega) (by show _ < 100000; omega) (by decide) (by rw [li_0]; exact Int.natCast_pos.mpr (Nat.two_pow_pos _)) hh (NX.rf hT.2.2.2.2.1) h9))
      intro w a v hv h9v w0 w1
      have hTv := hT.nx hv
      have hhv := hv.h14 hh
      have shv : shr v 1 = shr u 1 := by
        unfold shr
        rw [hv.2.1]
      refine ok_bnd ?_
      have key : ∀ z : OS, RT u0 z → R29 z → H14 z → shr z 1 = shr u 1 → (w.toInt ≤ y.toInt ∨ 1 ≤ (z.1 27).toInt) → ok (gdi ((32 : Int32) + x) 64 <| bnd (sA z 8 ((32 : Int32) + x) w) fun u41 => bnd (y - w) fun x42 => if (u41.1 27) ≤ (0 : Int32) then (bnd (x + (1 : Int32)) fun x44 => f_X7_readTable_L16 n K x44 x42 u41) else (some u41)) Q := by
        intro z hz h9z hhz sz hor
        refine ok_gdi (by omega) (by omega) (ok_bnd (ok_bnd (ok_ite (fun d => ok_bnd ?_) (fun d => ok_some (hQ _ (hz.sA hx (by omega)) h9z ?_)))))
        · have d1 : (z.1 27).toInt ≤ 0 := by
            have := Int32.le_iff_toInt_le.mp d
            rw [li_0] at this
            exact this
          have wy : w.toInt ≤ y.toInt := by
            rcases hor with q | q
            · exact q
            · omega
          have ey : (y - w).toInt = y.toInt - w.toInt := sub32 (by omega) (by omega)
          have ss : ∀ s, shr (sA z 8 ((32 : Int32) + x) w) 1 s = if s = x.toInt.toNat then w else shr u 1 s := by
            intro s
            rw [shr_set en s, sz]
          refine ih _ _ _ (by omega) (by omega) (by omega) ?_ (hz.sA hx (by omega)) h9z (by omega) (by omega) ?_ ?_
          · exact hhz
          · intro s hs2
            rw [ss s]
            by_cases q : s = x.toInt.toNat
            · rw [if_pos q]; exact w0
            · rw [if_neg q]
              exact hs s (by omega)
          · rw [e1, show (x.toInt + 1).toNat = x.toInt.toNat + 1 by omega]
            unfold psum
            rw [ss, if_pos rfl, psum_congr (g := shr u 1) x.toInt.toNat (fun s hs2 => by rw [ss s, if_neg (by omega)]), hp, ey]
            omega
        · have d : ¬ z.1 27 ≤ (0 : Int32) := d
          have := mt Int32.le_iff_toInt_le.mpr d
          rw [li_0] at this
          show 1 ≤ (z.1 27).toInt
          clear hK ih hQ
          omega
      refine ok_ite (fun d => ok_ite (fun d2 => key v hTv h9v hhv shv (Or.inl (Int32.le_iff_toInt_le.mp d2))) (fun d2 => ok_oC1 (s_X7_fail v 3 (by decide) hv.2.2.1) (fun z hz => key z (hTv.nx hz.1) (hz.1.2.2.2.2.2 h9v) (hz.1.h14 hhv) ?_ (Or.inr hz.2.1)))) (fun d => key v hTv h9v hhv shv (Or.inr ?_))
      · rw [← shv]
        unfold shr
        rw [hz.1.2.1]
      · have := ne32 d
        rw [li_0] at this
        have := hv.2.2.1.2.2.2
        omega
set_option maxHeartbeats 1000000 in
theorem s_X7_readTable (u : OS) {k : Nat} (h1 : 5 ≤ k) (h2 : k ≤ 12) (hl : u.2.1 10 1 = nI k) (hh : H14 u) (h : RP u) : ok (f_X7_readTable u) (fun v => RT u v ∧ R29 v ∧ ((v.1 27).toInt = 0 → SH v 1 ((2 ^ k : Nat) : Int))) := by
  have ak := (powA k (by omega) h1).2.2.2.2.2
  have e10 : u.2.1 10 ((1 : Int32)).toNatClampNeg = nI k := hl
  have sk := sk32 h1 h2 e10
  have t0 : RT u (sF u 29 (0 : Int32)) := ⟨fun k a b c => va_ne (f := u.1) c, fun _ _ => rfl, fun _ _ => rfl, rfl, h, Int.le_refl _, Int.le_refl _⟩
  have r0 : R29 (sF u 29 (0 : Int32)) := ⟨by show 0 ≤ (0 : Int32).toInt; decide, by show (0 : Int32).toInt ≤ 8; decide, Or.inl (by show (0 : Int32).toInt = 0; decide)⟩
  unfold f_X7_readTable
  refine ok_gdi (by decide) (by decide) (ok_bnd (ok_bnd (ok_bnd (s_X7_readTable_L16 (N := ((2 ^ k : Nat) : Int)) (by omega) u _ ?_ ?_ FU _ _ _ (by decide) (by decide) (by decide) hh t0 r0 (by rw [sk]; omega) (by rw [sk]; omega) (fun s hs => by rw [li_0] at hs; omega) ?_))))
  · intro y x v hv h9 y0 hs hp
    refine ok_bnd (s_X7_readTable_L97 v _ ?_ FU _ _ (by have := h9.2.1; show _ < 100000; omega) (hv.h14 hh) (NX.rf hv.2.2.2.2.1) h9)
    intro a w hw h9w
    have hf : ok (f_X7_fail w 3) (fun v => RT u v ∧ R29 v ∧ ((v.1 27).toInt = 0 → SH v 1 ((2 ^ k : Nat) : Int))) := ok_mono (s_X7_fail w 3 (by decide) hw.2.2.1) (fun z hz => ⟨(hv.nx hw).nx hz.1, hz.1.2.2.2.2.2 h9w, fun q => absurd hz.2.1 (by rw [q]; decide)⟩)
    refine ok_ite (fun c => ok_oC1 hf (fun z hz => ok_some hz)) (fun c => ok_ite (fun c => ok_oC1 hf (fun z hz => ok_some hz)) (fun c2 => ok_some ⟨hv.nx hw, h9w, fun _ => ?_⟩))
    have c1 := mt Int32.lt_iff_toInt_lt.mpr c
    rw [li_0] at c1
    have sw : shr w 1 = shr v 1 := by
      unfold shr
      rw [hw.2.1]
    unfold SH
    rw [sw, hp]
    exact ⟨hs, by omega⟩
  · intro v hv h9 q
    exact ⟨hv, h9, fun q2 => absurd q (by rw [q2]; decide)⟩
  · rw [sk]
    show (0 : Int) = _
    omega

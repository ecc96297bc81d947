def RH (u v : OS) : Prop := (∀ k, k ≠ 26 → k ≠ 27 → k ≠ 29 → k ≠ 30 → k ≠ 31 → v.1 k = u.1 k) ∧ (∀ k, k ≠ 10 → v.2.1 k = u.2.1 k) ∧ v.2.1 10 0 = u.2.1 10 0 ∧ v.2.2 = u.2.2 ∧ RP v
theorem NX.rh {u v : OS} (h : NX u v) : RH u v := ⟨fun k a b c _ _ => h.1 k a b c, fun k _ => by rw [h.2.1], by rw [h.2.1], by rw [h.2.1], h.2.2.1⟩
theorem RH.tr {u v w : OS} (h1 : RH u v) (h2 : RH v w) : RH u w := ⟨fun k a b c d e => (h2.1 k a b c d e).trans (h1.1 k a b c d e), fun k a => (h2.2.1 k a).trans (h1.2.1 k a), h2.2.2.1.trans h1.2.2.1, h2.2.2.2.1.trans h1.2.2.2.1, h2.2.2.2.2⟩
theorem RH.h14 {u v : OS} (h : RH u v) (hh : H14 u) : H14 v := by
  unfold H14 at *
  rw [h.2.1 14 (by decide)]
  exact hh
theorem ln124 (r : Int32) (h : ¬ (r &&& (3 : Int32)) = (3 : Int32)) : ((1 : Int32) <<< ((r &&& (3 : Int32)) &&& (31 : Int32))).toInt = 1 ∨ ((1 : Int32) <<< ((r &&& (3 : Int32)) &&& (31 : Int32))).toInt = 2 ∨ ((1 : Int32) <<< ((r &&& (3 : Int32)) &&& (31 : Int32))).toInt = 4 := by
  have a := and32 r 3 (by decide)
  rw [li_3] at a
  have b := ne32 h
  rw [li_3] at b
  have e : ∀ x : Int32, x.toInt = 0 → x = 0 := fun x q => Int32.toInt_inj.mp (by rw [q, li_0])
  have e1 : ∀ x : Int32, x.toInt = 1 → x = 1 := fun x q => Int32.toInt_inj.mp (by rw [q, li_1])
  have e2 : ∀ x : Int32, x.toInt = 2 → x = 2 := fun x q => Int32.toInt_inj.mp (by rw [q, li_2])
  rcases (show (r &&& (3 : Int32)).toInt = 0 ∨ (r &&& (3 : Int32)).toInt = 1 ∨ (r &&& (3 : Int32)).toInt = 2 by omega) with q | q | q
  · rw [e _ q]; decide
  · rw [e1 _ q]; decide
  · rw [e2 _ q]; decide
def HG (v : OS) : Prop := ((v.1 31).toInt = 1 ∨ (v.1 31).toInt = 2 ∨ (v.1 31).toInt = 4) ∧ 5 ≤ (v.2.1 10 1).toInt ∧ (v.2.1 10 1).toInt ≤ 12
set_option maxHeartbeats 1000000 in
theorem s_X7_readHead (u : OS) (hh : H14 u) (h : RP u) : ok (f_X7_readHead u) (fun q => RH u q.1 ∧ ((q.1.1 27).toInt = 0 → HG q.1) ∧ 0 ≤ q.2.toInt ∧ q.2.toInt ≤ 65535) := by
  unfold f_X7_readHead
  refine ok_oC2 (s_X7_next u hh h) (fun u1 r2 k1 => ?_)
  have a1 : NX u u1 := k1.1
  refine ok_bnd ?_
  have key : ∀ u4 : OS, NX u u4 → ((u4.1 27).toInt = 0 → ¬ (r2 &&& (3 : Int32)) = (3 : Int32)) → ok (bnd (sF u4 30 (r2 >>> ((2 : Int32) &&& (31 : Int32)))) fun u6 =>
  bnd (sF u6 31 ((1 : Int32) <<< ((r2 &&& (3 : Int32)) &&& (31 : Int32)))) fun u7 =>
  oC2 (f_X7_next u7) fun u8 r9 =>
  bnd (fun (u11 : OS) =>
  if (u11.1 27) = (0 : Int32) then (
  gdi (1 : Int32) 2 <|
  bnd (sA u11 10 (1 : Int32) r9) fun u20 =>
  oC2 (f_X7_nextWide u20 (2 : Int32)) fun u21 r22 =>
  some (u21, (r22).toInt32)) else (
  gdi (1 : Int32) 2 <|
  bnd (sA u11 10 (1 : Int32) (5 : Int32)) fun u15 =>
  oC2 (f_X7_nextWide u15 (2 : Int32)) fun u16 r17 =>
  some (u16, (r17).toInt32))) fun K74_12 =>
  if (u8.1 27) = (0 : Int32) then (
  bnd (oC1 (f_X7_fail u8 (2 : Int32)) fun u26 =>
  K74_12 u26) fun K69_25 =>
  if r9 < (5 : Int32) then (
  K69_25) else (
  if r9 ≤ (12 : Int32) then (
  K74_12 u8) else (
  K69_25))) else (
  K74_12 u8)) (fun q => RH u q.1 ∧ ((q.1.1 27).toInt = 0 → HG q.1) ∧ 0 ≤ q.2.toInt ∧ q.2.toInt ≤ 65535) := by
    intro u4 n4 g4
    have R7 : RH u (sF (sF u4 30 (r2 >>> ((2 : Int32) &&& (31 : Int32)))) 31 ((1 : Int32) <<< ((r2 &&& (3 : Int32)) &&& (31 : Int32)))) := by
      refine n4.rh.tr ⟨fun k a b c d e => ?_, fun _ _ => rfl, rfl, rfl, n4.2.2.1⟩
      exact (va_ne (f := va_up u4.1 30 _) e).trans (va_ne (f := u4.1) d)
    have g7 : ((sF (sF u4 30 (r2 >>> ((2 : Int32) &&& (31 : Int32)))) 31 ((1 : Int32) <<< ((r2 &&& (3 : Int32)) &&& (31 : Int32)))).1 27).toInt = 0 → ¬ (r2 &&& (3 : Int32)) = (3 : Int32) := g4
    have l7 : (sF (sF u4 30 (r2 >>> ((2 : Int32) &&& (31 : Int32)))) 31 ((1 : Int32) <<< ((r2 &&& (3 : Int32)) &&& (31 : Int32)))).1 31 = ((1 : Int32) <<< ((r2 &&& (3 : Int32)) &&& (31 : Int32))) := rfl
    refine ok_bnd (ok_bnd ?_)
    generalize (sF (sF u4 30 (r2 >>> ((2 : Int32) &&& (31 : Int32)))) 31 ((1 : Int32) <<< ((r2 &&& (3 : Int32)) &&& (31 : Int32)))) = u7 at R7 g7 l7
    refine ok_oC2 (s_X7_next u7 (R7.h14 hh) R7.2.2.2.2) (fun u8 r9 k8 => ok_bnd ?_)
    have n8 : NX u7 u8 := k8.1
    have fin : ∀ (u11 : OS) (lg : Int32), NX u7 u11 → ((u11.1 27).toInt = 0 → 5 ≤ lg.toInt ∧ lg.toInt ≤ 12) → ok (gdi (1 : Int32) 2 <|
  bnd (sA u11 10 (1 : Int32) lg) fun u20 =>
  oC2 (f_X7_nextWide u20 (2 : Int32)) fun u21 r22 =>
  some (u21, (r22).toInt32)) (fun q => RH u q.1 ∧ ((q.1.1 27).toInt = 0 → HG q.1) ∧ 0 ≤ q.2.toInt ∧ q.2.toInt ≤ 65535) := by
      intro u11 lg n11 g11
      have R20 : RH u (sA u11 10 (1 : Int32) lg) := by
        refine (R7.tr n11.rh).tr ⟨fun _ _ _ _ _ _ => rfl, fun k a => va_ne (f := u11.2.1) a, ?_, rfl, n11.2.2.1⟩
        show upd (u11.2.1 10) ((1 : Int32)).toNatClampNeg lg 0 = _
        rfl
      refine ok_gdi (by decide) (by decide) (ok_bnd (ok_oC2 (s_X7_nextWide (sA u11 10 (1 : Int32) lg) 2 (by decide) (by decide) (R20.h14 hh) n11.2.2.1) (fun u21 r22 k21 => ok_some ?_)))
      have n21 : NX (sA u11 10 (1 : Int32) lg) u21 := k21.1
      have w := k21.2.1.2.2 (by decide)
      have w : 0 ≤ r22.toInt ∧ r22.toInt ≤ 65535 := w
      have e22 : r22.toInt32.toInt = r22.toInt := ti32 (by omega) (by omega)
      refine ⟨R20.tr n21.rh, fun q => ?_, by show 0 ≤ r22.toInt32.toInt; omega, by show r22.toInt32.toInt ≤ 65535; omega⟩
      have m1 : (u11.1 27).toInt ≤ (u21.1 27).toInt := n21.2.2.2.2.1
      have q : (u21.1 27).toInt = 0 := q
      have p11 := n11.2.2.1.2.2.2
      have z11 : (u11.1 27).toInt = 0 := by omega
      have z7 : (u7.1 27).toInt = 0 := by
        have := n11.2.2.2.2.1
        have := R7.2.2.2.2.2.2.2
        omega
      have e31 : u21.1 31 = ((1 : Int32) <<< ((r2 &&& (3 : Int32)) &&& (31 : Int32))) := by
        rw [n21.1 31 (by decide) (by decide) (by decide)]
        show u11.1 31 = _
        rw [n11.1 31 (by decide) (by decide) (by decide), l7]
      have e10 : u21.2.1 10 1 = lg := by
        rw [n21.2.1]
        rfl
      unfold HG
      rw [e31, e10]
      exact ⟨ln124 r2 (g7 z7), g11 z11⟩
    have both : ∀ u11 : OS, NX u7 u11 → ((u11.1 27).toInt = 0 → 5 ≤ r9.toInt ∧ r9.toInt ≤ 12) → ok (if (u11.1 27) = (0 : Int32) then (
  gdi (1 : Int32) 2 <|
  bnd (sA u11 10 (1 : Int32) r9) fun u20 =>
  oC2 (f_X7_nextWide u20 (2 : Int32)) fun u21 r22 =>
  some (u21, (r22).toInt32)) else (
  gdi (1 : Int32) 2 <|
  bnd (sA u11 10 (1 : Int32) (5 : Int32)) fun u15 =>
  oC2 (f_X7_nextWide u15 (2 : Int32)) fun u16 r17 =>
  some (u16, (r17).toInt32))) (fun q => RH u q.1 ∧ ((q.1.1 27).toInt = 0 → HG q.1) ∧ 0 ≤ q.2.toInt ∧ q.2.toInt ≤ 65535) := fun u11 n11 g11 => ok_ite (fun _ => fin u11 r9 n11 g11) (fun _ => fin u11 5 n11 (fun _ => by decide))
    have bad : ok (oC1 (f_X7_fail u8 (2 : Int32)) fun u26 => (if (u26.1 27) = (0 : Int32) then (
  gdi (1 : Int32) 2 <|
  bnd (sA u26 10 (1 : Int32) r9) fun u20 =>
  oC2 (f_X7_nextWide u20 (2 : Int32)) fun u21 r22 =>
  some (u21, (r22).toInt32)) else (
  gdi (1 : Int32) 2 <|
  bnd (sA u26 10 (1 : Int32) (5 : Int32)) fun u15 =>
  oC2 (f_X7_nextWide u15 (2 : Int32)) fun u16 r17 =>
  some (u16, (r17).toInt32)))) (fun q => RH u q.1 ∧ ((q.1.1 27).toInt = 0 → HG q.1) ∧ 0 ≤ q.2.toInt ∧ q.2.toInt ≤ 65535) := ok_oC1 (s_X7_fail u8 2 (by decide) n8.2.2.1) (fun v hv => both v (n8.tr hv.1) (fun q => absurd hv.2.1 (by rw [q]; decide)))
    refine ok_ite (fun c => ok_bnd (ok_ite (fun _ => bad) (fun d1 => ok_ite (fun d2 => both u8 n8 (fun _ => ?_)) (fun _ => bad)))) (fun c => both u8 n8 (fun q => ?_))
    · have x1 := mt Int32.lt_iff_toInt_lt.mpr d1
      have x2 := Int32.le_iff_toInt_le.mp d2
      rw [li_5] at x1
      rw [li_12] at x2
      omega
    · exact absurd (Int32.toInt_inj.mp (by rw [q, li_0])) c
  have bad : ∀ F : OS → Option (OS × Int32), (∀ u4, NX u u4 → ((u4.1 27).toInt = 0 → ¬ (r2 &&& (3 : Int32)) = (3 : Int32)) → ok (F u4) (fun q => RH u q.1 ∧ ((q.1.1 27).toInt = 0 → HG q.1) ∧ 0 ≤ q.2.toInt ∧ q.2.toInt ≤ 65535)) → ok (oC1 (f_X7_fail u1 (2 : Int32)) F) (fun q => RH u q.1 ∧ ((q.1.1 27).toInt = 0 → HG q.1) ∧ 0 ≤ q.2.toInt ∧ q.2.toInt ≤ 65535) := fun F hF => ok_oC1 (s_X7_fail u1 2 (by decide) a1.2.2.1) (fun v hv => hF v (a1.tr hv.1) (fun q => absurd hv.2.1 (by rw [q]; decide)))
  refine ok_ite (fun c => ok_bnd (ok_ite (fun _ => bad _ key) (fun _ => ok_ite (fun _ => bad _ key) (fun d => key u1 a1 (fun _ => d))))) (fun c => key u1 a1 (fun q => ?_))
  exact absurd (Int32.toInt_inj.mp (by rw [q, li_0])) c

-- ===== the head =====
noncomputable def hd1 (t : OT) : RC × Int32 := opq (sN t ((0 : Int32), (0 : Int32), (0 : Int32)))
theorem hd1_e (t : OT) : hd1 t = (sN t ((0 : Int32), (0 : Int32), (0 : Int32))) := opq_e _
noncomputable def hb1 (t : OT) : RC := opq (if (hd1 t).1.2.1 = (0 : Int32) ∧ ((15 : Int32) < (hd1 t).2 ∨ ((hd1 t).2 &&& (3 : Int32)) = (3 : Int32)) then ((hd1 t).1.1, (2 : Int32), (hd1 t).1.2.2) else (hd1 t).1)
theorem hb1_e (t : OT) : hb1 t = (if (hd1 t).1.2.1 = (0 : Int32) ∧ ((15 : Int32) < (hd1 t).2 ∨ ((hd1 t).2 &&& (3 : Int32)) = (3 : Int32)) then ((hd1 t).1.1, (2 : Int32), (hd1 t).1.2.2) else (hd1 t).1) := opq_e _
noncomputable def hd2 (t : OT) : RC × Int32 := opq (sN t (hb1 t))
theorem hd2_e (t : OT) : hd2 t = (sN t (hb1 t)) := opq_e _
noncomputable def hb2 (t : OT) : RC := opq (if (hd2 t).1.2.1 = (0 : Int32) ∧ ((hd2 t).2 < (5 : Int32) ∨ ¬ (hd2 t).2 ≤ (12 : Int32)) then ((hd2 t).1.1, (2 : Int32), (hd2 t).1.2.2) else (hd2 t).1)
theorem hb2_e (t : OT) : hb2 t = (if (hd2 t).1.2.1 = (0 : Int32) ∧ ((hd2 t).2 < (5 : Int32) ∨ ¬ (hd2 t).2 ≤ (12 : Int32)) then ((hd2 t).1.1, (2 : Int32), (hd2 t).1.2.2) else (hd2 t).1) := opq_e _
noncomputable def hd3 (t : OT) : RC × Int64 := opq (sW t 2 (hb2 t, 0))
theorem hd3_e (t : OT) : hd3 t = (sW t 2 (hb2 t, 0)) := opq_e _
noncomputable def hFm (t : OT) : Int32 := (hd1 t).2 >>> ((2 : Int32) &&& (31 : Int32))
noncomputable def hLn (t : OT) : Int32 := (1 : Int32) <<< (((hd1 t).2 &&& (3 : Int32)) &&& (31 : Int32))
noncomputable def hLg (t : OT) : Int32 := (hd2 t).2
noncomputable def hNn (t : OT) : Int32 := (hd3 t).2.toInt32
theorem sk0 {t : OT} (h0 : 0 ≤ t.1.toInt) (h1 : t.1.toInt ≤ 20000) : SK t ((0 : Int32), (0 : Int32), (0 : Int32)) := by
  refine ⟨by show 0 ≤ (0 : Int32).toInt; decide, by show (0 : Int32).toInt ≤ t.1.toInt; rw [li_0]; exact h0, h1, by show 0 ≤ (0 : Int32).toInt; decide, ⟨by show 0 ≤ (0 : Int32).toInt; decide, by show (0 : Int32).toInt ≤ 8; decide⟩, Or.inl li_0⟩
theorem sk_f {t : OT} {s : RC} (h : SK t s) {p : Int32} (hp : 0 ≤ p.toInt) : SK t (s.1, p, s.2.2) := ⟨h.1, h.2.1, h.2.2.1, hp, h.2.2.2.2.1, h.2.2.2.2.2⟩
theorem sk_h1 {t : OT} (k : SK t ((0 : Int32), (0 : Int32), (0 : Int32))) : SK t (hb1 t) := by
  have k1 : SK t (hd1 t).1 := by
    rw [hd1_e]
    exact k.n
  rw [hb1_e]
  by_cases c : (hd1 t).1.2.1 = (0 : Int32) ∧ ((15 : Int32) < (hd1 t).2 ∨ ((hd1 t).2 &&& (3 : Int32)) = (3 : Int32))
  · rw [if_pos c]; exact sk_f k1 (by decide)
  · rw [if_neg c]; exact k1
theorem sk_h2 {t : OT} (k : SK t ((0 : Int32), (0 : Int32), (0 : Int32))) : SK t (hb2 t) := by
  have k1 : SK t (hd2 t).1 := by
    rw [hd2_e]
    exact (sk_h1 k).n
  rw [hb2_e]
  by_cases c : (hd2 t).1.2.1 = (0 : Int32) ∧ ((hd2 t).2 < (5 : Int32) ∨ ¬ (hd2 t).2 ≤ (12 : Int32))
  · rw [if_pos c]; exact sk_f k1 (by decide)
  · rw [if_neg c]; exact k1
theorem h1_2 (t : OT) : (hb1 t).2.2 = 0 := by
  have e : (hd1 t).1.2.2 = 0 := by
    rw [hd1_e]
    exact sN_2
  rw [hb1_e]
  by_cases c : (hd1 t).1.2.1 = (0 : Int32) ∧ ((15 : Int32) < (hd1 t).2 ∨ ((hd1 t).2 &&& (3 : Int32)) = (3 : Int32))
  · rw [if_pos c]; exact e
  · rw [if_neg c]; exact e
theorem h2_2 (t : OT) : (hb2 t).2.2 = 0 := by
  have e : (hd2 t).1.2.2 = 0 := by
    rw [hd2_e]
    exact sN_2.trans (h1_2 t)
  rw [hb2_e]
  by_cases c : (hd2 t).1.2.1 = (0 : Int32) ∧ ((hd2 t).2 < (5 : Int32) ∨ ¬ (hd2 t).2 ≤ (12 : Int32))
  · rw [if_pos c]; exact e
  · rw [if_neg c]; exact e
theorem h3_2 (t : OT) : (hd3 t).1.2.2 = 0 := by
  rw [hd3_e, sW_2]
  exact h2_2 t
-- where the head is whole: nothing was broken on the way
theorem h_ok {t : OT} (z : (hd3 t).1.2.1 = 0) : (hb2 t).2.1 = 0 ∧ (hd2 t).1.2.1 = 0 ∧ ¬ (hd2 t).2 < (5 : Int32) ∧ (hd2 t).2 ≤ (12 : Int32) ∧ (hb1 t).2.1 = 0 ∧ (hd1 t).1.2.1 = 0 ∧ ¬ (15 : Int32) < (hd1 t).2 ∧ ¬ ((hd1 t).2 &&& (3 : Int32)) = (3 : Int32) := by
  have z2 : (hb2 t).2.1 = 0 := by
    by_cases q : (hb2 t).2.1 = (0 : Int32)
    · exact q
    · have w := sW_b (t := t) 2 (hb2 t, 0) q
      have w : (hd3 t).1 = hb2 t := by
        rw [hd3_e]
        exact w
      rw [w] at z
      exact z
  have a2 : (hd2 t).1.2.1 = 0 ∧ ¬ ((hd2 t).2 < (5 : Int32) ∨ ¬ (hd2 t).2 ≤ (12 : Int32)) := by
    clear z
    rw [hb2_e] at z2
    by_cases c : (hd2 t).1.2.1 = (0 : Int32) ∧ ((hd2 t).2 < (5 : Int32) ∨ ¬ (hd2 t).2 ≤ (12 : Int32))
    · rw [if_pos c] at z2
      have z2 : (2 : Int32) = 0 := z2
      exact absurd z2 (by decide)
    · rw [if_neg c] at z2
      exact ⟨z2, fun q => c ⟨z2, q⟩⟩
  have z1 : (hb1 t).2.1 = 0 := by
    by_cases q : (hb1 t).2.1 = (0 : Int32)
    · exact q
    · have w := sN_b (t := t) q
      have w : hd2 t = (hb1 t, 0) := (hd2_e t).trans w
      have y := a2.1
      rw [w] at y
      exact y
  have a1 : (hd1 t).1.2.1 = 0 ∧ ¬ ((15 : Int32) < (hd1 t).2 ∨ ((hd1 t).2 &&& (3 : Int32)) = (3 : Int32)) := by
    have z1' := z1
    rw [hb1_e] at z1'
    by_cases c : (hd1 t).1.2.1 = (0 : Int32) ∧ ((15 : Int32) < (hd1 t).2 ∨ ((hd1 t).2 &&& (3 : Int32)) = (3 : Int32))
    · rw [if_pos c] at z1'
      have z1' : (2 : Int32) = 0 := z1'
      exact absurd z1' (by decide)
    · rw [if_neg c] at z1'
      exact ⟨z1', fun q => c ⟨z1', q⟩⟩
  exact ⟨z2, a2.1, fun q => a2.2 (Or.inl q), Decidable.byContradiction (fun q => a2.2 (Or.inr q)), z1, a1.1, fun q => a1.2 (Or.inl q), fun q => a1.2 (Or.inr q)⟩
def HF (u v : OS) : Prop := (∀ k, k ≠ 26 → k ≠ 27 → k ≠ 29 → k ≠ 30 → k ≠ 31 → v.1 k = u.1 k)
theorem MF.hf {u v : OS} (h : MF u v) : HF u v := fun k a b c _ _ => h.1 k a b c
theorem HF.tr {u v w : OS} (h1 : HF u v) (h2 : HF v w) : HF u w := fun k a b c d e => (h2 k a b c d e).trans (h1 k a b c d e)
set_option maxHeartbeats 1000000 in
theorem r_readHead {t : OT} (u : OS) (h : MRw t ((0 : Int32), (0 : Int32), (0 : Int32)) u) : pc (f_X7_readHead u) (fun q => MRw t (hd3 t).1 q.1 ∧ q.1.1 30 = hFm t ∧ q.1.1 31 = hLn t ∧ ((hd3 t).1.2.1 = 0 → q.1.2.1 10 1 = hLg t) ∧ q.2 = hNn t) := by
  have k0 := h.2.2.2
  unfold f_X7_readHead
  refine pc_oC2 (r_nextw u h) (fun v r hv => pc_bnd ?_)
  have er : r = (hd1 t).2 := by
    rw [hd1_e]
    exact hv.2.1
  have hv1 : MRw t (hd1 t).1 v := by
    rw [hd1_e]
    exact hv.1
  -- after the logarithm was looked at
  have k2 : ∀ (w : OS) (r9 : Int32), MRw t (hb2 t) w → r9 = (hd2 t).2 → w.1 30 = hFm t → w.1 31 = hLn t → pc (if (w.1 27) = (0 : Int32) then (
  gdi (1 : Int32) 2 <|
  bnd (sA w 10 (1 : Int32) r9) fun u20 =>
  oC2 (f_X7_nextWide u20 (2 : Int32)) fun u21 r22 =>
  some (u21, (r22).toInt32)) else (
  gdi (1 : Int32) 2 <|
  bnd (sA w 10 (1 : Int32) (5 : Int32)) fun u15 =>
  oC2 (f_X7_nextWide u15 (2 : Int32)) fun u16 r17 =>
  some (u16, (r17).toInt32))) (fun q => MRw t (hd3 t).1 q.1 ∧ q.1.1 30 = hFm t ∧ q.1.1 31 = hLn t ∧ ((hd3 t).1.2.1 = 0 → q.1.2.1 10 1 = hLg t) ∧ q.2 = hNn t) := by
    intro w r9 hw e9 w30 w31
    refine pc_ite (fun c => pc_gdi (fun _ _ => pc_bnd (pc_oC2 (r_nextWw (s := hb2 t) (sA w 10 (1 : Int32) r9) 2 2 (by decide) hw) (fun x y hx => pc_some ⟨by rw [hd3_e]; exact hx.1, ?_, ?_, fun _ => ?_, ?_⟩)))) (fun c => pc_gdi (fun _ _ => pc_bnd (pc_oC2 (r_nextWw (s := hb2 t) (sA w 10 (1 : Int32) (5 : Int32)) 2 2 (by decide) hw) (fun x y hx => pc_some ⟨by rw [hd3_e]; exact hx.1, ?_, ?_, fun z => ?_, ?_⟩))))
    · exact (hx.2.2.1.1 30 (by decide) (by decide) (by decide)).trans w30
    · exact (hx.2.2.1.1 31 (by decide) (by decide) (by decide)).trans w31
    · have e : x.2 = (sA w 10 (1 : Int32) r9).2 := hx.2.2.1.2
      rw [e]
      show r9 = hLg t
      exact e9
    · have e : y = (hd3 t).2 := by
        rw [hd3_e]
        exact hx.2.1
      show y.toInt32 = hNn t
      rw [e]
      rfl
    · exact (hx.2.2.1.1 30 (by decide) (by decide) (by decide)).trans w30
    · exact (hx.2.2.1.1 31 (by decide) (by decide) (by decide)).trans w31
    · exfalso
      apply c
      rw [hw.2.1]
      exact (h_ok z).1
    · have e : y = (hd3 t).2 := by
        rw [hd3_e]
        exact hx.2.1
      show y.toInt32 = hNn t
      rw [e]
      rfl
  have k1 : ∀ w : OS, MRw t (hb1 t) w → pc (bnd (sF w 30 (r >>> ((2 : Int32) &&& (31 : Int32)))) fun u6 =>
  bnd (sF u6 31 ((1 : Int32) <<< ((r &&& (3 : Int32)) &&& (31 : Int32)))) fun u7 =>
  oC2 (f_X7_next u7) fun u8 r9 =>
  bnd (fun (u11 : OS) =>
  if (u11.1 27) = (0 : Int32) then (
  gdi (1 : Int32) 2 <|
  bnd (sA u11 10 (1 : Int32) r9) fun u20 =>
  oC2 (f_X7_nextWide u20 (2 : Int32)) fun u21 r22 =>
  some (u21, (r22).toInt32)) else (
  gdi (1 : Int32) 2 <|
  bnd (sA u11 10 (1 : Int32) (5 : Int32)) fun u15 =>
  oC2 (f_X7_nextWide u15 (2 : Int32)) fun u16 r17 =>
  some (u16, (r17).toInt32))) fun K74_12 =>
  if (u8.1 27) = (0 : Int32) then (
  bnd (oC1 (f_X7_fail u8 (2 : Int32)) fun u26 =>
  K74_12 u26) fun K69_25 =>
  if r9 < (5 : Int32) then (
  K69_25) else (
  if r9 ≤ (12 : Int32) then (
  K74_12 u8) else (
  K69_25))) else (
  K74_12 u8)) (fun q => MRw t (hd3 t).1 q.1 ∧ q.1.1 30 = hFm t ∧ q.1.1 31 = hLn t ∧ ((hd3 t).1.2.1 = 0 → q.1.2.1 10 1 = hLg t) ∧ q.2 = hNn t) := by
    intro w hw
    refine pc_bnd (pc_bnd (pc_oC2 (r_nextw (s := hb1 t) (sF (sF w 30 (r >>> ((2 : Int32) &&& (31 : Int32)))) 31 ((1 : Int32) <<< ((r &&& (3 : Int32)) &&& (31 : Int32)))) hw) (fun x r9 hx => pc_bnd ?_)))
    have hx1 : MRw t (hd2 t).1 x := by
      rw [hd2_e]
      exact hx.1
    have e9 : r9 = (hd2 t).2 := by
      rw [hd2_e]
      exact hx.2.1
    have x30 : x.1 30 = hFm t := (hx.2.2.1.1 30 (by decide) (by decide) (by decide)).trans (by show r >>> ((2 : Int32) &&& (31 : Int32)) = hFm t; rw [er]; rfl)
    have x31 : x.1 31 = hLn t := (hx.2.2.1.1 31 (by decide) (by decide) (by decide)).trans (by show (1 : Int32) <<< ((r &&& (3 : Int32)) &&& (31 : Int32)) = hLn t; rw [er]; rfl)
    have bad : (hd2 t).1.2.1 = (0 : Int32) → ((hd2 t).2 < (5 : Int32) ∨ ¬ (hd2 t).2 ≤ (12 : Int32)) → pc (oC1 (f_X7_fail x (2 : Int32)) fun u26 => if (u26.1 27) = (0 : Int32) then (
  gdi (1 : Int32) 2 <|
  bnd (sA u26 10 (1 : Int32) r9) fun u20 =>
  oC2 (f_X7_nextWide u20 (2 : Int32)) fun u21 r22 =>
  some (u21, (r22).toInt32)) else (
  gdi (1 : Int32) 2 <|
  bnd (sA u26 10 (1 : Int32) (5 : Int32)) fun u15 =>
  oC2 (f_X7_nextWide u15 (2 : Int32)) fun u16 r17 =>
  some (u16, (r17).toInt32))) (fun q => MRw t (hd3 t).1 q.1 ∧ q.1.1 30 = hFm t ∧ q.1.1 31 = hLn t ∧ ((hd3 t).1.2.1 = 0 → q.1.2.1 10 1 = hLg t) ∧ q.2 = hNn t) := by
      intro z c
      refine pc_oC1 (r_fail x 2) (fun y hy => ?_)
      rw [if_pos (hx1.2.1.trans z)] at hy
      have eb : hb2 t = ((hd2 t).1.1, (2 : Int32), (hd2 t).1.2.2) := by
        rw [hb2_e, if_pos ⟨z, c⟩]
      rw [hy]
      refine k2 (sF x 27 (2 : Int32)) r9 ?_ e9 x30 x31
      rw [eb]
      exact ⟨hx1.1, rfl, hx1.2.2.1, sk_f hx1.2.2.2 (by decide)⟩
    have good : ¬ ((hd2 t).1.2.1 = (0 : Int32) ∧ ((hd2 t).2 < (5 : Int32) ∨ ¬ (hd2 t).2 ≤ (12 : Int32))) → MRw t (hb2 t) x := by
      intro c
      have eb : hb2 t = (hd2 t).1 := by
        rw [hb2_e, if_neg c]
      rw [eb]
      exact hx1
    refine pc_ite (fun z => pc_bnd (pc_ite (fun a => bad ?_ ?_) (fun a => pc_ite (fun b => k2 x r9 (good ?_) e9 x30 x31) (fun b => bad ?_ ?_)))) (fun z => k2 x r9 (good ?_) e9 x30 x31)
    · exact hx1.2.1.symm.trans z
    · rw [e9] at a
      exact Or.inl a
    · rw [e9] at a b
      exact fun q => q.2.elim (fun w1 => a w1) (fun w2 => w2 b)
    · exact hx1.2.1.symm.trans z
    · rw [e9] at b
      exact Or.inr b
    · exact fun q => z (hx1.2.1.trans q.1)
  have bad : (hd1 t).1.2.1 = (0 : Int32) → ((15 : Int32) < (hd1 t).2 ∨ ((hd1 t).2 &&& (3 : Int32)) = (3 : Int32)) → MRw t (hb1 t) (sF v 27 (2 : Int32)) := by
    intro z c
    have eb : hb1 t = ((hd1 t).1.1, (2 : Int32), (hd1 t).1.2.2) := by
      rw [hb1_e, if_pos ⟨z, c⟩]
    rw [eb]
    exact ⟨hv1.1, rfl, hv1.2.2.1, sk_f hv1.2.2.2 (by decide)⟩
  have good : ¬ ((hd1 t).1.2.1 = (0 : Int32) ∧ ((15 : Int32) < (hd1 t).2 ∨ ((hd1 t).2 &&& (3 : Int32)) = (3 : Int32))) → MRw t (hb1 t) v := by
    intro c
    have eb : hb1 t = (hd1 t).1 := by
      rw [hb1_e, if_neg c]
    rw [eb]
    exact hv1
  refine pc_ite (fun z => pc_bnd (pc_ite (fun a => pc_oC1 (r_fail v 2) (fun y hy => ?_)) (fun a => pc_ite (fun b => pc_oC1 (r_fail v 2) (fun y hy => ?_)) (fun b => k1 v (good ?_))))) (fun z => k1 v (good ?_))
  · rw [if_pos z] at hy
    rw [hy]
    rw [er] at a
    exact k1 _ (bad (hv1.2.1.symm.trans z) (Or.inl a))
  · rw [if_pos z] at hy
    rw [hy]
    rw [er] at b
    exact k1 _ (bad (hv1.2.1.symm.trans z) (Or.inr b))
  · rw [er] at a b
    exact fun q => q.2.elim (fun w1 => a w1) (fun w2 => b w2)
  · exact fun q => z (hv1.2.1.trans q.1)
-- the class
theorem dh_1 : ∀ b : Nat, b < 256 → ((3 : Int32) < (nI b >>> ((2 : Int32) &&& (31 : Int32))) ↔ (15 : Int32) < nI b) := by decide +kernel
theorem nI_o {v : Int32} (h : 0 ≤ v.toInt ∧ v.toInt ≤ 255) : ∃ b : Nat, b < 256 ∧ v = nI b := by
  obtain ⟨k, ek, ek2, _⟩ := nI_ex (x := v) h.1
  exact ⟨k, by omega, ek⟩
def BW (lg : Int32) (Z : OS) (z : OS) : Prop := z.1 0 = lg ∧ z.1 1 = (1 : Int32) <<< (lg &&& (31 : Int32)) ∧ z.1 7 = 0 ∧ (∀ i, i < 32 → z.2.1 3 i = 0) ∧ z.2.2 = Z.2.2
theorem x_beginWith (Z : OS) (p : Int32) : pc (f_X4_beginWith Z p) (fun z => BW p Z z) := by
  unfold f_X4_beginWith f_X4_forget
  refine pc_oC1 (R := fun v => v.1 7 = 0 ∧ (∀ i, i < 32 → v.2.1 3 i = 0) ∧ v.2.2 = Z.2.2) (pc_bnd (pc_bnd (pc_bnd (pc_some ⟨rfl, fun i hi => ?_, rfl⟩)))) (fun v hv => pc_bnd (pc_bnd (pc_some ⟨rfl, rfl, hv.1, hv.2.1, hv.2.2⟩)))
  show flI 32 (Z.2.1 3) (0 : Int32) i = 0
  unfold flI
  rw [if_pos hi]
def XH (t : OT) (R Z : OS) (q : OS × OS) : Prop := XR t (hd3 t).1 q.1 ∧ ((hd3 t).1.2.1 = 0 → q.1.1 8 = hFm t ∧ q.1.1 9 = hLn t ∧ q.1.1 10 = hNn t ∧ BW (hLg t) Z q.2) ∧ q.1.1 3 = R.1 3 ∧ q.1.1 11 = R.1 11 ∧ q.1.2 = R.2
set_option maxHeartbeats 1000000 in
theorem x_takeHead {t : OT} (R Z O : OS) (h : XR t ((0 : Int32), (0 : Int32), (0 : Int32)) R) (h8 : T8 t) (hO : XO t O) : pc (f_X3_takeHead R Z O) (XH t R Z) := by
  have k0 := h.2.2.2.2
  unfold f_X3_takeHead
  refine pc_oC2 (x_one R O h rfl rfl hO) (fun v r hv => pc_bnd_eq (fun x4 e4 => pc_bnd ?_))
  have hv1 : XR t (hd1 t).1 v := by
    rw [hd1_e]
    exact hv.1
  have d12 : (hd1 t).1.2.2 = 0 := by
    rw [hd1_e]
    exact sN_2
  -- something is broken already: nothing moves
  have dead1 : ∀ w : OS, XR t (hb1 t) w → ¬ (hb1 t).2.1 = 0 → XF R w → XH t R Z (w, Z) := by
    intro w hw nz hF
    have e2 : hd2 t = (hb1 t, 0) := (hd2_e t).trans (sN_b nz)
    have eb : hb2 t = hb1 t := by
      rw [hb2_e, e2]
      rw [if_neg (fun q => nz q.1)]
    have e3 : (hd3 t).1 = hb1 t := by
      have w := sW_b (t := t) 2 (hb2 t, 0) (by rw [eb]; exact nz)
      rw [hd3_e]
      exact w.trans eb
    refine ⟨?_, fun q => absurd (by rw [e3] at q; exact q) nz, hF.1 3 (by decide) (by decide) (by decide) (by decide), hF.1 11 (by decide) (by decide) (by decide) (by decide), hF.2⟩
    show XR t (hd3 t).1 w
    rw [e3]
    exact hw
  have dead2 : ∀ w : OS, XR t (hb2 t) w → ¬ (hb2 t).2.1 = 0 → XF R w → XH t R Z (w, Z) := by
    intro w hw nz hF
    have e3 : (hd3 t).1 = hb2 t := by
      rw [hd3_e]
      exact sW_b (t := t) 2 (hb2 t, 0) nz
    refine ⟨?_, fun q => absurd (by rw [e3] at q; exact q) nz, hF.1 3 (by decide) (by decide) (by decide) (by decide), hF.1 11 (by decide) (by decide) (by decide) (by decide), hF.2⟩
    show XR t (hd3 t).1 w
    rw [e3]
    exact hw
  -- the first octet is right
  have go : (hb1 t).2.1 = 0 → x4 = (hd1 t).2 → ∀ w : OS, XR t (hb1 t) w → XF R w → pc (oC2 (f_X3_nextNumber w O (1 : Int32)) fun u8 r9 =>
  bnd (r9).toInt32 fun x11 =>
  bnd (fun (u12 : OS) =>
  if (u12.1 4) = (0 : Int32) then (
  bnd (sF u12 8 (x4 >>> ((2 : Int32) &&& (31 : Int32)))) fun u15 =>
  bnd (sF u15 9 ((1 : Int32) <<< ((x4 &&& (3 : Int32)) &&& (31 : Int32)))) fun u16 =>
  oC1 (f_X4_beginWith Z x11) fun u17 =>
  oC2 (f_X3_nextNumber u16 O (2 : Int32)) fun u19 r20 =>
  bnd (sF u19 10 (r20).toInt32) fun u22 =>
  some (u22, u17)) else (
  some (u12, Z))) fun K73_13 =>
  if (u8.1 4) = (0 : Int32) then (
  bnd (bnd (sF u8 4 (2 : Int32)) fun u25 =>
  K73_13 u25) fun K68_24 =>
  if x11 < (5 : Int32) then (
  K68_24) else (
  if x11 ≤ (12 : Int32) then (
  K73_13 u8) else (
  K68_24))) else (
  K73_13 u8)) (XH t R Z) := by
    intro z1 ex4 w hw hFw
    refine pc_oC2 (x_one w O hw z1 (h1_2 t) hO) (fun x r9 hx => pc_bnd_eq (fun x11 e11 => pc_bnd ?_))
    have hx1 : XR t (hd2 t).1 x := by
      rw [hd2_e]
      exact hx.1
    have hFx : XF R x := hFw.tr hx.2.1
    have d22 : (hd2 t).1.2.2 = 0 := by
      rw [hd2_e]
      exact sN_2.trans (h1_2 t)
    have bad : (hd2 t).1.2.1 = (0 : Int32) → ((hd2 t).2 < (5 : Int32) ∨ ¬ (hd2 t).2 ≤ (12 : Int32)) → pc (bnd (sF x 4 (2 : Int32)) fun u25 => if (u25.1 4) = (0 : Int32) then (
  bnd (sF u25 8 (x4 >>> ((2 : Int32) &&& (31 : Int32)))) fun u15 =>
  bnd (sF u15 9 ((1 : Int32) <<< ((x4 &&& (3 : Int32)) &&& (31 : Int32)))) fun u16 =>
  oC1 (f_X4_beginWith Z x11) fun u17 =>
  oC2 (f_X3_nextNumber u16 O (2 : Int32)) fun u19 r20 =>
  bnd (sF u19 10 (r20).toInt32) fun u22 =>
  some (u22, u17)) else (
  some (u25, Z))) (XH t R Z) := by
      intro z c
      have eb : hb2 t = ((hd2 t).1.1, (2 : Int32), (hd2 t).1.2.2) := by
        rw [hb2_e, if_pos ⟨z, c⟩]
      refine pc_bnd (pc_ite (fun q => ?_) (fun _ => pc_some (dead2 _ ?_ ?_ (hFx.tr XF.s4))))
      · have q : (2 : Int32) = 0 := q
        exact absurd q (by decide)
      · rw [eb]
        exact ⟨hx1.1, rfl, hx1.2.2.1, fun q => absurd d22 q, sk_f hx1.2.2.2.2 (by decide)⟩
      · rw [eb]
        show ¬ (2 : Int32) = 0
        decide
    have good : (hd2 t).1.2.1 = (0 : Int32) → ¬ ((hd2 t).2 < (5 : Int32) ∨ ¬ (hd2 t).2 ≤ (12 : Int32)) → x11 = (hd2 t).2 → pc (if (x.1 4) = (0 : Int32) then (
  bnd (sF x 8 (x4 >>> ((2 : Int32) &&& (31 : Int32)))) fun u15 =>
  bnd (sF u15 9 ((1 : Int32) <<< ((x4 &&& (3 : Int32)) &&& (31 : Int32)))) fun u16 =>
  oC1 (f_X4_beginWith Z x11) fun u17 =>
  oC2 (f_X3_nextNumber u16 O (2 : Int32)) fun u19 r20 =>
  bnd (sF u19 10 (r20).toInt32) fun u22 =>
  some (u22, u17)) else (
  some (x, Z))) (XH t R Z) := by
      intro z c e11
      have eb : hb2 t = (hd2 t).1 := by
        rw [hb2_e, if_neg (fun q => c q.2)]
      have z2 : (hb2 t).2.1 = 0 := by rw [eb]; exact z
      refine pc_ite (fun _ => pc_bnd (pc_bnd (pc_oC1 (x_beginWith Z x11) (fun zz hz => ?_)))) (fun q => absurd (hx1.2.1.trans z) q)
      have hu : XR t (hb2 t) (sF (sF x 8 (x4 >>> ((2 : Int32) &&& (31 : Int32)))) 9 ((1 : Int32) <<< ((x4 &&& (3 : Int32)) &&& (31 : Int32)))) := by
        rw [eb]
        exact ⟨hx1.1, hx1.2.1, hx1.2.2.1, hx1.2.2.2.1, hx1.2.2.2.2⟩
      refine pc_oC2 (x_nextNumber (s := hb2 t) _ O 2 2 (by decide) hu z2 (h2_2 t) hO) (fun y r20 hy => pc_bnd ?_)
      have hy1 : XR t (hd3 t).1 y := by
        rw [hd3_e]
        exact hy.1
      refine pc_some ⟨?_, fun q => ⟨?_, ?_, ?_, ?_⟩, ?_, ?_, ?_⟩
      · exact ⟨hy1.1, hy1.2.1, hy1.2.2.1, hy1.2.2.2.1, hy1.2.2.2.2⟩
      · have a : y.1 8 = x4 >>> ((2 : Int32) &&& (31 : Int32)) := hy.2.1.1 8 (by decide) (by decide) (by decide) (by decide)
        show y.1 8 = _
        rw [a, ex4]
        rfl
      · have a : y.1 9 = (1 : Int32) <<< ((x4 &&& (3 : Int32)) &&& (31 : Int32)) := hy.2.1.1 9 (by decide) (by decide) (by decide) (by decide)
        show y.1 9 = _
        rw [a, ex4]
        rfl
      · show r20.toInt32 = hNn t
        have q4 : y.1 4 = 0 := hy1.2.1.trans q
        have e20 : r20 = (hd3 t).2 := by
          rw [hd3_e]
          exact hy.2.2 q4
        rw [e20]
        rfl
      · show BW (hLg t) Z zz
        rw [e11] at hz
        exact hz
      · show y.1 3 = R.1 3
        have a : y.1 3 = x.1 3 := hy.2.1.1 3 (by decide) (by decide) (by decide) (by decide)
        rw [a]
        exact hFx.1 3 (by decide) (by decide) (by decide) (by decide)
      · show y.1 11 = R.1 11
        have a : y.1 11 = x.1 11 := hy.2.1.1 11 (by decide) (by decide) (by decide) (by decide)
        rw [a]
        exact hFx.1 11 (by decide) (by decide) (by decide) (by decide)
      · show y.2 = R.2
        have a : y.2 = x.2 := hy.2.1.2
        rw [a]
        exact hFx.2
    refine pc_ite (fun z4 => ?_) (fun z4 => pc_ite (fun q => absurd q z4) (fun _ => pc_some (dead2 x ?_ ?_ hFx)))
    · have z : (hd2 t).1.2.1 = (0 : Int32) := hx1.2.1.symm.trans z4
      have e11' : x11 = (hd2 t).2 := by
        rw [hd2_e]
        exact e11.trans (hx.2.2 z4)
      refine pc_bnd (pc_ite (fun a => bad z ?_) (fun a => pc_ite (fun b => good z ?_ e11') (fun b => bad z ?_)))
      · rw [e11'] at a
        exact Or.inl a
      · rw [e11'] at a b
        exact fun q => q.elim a (fun w2 => w2 b)
      · rw [e11'] at b
        exact Or.inr b
    · have nz : ¬ (hd2 t).1.2.1 = (0 : Int32) := fun q => z4 (hx1.2.1.trans q)
      have eb : hb2 t = (hd2 t).1 := by
        rw [hb2_e, if_neg (fun q => nz q.1)]
      rw [eb]
      exact hx1
    · have nz : ¬ (hd2 t).1.2.1 = (0 : Int32) := fun q => z4 (hx1.2.1.trans q)
      have eb : hb2 t = (hd2 t).1 := by
        rw [hb2_e, if_neg (fun q => nz q.1)]
      rw [eb]
      exact nz
  have hFv : XF R v := hv.2.1
  refine pc_ite (fun z4 => ?_) (fun z4 => pc_ite (fun q => absurd q z4) (fun _ => pc_some (dead1 v ?_ ?_ hFv)))
  · have z : (hd1 t).1.2.1 = (0 : Int32) := hv1.2.1.symm.trans z4
    have ex4 : x4 = (hd1 t).2 := by
      rw [hd1_e]
      exact e4.trans (hv.2.2 z4)
    obtain ⟨b, hb, eb⟩ := nI_o (sN_v k0 h8)
    have eb : (hd1 t).2 = nI b := by
      rw [hd1_e]
      exact eb
    have d15 := dh_1 b hb
    rw [← eb] at d15
    have bad : ((15 : Int32) < (hd1 t).2 ∨ ((hd1 t).2 &&& (3 : Int32)) = (3 : Int32)) → XH t R Z (sF v 4 (2 : Int32), Z) := by
      intro c
      have e1 : hb1 t = ((hd1 t).1.1, (2 : Int32), (hd1 t).1.2.2) := by
        rw [hb1_e, if_pos ⟨z, c⟩]
      refine dead1 _ ?_ ?_ (hFv.tr XF.s4)
      · rw [e1]
        exact ⟨hv1.1, rfl, hv1.2.2.1, fun q => absurd d12 q, sk_f hv1.2.2.2.2 (by decide)⟩
      · rw [e1]
        show ¬ (2 : Int32) = 0
        decide
    refine pc_bnd (pc_ite (fun a => pc_bnd (pc_ite (fun q => ?_) (fun _ => pc_some (bad ?_)))) (fun a => pc_ite (fun c => pc_bnd (pc_ite (fun q => ?_) (fun _ => pc_some (bad ?_)))) (fun c => pc_ite (fun _ => ?_) (fun q => absurd z4 q))))
    · have q : (2 : Int32) = 0 := q
      exact absurd q (by decide)
    · rw [ex4] at a
      exact Or.inl (d15.mp a)
    · have q : (2 : Int32) = 0 := q
      exact absurd q (by decide)
    · rw [ex4] at c
      exact Or.inr c
    · rw [ex4] at a c
      have nb : ¬ ((hd1 t).1.2.1 = (0 : Int32) ∧ ((15 : Int32) < (hd1 t).2 ∨ ((hd1 t).2 &&& (3 : Int32)) = (3 : Int32))) := fun q => q.2.elim (fun w1 => a (d15.mpr w1)) c
      have e1 : hb1 t = (hd1 t).1 := by
        rw [hb1_e, if_neg nb]
      exact go (by rw [e1]; exact z) ex4 v (by rw [e1]; exact hv1) hFv
  · have nz : ¬ (hd1 t).1.2.1 = (0 : Int32) := fun q => z4 (hv1.2.1.trans q)
    have e1 : hb1 t = (hd1 t).1 := by
      rw [hb1_e, if_neg (fun q => nz q.1)]
    rw [e1]
    exact hv1
  · have nz : ¬ (hd1 t).1.2.1 = (0 : Int32) := fun q => z4 (hv1.2.1.trans q)
    have e1 : hb1 t = (hd1 t).1 := by
      rw [hb1_e, if_neg (fun q => nz q.1)]
    rw [e1]
    exact nz

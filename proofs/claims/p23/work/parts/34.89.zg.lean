-- ===== OUT and what was written, call by call =====
theorem f15_lg (u : OS) (p : Int32) : pc (f_X7_lg u p) (fun o => F15 u o.1) := by
  unfold f_X7_lg
  repeat (first | exact pc_some ⟨rfl, rfl, rfl, rfl⟩ | with_reducible refine pc_ite (fun _ => ?_) (fun _ => ?_) | with_reducible refine pc_gdi (fun _ _ => ?_) | with_reducible refine pc_gdb ?_ | with_reducible refine pc_gdz ?_ | with_reducible refine pc_bnd ?_ | with_reducible refine pc_oC1 (R := fun _ => True) pc_T (fun _ _ => ?_))
theorem f15_share (u : OS) (p : Int32) : pc (f_X7_share u p) (fun o => F15 u o.1) := by
  unfold f_X7_share
  repeat (first | exact pc_some ⟨rfl, rfl, rfl, rfl⟩ | with_reducible refine pc_ite (fun _ => ?_) (fun _ => ?_) | with_reducible refine pc_gdi (fun _ _ => ?_) | with_reducible refine pc_gdb ?_ | with_reducible refine pc_gdz ?_ | with_reducible refine pc_bnd ?_ | with_reducible refine pc_oC1 (R := fun _ => True) pc_T (fun _ _ => ?_))
theorem f15_spread (u : OS) (p : Int32) : pc (f_X7_spread u p) (fun o => F15 u o.1) := by
  unfold f_X7_spread
  repeat (first | exact pc_some ⟨rfl, rfl, rfl, rfl⟩ | with_reducible refine pc_ite (fun _ => ?_) (fun _ => ?_) | with_reducible refine pc_gdi (fun _ _ => ?_) | with_reducible refine pc_gdb ?_ | with_reducible refine pc_gdz ?_ | with_reducible refine pc_bnd ?_ | with_reducible refine pc_oC1 (R := fun _ => True) pc_T (fun _ _ => ?_))
theorem f15_form (u : OS) (p : Int32) : pc (f_X7_form u p) (fun o => F15 u o.1) := by
  unfold f_X7_form
  repeat (first | exact pc_some ⟨rfl, rfl, rfl, rfl⟩ | with_reducible refine pc_ite (fun _ => ?_) (fun _ => ?_) | with_reducible refine pc_gdi (fun _ _ => ?_) | with_reducible refine pc_gdb ?_ | with_reducible refine pc_gdz ?_ | with_reducible refine pc_bnd ?_ | with_reducible refine pc_oC1 (R := fun _ => True) pc_T (fun _ _ => ?_))
theorem f15_lanes (u : OS) (p : Int32) : pc (f_X7_lanes u p) (fun o => F15 u o.1) := by
  unfold f_X7_lanes
  repeat (first | exact pc_some ⟨rfl, rfl, rfl, rfl⟩ | with_reducible refine pc_ite (fun _ => ?_) (fun _ => ?_) | with_reducible refine pc_gdi (fun _ _ => ?_) | with_reducible refine pc_gdb ?_ | with_reducible refine pc_gdz ?_ | with_reducible refine pc_bnd ?_ | with_reducible refine pc_oC1 (R := fun _ => True) pc_T (fun _ _ => ?_))
theorem f15_rule (u : OS) : pc (f_X7_rule u) (fun o => F15 u o.1) := by
  unfold f_X7_rule
  repeat (first | exact pc_some ⟨rfl, rfl, rfl, rfl⟩ | with_reducible refine pc_ite (fun _ => ?_) (fun _ => ?_) | with_reducible refine pc_gdi (fun _ _ => ?_) | with_reducible refine pc_gdb ?_ | with_reducible refine pc_gdz ?_ | with_reducible refine pc_bnd ?_ | with_reducible refine pc_oC1 (R := fun _ => True) pc_T (fun _ _ => ?_))
theorem f15_sign (u : OS) (p : Int32) : pc (f_X7_sign u p) (fun o => F15 u o.1) := by
  unfold f_X7_sign
  repeat (first | exact pc_some ⟨rfl, rfl, rfl, rfl⟩ | with_reducible refine pc_ite (fun _ => ?_) (fun _ => ?_) | with_reducible refine pc_gdi (fun _ _ => ?_) | with_reducible refine pc_gdb ?_ | with_reducible refine pc_gdz ?_ | with_reducible refine pc_bnd ?_ | with_reducible refine pc_oC1 (R := fun _ => True) pc_T (fun _ _ => ?_))
theorem f15_state (u : OS) (p q : Int32) : pc (f_X7_state u p q) (fun o => F15 u o.1) := by
  unfold f_X7_state
  repeat (first | exact pc_some ⟨rfl, rfl, rfl, rfl⟩ | with_reducible refine pc_ite (fun _ => ?_) (fun _ => ?_) | with_reducible refine pc_gdi (fun _ _ => ?_) | with_reducible refine pc_gdb ?_ | with_reducible refine pc_gdz ?_ | with_reducible refine pc_bnd ?_ | with_reducible refine pc_oC1 (R := fun _ => True) pc_T (fun _ _ => ?_))
theorem f15_out (u : OS) (p : Int32) : pc (f_X7_out u p) (fun o => F15 u o.1) := by
  unfold f_X7_out
  repeat (first | exact pc_some ⟨rfl, rfl, rfl, rfl⟩ | with_reducible refine pc_ite (fun _ => ?_) (fun _ => ?_) | with_reducible refine pc_gdi (fun _ _ => ?_) | with_reducible refine pc_gdb ?_ | with_reducible refine pc_gdz ?_ | with_reducible refine pc_bnd ?_ | with_reducible refine pc_oC1 (R := fun _ => True) pc_T (fun _ _ => ?_))
theorem f15_told (u : OS) (p : Int32) : pc (f_X7_told u p) (fun o => F15 u o.1) := by
  unfold f_X7_told
  repeat (first | exact pc_some ⟨rfl, rfl, rfl, rfl⟩ | with_reducible refine pc_ite (fun _ => ?_) (fun _ => ?_) | with_reducible refine pc_gdi (fun _ _ => ?_) | with_reducible refine pc_gdb ?_ | with_reducible refine pc_gdz ?_ | with_reducible refine pc_bnd ?_ | with_reducible refine pc_oC1 (R := fun _ => True) pc_T (fun _ _ => ?_))
theorem f15_loss (u : OS) : pc (f_X7_loss u) (fun o => F15 u o.1) := by
  unfold f_X7_loss
  exact pc_bnd (pc_ite (fun _ => pc_some ⟨rfl, rfl, rfl, rfl⟩) (fun _ => pc_bnd (k8_loss_L20 _ _ (fun y x => pc_some ⟨rfl, rfl, rfl, rfl⟩) FU _ _)))
theorem f15_readAll {g : GH} (u : OS) (h : IM g u) : pc (f_X7_readAll u) (fun v => F15 u v) := by
  intro v ev
  have r := pc_of_ok (s_X7_readAll u h) v ev
  have w := w_X7_readAll u h v ev
  exact ⟨r.2.1 15 (by decide), r.2.2.1 14 (by decide) (by decide) (by decide) (by decide) (by decide) (by decide) (by decide), r.2.1 18 (by decide), w.2⟩
theorem f15_read {g : GH} (u : OS) (h : IM g u) : pc (f_X7_read u) (fun o => F15 u o.1) := by
  unfold f_X7_read
  refine pc_bnd (pc_oC1 (f15_readAll _ (IM_1 h)) (fun v hv => pc_bnd ?_))
  have e : F15 u (sF v 28 (v.1 27)) := hv
  exact pc_ite (fun _ => pc_some e) (fun _ => pc_some e)
-- out
def outA (n : Int32) (f : Nat → Int32) (p : Int32) : Int32 := if p < (0 : Int32) then -1 else if p < n then f p.toNatClampNeg else -1
theorem out_m (u : OS) (p : Int32) : pc (f_X7_out u p) (fun q => q.2 = outA (u.1 15) (u.2.1 14) p) := by
  unfold f_X7_out outA
  refine pc_bnd (pc_ite (fun a => pc_some ?_) (fun a => pc_ite (fun b => pc_gdi (fun _ _ => pc_some ?_)) (fun b => pc_some ?_)))
  · rw [if_pos a]
  · have b : p < u.1 15 := b
    rw [if_neg a, if_pos b]
    rfl
  · have b : ¬ p < u.1 15 := b
    rw [if_neg a, if_neg b]
theorem out_x (uX u : OS) (p : Int32) (h : IO u) : pc (f_X6_out uX u p) (fun r => r = outA (u.1 1) (u.2.1 0) p) := by
  obtain ⟨h0, h1, h2, h3⟩ := h
  have en := nIt (n := u.2.2.2 0) (by omega)
  unfold f_X6_out
  refine pc_oC1 (R := fun r => r = outA (u.1 1) (u.2.1 0) p) ?_ (fun r hr => pc_some hr)
  unfold f_X1_valueAt outA
  refine pc_ite (fun a => pc_some ?_) (fun a => pc_ite (fun b => pc_some ?_) (fun b => pc_ite (fun c => ?_) (fun c => pc_gdi (fun _ _ => pc_some ?_))))
  · rw [if_pos a]
  · rw [if_neg a, if_neg (Int32.not_lt.mpr b)]
  · exfalso
    have b1 := mt Int32.le_iff_toInt_le.mpr b
    have c1 := Int32.le_iff_toInt_le.mp c
    rw [en] at c1
    omega
  · rw [if_neg a, if_pos (Int32.not_le.mp b)]
theorem out_eq {O M : OS} (h : OQ O M) (p : Int32) : outA (O.1 1) (O.2.1 0) p = outA (M.1 15) (M.2.1 14) p := by
  unfold outA
  rw [h.1]
  by_cases a : p < (0 : Int32)
  · rw [if_pos a, if_pos a]
  · rw [if_neg a, if_neg a]
    by_cases b : p < O.1 1
    · rw [if_pos b, if_pos b]
      refine (h.2 _ ?_).symm
      have a1 := mt Int32.lt_iff_toInt_lt.mpr a
      have b1 := Int32.lt_iff_toInt_lt.mp b
      rw [li_0] at a1
      show (p.toInt.toNat : Int) < _
      omega
    · rw [if_neg b, if_neg b]
-- spoil
def spG (n p q : Int32) : Prop := ¬ p < (0 : Int32) ∧ ¬ n ≤ p ∧ ¬ q < (1 : Int32) ∧ q ≤ (255 : Int32)
theorem spoil_m (u : OS) (p q : Int32) : pc (f_X7_spoil u p q) (fun o => (¬ spG (u.1 15) p q ∧ o.2 = -1 ∧ F15 u o.1) ∨ (spG (u.1 15) p q ∧ o.2 = (u.2.1 14 p.toNatClampNeg ^^^ q) ∧ o.1.1 15 = u.1 15 ∧ o.1.2.1 14 = upd (u.2.1 14) p.toNatClampNeg (u.2.1 14 p.toNatClampNeg ^^^ q) ∧ o.1.1 18 = u.1 18 ∧ o.1.2.2.1 17 = u.2.2.1 17)) := by
  unfold f_X7_spoil
  refine pc_bnd (pc_ite (fun a => pc_some (Or.inl ⟨fun z => z.1 a, rfl, ⟨rfl, rfl, rfl, rfl⟩⟩)) (fun a => pc_ite (fun b => pc_some (Or.inl ⟨fun z => z.2.1 b, rfl, ⟨rfl, rfl, rfl, rfl⟩⟩)) (fun b => pc_ite (fun c => pc_some (Or.inl ⟨fun z => z.2.2.1 c, rfl, ⟨rfl, rfl, rfl, rfl⟩⟩)) (fun c => pc_ite (fun d => pc_gdi (fun _ _ => pc_gdi (fun _ _ => pc_bnd (pc_gdi (fun _ _ => pc_some (Or.inr ⟨⟨a, b, c, d⟩, ?_, rfl, rfl, rfl, rfl⟩)))))) (fun d => pc_some (Or.inl ⟨fun z => d z.2.2.2, rfl, ⟨rfl, rfl, rfl, rfl⟩⟩))))))
  show upd (u.2.1 14) p.toNatClampNeg (u.2.1 14 p.toNatClampNeg ^^^ q) p.toNatClampNeg = _
  exact upd_at _ _ _
theorem spoil_x (uX u : OS) (p q : Int32) (h : IO u) : pc (f_X6_spoil uX u p q) (fun o => (¬ spG (u.1 1) p q ∧ o.2 = -1 ∧ o.1 = u) ∨ (spG (u.1 1) p q ∧ o.2 = (u.2.1 0 p.toNatClampNeg ^^^ q) ∧ o.1.1 1 = u.1 1 ∧ o.1.2.1 0 = upd (u.2.1 0) p.toNatClampNeg (u.2.1 0 p.toNatClampNeg ^^^ q))) := by
  obtain ⟨h0, h1, h2, h3⟩ := h
  have en := nIt (n := u.2.2.2 0) (by omega)
  unfold f_X6_spoil
  refine pc_ite (fun c => pc_some (Or.inl ⟨fun z => z.2.2.1 c, rfl, rfl⟩)) (fun c => pc_ite (fun d => pc_oC2 (R := fun o => (¬ spG (u.1 1) p q ∧ o.2 = -1 ∧ o.1 = u) ∨ (spG (u.1 1) p q ∧ o.2 = (u.2.1 0 p.toNatClampNeg ^^^ q) ∧ o.1.1 1 = u.1 1 ∧ o.1.2.1 0 = upd (u.2.1 0) p.toNatClampNeg (u.2.1 0 p.toNatClampNeg ^^^ q))) ?_ (fun v r hv => pc_some hv)) (fun d => pc_some (Or.inl ⟨fun z => d z.2.2.2, rfl, rfl⟩)))
  unfold f_X1_change
  refine pc_ite (fun a => pc_some (Or.inl ⟨fun z => z.1 a, rfl, rfl⟩)) (fun a => pc_ite (fun b => pc_some (Or.inl ⟨fun z => z.2.1 b, rfl, rfl⟩)) (fun b => pc_ite (fun e => pc_gdi (fun _ _ => pc_gdi (fun _ _ => pc_bnd (pc_gdi (fun _ _ => pc_some (Or.inr ⟨⟨a, b, c, d⟩, ?_, rfl, rfl⟩)))))) (fun e => ?_)))
  · show upd (u.2.1 0) p.toNatClampNeg (u.2.1 0 p.toNatClampNeg ^^^ q) p.toNatClampNeg = _
    exact upd_at _ _ _
  · exfalso
    have b1 := mt Int32.le_iff_toInt_le.mpr b
    have e1 := mt Int32.lt_iff_toInt_lt.mpr e
    rw [en] at e1
    omega
theorem spoil_eq {O M o m : OS} {p q a b : Int32} (h : OQ O M) (h1 : (¬ spG (O.1 1) p q ∧ a = -1 ∧ o = O) ∨ (spG (O.1 1) p q ∧ a = (O.2.1 0 p.toNatClampNeg ^^^ q) ∧ o.1 1 = O.1 1 ∧ o.2.1 0 = upd (O.2.1 0) p.toNatClampNeg (O.2.1 0 p.toNatClampNeg ^^^ q))) (h2 : (¬ spG (M.1 15) p q ∧ b = -1 ∧ F15 M m) ∨ (spG (M.1 15) p q ∧ b = (M.2.1 14 p.toNatClampNeg ^^^ q) ∧ m.1 15 = M.1 15 ∧ m.2.1 14 = upd (M.2.1 14) p.toNatClampNeg (M.2.1 14 p.toNatClampNeg ^^^ q) ∧ m.1 18 = M.1 18 ∧ m.2.2.1 17 = M.2.2.1 17)) : OQ o m ∧ (∀ W, WVQ W M → WVQ W m) ∧ a = b := by
  rw [h.1] at h2
  rcases h1 with ⟨p1, q1, e1⟩ | ⟨p1, q1, e1, e2⟩
  · rcases h2 with ⟨r, s, f⟩ | ⟨r, s, _⟩
    · rw [e1, q1, s]
      exact ⟨h.fr f, fun W hW => hW.fr f, rfl⟩
    · exact absurd r p1
  · rcases h2 with ⟨r, s, f⟩ | ⟨r, s, m1, m2, m3, m4⟩
    · exact absurd p1 r
    · have a1 := mt Int32.lt_iff_toInt_lt.mpr p1.1
      have b1 := mt Int32.le_iff_toInt_le.mpr p1.2.1
      rw [li_0] at a1
      have ep := h.2 p.toNatClampNeg (by show (p.toInt.toNat : Int) < _; omega)
      refine ⟨⟨by rw [m1, e1], fun i hi => ?_⟩, fun W hW => ?_, by rw [q1, s, ep]⟩
      · rw [e1] at hi
        rw [m2, e2, ep]
        unfold upd
        by_cases z : i = p.toNatClampNeg
        · rw [if_pos z, if_pos z]
        · rw [if_neg z, if_neg z]
          exact h.2 i hi
      · unfold WVQ at *
        rw [m3, m4]
        exact hW
-- cut
def cutA (n p : Int32) : Int32 := if p < (0 : Int32) then -1 else if p ≤ n then n - p else -1
def cutN (n p : Int32) : Int32 := if p < (0 : Int32) then n else if p ≤ n then n - p else n
theorem cutN_le {n p : Int32} (h0 : 0 ≤ n.toInt) : (cutN n p).toInt ≤ n.toInt := by
  unfold cutN
  by_cases a : p < (0 : Int32)
  · rw [if_pos a]; exact Int.le_refl _
  · rw [if_neg a]
    by_cases b : p ≤ n
    · rw [if_pos b]
      have a1 := mt Int32.lt_iff_toInt_lt.mpr a
      have b1 := Int32.le_iff_toInt_le.mp b
      have hi := i32_hi n
      rw [li_0] at a1
      rw [sub32 (by omega) (by omega)]
      omega
    · rw [if_neg b]; exact Int.le_refl _
theorem cut_m (u : OS) (p : Int32) : pc (f_X7_cut u p) (fun q => q.2 = cutA (u.1 15) p ∧ q.1.1 15 = cutN (u.1 15) p ∧ q.1.2 = u.2 ∧ q.1.1 18 = u.1 18) := by
  unfold f_X7_cut cutA cutN
  refine pc_bnd (pc_ite (fun a => pc_some ?_) (fun a => pc_ite (fun b => pc_bnd (pc_some ?_)) (fun b => pc_some ?_)))
  · rw [if_pos a, if_pos a]
    exact ⟨rfl, rfl, rfl, rfl⟩
  · have b : p ≤ u.1 15 := b
    rw [if_neg a, if_neg a, if_pos b, if_pos b]
    exact ⟨rfl, rfl, rfl, rfl⟩
  · have b : ¬ p ≤ u.1 15 := b
    rw [if_neg a, if_neg a, if_neg b, if_neg b]
    exact ⟨rfl, rfl, rfl, rfl⟩
theorem cut_x (uX u : OS) (p : Int32) : pc (f_X6_cut uX u p) (fun q => q.2 = cutA (u.1 1) p ∧ q.1.1 1 = cutN (u.1 1) p ∧ q.1.2 = u.2) := by
  unfold f_X6_cut cutA cutN
  refine pc_ite (fun a => pc_some ?_) (fun a => pc_ite (fun b => pc_bnd (pc_some ?_)) (fun b => pc_some ?_))
  · rw [if_pos a, if_pos a]
    exact ⟨rfl, rfl, rfl⟩
  · rw [if_neg a, if_neg a, if_pos b, if_pos b]
    exact ⟨rfl, rfl, rfl⟩
  · rw [if_neg a, if_neg a, if_neg b, if_neg b]
    exact ⟨rfl, rfl, rfl⟩
theorem cut_eq {O M o m : OS} {p a b : Int32} (h : OQ O M) (hO : IO O) (h1 : a = cutA (O.1 1) p ∧ o.1 1 = cutN (O.1 1) p ∧ o.2 = O.2) (h2 : b = cutA (M.1 15) p ∧ m.1 15 = cutN (M.1 15) p ∧ m.2 = M.2 ∧ m.1 18 = M.1 18) : OQ o m ∧ (∀ W, WVQ W M → WVQ W m) ∧ a = b := by
  obtain ⟨a1, a2, a3⟩ := h1
  obtain ⟨b1, b2, b3, b4⟩ := h2
  rw [h.1] at b1 b2
  refine ⟨⟨by rw [b2, a2], fun i hi => ?_⟩, fun W hW => ?_, by rw [a1, b1]⟩
  · rw [b3, a3]
    rw [a2] at hi
    have := cutN_le (n := O.1 1) (p := p) hO.1
    exact h.2 i (by omega)
  · unfold WVQ at *
    rw [b3, b4]
    exact hW
-- octet
theorem oct_m (u : OS) (p : Int32) : pc (f_X7_octet u p) (fun q => (¬ u.1 15 < (8000 : Int32) ∧ q.2 = -3 ∧ F15 u q.1) ∨ (u.1 15 < (8000 : Int32) ∧ q.2 = u.1 15 + (1 : Int32) ∧ q.1.1 15 = u.1 15 + (1 : Int32) ∧ q.1.2.1 14 = upd (u.2.1 14) (u.1 15).toNatClampNeg (p &&& (255 : Int32)) ∧ q.1.1 18 = u.1 18 ∧ q.1.2.2.1 17 = u.2.2.1 17)) := by
  unfold f_X7_octet
  refine pc_bnd (pc_ite (fun a => pc_oC1 (R := fun v => v.1 15 = u.1 15 + (1 : Int32) ∧ v.2.1 14 = upd (u.2.1 14) (u.1 15).toNatClampNeg (p &&& (255 : Int32)) ∧ v.1 18 = u.1 18 ∧ v.2.2.1 17 = u.2.2.1 17) ?_ (fun v hv => pc_some (Or.inr ⟨a, hv.1, hv⟩))) (fun a => pc_some (Or.inl ⟨a, rfl, ⟨rfl, rfl, rfl, rfl⟩⟩)))
  unfold f_X7_putByte
  exact pc_gdi (fun _ _ => pc_bnd (pc_bnd (pc_some ⟨rfl, rfl, rfl, rfl⟩)))
theorem oct_x (uX u : OS) (p : Int32) (h : IO u) : pcA (f_X6_octet uX u p) (fun q => (¬ u.1 1 < (8000 : Int32) ∧ q.2 = -3 ∧ q.1.1 1 = u.1 1 ∧ ∀ i : Nat, (i : Int) < (u.1 1).toInt → q.1.2.1 0 i = u.2.1 0 i) ∨ (u.1 1 < (8000 : Int32) ∧ q.2 = u.1 1 + (1 : Int32) ∧ q.1.1 1 = u.1 1 + (1 : Int32) ∧ ∀ i : Nat, (i : Int) < (u.1 1).toInt + 1 → q.1.2.1 0 i = upd (u.2.1 0) (u.1 1).toNatClampNeg (p &&& (255 : Int32)) i)) := by
  obtain ⟨h0, h1, h2, h3⟩ := h
  unfold f_X6_octet
  refine pcA_oA2 (R := fun q => (q.2 = 0 ∧ ¬ u.1 1 < (8000 : Int32) ∧ q.1.1 1 = u.1 1 ∧ ∀ i : Nat, (i : Int) < (u.1 1).toInt → q.1.2.1 0 i = u.2.1 0 i) ∨ (q.2 = 1 ∧ u.1 1 < (8000 : Int32) ∧ q.1.1 1 = u.1 1 + (1 : Int32) ∧ ∀ i : Nat, (i : Int) < (u.1 1).toInt + 1 → q.1.2.1 0 i = upd (u.2.1 0) (u.1 1).toNatClampNeg (p &&& (255 : Int32)) i)) ?_ (fun v r kc ks hv => pcA_addc (pcA_ite (fun z => pcA_some ?_) (fun z => pcA_some ?_)))
  · unfold f_X1_append
    refine pcA_oA2 (pcA_ok (s_withRoom (lm := 8000) (u.2.1 0) h2 li_8000 h3 (by decide) (by omega))) (fun n f kc ks hr => ?_)
    obtain ⟨m', n', r1, r2, r3, r4, _, _⟩ := hr
    have r2 : n ≤ 8000 := r2
    have r3 : (u.1 1).toInt < n ∨ (8000 : Int32).toInt ≤ (u.1 1).toInt := r3
    have r4 : ∀ i, i < u.2.2.2 0 → f i = u.2.1 0 i := r4
    rw [li_8000] at r3
    have en := nIt (n := n) (by omega)
    refine pcA_addc (pcA_bnd (pcA_ite (fun c => pcA_gdi (fun _ _ => pcA_bnd (pcA_bnd (pcA_some (Or.inr ⟨rfl, ?_, rfl, fun i hi => ?_⟩))))) (fun c => pcA_some (Or.inl ⟨rfl, ?_, rfl, fun i hi => ?_⟩))))
    · have c : u.1 1 < nI n := c
      have c1 := Int32.lt_iff_toInt_lt.mp c
      rw [en] at c1
      exact Int32.lt_iff_toInt_lt.mpr (by rw [li_8000]; omega)
    · show upd f (u.1 1).toNatClampNeg (p &&& (255 : Int32)) i = _
      unfold upd
      by_cases z : i = (u.1 1).toNatClampNeg
      · rw [if_pos z, if_pos z]
      · rw [if_neg z, if_neg z]
        have z : ¬ i = (u.1 1).toInt.toNat := z
        exact r4 i (by omega)
    · have c : ¬ u.1 1 < nI n := c
      have c1 := mt Int32.lt_iff_toInt_lt.mpr c
      rw [en] at c1
      intro q
      have := Int32.lt_iff_toInt_lt.mp q
      rw [li_8000] at this
      omega
    · show f i = _
      exact r4 i (by omega)
  · rcases hv with ⟨a, b, c, d⟩ | ⟨a, b, c, d⟩
    · exact Or.inl ⟨b, rfl, c, d⟩
    · have a : r = 1 := a
      rw [z] at a
      exact absurd a (by decide)
  · rcases hv with ⟨a, b, c, d⟩ | ⟨a, b, c, d⟩
    · exact absurd a z
    · exact Or.inr ⟨b, c, c, d⟩
theorem oct_eq {O M o m : OS} {p a b : Int32} (h : OQ O M) (hO : IO O) (h1 : (¬ O.1 1 < (8000 : Int32) ∧ a = -3 ∧ o.1 1 = O.1 1 ∧ ∀ i : Nat, (i : Int) < (O.1 1).toInt → o.2.1 0 i = O.2.1 0 i) ∨ (O.1 1 < (8000 : Int32) ∧ a = O.1 1 + (1 : Int32) ∧ o.1 1 = O.1 1 + (1 : Int32) ∧ ∀ i : Nat, (i : Int) < (O.1 1).toInt + 1 → o.2.1 0 i = upd (O.2.1 0) (O.1 1).toNatClampNeg (p &&& (255 : Int32)) i)) (h2 : (¬ M.1 15 < (8000 : Int32) ∧ b = -3 ∧ F15 M m) ∨ (M.1 15 < (8000 : Int32) ∧ b = M.1 15 + (1 : Int32) ∧ m.1 15 = M.1 15 + (1 : Int32) ∧ m.2.1 14 = upd (M.2.1 14) (M.1 15).toNatClampNeg (p &&& (255 : Int32)) ∧ m.1 18 = M.1 18 ∧ m.2.2.1 17 = M.2.2.1 17)) : OQ o m ∧ (∀ W, WVQ W M → WVQ W m) ∧ a = b := by
  rw [h.1] at h2
  obtain ⟨h00, h01, h02, h03⟩ := hO
  rcases h1 with ⟨p1, q1, e1, e2⟩ | ⟨p1, q1, e1, e2⟩
  · rcases h2 with ⟨r, s, f⟩ | ⟨r, s, _⟩
    · refine ⟨⟨by rw [f.1, e1]; exact h.1, fun i hi => ?_⟩, fun W hW => hW.fr f, by rw [q1, s]⟩
      rw [e1] at hi
      rw [e2 i hi, f.2.1]
      exact h.2 i hi
    · exact absurd r p1
  · rcases h2 with ⟨r, s, f⟩ | ⟨r, s, m1, m2, m3, m4⟩
    · exact absurd p1 r
    · have c1 := Int32.lt_iff_toInt_lt.mp p1
      rw [li_8000] at c1
      have ei := inc32 (x := O.1 1) (by omega)
      refine ⟨⟨by rw [m1, e1], fun i hi => ?_⟩, fun W hW => ?_, by rw [q1, s]⟩
      · rw [e1, ei] at hi
        rw [m2, e2 i hi]
        unfold upd
        by_cases z : i = (O.1 1).toNatClampNeg
        · rw [if_pos z, if_pos z]
        · rw [if_neg z, if_neg z]
          have z : ¬ i = (O.1 1).toInt.toNat := z
          exact h.2 i (by omega)
      · unfold WVQ at *
        rw [m3, m4]
        exact hW
-- agree: the last form written is 3
theorem MWR.fr {g : GH} {pf pl : Nat → Int32} {u v : OS} (h : MWR g pf pl u) (f : F15 u v) : MWR g pf pl v := by
  unfold MWR at *
  rw [f.1, f.2.1, f.2.2.1, f.2.2.2]
  exact h
theorem nI_4 {j : Nat} (hj : j < 4) : nI j = 0 ∨ nI j = 1 ∨ nI j = 2 ∨ nI j = 3 := by
  rcases (show j = 0 ∨ j = 1 ∨ j = 2 ∨ j = 3 by omega) with q | q | q | q <;> subst q
  · exact Or.inl rfl
  · exact Or.inr (Or.inl rfl)
  · exact Or.inr (Or.inr (Or.inl rfl))
  · exact Or.inr (Or.inr (Or.inr rfl))
set_option maxHeartbeats 2000000 in
theorem l_agree_L19 {g : GH} {pf pl : Nat → Int32} (w : WR g) (hGW : ∀ j, j < 4 → ∃ k, GW (gF g (nI j)) pf pl k) {Q : OS × Int32 → Prop} (K : Int32 → Int32 → OS → Option (OS × Int32)) (hK : ∀ a b u, MWR (gF g 3) pf pl u → pc (K a b u) Q) : ∀ (n j : Nat) (x y : Int32) (u : OS), x = nI j → j ≤ 4 → (j = 4 → MWR (gF g 3) pf pl u) → IM g u → (∀ i, i < 4096 → u.2.1 13 i = pl i) → u.1 7 = 1 → POS u (u.1 5).toInt → pc (f_X7_agree_L19 n K x y u) Q := by
  intro n
  induction n with
  | zero => intro j x y u _ _ _ _ _ _ _; exact pc_none
  | succ n ih =>
    intro j x y u hx hj hL h h13 z hP
    have ex : x.toInt = j := by rw [hx, nI_toInt (by omega)]
    unfold f_X7_agree_L19
    refine pc_ite (fun c => hK _ _ _ (hL ?_)) (fun c => ?_)
    · have c1 := Int32.le_iff_toInt_le.mp c
      rw [li_4, ex] at c1
      clear hK ih
      omega
    have c1 := mt Int32.le_iff_toInt_le.mpr c
    rw [li_4, ex] at c1
    have j4 : j < 4 := by clear hK ih; omega
    have e1 : x + (1 : Int32) = nI (j + 1) := by rw [hx, nI_1]
    obtain ⟨k, gw⟩ := hGW j j4
    have ak := (powA k (by have := gw.2.1; omega) gw.1).2.2.2.2.2
    have p4 : 2 ^ k ≤ 4096 := ak.2
    have lx := wform_m (F := x) u h w (by rw [hx]; exact gw) (fun i hi => h13 i (by omega))
    refine pc_oC1 (pc_and (pc_of_ok (s_X7_writeForm u x h (by rw [ex]; omega) (by rw [ex]; clear hK ih; omega) z hP)) lx) (fun v hvv => ?_)
    obtain ⟨hv, lv⟩ := hvv
    refine pc_oC1 (pc_and (pc_and (pc_of_ok (s_X7_readAll v hv.1)) (w_X7_readAll v hv.1)) (f15_readAll v hv.1)) (fun w2 hww => pc_bnd ?_)
    obtain ⟨⟨hw, w3⟩, f15⟩ := hww
    have h28 : IM g (sF w2 28 (w2.1 27)) := IM_28 hw.1
    have e5 : w2.1 5 = u.1 5 := (hw.2.1 5 (by decide)).trans (hv.2.1 5 (by decide) (by decide) (by decide) (by decide) (by decide) (by decide))
    have e7 : w2.1 7 = 1 := ((hw.2.1 7 (by decide)).trans (hv.2.1 7 (by decide) (by decide) (by decide) (by decide) (by decide) (by decide))).trans z
    have e4 : w2.2.1 4 = u.2.1 4 := (hw.2.2.1 4 (by decide) (by decide) (by decide) (by decide) (by decide) (by decide) (by decide)).trans (hv.2.2 4 (by decide) (by decide))
    have n13 : ∀ i, i < 4096 → w2.2.1 13 i = pl i := fun i hi => by rw [(w3.1 i (by omega)).2.2, hv.2.2 13 (by decide) (by decide)]; exact h13 i hi
    have hPw : POS w2 (w2.1 5).toInt := by
      intro i hi
      rw [e5] at hi
      have r := h.2.2.2.1 i
      have rn : (u.2.1 4 i).toNatClampNeg < 32 := by
        show (u.2.1 4 i).toInt.toNat < 32
        clear hK ih
        omega
      rw [e4, hw.2.2.2.1 _ rn, hv.2.2 8 (by decide) (by decide)]
      exact hP i hi
    have hL2 : j + 1 = 4 → MWR (gF g 3) pf pl (sF w2 28 (w2.1 27)) := by
      intro q
      have x3 : x = 3 := by
        rw [hx, show j = 3 by omega]
        rfl
      rw [x3] at lv
      exact MWR.fr lv.1 f15
    have go : ∀ y2 : Int32, pc (f_X7_agree_L19 n K (x + (1 : Int32)) y2 (sF w2 28 (w2.1 27))) Q := fun y2 => ih (j + 1) _ _ _ e1 (by clear hK ih; omega) hL2 h28 n13 e7 hPw
    have key : ∀ a : Int32, pc (bnd (fun (x22 : Int32) (x23 : Int32) =>
    if x22 = (0 : Int32) then (
    bnd (x + (1 : Int32)) fun x26 =>
    f_X7_agree_L19 n K x26 (0 : Int32) (sF w2 28 (w2.1 27))) else (
    bnd (x + (1 : Int32)) fun x27 =>
    f_X7_agree_L19 n K x27 y (sF w2 28 (w2.1 27)))) fun K110_24 =>
    f_X7_agree_L68 (sF w2 28 (w2.1 27)) FU K110_24 (0 : Int32) a) Q := fun a => pc_bnd (j_agree_L68 _ _ (fun a b => pc_ite (fun _ => pc_bnd (go _)) (fun _ => pc_bnd (go _))) FU _ _)
    exact pc_bnd (pc_bnd (pc_ite (fun _ => pc_ite (fun _ => key _) (fun _ => key _)) (fun _ => key _)))
theorem l_X7_agree {g : GH} {pf pl : Nat → Int32} (u : OS) (h : IM g u) (hGW : WR g → ∀ j, j < 4 → ∃ k, GW (gF g (nI j)) pf pl k) (h13 : u.2.1 13 = pl) : pc (f_X7_agree u) (fun q => (¬ WR g ∧ F15 u q.1) ∨ (WR g ∧ MWR (gF g 3) pf pl q.1)) := by
  unfold f_X7_agree
  refine pc_bnd (pc_oC1 (pc_and (pc_of_ok (s_X7_mayWrite _ (IM_1 h))) (p_X7_mayWrite _ (IM_1 h))) (fun a ha => pc_ite (fun c => pc_some (Or.inl ⟨?_, ⟨rfl, rfl, rfl, rfl⟩⟩)) (fun c => pc_bnd ?_)))
  · rcases ha.2 with q | q
    · exact q.2
    · rw [c] at q
      exact absurd q.1 (by decide)
  · have w : WR g := by
      rcases ha.2 with q | q
      · exact absurd q.1 c
      · exact q.2
    rcases ha.1 with q | ⟨q1, q2, q3⟩
    · exact absurd q c
    · exact l_agree_L19 w (hGW w) _ (fun a b v hv => pc_some (Or.inr ⟨w, hv⟩)) FU 0 (0 : Int32) _ _ rfl (by decide) (fun q => absurd q (by decide)) (IM_1 h) (fun i _ => by rw [← h13]; rfl) q2 q3
set_option maxHeartbeats 2000000 in
theorem l_agree_L14 {g : GH} (uX M : OS) (hX : IX g uX) (hM : IM g M) (hJM : JM M) (w : WR g) (pf : Nat → Int32) {Q : OS × OS × OS × OS × OS × OS × Int32 → Prop} (K : Int32 → Int32 → OS → OS → OS → OS → OS → OS → Option ((OS × OS × OS × OS × OS × OS × Int32) × Nat × Nat)) (hK : ∀ a b s w p r z o, XWR (gF g 3) pf (M.2.1 13) w o → pcA (K a b s w p r z o) Q) : ∀ (n j : Nat) (x y : Int32) (s w p r z o : OS), x = nI j → j ≤ 4 → (j = 4 → XWR (gF g 3) pf (M.2.1 13) w o) → IS s → IG g.2 s → JS s → s.2.1 4 = pf → IP p → IO o → pcA (f_X6_agree_L14 uX n K x y s w p r z o) Q := by
  intro n
  induction n with
  | zero => intro j x y s w p r z o _ _ _ _ _ _ _ _ _; exact pcA_none
  | succ n ih =>
    intro j x y s w' p r z o hx hj hL hI hG hJ h4 hp ho
    have ex : x.toInt = j := by rw [hx, nI_toInt (by omega)]
    unfold f_X6_agree_L14
    refine pcA_ite (fun c => hK _ _ _ _ _ _ _ _ (hL ?_)) (fun c => ?_)
    · have c1 := Int32.lt_iff_toInt_lt.mp c
      rw [li_3, ex] at c1
      clear hK ih
      omega
    have c1 := mt Int32.lt_iff_toInt_lt.mpr c
    rw [li_3, ex] at c1
    have j4 : j < 4 := by clear hK ih; omega
    have e1 : x + (1 : Int32) = nI (j + 1) := by rw [hx, nI_1]
    obtain ⟨k, gw, s1, s2⟩ := gw_ofF (F := x) (by rw [hx]; exact nI_4 j4) hI hG hJ hM hJM w
    rw [h4] at gw s1 s2
    obtain ⟨k', ⟨k1, k2, _, sh, _, _, z0⟩, ek, _⟩ := shb hG hM w.1
    refine pcA_oA4 (pcA_and (pcA_and (pcA_cq (s_X5_writeRow s w' p o (mkA (uX.2.2.2 6) (uX.2.1 6)) (uX.1 7) x (uX.1 9) hI hp ho hX.2.2.1.2 hX.2.1.1 hX.2.2.2.1)) (q_writeRow (PS := fun v => JS v ∧ v.2.1 4 = pf) s w' p o _ _ _ _ ⟨hJ, h4⟩ (fun v m n e => ?_))) (wrow_x (F := x) uX s w' p o hX hI hp ho hG gw (fun n2 => ⟨(s1 n2).1, h4⟩) s2)) (fun a b c d m1 n1 hq => pcA_addc (pcA_oA3 (R := fun _ => True) (fun _ _ _ _ => trivial) (fun e f t m2 n2 _ => pcA_addc ?_)))
    · have q := js_makeSpread k1 k2 s hI ek sh z0 hJ v m n e
      exact ⟨q.2.2, q.1.2.2.2.2.trans h4⟩
    · obtain ⟨⟨⟨i4, sf⟩, ja, fa⟩, la⟩ := hq
      have hL2 : j + 1 = 4 → XWR (gF g 3) pf (M.2.1 13) b d := by
        intro q
        have x3 : x = 3 := by
          rw [hx, show j = 3 by omega]
          rfl
        rw [x3] at la
        exact la
      have go : ∀ y2 : Int32, pcA (bnd (x + (1 : Int32)) fun x2 => f_X6_agree_L14 uX n K x2 y2 a b c e f d) Q := fun y2 => pcA_bnd (ih (j + 1) _ _ _ _ _ _ _ _ e1 (by clear hK ih; omega) hL2 i4.1 (hG.fr sf) ja fa i4.2.2.1 i4.2.2.2)
      exact pcA_ite (fun _ => pcA_oC1 (R := fun _ => True) (fun _ _ => trivial) (fun r2 _ => pcA_ite (fun _ => go _) (fun _ => go _))) (fun _ => go _)
theorem l_X6_agree {g : GH} (uX uS uW uP uR uZ uO M : OS) (hX : IX g uX) (hS : IS uS) (hP : IP uP) (hO : IO uO) (hG : IG g.2 uS) (hK : LK g.1.2.2 g.2) (hM : IM g M) (hJM : JM M) (h : JS uS) : pcA (f_X6_agree uX uS uW uP uR uZ uO) (fun q => (¬ WR g ∧ q.2.1 = uW ∧ q.2.2.2.2.2.1 = uO) ∨ (WR g ∧ XWR (gF g 3) (uS.2.1 4) (M.2.1 13) q.2.1 q.2.2.2.2.2.1)) := by
  unfold f_X6_agree
  refine pcA_oC1 (p_X6_isWritable uX uS hX hS hG hK) (fun r hr => pcA_ite (fun c => pcA_some (Or.inl ⟨?_, rfl, rfl⟩)) (fun c => pcA_bnd ?_))
  · rcases hr with q | q
    · exact q.2
    · rw [c] at q
      exact absurd q.1 (by decide)
  · have w : WR g := by
      rcases hr with q | q
      · exact absurd q.1 c
      · exact q.2
    exact l_agree_L14 uX M hX hM hJM w (uS.2.1 4) _ (fun a b s w' p r z o ho => pcA_some (Or.inr ⟨w, ho⟩)) FU 0 (0 : Int32) _ uS uW uP uR uZ uO rfl (by decide) (fun q => absurd q (by decide)) hS hG h rfl hP hO
theorem ag_eq {g : GH} {pf pl : Nat → Int32} {W O w o M m : OS} (hO : OQ O M) (hW : WVQ W M) (h1 : (¬ WR g ∧ w = W ∧ o = O) ∨ (WR g ∧ XWR (gF g 3) pf pl w o)) (h2 : (¬ WR g ∧ F15 M m) ∨ (WR g ∧ MWR (gF g 3) pf pl m)) : OQ o m ∧ WVQ w m := by
  rcases h1 with ⟨p, e1, e2⟩ | ⟨p, x⟩
  · rcases h2 with ⟨r, f⟩ | ⟨r, y⟩
    · rw [e1, e2]
      exact ⟨hO.fr f, hW.fr f⟩
    · exact absurd r p
  · rcases h2 with ⟨r, f⟩ | ⟨r, y⟩
    · exact absurd p r
    · exact ow_of y x

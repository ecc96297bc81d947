-- ===== what was read, call by call (the model) =====
def F28 (u v : OS) : Prop := v.1 28 = u.1 28 ∧ v.1 25 = u.1 25 ∧ v.1 32 = u.1 32 ∧ v.1 31 = u.1 31 ∧ v.2.1 24 = u.2.1 24 ∧ v.2.2.1 33 = u.2.2.1 33
theorem F28.rf {u : OS} : F28 u u := ⟨rfl, rfl, rfl, rfl, rfl, rfl⟩
theorem F28.tr {u v w : OS} (h1 : F28 u v) (h2 : F28 v w) : F28 u w := ⟨h2.1.trans h1.1, h2.2.1.trans h1.2.1, h2.2.2.1.trans h1.2.2.1, h2.2.2.2.1.trans h1.2.2.2.1, h2.2.2.2.2.1.trans h1.2.2.2.2.1, h2.2.2.2.2.2.trans h1.2.2.2.2.2⟩
theorem e28_add (u : OS) (p : Int32) : pc (f_X7_add u p) (fun o => F28 u o.1) := by
  unfold f_X7_add
  repeat (first | exact pc_some ⟨rfl, rfl, rfl, rfl, rfl, rfl⟩ | with_reducible refine pc_ite (fun _ => ?_) (fun _ => ?_) | with_reducible refine pc_gdi (fun _ _ => ?_) | with_reducible refine pc_gdb ?_ | with_reducible refine pc_gdz ?_ | with_reducible refine pc_bnd ?_ | with_reducible refine pc_oC1 (R := fun _ => True) pc_T (fun _ _ => ?_))
theorem e28_clear (u : OS) : pc (f_X7_clear u) (fun o => F28 u o.1) := by
  unfold f_X7_clear
  repeat (first | exact pc_some ⟨rfl, rfl, rfl, rfl, rfl, rfl⟩ | with_reducible refine pc_ite (fun _ => ?_) (fun _ => ?_) | with_reducible refine pc_gdi (fun _ _ => ?_) | with_reducible refine pc_gdb ?_ | with_reducible refine pc_gdz ?_ | with_reducible refine pc_bnd ?_ | with_reducible refine pc_oC1 (R := fun _ => True) pc_T (fun _ _ => ?_))
theorem e28_count (u : OS) (p q : Int32) : pc (f_X7_count u p q) (fun o => F28 u o.1) := by
  unfold f_X7_count
  repeat (first | exact pc_some ⟨rfl, rfl, rfl, rfl, rfl, rfl⟩ | with_reducible refine pc_ite (fun _ => ?_) (fun _ => ?_) | with_reducible refine pc_gdi (fun _ _ => ?_) | with_reducible refine pc_gdb ?_ | with_reducible refine pc_gdz ?_ | with_reducible refine pc_bnd ?_ | with_reducible refine pc_oC1 (R := fun _ => True) pc_T (fun _ _ => ?_))
theorem e28_lg (u : OS) (p : Int32) : pc (f_X7_lg u p) (fun o => F28 u o.1) := by
  unfold f_X7_lg
  repeat (first | exact pc_some ⟨rfl, rfl, rfl, rfl, rfl, rfl⟩ | with_reducible refine pc_ite (fun _ => ?_) (fun _ => ?_) | with_reducible refine pc_gdi (fun _ _ => ?_) | with_reducible refine pc_gdb ?_ | with_reducible refine pc_gdz ?_ | with_reducible refine pc_bnd ?_ | with_reducible refine pc_oC1 (R := fun _ => True) pc_T (fun _ _ => ?_))
theorem e28_share (u : OS) (p : Int32) : pc (f_X7_share u p) (fun o => F28 u o.1) := by
  unfold f_X7_share
  repeat (first | exact pc_some ⟨rfl, rfl, rfl, rfl, rfl, rfl⟩ | with_reducible refine pc_ite (fun _ => ?_) (fun _ => ?_) | with_reducible refine pc_gdi (fun _ _ => ?_) | with_reducible refine pc_gdb ?_ | with_reducible refine pc_gdz ?_ | with_reducible refine pc_bnd ?_ | with_reducible refine pc_oC1 (R := fun _ => True) pc_T (fun _ _ => ?_))
theorem e28_spread (u : OS) (p : Int32) : pc (f_X7_spread u p) (fun o => F28 u o.1) := by
  unfold f_X7_spread
  repeat (first | exact pc_some ⟨rfl, rfl, rfl, rfl, rfl, rfl⟩ | with_reducible refine pc_ite (fun _ => ?_) (fun _ => ?_) | with_reducible refine pc_gdi (fun _ _ => ?_) | with_reducible refine pc_gdb ?_ | with_reducible refine pc_gdz ?_ | with_reducible refine pc_bnd ?_ | with_reducible refine pc_oC1 (R := fun _ => True) pc_T (fun _ _ => ?_))
theorem e28_form (u : OS) (p : Int32) : pc (f_X7_form u p) (fun o => F28 u o.1) := by
  unfold f_X7_form
  repeat (first | exact pc_some ⟨rfl, rfl, rfl, rfl, rfl, rfl⟩ | with_reducible refine pc_ite (fun _ => ?_) (fun _ => ?_) | with_reducible refine pc_gdi (fun _ _ => ?_) | with_reducible refine pc_gdb ?_ | with_reducible refine pc_gdz ?_ | with_reducible refine pc_bnd ?_ | with_reducible refine pc_oC1 (R := fun _ => True) pc_T (fun _ _ => ?_))
theorem e28_lanes (u : OS) (p : Int32) : pc (f_X7_lanes u p) (fun o => F28 u o.1) := by
  unfold f_X7_lanes
  repeat (first | exact pc_some ⟨rfl, rfl, rfl, rfl, rfl, rfl⟩ | with_reducible refine pc_ite (fun _ => ?_) (fun _ => ?_) | with_reducible refine pc_gdi (fun _ _ => ?_) | with_reducible refine pc_gdb ?_ | with_reducible refine pc_gdz ?_ | with_reducible refine pc_bnd ?_ | with_reducible refine pc_oC1 (R := fun _ => True) pc_T (fun _ _ => ?_))
theorem e28_rule (u : OS) : pc (f_X7_rule u) (fun o => F28 u o.1) := by
  unfold f_X7_rule
  repeat (first | exact pc_some ⟨rfl, rfl, rfl, rfl, rfl, rfl⟩ | with_reducible refine pc_ite (fun _ => ?_) (fun _ => ?_) | with_reducible refine pc_gdi (fun _ _ => ?_) | with_reducible refine pc_gdb ?_ | with_reducible refine pc_gdz ?_ | with_reducible refine pc_bnd ?_ | with_reducible refine pc_oC1 (R := fun _ => True) pc_T (fun _ _ => ?_))
theorem e28_sign (u : OS) (p : Int32) : pc (f_X7_sign u p) (fun o => F28 u o.1) := by
  unfold f_X7_sign
  repeat (first | exact pc_some ⟨rfl, rfl, rfl, rfl, rfl, rfl⟩ | with_reducible refine pc_ite (fun _ => ?_) (fun _ => ?_) | with_reducible refine pc_gdi (fun _ _ => ?_) | with_reducible refine pc_gdb ?_ | with_reducible refine pc_gdz ?_ | with_reducible refine pc_bnd ?_ | with_reducible refine pc_oC1 (R := fun _ => True) pc_T (fun _ _ => ?_))
theorem e28_state (u : OS) (p q : Int32) : pc (f_X7_state u p q) (fun o => F28 u o.1) := by
  unfold f_X7_state
  repeat (first | exact pc_some ⟨rfl, rfl, rfl, rfl, rfl, rfl⟩ | with_reducible refine pc_ite (fun _ => ?_) (fun _ => ?_) | with_reducible refine pc_gdi (fun _ _ => ?_) | with_reducible refine pc_gdb ?_ | with_reducible refine pc_gdz ?_ | with_reducible refine pc_bnd ?_ | with_reducible refine pc_oC1 (R := fun _ => True) pc_T (fun _ _ => ?_))
theorem e28_out (u : OS) (p : Int32) : pc (f_X7_out u p) (fun o => F28 u o.1) := by
  unfold f_X7_out
  repeat (first | exact pc_some ⟨rfl, rfl, rfl, rfl, rfl, rfl⟩ | with_reducible refine pc_ite (fun _ => ?_) (fun _ => ?_) | with_reducible refine pc_gdi (fun _ _ => ?_) | with_reducible refine pc_gdb ?_ | with_reducible refine pc_gdz ?_ | with_reducible refine pc_bnd ?_ | with_reducible refine pc_oC1 (R := fun _ => True) pc_T (fun _ _ => ?_))
theorem e28_spoil (u : OS) (p q : Int32) : pc (f_X7_spoil u p q) (fun o => F28 u o.1) := by
  unfold f_X7_spoil
  repeat (first | exact pc_some ⟨rfl, rfl, rfl, rfl, rfl, rfl⟩ | with_reducible refine pc_ite (fun _ => ?_) (fun _ => ?_) | with_reducible refine pc_gdi (fun _ _ => ?_) | with_reducible refine pc_gdb ?_ | with_reducible refine pc_gdz ?_ | with_reducible refine pc_bnd ?_ | with_reducible refine pc_oC1 (R := fun _ => True) pc_T (fun _ _ => ?_))
theorem e28_cut (u : OS) (p : Int32) : pc (f_X7_cut u p) (fun o => F28 u o.1) := by
  unfold f_X7_cut
  repeat (first | exact pc_some ⟨rfl, rfl, rfl, rfl, rfl, rfl⟩ | with_reducible refine pc_ite (fun _ => ?_) (fun _ => ?_) | with_reducible refine pc_gdi (fun _ _ => ?_) | with_reducible refine pc_gdb ?_ | with_reducible refine pc_gdz ?_ | with_reducible refine pc_bnd ?_ | with_reducible refine pc_oC1 (R := fun _ => True) pc_T (fun _ _ => ?_))
theorem e28_told (u : OS) (p : Int32) : pc (f_X7_told u p) (fun o => F28 u o.1) := by
  unfold f_X7_told
  repeat (first | exact pc_some ⟨rfl, rfl, rfl, rfl, rfl, rfl⟩ | with_reducible refine pc_ite (fun _ => ?_) (fun _ => ?_) | with_reducible refine pc_gdi (fun _ _ => ?_) | with_reducible refine pc_gdb ?_ | with_reducible refine pc_gdz ?_ | with_reducible refine pc_bnd ?_ | with_reducible refine pc_oC1 (R := fun _ => True) pc_T (fun _ _ => ?_))
theorem e28_counts_L28 (u0 : OS) {Q : OS × Int32 → Prop} (K : Int32 → OS → Option (OS × Int32)) (hK : ∀ x v, F28 u0 v → pc (K x v) Q) : ∀ (n : Nat) (x : Int32) (u : OS), F28 u0 u → pc (f_X7_counts_L28 n K x u) Q := by
  intro n
  induction n with
  | zero => intro x u _; exact pc_none
  | succ n ih =>
    intro x u h
    unfold f_X7_counts_L28
    exact pc_ite (fun _ => hK _ _ h) (fun _ => pc_gdi (fun _ _ => pc_gdi (fun _ _ => pc_gdi (fun _ _ => pc_bnd (pc_bnd (ih _ _ h))))))
theorem e28_counts_L7 (u0 : OS) {Q : OS × Int32 → Prop} (K : Int32 → OS → Option (OS × Int32)) (hK : ∀ x v, F28 u0 v → pc (K x v) Q) : ∀ (n : Nat) (x : Int32) (u : OS), F28 u0 u → pc (f_X7_counts_L7 n K x u) Q := by
  intro n
  induction n with
  | zero => intro x u _; exact pc_none
  | succ n ih =>
    intro x u h
    unfold f_X7_counts_L7
    exact pc_ite (fun _ => hK _ _ h) (fun _ => pc_gdi (fun _ _ => pc_bnd (pc_bnd (ih _ _ h))))
theorem e28_counts (u : OS) : pc (f_X7_counts u) (fun q => F28 u q.1) := by
  unfold f_X7_counts
  refine pc_bnd (pc_bnd (e28_counts_L7 u _ ?_ FU _ _ ⟨rfl, rfl, rfl, rfl, rfl, rfl⟩))
  intro x v hv
  refine pc_bnd (e28_counts_L28 u _ ?_ FU _ _ hv)
  intro x w hw
  exact pc_bnd (pc_oC1 (R := fun _ => True) (fun _ _ => trivial) (fun z _ => pc_some hw))
theorem e28_lay_L132 (p1 x2 x12 : Int32) (u0 : OS) {Q : OS → Prop} (K : Int32 → Int32 → OS → Option OS) (hK : ∀ x y v, F28 u0 v → pc (K x y v) Q) : ∀ (n : Nat) (x y : Int32) (u : OS), F28 u0 u → pc (f_X7_lay_L132 p1 x2 x12 n K x y u) Q := by
  intro n
  induction n with
  | zero => intro x y u _; exact pc_none
  | succ n ih =>
    intro x y u h
    unfold f_X7_lay_L132
    exact pc_ite (fun _ => hK _ _ _ h) (fun _ => pc_gdi (fun _ _ => pc_ite (fun _ => pc_bnd (ih _ _ _ h)) (fun _ => pc_gdi (fun _ _ => pc_ite (fun _ => pc_gdi (fun _ _ => pc_gdi (fun _ _ => pc_bnd (pc_gdi (fun _ _ => pc_gdi (fun _ _ => pc_bnd (pc_bnd (pc_bnd (ih _ _ _ h))))))))) (fun _ => pc_bnd (ih _ _ _ h))))))
theorem e28_lay_L119 (p1 x2 : Int32) (u0 : OS) {Q : OS → Prop} (K : Int32 → OS → Option OS) (hK : ∀ x v, F28 u0 v → pc (K x v) Q) : ∀ (n : Nat) (x : Int32) (u : OS), F28 u0 u → pc (f_X7_lay_L119 p1 x2 n K x u) Q := by
  intro n
  induction n with
  | zero => intro x u _; exact pc_none
  | succ n ih =>
    intro x u h
    unfold f_X7_lay_L119
    exact pc_ite (fun _ => hK _ _ h) (fun _ => pc_bnd (e28_lay_L132 p1 x2 x u0 _ (fun a b v hv => pc_bnd (ih _ _ hv)) FU _ _ _ h))
theorem e28_lay_L55 (p1 x2 x3 : Int32) (u0 : OS) {Q : OS → Prop} (K : Int32 → Int32 → OS → Option OS) (hK : ∀ x y v, F28 u0 v → pc (K x y v) Q) : ∀ (n : Nat) (x y : Int32) (u : OS), F28 u0 u → pc (f_X7_lay_L55 p1 x2 x3 n K x y u) Q := by
  intro n
  induction n with
  | zero => intro x y u _; exact pc_none
  | succ n ih =>
    intro x y u h
    unfold f_X7_lay_L55
    exact pc_gdi (fun _ _ => pc_ite (fun _ => hK _ _ _ h) (fun _ => pc_gdi (fun _ _ => pc_bnd (pc_gdz (pc_bnd (pc_bnd (ih _ _ _ h)))))))
theorem e28_lay_L17 (p1 x2 : Int32) (u0 : OS) {Q : OS → Prop} (K : Int32 → Int32 → Int32 → OS → Option OS) (hK : ∀ x y z v, F28 u0 v → pc (K x y z v) Q) : ∀ (n : Nat) (x y z : Int32) (u : OS), F28 u0 u → pc (f_X7_lay_L17 p1 x2 n K x y z u) Q := by
  intro n
  induction n with
  | zero => intro x y z u _; exact pc_none
  | succ n ih =>
    intro x y z u h
    unfold f_X7_lay_L17
    exact pc_ite (fun _ => hK _ _ _ _ h) (fun _ => pc_gdi (fun _ _ => pc_bnd (pc_gdi (fun _ _ => pc_bnd (pc_bnd (e28_lay_L55 p1 x2 x u0 _ (fun a b v hv => pc_bnd (ih _ _ _ _ hv)) FU _ _ _ h))))))
theorem e28_lay (u : OS) (p : Int32) : pc (f_X7_lay u p) (fun v => F28 u v) := by
  unfold f_X7_lay
  exact pc_gdi (fun _ _ => pc_bnd (pc_bnd (e28_lay_L17 p _ u _ (fun a b c v hv => pc_bnd (e28_lay_L119 p _ u _ (fun x w hw => pc_some hw) FU _ _ hv)) FU _ _ _ _ F28.rf)))
theorem e28_normal_L24 (u0 : OS) {Q : OS × Int32 → Prop} (K : Int32 → OS → Option (OS × Int32)) (hK : ∀ x v, F28 u0 v → pc (K x v) Q) : ∀ (n : Nat) (x : Int32) (u : OS), F28 u0 u → pc (f_X7_normal_L24 n K x u) Q := by
  intro n
  induction n with
  | zero => intro x u _; exact pc_none
  | succ n ih =>
    intro x u h
    unfold f_X7_normal_L24
    exact pc_ite (fun _ => hK _ _ h) (fun _ => pc_gdi (fun _ _ => pc_ite (fun _ => pc_gdi (fun _ _ => pc_bnd (pc_bnd (ih _ _ h)))) (fun _ => pc_gdi (fun _ _ => pc_bnd (pc_bnd (ih _ _ h))))))
theorem e28_normal_L65 (u0 : OS) {Q : OS × Int32 → Prop} (K : Int32 → OS → Option (OS × Int32)) (hK : ∀ x v, F28 u0 v → pc (K x v) Q) : ∀ (n : Nat) (x : Int32) (u : OS), F28 u0 u → pc (f_X7_normal_L65 n K x u) Q := by
  intro n
  induction n with
  | zero => intro x u _; exact pc_none
  | succ n ih =>
    intro x u h
    unfold f_X7_normal_L65
    refine pc_ite (fun _ => hK _ _ h) (fun _ => pc_bnd (k_X7_normal_L78 u _ ?_ FU _ _ _))
    intro a y b
    exact pc_gdi (fun _ _ => pc_gdi (fun _ _ => pc_bnd (pc_bnd (ih _ (sA u 8 a _) h))))
theorem e28_normal (u : OS) : pc (f_X7_normal u) (fun q => F28 u q.1) := by
  unfold f_X7_normal
  refine pc_bnd (pc_bnd (pc_oC1 (R := fun _ => True) (fun _ _ => trivial) (fun r3 _ => pc_ite (fun _ => pc_some ⟨rfl, rfl, rfl, rfl, rfl, rfl⟩) (fun _ => pc_bnd (e28_normal_L24 u _ ?_ FU _ _ ⟨rfl, rfl, rfl, rfl, rfl, rfl⟩)))))
  intro x v hv
  refine pc_bnd (pc_bnd (e28_normal_L65 u _ ?_ FU _ _ hv))
  intro y w hw
  exact pc_bnd (pc_oC1 (e28_lay _ _) (fun z hz => pc_some (hw.tr hz)))
theorem e28_loss (u : OS) : pc (f_X7_loss u) (fun o => F28 u o.1) := by
  unfold f_X7_loss
  exact pc_bnd (pc_ite (fun _ => pc_some ⟨rfl, rfl, rfl, rfl, rfl, rfl⟩) (fun _ => pc_bnd (k8_loss_L20 _ _ (fun y x => pc_some ⟨rfl, rfl, rfl, rfl, rfl, rfl⟩) FU _ _)))
theorem e28_octet (u : OS) (p : Int32) : pc (f_X7_octet u p) (fun o => F28 u o.1) := by
  unfold f_X7_octet
  refine pc_bnd (pc_ite (fun _ => pc_oC1 (R := fun v => F28 u v) ?_ (fun v hv => pc_some hv)) (fun _ => pc_some ⟨rfl, rfl, rfl, rfl, rfl, rfl⟩))
  unfold f_X7_putByte
  exact pc_gdi (fun _ _ => pc_bnd (pc_bnd (pc_some ⟨rfl, rfl, rfl, rfl, rfl, rfl⟩)))
theorem WF.f28 {u v : OS} (h : WF u v) (e : v.2.2.1 33 = u.2.2.1 33) : F28 u v := ⟨h.1 28 (by decide) (by decide) (by decide) (by decide) (by decide) (by decide), h.1 25 (by decide) (by decide) (by decide) (by decide) (by decide) (by decide), h.1 32 (by decide) (by decide) (by decide) (by decide) (by decide) (by decide), h.1 31 (by decide) (by decide) (by decide) (by decide) (by decide) (by decide), h.2 24 (by decide) (by decide), e⟩
theorem e28_write {g : GH} (u : OS) (h : IM g u) : pc (f_X7_write u) (fun q => q.1.2.2.1 33 = u.2.2.1 33 → F28 u q.1) := by
  unfold f_X7_write
  refine pc_bnd (pc_oC1 (pc_of_ok (s_X7_mayWrite _ (IM_1 h))) (fun a ha => pc_ite (fun _ => pc_some (fun _ => ⟨rfl, rfl, rfl, rfl, rfl, rfl⟩)) (fun c => ?_)))
  rcases ha with q | ⟨q1, q2, q3⟩
  · exact absurd q c
  · have h2 := h.2.1
    refine pc_oC1 (pc_of_ok (s_X7_writeForm _ _ (IM_1 h) h2.1 h2.2 q2 q3)) (fun v hv => pc_some (fun e => ?_))
    have w : F28 (sF u 1 (0 : Int32)) v := hv.2.f28 e
    exact w
-- ===== what was read is the same in both =====
def RQV (R M : OS) : Prop := R.1 4 = M.1 28 ∧ R.1 3 = M.1 25 ∧ (∀ j : Nat, (j : Int) < (R.1 3).toInt → R.2.1 2 j = M.2.1 24 j) ∧ R.1 11 = M.1 32 ∧ (¬ R.1 11 = 0 → R.1 9 = M.1 31 ∧ ∀ i : Nat, (i : Int) < (R.1 9).toInt → R.2.2.1 1 i = M.2.2.1 33 i)
theorem RQV.fr {R M m : OS} (h : RQV R M) (f : F28 M m) : RQV R m := by
  unfold RQV at *
  rw [f.1, f.2.1, f.2.2.1, f.2.2.2.1, f.2.2.2.2.1, f.2.2.2.2.2]
  exact h
theorem rqv_of {D : DR} {R M : OS} (hl : D.2.2.2.1 ≤ 4) (hX : XRES D R) (hM : MRES D M) (e : M.1 28 = M.1 27) : RQV R M := by
  obtain ⟨x5, x4, x3, x2, x11, xs⟩ := hX
  obtain ⟨m26, m27, m25, m24, m32, ms⟩ := hM
  refine ⟨by rw [e, x4, m27], by rw [x3, m25], fun j hj => ?_, by rw [x11, m32], fun q => ?_⟩
  · rw [x3] at hj
    rw [x2 j hj, m24 j hj]
  · rw [x11] at q
    have a := xs q
    have b := ms q
    refine ⟨by rw [a.1, b.1], fun i hi => ?_⟩
    rw [a.1, nI_toInt (by omega)] at hi
    rw [a.2 i (by omega), b.2 i (by omega)]
noncomputable def rdD (t : OT) : DR := Classical.choose (RDS_ex t)
theorem rdD_s (t : OT) : RDS t (rdD t) := Classical.choose_spec (RDS_ex t)
-- what is broken is a number that is not below 0; lanes
theorem RDS_nn {t : OT} (k0 : SK t ((0 : Int32), (0 : Int32), (0 : Int32))) (h8 : T8 t) {D : DR} (h : RDS t D) : 0 ≤ D.1.2.toInt ∧ 0 ≤ D.1.1.toInt ∧ D.1.1.toInt ≤ 20000 ∧ D.2.2.2.1 ≤ 4 := by
  have ofSK : ∀ s : RC, SK t s → 0 ≤ (d0 s.1 s.2.1).1.2.toInt ∧ 0 ≤ (d0 s.1 s.2.1).1.1.toInt ∧ (d0 s.1 s.2.1).1.1.toInt ≤ 20000 ∧ (d0 s.1 s.2.1).2.2.2.1 ≤ 4 := by
    intro s k
    refine ⟨k.2.2.2.1, k.1, ?_, Nat.zero_le _⟩
    show s.1.toInt ≤ 20000
    have := k.2.1
    have := k.2.2.1
    omega
  have k3 : SK t (hd3 t).1 := by
    rw [hd3_e]
    exact SK.w 2 (hb2 t, 0) (sk_h2 k0)
  rcases h with ⟨_, e⟩ | ⟨z5, r, hr, h⟩
  · rw [e]
    exact ofSK _ k3
  obtain ⟨k1, k2, ek, hln, eln, hF, hn, hn2⟩ := hd_ok k0 h8 z5
  have kT : SK t (tbT t (hLg t) (hd3 t).1).1 := sk_sT 32 0 _ _ _ k3
  have kr : SK t r := by
    rcases hr with ⟨_, e⟩ | ⟨_, _, e⟩ | ⟨_, _, e⟩
    · rw [e]; exact kT
    · rw [e]
      exact ⟨kT.1, kT.2.1, kT.2.2.1, by show 0 ≤ (3 : Int32).toInt; decide, ⟨by show 0 ≤ (0 : Int32).toInt; decide, by show (0 : Int32).toInt ≤ 8; decide⟩, Or.inl li_0⟩
    · rw [e]
      exact ⟨kT.1, kT.2.1, kT.2.2.1, by show 0 ≤ (0 : Int32).toInt; decide, ⟨by show 0 ≤ (0 : Int32).toInt; decide, by show (0 : Int32).toInt ≤ 8; decide⟩, Or.inl li_0⟩
  rcases h with ⟨_, e⟩ | ⟨z8, E, hE, h⟩
  · rw [e]
    exact ofSK _ kr
  have b0 : r.2.2 = 0 := by rw [(tbE_0 hr z8).2.2]
  have lk := sS_k (hdl t) 0 r (fun _ => 0) E hE b0 kr
  rcases h with ⟨_, e⟩ | ⟨zE, h⟩
  · rw [e]
    exact ofSK _ lk.2
  have hr' := hr
  rw [ek] at hr'
  have hG : GSH (hdk t) (hds t) := by
    unfold hds
    rw [ek]
    exact tb_gsh k1 k2 hr' z8
  have sp := inS_spf (F := hFm t) (ln := hdl t) k2 ek (fun i hi => sS_in (hdl t) 0 r (fun _ => 0) E hE zE (fun i hi => absurd hi (Nat.not_lt_zero i)) i (by omega))
  have rk := row_b (t := t) h8 hF hG hln (hdn t) 0 E (0, fun _ => 0) lk.2 sp
  generalize rowR t (hFm t) (hdk t) (hds t) (hdl t) (hdn t) 0 E (0, fun _ => 0) = T at h rk
  have a1 := rk.1
  have a2 := rk.2.1
  have a3 := rk.2.2.1
  rcases h with ⟨_, e⟩ | ⟨_, B, hJ, e⟩
  · rw [e]
    exact ⟨rk.2.2.2.1, rk.1, by show T.1.1.1.toInt ≤ 20000; omega, by show hdl t ≤ 4; omega⟩
  · rw [e]
    refine ⟨?_, rk.1, by show T.1.1.1.toInt ≤ 20000; omega, by show hdl t ≤ 4; omega⟩
    show 0 ≤ B.toInt
    rcases hJ with ⟨_, q⟩ | ⟨_, _, q⟩ | ⟨_, _, q⟩ <;> rw [q] <;> decide
-- OUT as both see it
def tO (O : OS) : OT := (O.1 1, O.2.1 0)
theorem tO_x {O : OS} (h : IO O) : XO (tO O) O := ⟨⟨rfl, h.1, fun _ _ => rfl⟩, h⟩
theorem tO_m {O M : OS} (h : IO O) (q : OQ O M) : RO (tO O) (M.1 15) (M.2.1 14) := ⟨q.1, by rw [q.1]; exact h.1, fun i hi => by rw [q.1] at hi; exact q.2 i hi⟩
theorem tO_8 {g : GH} {O M : OS} (h : IM g M) (q : OQ O M) : T8 (tO O) := fun i hi => by
  have e := h.2.2.2.2.2.2.2.2.1 i
  rw [q.2 i hi] at e
  exact e
theorem tO_k {O : OS} (h : IO O) : SK (tO O) ((0 : Int32), (0 : Int32), (0 : Int32)) := sk0 h.1 (by show (O.1 1).toInt ≤ 20000; have := h.2.1; have := h.2.2.2; omega)
-- read
theorem r_read {g : GH} {t : OT} {D : DR} (u : OS) (h : IM g u) (hRO : RO t (u.1 15) (u.2.1 14)) (h8 : T8 t) (hD : RDS t D) (hn : 0 ≤ D.1.2.toInt) : pc (f_X7_read u) (fun q => q.2 = ansD D ∧ MRES D q.1 ∧ q.1.1 28 = q.1.1 27) := by
  unfold f_X7_read
  refine pc_bnd (pc_oC1 (r_readAll (sF u 1 (0 : Int32)) (IM_1 h) hRO h8 hD) (fun v hv => pc_bnd ?_))
  have hv2 : MRES D (sF v 28 (v.1 27)) := hv
  unfold ansD
  refine pc_ite (fun c => pc_some ⟨?_, hv2, rfl⟩) (fun c => pc_some ⟨?_, hv2, rfl⟩)
  · have c : v.1 27 ≤ (0 : Int32) := c
    rw [hv.2.1] at c
    have c1 := i0_le.mp c
    have z : D.1.2 = 0 := Int32.toInt_inj.mp (by rw [li_0]; omega)
    rw [if_pos z]
    exact hv.2.2.1
  · have c : ¬ v.1 27 ≤ (0 : Int32) := c
    rw [hv.2.1] at c
    have z : ¬ D.1.2 = 0 := fun q => c (by rw [q]; decide)
    rw [if_neg z]
    show (-10 : Int32) - v.1 26 = _
    rw [hv.1]
theorem x_read {t : OT} {D : DR} (X R Z O : OS) (hR : IR R) (hZ : IS Z) (hO : XO t O) (h8 : T8 t) (hD : RDS t D) : pcA (f_X6_read X R Z O) (fun q => XRES D q.1 ∧ q.2.2 = ansD D) := by
  unfold f_X6_read
  exact pcA_oA3 (x_takeIn R Z O hR hZ hO h8 hD) (fun a b c m n h => pcA_addc (pcA_some h))
-- rule, sign, state, told
theorem rule_m (u : OS) : pc (f_X7_rule u) (fun q => q.2 = u.1 28) := by
  unfold f_X7_rule
  exact pc_bnd (pc_some rfl)
theorem sign_eq {R M : OS} (X : OS) (hR : IR R) (h : RQV R M) (p : Int32) : pc (f_X7_sign M p) (fun o => ∀ r, f_X6_sign X R p = some r → r = o.2) := by
  have en := nIt (n := R.2.2.2 2) (by have := hR.2.1.2; omega)
  unfold f_X7_sign f_X6_sign f_X3_signAt
  refine pc_bnd (pc_ite (fun a => pc_some (fun r hr => ?_)) (fun a => pc_ite (fun b => pc_gdi (fun g0 g1 => pc_some (fun r hr => ?_))) (fun b => pc_some (fun r hr => ?_))))
  · rw [if_pos a] at hr
    cases hr
    rfl
  · have b : p < M.1 25 := b
    have b1 := Int32.lt_iff_toInt_lt.mp b
    rw [if_neg a, h.2.1, if_neg (Int32.not_le.mpr b), if_neg (fun q => by
      have q1 := Int32.le_iff_toInt_le.mp q
      rw [en] at q1
      have := hR.1.2
      rw [h.2.1] at this
      omega)] at hr
    obtain ⟨z, e1, e2⟩ := oC1_of hr
    have e3 := (gdi_of e1).2
    cases e2
    have e4 : R.2.1 2 p.toNatClampNeg = r := Option.some.inj e3
    rw [← e4]
    refine h.2.2.1 _ ?_
    rw [h.2.1]
    show (p.toInt.toNat : Int) < _
    omega
  · have b : ¬ p < M.1 25 := b
    rw [if_neg a, h.2.1, if_pos (Int32.not_lt.mp b)] at hr
    cases hr
    rfl
theorem state_eq {R W M : OS} (X : OS) (h : RQV R M) (hW : WVQ W M) (p q : Int32) : pc (f_X7_state M p q) (fun o => ∀ r, f_X6_state X W R p q = some r → r = o.2) := by
  unfold f_X7_state f_X6_state
  have neg : q < (0 : Int32) → ¬ (0 : Int32) ≤ q := fun a => Int32.not_le.mpr a
  have pos : ¬ q < (0 : Int32) → (0 : Int32) ≤ q := fun a => Int32.not_lt.mp a
  refine pc_bnd (pc_ite (fun p0 => pc_ite (fun a => pc_some (fun r hr => ?_)) (fun a => pc_ite (fun b => pc_gdi (fun g0 g1 => pc_some (fun r hr => ?_))) (fun b => pc_some (fun r hr => ?_)))) (fun p0 => pc_ite (fun p1 => pc_ite (fun c => pc_some (fun r hr => ?_)) (fun c => pc_ite (fun a => pc_some (fun r hr => ?_)) (fun a => pc_ite (fun b => pc_gdi (fun g0 g1 => pc_some (fun r hr => ?_))) (fun b => pc_some (fun r hr => ?_))))) (fun p1 => pc_some (fun r hr => ?_))))
  · rw [if_neg (neg a)] at hr
    cases hr
    rfl
  · have b : q < M.1 18 := b
    have b1 := Int32.lt_iff_toInt_lt.mp b
    rw [if_pos (pos a), if_pos p0] at hr
    rcases hW with ⟨_, e⟩ | ⟨e3, e2, es⟩
    · rw [e, li_0] at b1
      omega
    · rw [e3, if_neg (by decide), e2, if_neg (Int32.not_le.mpr b)] at hr
      have e5 := (gdi_of hr).2
      have e6 : W.2.2.1 0 q.toNatClampNeg = r := Option.some.inj e5
      rw [← e6]
      exact es _ (by show (q.toInt.toNat : Int) < _; omega) (by show q.toInt.toNat < 4; omega)
  · have b : ¬ q < M.1 18 := b
    rw [if_pos (pos a), if_pos p0] at hr
    rcases hW with ⟨e, _⟩ | ⟨e3, e2, es⟩
    · rw [if_pos e] at hr
      cases hr
      rfl
    · rw [e3, if_neg (by decide), e2, if_pos (Int32.not_lt.mp b)] at hr
      cases hr
      rfl
  · have c : M.1 32 = 0 := c
    by_cases a : q < (0 : Int32)
    · rw [if_neg (neg a)] at hr
      cases hr
      rfl
    · rw [if_pos (pos a), if_neg p0, if_pos p1, if_pos (h.2.2.2.1.trans c)] at hr
      cases hr
      rfl
  · rw [if_neg (neg a)] at hr
    cases hr
    rfl
  · have c : ¬ M.1 32 = 0 := c
    have c2 : ¬ R.1 11 = 0 := fun w => c (h.2.2.2.1.symm.trans w)
    have k := h.2.2.2.2 c2
    have b : q < M.1 31 := b
    have b1 := Int32.lt_iff_toInt_lt.mp b
    rw [if_pos (pos a), if_neg p0, if_pos p1, if_neg c2, k.1, if_neg (Int32.not_le.mpr b)] at hr
    have e5 := (gdi_of hr).2
    have e6 : R.2.2.1 1 q.toNatClampNeg = r := Option.some.inj e5
    rw [← e6]
    refine k.2 _ ?_
    rw [k.1]
    show (q.toInt.toNat : Int) < _
    omega
  · have c : ¬ M.1 32 = 0 := c
    have c2 : ¬ R.1 11 = 0 := fun w => c (h.2.2.2.1.symm.trans w)
    have k := h.2.2.2.2 c2
    have b : ¬ q < M.1 31 := b
    rw [if_pos (pos a), if_neg p0, if_pos p1, if_neg c2, k.1, if_pos (Int32.not_lt.mp b)] at hr
    cases hr
    rfl
  · by_cases a : q < (0 : Int32)
    · rw [if_neg (neg a)] at hr
      cases hr
      rfl
    · rw [if_pos (pos a), if_neg p0, if_neg p1] at hr
      cases hr
      rfl
theorem told_eq {g : GH} {X S R O M : OS} (hX : IX g X) (hG : IG g.2 S) (hM : IM g M) (hO : OQ O M) (h : RQV R M) (p : Int32) : pc (f_X7_told M p) (fun o => ∀ r, f_X6_told X S R O p = some r → r = o.2) := by
  have hg := IM_g hM
  have e0 : S.1 0 = M.1 0 := hG.1.trans hM.2.2.2.2.2.1.2.symm
  have e2 : S.1 2 = M.1 7 := hG.2.1.trans hM.2.2.2.2.2.2.1.2.1.symm
  have x7 : X.1 7 = M.1 5 := hX.1.2.2.trans hg.2.2.1.symm
  have x8 : X.1 8 = M.1 2 := hX.1.1.trans hg.1.symm
  have x9 : X.1 9 = M.1 3 := hX.1.2.1.trans hg.2.1.symm
  unfold f_X7_told f_X6_told
  rw [e0, e2, x7, x8, x9, ← hO.1, h.2.1]
  refine pc_bnd (pc_ite (fun a => pc_some (fun r hr => ?_)) (fun a => pc_ite (fun b => pc_some (fun r hr => ?_)) (fun b => pc_ite (fun c => pc_some (fun r hr => ?_)) (fun c => pc_ite (fun d => pc_some (fun r hr => ?_)) (fun d => pc_ite (fun e => pc_some (fun r hr => ?_)) (fun e => pc_ite (fun f => pc_some (fun r hr => ?_)) (fun f => pc_ite (fun k => pc_ite (fun l => pc_some (fun r hr => ?_)) (fun l => pc_some (fun r hr => ?_))) (fun k => pc_some (fun r hr => ?_)))))))))
  · rw [if_pos a] at hr; cases hr; rfl
  · rw [if_neg a, if_pos b] at hr; cases hr; rfl
  · rw [if_neg a, if_neg b, if_pos c] at hr; cases hr; rfl
  · rw [if_neg a, if_neg b, if_neg c, if_pos d] at hr; cases hr; rfl
  · rw [if_neg a, if_neg b, if_neg c, if_neg d, if_pos e] at hr; cases hr; rfl
  · rw [if_neg a, if_neg b, if_neg c, if_neg d, if_neg e, if_pos f] at hr; cases hr; rfl
  · have l : M.1 7 = 0 := l
    rw [if_neg a, if_neg b, if_neg c, if_neg d, if_neg e, if_neg f, if_pos k, if_pos l] at hr; cases hr; rfl
  · have l : ¬ M.1 7 = 0 := l
    rw [if_neg a, if_neg b, if_neg c, if_neg d, if_neg e, if_neg f, if_pos k, if_neg l] at hr; cases hr; rfl
  · rw [if_neg a, if_neg b, if_neg c, if_neg d, if_neg e, if_neg f, if_neg k] at hr; cases hr; rfl

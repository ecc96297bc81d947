-- ===== the model's spread stands =====
theorem pc_T {α : Type} {o : Option α} : pc o (fun _ => True) := fun _ _ => trivial
def JM (u : OS) : Prop := u.1 7 = 1 → SPD (shr u 0) (2 ^ (u.1 0).toInt.toNat) (plc u 0) (fun i => u.2.1 13 (4096 * 0 + i)) (fun i => u.2.1 12 (4096 * 0 + i))
def K8 (u v : OS) : Prop := v.1 0 = u.1 0 ∧ v.1 7 = u.1 7 ∧ v.2.1 8 = u.2.1 8 ∧ v.2.1 11 = u.2.1 11 ∧ v.2.1 12 = u.2.1 12 ∧ v.2.1 13 = u.2.1 13
theorem K8.rf {u : OS} : K8 u u := ⟨rfl, rfl, rfl, rfl, rfl, rfl⟩
theorem K8.tr {u v w : OS} (h1 : K8 u v) (h2 : K8 v w) : K8 u w := ⟨h2.1.trans h1.1, h2.2.1.trans h1.2.1, h2.2.2.1.trans h1.2.2.1, h2.2.2.2.1.trans h1.2.2.2.1, h2.2.2.2.2.1.trans h1.2.2.2.2.1, h2.2.2.2.2.2.trans h1.2.2.2.2.2⟩
theorem JM.k8 {u v : OS} (h : JM u) (k : K8 u v) : JM v := by
  obtain ⟨a, b, c, d, e, f⟩ := k
  unfold JM shr plc at *
  rw [a, b, c, d, e, f]
  exact h
theorem JM.z {u : OS} (h : u.1 7 = 0) : JM u := fun q => by
  rw [h] at q
  exact absurd q (by decide)
theorem PO.k8 {u v : OS} (h : PO u v) : K8 u v := ⟨h.1 0 (by decide) (by decide), h.1 7 (by decide) (by decide), h.2.1 8 (by decide), h.2.1 11 (by decide), h.2.1 12 (by decide), h.2.1 13 (by decide)⟩
theorem WF.k8 {u v : OS} (h : WF u v) : K8 u v := ⟨h.1 0 (by decide) (by decide) (by decide) (by decide) (by decide) (by decide), h.1 7 (by decide) (by decide) (by decide) (by decide) (by decide) (by decide), h.2 8 (by decide) (by decide), h.2 11 (by decide) (by decide), h.2 12 (by decide) (by decide), h.2 13 (by decide) (by decide)⟩
theorem k8_add (u : OS) (p : Int32) : pc (f_X7_add u p) (fun o => K8 u o.1) := by
  unfold f_X7_add
  repeat (first | exact pc_some ⟨rfl, rfl, rfl, rfl, rfl, rfl⟩ | with_reducible refine pc_ite (fun _ => ?_) (fun _ => ?_) | with_reducible refine pc_gdi (fun _ _ => ?_) | with_reducible refine pc_gdb ?_ | with_reducible refine pc_gdz ?_ | with_reducible refine pc_bnd ?_ | with_reducible refine pc_oC1 (R := fun _ => True) pc_T (fun _ _ => ?_))
theorem k8_clear (u : OS)  : pc (f_X7_clear u) (fun o => K8 u o.1) := by
  unfold f_X7_clear
  repeat (first | exact pc_some ⟨rfl, rfl, rfl, rfl, rfl, rfl⟩ | with_reducible refine pc_ite (fun _ => ?_) (fun _ => ?_) | with_reducible refine pc_gdi (fun _ _ => ?_) | with_reducible refine pc_gdb ?_ | with_reducible refine pc_gdz ?_ | with_reducible refine pc_bnd ?_ | with_reducible refine pc_oC1 (R := fun _ => True) pc_T (fun _ _ => ?_))
theorem k8_lg (u : OS) (p : Int32) : pc (f_X7_lg u p) (fun o => K8 u o.1) := by
  unfold f_X7_lg
  repeat (first | exact pc_some ⟨rfl, rfl, rfl, rfl, rfl, rfl⟩ | with_reducible refine pc_ite (fun _ => ?_) (fun _ => ?_) | with_reducible refine pc_gdi (fun _ _ => ?_) | with_reducible refine pc_gdb ?_ | with_reducible refine pc_gdz ?_ | with_reducible refine pc_bnd ?_ | with_reducible refine pc_oC1 (R := fun _ => True) pc_T (fun _ _ => ?_))
theorem k8_share (u : OS) (p : Int32) : pc (f_X7_share u p) (fun o => K8 u o.1) := by
  unfold f_X7_share
  repeat (first | exact pc_some ⟨rfl, rfl, rfl, rfl, rfl, rfl⟩ | with_reducible refine pc_ite (fun _ => ?_) (fun _ => ?_) | with_reducible refine pc_gdi (fun _ _ => ?_) | with_reducible refine pc_gdb ?_ | with_reducible refine pc_gdz ?_ | with_reducible refine pc_bnd ?_ | with_reducible refine pc_oC1 (R := fun _ => True) pc_T (fun _ _ => ?_))
theorem k8_spread (u : OS) (p : Int32) : pc (f_X7_spread u p) (fun o => K8 u o.1) := by
  unfold f_X7_spread
  repeat (first | exact pc_some ⟨rfl, rfl, rfl, rfl, rfl, rfl⟩ | with_reducible refine pc_ite (fun _ => ?_) (fun _ => ?_) | with_reducible refine pc_gdi (fun _ _ => ?_) | with_reducible refine pc_gdb ?_ | with_reducible refine pc_gdz ?_ | with_reducible refine pc_bnd ?_ | with_reducible refine pc_oC1 (R := fun _ => True) pc_T (fun _ _ => ?_))
theorem k8_form (u : OS) (p : Int32) : pc (f_X7_form u p) (fun o => K8 u o.1) := by
  unfold f_X7_form
  repeat (first | exact pc_some ⟨rfl, rfl, rfl, rfl, rfl, rfl⟩ | with_reducible refine pc_ite (fun _ => ?_) (fun _ => ?_) | with_reducible refine pc_gdi (fun _ _ => ?_) | with_reducible refine pc_gdb ?_ | with_reducible refine pc_gdz ?_ | with_reducible refine pc_bnd ?_ | with_reducible refine pc_oC1 (R := fun _ => True) pc_T (fun _ _ => ?_))
theorem k8_lanes (u : OS) (p : Int32) : pc (f_X7_lanes u p) (fun o => K8 u o.1) := by
  unfold f_X7_lanes
  repeat (first | exact pc_some ⟨rfl, rfl, rfl, rfl, rfl, rfl⟩ | with_reducible refine pc_ite (fun _ => ?_) (fun _ => ?_) | with_reducible refine pc_gdi (fun _ _ => ?_) | with_reducible refine pc_gdb ?_ | with_reducible refine pc_gdz ?_ | with_reducible refine pc_bnd ?_ | with_reducible refine pc_oC1 (R := fun _ => True) pc_T (fun _ _ => ?_))
theorem k8_rule (u : OS)  : pc (f_X7_rule u) (fun o => K8 u o.1) := by
  unfold f_X7_rule
  repeat (first | exact pc_some ⟨rfl, rfl, rfl, rfl, rfl, rfl⟩ | with_reducible refine pc_ite (fun _ => ?_) (fun _ => ?_) | with_reducible refine pc_gdi (fun _ _ => ?_) | with_reducible refine pc_gdb ?_ | with_reducible refine pc_gdz ?_ | with_reducible refine pc_bnd ?_ | with_reducible refine pc_oC1 (R := fun _ => True) pc_T (fun _ _ => ?_))
theorem k8_sign (u : OS) (p : Int32) : pc (f_X7_sign u p) (fun o => K8 u o.1) := by
  unfold f_X7_sign
  repeat (first | exact pc_some ⟨rfl, rfl, rfl, rfl, rfl, rfl⟩ | with_reducible refine pc_ite (fun _ => ?_) (fun _ => ?_) | with_reducible refine pc_gdi (fun _ _ => ?_) | with_reducible refine pc_gdb ?_ | with_reducible refine pc_gdz ?_ | with_reducible refine pc_bnd ?_ | with_reducible refine pc_oC1 (R := fun _ => True) pc_T (fun _ _ => ?_))
theorem k8_state (u : OS) (p q : Int32) : pc (f_X7_state u p q) (fun o => K8 u o.1) := by
  unfold f_X7_state
  repeat (first | exact pc_some ⟨rfl, rfl, rfl, rfl, rfl, rfl⟩ | with_reducible refine pc_ite (fun _ => ?_) (fun _ => ?_) | with_reducible refine pc_gdi (fun _ _ => ?_) | with_reducible refine pc_gdb ?_ | with_reducible refine pc_gdz ?_ | with_reducible refine pc_bnd ?_ | with_reducible refine pc_oC1 (R := fun _ => True) pc_T (fun _ _ => ?_))
theorem k8_out (u : OS) (p : Int32) : pc (f_X7_out u p) (fun o => K8 u o.1) := by
  unfold f_X7_out
  repeat (first | exact pc_some ⟨rfl, rfl, rfl, rfl, rfl, rfl⟩ | with_reducible refine pc_ite (fun _ => ?_) (fun _ => ?_) | with_reducible refine pc_gdi (fun _ _ => ?_) | with_reducible refine pc_gdb ?_ | with_reducible refine pc_gdz ?_ | with_reducible refine pc_bnd ?_ | with_reducible refine pc_oC1 (R := fun _ => True) pc_T (fun _ _ => ?_))
theorem k8_spoil (u : OS) (p q : Int32) : pc (f_X7_spoil u p q) (fun o => K8 u o.1) := by
  unfold f_X7_spoil
  repeat (first | exact pc_some ⟨rfl, rfl, rfl, rfl, rfl, rfl⟩ | with_reducible refine pc_ite (fun _ => ?_) (fun _ => ?_) | with_reducible refine pc_gdi (fun _ _ => ?_) | with_reducible refine pc_gdb ?_ | with_reducible refine pc_gdz ?_ | with_reducible refine pc_bnd ?_ | with_reducible refine pc_oC1 (R := fun _ => True) pc_T (fun _ _ => ?_))
theorem k8_cut (u : OS) (p : Int32) : pc (f_X7_cut u p) (fun o => K8 u o.1) := by
  unfold f_X7_cut
  repeat (first | exact pc_some ⟨rfl, rfl, rfl, rfl, rfl, rfl⟩ | with_reducible refine pc_ite (fun _ => ?_) (fun _ => ?_) | with_reducible refine pc_gdi (fun _ _ => ?_) | with_reducible refine pc_gdb ?_ | with_reducible refine pc_gdz ?_ | with_reducible refine pc_bnd ?_ | with_reducible refine pc_oC1 (R := fun _ => True) pc_T (fun _ _ => ?_))
theorem k8_told (u : OS) (p : Int32) : pc (f_X7_told u p) (fun o => K8 u o.1) := by
  unfold f_X7_told
  repeat (first | exact pc_some ⟨rfl, rfl, rfl, rfl, rfl, rfl⟩ | with_reducible refine pc_ite (fun _ => ?_) (fun _ => ?_) | with_reducible refine pc_gdi (fun _ _ => ?_) | with_reducible refine pc_gdb ?_ | with_reducible refine pc_gdz ?_ | with_reducible refine pc_bnd ?_ | with_reducible refine pc_oC1 (R := fun _ => True) pc_T (fun _ _ => ?_))
theorem q_X7_putByte (u : OS) (p : Int32) : pc (f_X7_putByte u p) (fun v => PO u v) := by
  unfold f_X7_putByte
  exact pc_gdi (fun _ _ => pc_bnd (pc_bnd (pc_some PO.b)))
theorem k8_octet (u : OS) (p : Int32) : pc (f_X7_octet u p) (fun o => K8 u o.1) := by
  unfold f_X7_octet
  refine pc_bnd ?_
  have k0 : K8 u (sF u 1 (0 : Int32)) := ⟨rfl, rfl, rfl, rfl, rfl, rfl⟩
  first
    | exact pc_ite (fun _ => pc_some k0) (fun _ => pc_oC1 (q_X7_putByte _ _) (fun v hv => pc_some (k0.tr hv.k8)))
    | exact pc_ite (fun _ => pc_oC1 (q_X7_putByte _ _) (fun v hv => pc_some (k0.tr hv.k8))) (fun _ => pc_some k0)
theorem k8_loss_L20 (u : OS) {Q : OS × Int64 → Prop} (K : Int64 → Int32 → Option (OS × Int64)) (hK : ∀ y x, pc (K y x) Q) : ∀ (n : Nat) (x : Int32) (y : Int64), pc (f_X7_loss_L20 u n K x y) Q := by
  intro n
  induction n with
  | zero => intro x y; exact pc_none
  | succ n ih =>
    intro x y
    unfold f_X7_loss_L20
    repeat (first | exact hK _ _ | exact ih _ _ | with_reducible refine pc_ite (fun _ => ?_) (fun _ => ?_) | with_reducible refine pc_gdi (fun _ _ => ?_) | with_reducible refine pc_bnd ?_ | with_reducible refine pc_oC1 (R := fun _ => True) pc_T (fun _ _ => ?_))
theorem k8_loss (u : OS) : pc (f_X7_loss u) (fun o => K8 u o.1) := by
  unfold f_X7_loss
  have k0 : K8 u (sF u 1 (0 : Int32)) := ⟨rfl, rfl, rfl, rfl, rfl, rfl⟩
  refine pc_bnd ?_
  first
    | exact pc_ite (fun _ => pc_some k0) (fun _ => pc_bnd (k8_loss_L20 _ _ (fun y x => pc_some k0) FU _ _))
    | exact pc_ite (fun _ => pc_bnd (k8_loss_L20 _ _ (fun y x => pc_some k0) FU _ _)) (fun _ => pc_some k0)
theorem j_X7_count (u : OS) (p q : Int32) (h : JM u) : pc (f_X7_count u p q) (fun o => JM o.1) := by
  have k0 : JM (sF u 1 (0 : Int32)) := h.k8 ⟨rfl, rfl, rfl, rfl, rfl, rfl⟩
  unfold f_X7_count
  exact pc_bnd (pc_ite (fun _ => pc_some k0) (fun _ => pc_ite (fun _ => pc_some k0) (fun _ => pc_ite (fun _ => pc_some k0) (fun _ => pc_ite (fun _ => pc_gdi (fun _ _ => pc_bnd (pc_gdi (fun _ _ => pc_bnd (pc_bnd (pc_some (JM.z rfl))))))) (fun _ => pc_some k0)))))
theorem j_counts_L28 {Q : OS × Int32 → Prop} (K : Int32 → OS → Option (OS × Int32)) (hK : ∀ x v, pc (K x v) Q) : ∀ (n : Nat) (x : Int32) (u : OS), pc (f_X7_counts_L28 n K x u) Q := by
  intro n
  induction n with
  | zero => intro x u; exact pc_none
  | succ n ih =>
    intro x u
    unfold f_X7_counts_L28
    exact pc_ite (fun _ => hK _ _) (fun _ => pc_gdi (fun _ _ => pc_gdi (fun _ _ => pc_gdi (fun _ _ => pc_bnd (pc_bnd (ih _ _))))))
theorem j_counts_L7 {Q : OS × Int32 → Prop} (K : Int32 → OS → Option (OS × Int32)) (hK : ∀ x v, pc (K x v) Q) : ∀ (n : Nat) (x : Int32) (u : OS), pc (f_X7_counts_L7 n K x u) Q := by
  intro n
  induction n with
  | zero => intro x u; exact pc_none
  | succ n ih =>
    intro x u
    unfold f_X7_counts_L7
    exact pc_ite (fun _ => hK _ _) (fun _ => pc_gdi (fun _ _ => pc_bnd (pc_bnd (ih _ _))))
theorem j_X7_counts (u : OS) : pc (f_X7_counts u) (fun o => JM o.1) := by
  unfold f_X7_counts
  refine pc_bnd (pc_bnd (j_counts_L7 _ (fun x v => pc_bnd (j_counts_L28 _ (fun x w => ?_) FU _ _)) FU _ _))
  exact pc_bnd (pc_oC1 (R := fun _ => True) (fun _ _ => trivial) (fun z _ => pc_some (JM.z rfl)))
-- normal: where the shares sum up, the spread is laid
theorem q_lay8_L132 (p1 x2 x12 : Int32) (u0 : OS) {Q : OS → Prop} (K : Int32 → Int32 → OS → Option OS) (hK : ∀ x y v, v.2.1 8 = u0.2.1 8 → v.1 = u0.1 → pc (K x y v) Q) : ∀ (n : Nat) (x y : Int32) (u : OS), u.2.1 8 = u0.2.1 8 → u.1 = u0.1 → pc (f_X7_lay_L132 p1 x2 x12 n K x y u) Q := by
  intro n
  induction n with
  | zero => intro x y u _ _; exact pc_none
  | succ n ih =>
    intro x y u h e
    unfold f_X7_lay_L132
    exact pc_ite (fun _ => hK _ _ _ h e) (fun _ => pc_gdi (fun _ _ => pc_ite (fun _ => pc_bnd (ih _ _ _ h e)) (fun _ => pc_gdi (fun _ _ => pc_ite (fun _ => pc_gdi (fun _ _ => pc_gdi (fun _ _ => pc_bnd (pc_gdi (fun _ _ => pc_gdi (fun _ _ => pc_bnd (pc_bnd (pc_bnd (ih _ _ _ h e))))))))) (fun _ => pc_bnd (ih _ _ _ h e))))))
theorem q_lay8_L119 (p1 x2 : Int32) (u0 : OS) {Q : OS → Prop} (K : Int32 → OS → Option OS) (hK : ∀ x v, v.2.1 8 = u0.2.1 8 → v.1 = u0.1 → pc (K x v) Q) : ∀ (n : Nat) (x : Int32) (u : OS), u.2.1 8 = u0.2.1 8 → u.1 = u0.1 → pc (f_X7_lay_L119 p1 x2 n K x u) Q := by
  intro n
  induction n with
  | zero => intro x u _ _; exact pc_none
  | succ n ih =>
    intro x u h e
    unfold f_X7_lay_L119
    exact pc_ite (fun _ => hK _ _ h e) (fun _ => pc_bnd (q_lay8_L132 p1 x2 x u0 _ (fun a b v hv ev => pc_bnd (ih _ _ hv ev)) FU _ _ _ h e))
theorem q_lay8_L55 (p1 x2 x3 : Int32) (u0 : OS) {Q : OS → Prop} (K : Int32 → Int32 → OS → Option OS) (hK : ∀ x y v, v.2.1 8 = u0.2.1 8 → v.1 = u0.1 → pc (K x y v) Q) : ∀ (n : Nat) (x y : Int32) (u : OS), u.2.1 8 = u0.2.1 8 → u.1 = u0.1 → pc (f_X7_lay_L55 p1 x2 x3 n K x y u) Q := by
  intro n
  induction n with
  | zero => intro x y u _ _; exact pc_none
  | succ n ih =>
    intro x y u h e
    unfold f_X7_lay_L55
    exact pc_gdi (fun _ _ => pc_ite (fun _ => hK _ _ _ h e) (fun _ => pc_gdi (fun _ _ => pc_bnd (pc_gdz (pc_bnd (pc_bnd (ih _ _ _ h e)))))))
theorem q_lay8_L17 (p1 x2 : Int32) (u0 : OS) {Q : OS → Prop} (K : Int32 → Int32 → Int32 → OS → Option OS) (hK : ∀ x y z v, v.2.1 8 = u0.2.1 8 → v.1 = u0.1 → pc (K x y z v) Q) : ∀ (n : Nat) (x y z : Int32) (u : OS), u.2.1 8 = u0.2.1 8 → u.1 = u0.1 → pc (f_X7_lay_L17 p1 x2 n K x y z u) Q := by
  intro n
  induction n with
  | zero => intro x y z u _ _; exact pc_none
  | succ n ih =>
    intro x y z u h e
    unfold f_X7_lay_L17
    exact pc_ite (fun _ => hK _ _ _ _ h e) (fun _ => pc_gdi (fun _ _ => pc_bnd (pc_gdi (fun _ _ => pc_bnd (pc_bnd (q_lay8_L55 p1 x2 x u0 _ (fun a b v hv ev => pc_bnd (ih _ _ _ _ hv ev)) FU _ _ _ h e))))))
theorem q_lay8 (u : OS) (p : Int32) : pc (f_X7_lay u p) (fun v => v.2.1 8 = u.2.1 8 ∧ v.1 = u.1) := by
  unfold f_X7_lay
  exact pc_gdi (fun _ _ => pc_bnd (pc_bnd (q_lay8_L17 p _ u _ (fun x y z v hv ev => pc_bnd (q_lay8_L119 p _ u _ (fun x w hw ew => pc_some ⟨hw, ew⟩) FU _ v hv ev)) FU _ _ _ u rfl rfl)))
theorem q_normal_L24 (u0 : OS) {Q : OS × Int32 → Prop} (K : Int32 → OS → Option (OS × Int32)) (hK : ∀ x v, v.2.1 10 = u0.2.1 10 → v.1 = u0.1 → pc (K x v) Q) : ∀ (n : Nat) (x : Int32) (u : OS), u.2.1 10 = u0.2.1 10 → u.1 = u0.1 → pc (f_X7_normal_L24 n K x u) Q := by
  intro n
  induction n with
  | zero => intro x u _ _; exact pc_none
  | succ n ih =>
    intro x u h e
    unfold f_X7_normal_L24
    exact pc_ite (fun _ => hK _ _ h e) (fun _ => pc_gdi (fun _ _ => pc_ite (fun _ => pc_gdi (fun _ _ => pc_bnd (pc_bnd (ih _ _ h e)))) (fun _ => pc_gdi (fun _ _ => pc_bnd (pc_bnd (ih _ _ h e))))))
theorem q_normal_L65 (u0 : OS) {Q : OS × Int32 → Prop} (K : Int32 → OS → Option (OS × Int32)) (hK : ∀ x v, v.2.1 10 = u0.2.1 10 → v.1 = u0.1 → pc (K x v) Q) : ∀ (n : Nat) (x : Int32) (u : OS), u.2.1 10 = u0.2.1 10 → u.1 = u0.1 → pc (f_X7_normal_L65 n K x u) Q := by
  intro n
  induction n with
  | zero => intro x u _ _; exact pc_none
  | succ n ih =>
    intro x u h e
    unfold f_X7_normal_L65
    refine pc_ite (fun _ => hK _ _ h e) (fun _ => pc_bnd (k_X7_normal_L78 u _ ?_ FU _ _ _))
    intro a y b
    exact pc_gdi (fun _ _ => pc_gdi (fun _ _ => pc_bnd (pc_bnd (ih _ (sA u 8 a _) h e))))
set_option maxHeartbeats 1000000 in
theorem j_X7_normal (u : OS) (h10 : u.2.1 10 0 = u.1 0) (g1 : 5 ≤ (u.1 0).toInt) (g2 : (u.1 0).toInt ≤ 12) : pc (f_X7_normal u) (fun q => (q.1.1 7 = 1 → SHN (shr q.1 0) (2 ^ (q.1.1 0).toInt.toNat)) → JM q.1) := by
  unfold f_X7_normal
  refine pc_bnd (pc_bnd (pc_oC1 (R := fun _ => True) (fun _ _ => trivial) (fun r3 _ => pc_ite (fun _ => pc_some (fun _ => JM.z rfl)) (fun _ => pc_bnd (q_normal_L24 (sF (sF u 1 (0 : Int32)) 7 (0 : Int32)) _ ?_ FU _ _ rfl rfl)))))
  intro x v hv ev
  refine pc_bnd (pc_bnd (q_normal_L65 (sF (sF u 1 (0 : Int32)) 7 (0 : Int32)) _ ?_ FU _ _ hv ev))
  intro y w hw ew
  have e0 : (sF w 7 (1 : Int32)).1 0 = u.1 0 := by
    show w.1 0 = u.1 0
    rw [ew]
    rfl
  have e7 : (sF w 7 (1 : Int32)).1 7 = 1 := rfl
  have e10 : (sF w 7 (1 : Int32)).2.1 10 0 = u.1 0 := by
    show w.2.1 10 0 = u.1 0
    rw [hw]
    exact h10
  refine pc_bnd ?_
  generalize sF w 7 (1 : Int32) = z at e0 e7 e10
  refine pc_oC1 (R := fun v => (v.1 7 = 1 → SHN (shr v 0) (2 ^ (v.1 0).toInt.toNat)) → JM v) (fun v2 ev2 hS => ?_) (fun v2 hv2 => pc_some hv2)
  have q8 := q_lay8 z 0 v2 ev2
  have es : shr v2 0 = shr z 0 := shr_eq q8.1
  have f7 : v2.1 7 = 1 := by rw [q8.2]; exact e7
  have f0 : v2.1 0 = u.1 0 := by rw [q8.2]; exact e0
  have hS := hS f7
  rw [es, f0] at hS
  obtain ⟨k, ek, ek2, _⟩ := nI_ex (x := u.1 0) (by omega)
  have kn : (u.1 0).toInt.toNat = k := by omega
  rw [kn] at hS
  have sk := sk32 (g := z.2.1 10 0) (k := k) (by omega) (by omega) (by rw [e10]; exact ek)
  have l := p_X7_lay z (p1 := 0) (p := 0) (N := 2 ^ k) (by decide) (by decide) sk hS v2 ev2
  intro _
  rw [es, f0, kn]
  exact l.1
theorem j_X7_write {g : GH} (u : OS) (h : IM g u) (hJ : JM u) : pc (f_X7_write u) (fun q => JM q.1) := by
  have k0 : JM (sF u 1 (0 : Int32)) := hJ.k8 ⟨rfl, rfl, rfl, rfl, rfl, rfl⟩
  unfold f_X7_write
  refine pc_bnd (pc_oC1 (pc_of_ok (s_X7_mayWrite _ (IM_1 h))) (fun a ha => pc_ite (fun _ => pc_some k0) (fun c => ?_)))
  rcases ha with q | ⟨q1, q2, q3⟩
  · exact absurd q c
  · have h2 := h.2.1
    exact pc_oC1 (pc_of_ok (s_X7_writeForm _ _ (IM_1 h) h2.1 h2.2 q2 q3)) (fun v hv => pc_some (k0.k8 hv.2.k8))
-- reading leaves it
theorem SPD.lo {sh f a b f2 a2 b2 : Nat → Int32} {N : Nat} (hS : SHN sh N) (e : ∀ i, i < 4096 → f2 i = f i ∧ b2 i = b i ∧ a2 i = a i) (h : SPD sh N f a b) : SPD sh N f2 a2 b2 := by
  have hN := two_b hS.1
  obtain ⟨h1, h2, h3⟩ := h
  have fe : ∀ i, i < N → f2 i = f i := fun i hi => (e i (by omega)).1
  have c : ∀ p t, p < N → cw f2 al (nI t) p = cw f al (nI t) p := fun p t hp => cw_congr p (fun i hi => fe i (by omega))
  refine ⟨?_, fun p t hp ht hf => ?_, fun p t hp ht hf => ?_⟩
  · obtain ⟨f0, q⟩ := h1
    exact ⟨f0, fun i hi => (fe i hi).trans (q i hi)⟩
  · rw [fe p hp] at hf
    have s := slot_lt hS h1 hp ht hf
    rw [c p t hp, (e _ (by omega)).2.2]
    exact h2 p t hp ht hf
  · rw [fe p hp] at hf
    rw [c p t hp, (e p (by omega)).2.1]
    exact h3 p t hp ht hf
theorem shn_M {g : GH} {u : OS} (h : IM g u) (z : u.1 7 = 1) : SHN (shr u 0) (2 ^ (u.1 0).toInt.toNat) := by
  have h0 := h.1
  rcases h.2.2.2.2.2.2.1.1 with q | ⟨_, q, _⟩
  · rw [z] at q; exact absurd q (by decide)
  · refine ⟨two_of h0.1 h0.2 ?_, q.1, ?_⟩
    · exact Int.natCast_pow 2 _
    · rw [q.2]
      exact (Int.natCast_pow 2 _).symm
theorem j_readAll {g : GH} (u : OS) (h : IM g u) (hJ : JM u) : pc (f_X7_readAll u) (fun v => JM v) := by
  refine fun v ev => ?_
  have r := pc_of_ok (s_X7_readAll u h) v ev
  have w := w_X7_readAll u h v ev
  have e0 : v.1 0 = u.1 0 := r.2.1 0 (by decide)
  have e7 : v.1 7 = u.1 7 := r.2.1 7 (by decide)
  have e8 := r.2.2.2.1
  intro z
  have zu : u.1 7 = 1 := e7.symm.trans z
  have es : ∀ s, s < 32 → shr v 0 s = shr u 0 s := fun s hs => by rw [shr0, shr0]; exact e8 s hs
  have hS := shn_M h zu
  rw [e0]
  refine SPD.cg es (SPD.lo hS (fun i hi => ?_) (hJ zu))
  have l := w.1 (4096 * 0 + i) (by omega)
  exact ⟨l.1, l.2.1, l.2.2⟩
theorem j_X7_read {g : GH} (u : OS) (h : IM g u) (hJ : JM u) : pc (f_X7_read u) (fun q => JM q.1) := by
  unfold f_X7_read
  refine pc_bnd (pc_oC1 (j_readAll _ (IM_1 h) (hJ.k8 ⟨rfl, rfl, rfl, rfl, rfl, rfl⟩)) (fun v hv => pc_bnd ?_))
  have hv2 : JM (sF v 28 (v.1 27)) := hv.k8 ⟨rfl, rfl, rfl, rfl, rfl, rfl⟩
  exact pc_ite (fun _ => pc_some hv2) (fun _ => pc_some hv2)
theorem j_agree_L68 (u : OS) {Q : OS × Int32 → Prop} (K : Int32 → Int32 → Option (OS × Int32)) (hK : ∀ a b, pc (K a b) Q) : ∀ (n : Nat) (x y : Int32), pc (f_X7_agree_L68 u n K x y) Q := by
  intro n
  induction n with
  | zero => intro x y; exact pc_none
  | succ n ih =>
    intro x y
    unfold f_X7_agree_L68
    exact pc_ite (fun _ => hK _ _) (fun _ => pc_ite (fun _ => hK _ _) (fun _ => pc_gdi (fun _ _ => pc_gdi (fun _ _ => pc_ite (fun _ => pc_bnd (ih _ _)) (fun _ => pc_bnd (ih _ _))))))
set_option maxHeartbeats 1000000 in
theorem j_agree_L19 {g : GH} {Q : OS × Int32 → Prop} (K : Int32 → Int32 → OS → Option (OS × Int32)) (hK : ∀ a b u, JM u → pc (K a b u) Q) : ∀ (n : Nat) (x y : Int32) (u : OS), 0 ≤ x.toInt → IM g u → JM u → u.1 7 = 1 → POS u (u.1 5).toInt → pc (f_X7_agree_L19 n K x y u) Q := by
  intro n
  induction n with
  | zero => intro x y u _ _ _ _ _; exact pc_none
  | succ n ih =>
    intro x y u hx h hJ z hP
    unfold f_X7_agree_L19
    refine pc_ite (fun _ => hK _ _ _ hJ) (fun c => ?_)
    have c1 := mt Int32.le_iff_toInt_le.mpr c
    rw [li_4] at c1
    have e1 := inc32 (x := x) (by omega)
    refine pc_oC1 (pc_of_ok (s_X7_writeForm u x h hx (by clear hK ih; omega) z hP)) (fun v hv => ?_)
    have Jv : JM v := hJ.k8 hv.2.k8
    refine pc_oC1 (pc_and (pc_of_ok (s_X7_readAll v hv.1)) (j_readAll v hv.1 Jv)) (fun w hww => pc_bnd ?_)
    obtain ⟨hw, Jw⟩ := hww
    have h28 : IM g (sF w 28 (w.1 27)) := IM_28 hw.1
    have J28 : JM (sF w 28 (w.1 27)) := Jw.k8 ⟨rfl, rfl, rfl, rfl, rfl, rfl⟩
    have e5 : w.1 5 = u.1 5 := (hw.2.1 5 (by decide)).trans (hv.2.1 5 (by decide) (by decide) (by decide) (by decide) (by decide) (by decide))
    have e7 : w.1 7 = 1 := ((hw.2.1 7 (by decide)).trans (hv.2.1 7 (by decide) (by decide) (by decide) (by decide) (by decide) (by decide))).trans z
    have e4 : w.2.1 4 = u.2.1 4 := (hw.2.2.1 4 (by decide) (by decide) (by decide) (by decide) (by decide) (by decide) (by decide)).trans (hv.2.2 4 (by decide) (by decide))
    have hPw : POS w (w.1 5).toInt := by
      intro i hi
      rw [e5] at hi
      have r := h.2.2.2.1 i
      have rn : (u.2.1 4 i).toNatClampNeg < 32 := by
        show (u.2.1 4 i).toInt.toNat < 32
        clear hK ih
        omega
      rw [e4, hw.2.2.2.1 _ rn, hv.2.2 8 (by decide) (by decide)]
      exact hP i hi
    have go : ∀ y2 : Int32, pc (f_X7_agree_L19 n K (x + (1 : Int32)) y2 (sF w 28 (w.1 27))) Q := fun y2 => ih _ _ _ (by clear hK ih; omega) h28 J28 e7 hPw
    have key : ∀ a : Int32, pc (bnd (fun (x22 : Int32) (x23 : Int32) =>
    if x22 = (0 : Int32) then (
    bnd (x + (1 : Int32)) fun x26 =>
    f_X7_agree_L19 n K x26 (0 : Int32) (sF w 28 (w.1 27))) else (
    bnd (x + (1 : Int32)) fun x27 =>
    f_X7_agree_L19 n K x27 y (sF w 28 (w.1 27)))) fun K110_24 =>
    f_X7_agree_L68 (sF w 28 (w.1 27)) FU K110_24 (0 : Int32) a) Q := fun a => pc_bnd (j_agree_L68 _ _ (fun a b => pc_ite (fun _ => pc_bnd (go _)) (fun _ => pc_bnd (go _))) FU _ _)
    exact pc_bnd (pc_bnd (pc_ite (fun _ => pc_ite (fun _ => key _) (fun _ => key _)) (fun _ => key _)))
theorem j_X7_agree {g : GH} (u : OS) (h : IM g u) (hJ : JM u) : pc (f_X7_agree u) (fun q => JM q.1) := by
  have k0 : JM (sF u 1 (0 : Int32)) := hJ.k8 ⟨rfl, rfl, rfl, rfl, rfl, rfl⟩
  unfold f_X7_agree
  refine pc_bnd (pc_oC1 (pc_of_ok (s_X7_mayWrite _ (IM_1 h))) (fun a ha => pc_ite (fun _ => pc_some k0) (fun c => pc_bnd ?_)))
  rcases ha with q | ⟨q1, q2, q3⟩
  · exact absurd q c
  · exact j_agree_L19 _ (fun a b v hv => pc_some hv) FU _ _ _ (by decide) (IM_1 h) k0 q2 q3

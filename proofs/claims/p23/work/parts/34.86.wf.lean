-- ===== what leaves the written row as it is (the model) =====
def F15 (u v : OS) : Prop := v.1 15 = u.1 15 ∧ v.2.1 14 = u.2.1 14 ∧ v.1 18 = u.1 18 ∧ v.2.2.1 17 = u.2.2.1 17
theorem F15.rf {u : OS} : F15 u u := ⟨rfl, rfl, rfl, rfl⟩
theorem F15.tr {u v w : OS} (h1 : F15 u v) (h2 : F15 v w) : F15 u w := ⟨h2.1.trans h1.1, h2.2.1.trans h1.2.1, h2.2.2.1.trans h1.2.2.1, h2.2.2.2.trans h1.2.2.2⟩
theorem k_X7_add (u : OS) (p : Int32) : pc (f_X7_add u p) (fun q => F15 u q.1) := by
  unfold f_X7_add
  exact pc_bnd (pc_ite (fun _ => pc_some ⟨rfl, rfl, rfl, rfl⟩) (fun _ => pc_ite (fun _ => pc_ite (fun _ => pc_some ⟨rfl, rfl, rfl, rfl⟩) (fun _ => pc_gdi (fun _ _ => pc_bnd (pc_bnd (pc_some ⟨rfl, rfl, rfl, rfl⟩))))) (fun _ => pc_some ⟨rfl, rfl, rfl, rfl⟩)))
theorem k_X7_clear (u : OS) : pc (f_X7_clear u) (fun q => F15 u q.1) := by
  unfold f_X7_clear
  exact pc_bnd (pc_bnd (pc_bnd (pc_some ⟨rfl, rfl, rfl, rfl⟩)))
theorem k_X7_count (u : OS) (p q : Int32) : pc (f_X7_count u p q) (fun q => F15 u q.1) := by
  unfold f_X7_count
  exact pc_bnd (pc_ite (fun _ => pc_some ⟨rfl, rfl, rfl, rfl⟩) (fun _ => pc_ite (fun _ => pc_some ⟨rfl, rfl, rfl, rfl⟩) (fun _ => pc_ite (fun _ => pc_some ⟨rfl, rfl, rfl, rfl⟩) (fun _ => pc_ite (fun _ => pc_gdi (fun _ _ => pc_bnd (pc_gdi (fun _ _ => pc_bnd (pc_bnd (pc_some ⟨rfl, rfl, rfl, rfl⟩)))))) (fun _ => pc_some ⟨rfl, rfl, rfl, rfl⟩)))))
theorem k_X7_counts_L28 (u0 : OS) {Q : OS × Int32 → Prop} (K : Int32 → OS → Option (OS × Int32)) (hK : ∀ x v, F15 u0 v → pc (K x v) Q) : ∀ (n : Nat) (x : Int32) (u : OS), F15 u0 u → pc (f_X7_counts_L28 n K x u) Q := by
  intro n
  induction n with
  | zero => intro x u _; exact pc_none
  | succ n ih =>
    intro x u h
    unfold f_X7_counts_L28
    exact pc_ite (fun _ => hK _ _ h) (fun _ => pc_gdi (fun _ _ => pc_gdi (fun _ _ => pc_gdi (fun _ _ => pc_bnd (pc_bnd (ih _ _ h))))))
theorem k_X7_counts_L7 (u0 : OS) {Q : OS × Int32 → Prop} (K : Int32 → OS → Option (OS × Int32)) (hK : ∀ x v, F15 u0 v → pc (K x v) Q) : ∀ (n : Nat) (x : Int32) (u : OS), F15 u0 u → pc (f_X7_counts_L7 n K x u) Q := by
  intro n
  induction n with
  | zero => intro x u _; exact pc_none
  | succ n ih =>
    intro x u h
    unfold f_X7_counts_L7
    exact pc_ite (fun _ => hK _ _ h) (fun _ => pc_gdi (fun _ _ => pc_bnd (pc_bnd (ih _ _ h))))
theorem k_X7_counts (u : OS) : pc (f_X7_counts u) (fun q => F15 u q.1) := by
  unfold f_X7_counts
  refine pc_bnd (pc_bnd (k_X7_counts_L7 u _ ?_ FU _ _ ⟨rfl, rfl, rfl, rfl⟩))
  intro x v hv
  refine pc_bnd (k_X7_counts_L28 u _ ?_ FU _ _ hv)
  intro x w hw
  exact pc_bnd (pc_oC1 (R := fun _ => True) (fun _ _ => trivial) (fun z _ => pc_some hw))
theorem k_X7_lay_L132 (p1 x2 x12 : Int32) (u0 : OS) {Q : OS → Prop} (K : Int32 → Int32 → OS → Option OS) (hK : ∀ x y v, F15 u0 v → pc (K x y v) Q) : ∀ (n : Nat) (x y : Int32) (u : OS), F15 u0 u → pc (f_X7_lay_L132 p1 x2 x12 n K x y u) Q := by
  intro n
  induction n with
  | zero => intro x y u _; exact pc_none
  | succ n ih =>
    intro x y u h
    unfold f_X7_lay_L132
    exact pc_ite (fun _ => hK _ _ _ h) (fun _ => pc_gdi (fun _ _ => pc_ite (fun _ => pc_bnd (ih _ _ _ h)) (fun _ => pc_gdi (fun _ _ => pc_ite (fun _ => pc_gdi (fun _ _ => pc_gdi (fun _ _ => pc_bnd (pc_gdi (fun _ _ => pc_gdi (fun _ _ => pc_bnd (pc_bnd (pc_bnd (ih _ _ _ h))))))))) (fun _ => pc_bnd (ih _ _ _ h))))))
theorem k_X7_lay_L119 (p1 x2 : Int32) (u0 : OS) {Q : OS → Prop} (K : Int32 → OS → Option OS) (hK : ∀ x v, F15 u0 v → pc (K x v) Q) : ∀ (n : Nat) (x : Int32) (u : OS), F15 u0 u → pc (f_X7_lay_L119 p1 x2 n K x u) Q := by
  intro n
  induction n with
  | zero => intro x u _; exact pc_none
  | succ n ih =>
    intro x u h
    unfold f_X7_lay_L119
    exact pc_ite (fun _ => hK _ _ h) (fun _ => pc_bnd (k_X7_lay_L132 p1 x2 x u0 _ (fun a b v hv => pc_bnd (ih _ _ hv)) FU _ _ _ h))
theorem k_X7_lay_L55 (p1 x2 x3 : Int32) (u0 : OS) {Q : OS → Prop} (K : Int32 → Int32 → OS → Option OS) (hK : ∀ x y v, F15 u0 v → pc (K x y v) Q) : ∀ (n : Nat) (x y : Int32) (u : OS), F15 u0 u → pc (f_X7_lay_L55 p1 x2 x3 n K x y u) Q := by
  intro n
  induction n with
  | zero => intro x y u _; exact pc_none
  | succ n ih =>
    intro x y u h
    unfold f_X7_lay_L55
    exact pc_gdi (fun _ _ => pc_ite (fun _ => hK _ _ _ h) (fun _ => pc_gdi (fun _ _ => pc_bnd (pc_gdz (pc_bnd (pc_bnd (ih _ _ _ h)))))))
theorem k_X7_lay_L17 (p1 x2 : Int32) (u0 : OS) {Q : OS → Prop} (K : Int32 → Int32 → Int32 → OS → Option OS) (hK : ∀ x y z v, F15 u0 v → pc (K x y z v) Q) : ∀ (n : Nat) (x y z : Int32) (u : OS), F15 u0 u → pc (f_X7_lay_L17 p1 x2 n K x y z u) Q := by
  intro n
  induction n with
  | zero => intro x y z u _; exact pc_none
  | succ n ih =>
    intro x y z u h
    unfold f_X7_lay_L17
    exact pc_ite (fun _ => hK _ _ _ _ h) (fun _ => pc_gdi (fun _ _ => pc_bnd (pc_gdi (fun _ _ => pc_bnd (pc_bnd (k_X7_lay_L55 p1 x2 x u0 _ (fun a b v hv => pc_bnd (ih _ _ _ _ hv)) FU _ _ _ h))))))
theorem k_X7_lay (u : OS) (p : Int32) : pc (f_X7_lay u p) (fun v => F15 u v) := by
  unfold f_X7_lay
  exact pc_gdi (fun _ _ => pc_bnd (pc_bnd (k_X7_lay_L17 p _ u _ (fun a b c v hv => pc_bnd (k_X7_lay_L119 p _ u _ (fun x w hw => pc_some hw) FU _ _ hv)) FU _ _ _ _ F15.rf)))
theorem k_X7_normal_L24 (u0 : OS) {Q : OS × Int32 → Prop} (K : Int32 → OS → Option (OS × Int32)) (hK : ∀ x v, F15 u0 v → pc (K x v) Q) : ∀ (n : Nat) (x : Int32) (u : OS), F15 u0 u → pc (f_X7_normal_L24 n K x u) Q := by
  intro n
  induction n with
  | zero => intro x u _; exact pc_none
  | succ n ih =>
    intro x u h
    unfold f_X7_normal_L24
    exact pc_ite (fun _ => hK _ _ h) (fun _ => pc_gdi (fun _ _ => pc_ite (fun _ => pc_gdi (fun _ _ => pc_bnd (pc_bnd (ih _ _ h)))) (fun _ => pc_gdi (fun _ _ => pc_bnd (pc_bnd (ih _ _ h))))))
theorem k_X7_normal_L78 (u : OS) {Q : OS × Int32 → Prop} (K : Int32 → Int64 → Int32 → Option (OS × Int32)) (hK : ∀ a y b, pc (K a y b) Q) : ∀ (n : Nat) (x : Int32) (y : Int64) (b : Int32), pc (f_X7_normal_L78 u n K x y b) Q := by
  intro n
  induction n with
  | zero => intro x y b; exact pc_none
  | succ n ih =>
    intro x y b
    unfold f_X7_normal_L78
    exact pc_ite (fun _ => hK _ _ _) (fun _ => pc_gdi (fun _ _ => pc_ite (fun _ => pc_bnd (ih _ _ _)) (fun _ => pc_gdi (fun _ _ => pc_gdi (fun _ _ => pc_oC1 (R := fun _ => True) (fun _ _ => trivial) (fun _ _ => pc_gdi (fun _ _ => pc_oC1 (R := fun _ => True) (fun _ _ => trivial) (fun _ _ => pc_bnd (pc_ite (fun _ => pc_bnd (ih _ _ _)) (fun _ => pc_ite (fun _ => pc_bnd (ih _ _ _)) (fun _ => pc_bnd (ih _ _ _))))))))))))
theorem k_X7_normal_L65 (u0 : OS) {Q : OS × Int32 → Prop} (K : Int32 → OS → Option (OS × Int32)) (hK : ∀ x v, F15 u0 v → pc (K x v) Q) : ∀ (n : Nat) (x : Int32) (u : OS), F15 u0 u → pc (f_X7_normal_L65 n K x u) Q := by
  intro n
  induction n with
  | zero => intro x u _; exact pc_none
  | succ n ih =>
    intro x u h
    unfold f_X7_normal_L65
    refine pc_ite (fun _ => hK _ _ h) (fun _ => pc_bnd (k_X7_normal_L78 u _ ?_ FU _ _ _))
    intro a y b
    exact pc_gdi (fun _ _ => pc_gdi (fun _ _ => pc_bnd (pc_bnd (ih _ (sA u 8 a _) h))))
theorem k_X7_normal (u : OS) : pc (f_X7_normal u) (fun q => F15 u q.1) := by
  unfold f_X7_normal
  refine pc_bnd (pc_bnd (pc_oC1 (R := fun _ => True) (fun _ _ => trivial) (fun r3 _ => pc_ite (fun _ => pc_some ⟨rfl, rfl, rfl, rfl⟩) (fun _ => pc_bnd (k_X7_normal_L24 u _ ?_ FU _ _ ⟨rfl, rfl, rfl, rfl⟩)))))
  intro x v hv
  refine pc_bnd (pc_bnd (k_X7_normal_L65 u _ ?_ FU _ _ hv))
  intro y w hw
  exact pc_bnd (pc_oC1 (k_X7_lay _ _) (fun z hz => pc_some (hw.tr hz)))

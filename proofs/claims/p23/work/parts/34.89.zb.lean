-- ===== what reading leaves (the model): the spread of the writer, and what was written =====
def A3 (u v : OS) : Prop := v.2.1 11 = u.2.1 11 ∧ v.2.1 12 = u.2.1 12 ∧ v.2.1 13 = u.2.1 13 ∧ v.2.2.1 17 = u.2.2.1 17
theorem A3.rf {u : OS} : A3 u u := ⟨rfl, rfl, rfl, rfl⟩
theorem A3.tr {u v w : OS} (h1 : A3 u v) (h2 : A3 v w) : A3 u w := ⟨h2.1.trans h1.1, h2.2.1.trans h1.2.1, h2.2.2.1.trans h1.2.2.1, h2.2.2.2.trans h1.2.2.2⟩
theorem A3.x {u v w : OS} (h1 : A3 u v) (e1 : w.2.1 11 = v.2.1 11) (e2 : w.2.1 12 = v.2.1 12) (e3 : w.2.1 13 = v.2.1 13) (e4 : w.2.2.1 17 = v.2.2.1 17) : A3 u w := h1.tr ⟨e1, e2, e3, e4⟩
theorem a_X7_fail (u : OS) (p : Int32) : pc (f_X7_fail u p) (fun v => A3 u v) := by
  unfold f_X7_fail
  exact pc_ite (fun _ => pc_bnd (pc_some ⟨rfl, rfl, rfl, rfl⟩)) (fun _ => pc_some A3.rf)
theorem a_X7_next (u : OS) : pc (f_X7_next u) (fun q => A3 u q.1) := by
  unfold f_X7_next
  exact pc_ite (fun _ => pc_ite (fun _ => pc_bnd (pc_gdi (fun _ _ => pc_some ⟨rfl, rfl, rfl, rfl⟩))) (fun _ => pc_oC1 (a_X7_fail u _) (fun v hv => pc_some hv))) (fun _ => pc_some A3.rf)
theorem a_X7_nextWide_L5 (p : Int32) (u0 : OS) {Q : OS × Int64 → Prop} (K : Int64 → Int32 → OS → Option (OS × Int64)) (hK : ∀ y x v, A3 u0 v → pc (K y x v) Q) : ∀ (n : Nat) (x : Int32) (y : Int64) (u : OS), A3 u0 u → pc (f_X7_nextWide_L5 p n K x y u) Q := by
  intro n
  induction n with
  | zero => intro x y u _; exact pc_none
  | succ n ih =>
    intro x y u h
    unfold f_X7_nextWide_L5
    exact pc_ite (fun _ => hK _ _ _ h) (fun _ => pc_oC2 (a_X7_next u) (fun v r hv => pc_bnd (pc_bnd (ih _ _ _ (h.tr hv)))))
theorem a_X7_nextWide (u : OS) (p : Int32) : pc (f_X7_nextWide u p) (fun q => A3 u q.1) := by
  unfold f_X7_nextWide
  exact pc_bnd (a_X7_nextWide_L5 p u _ (fun y x v hv => pc_some hv) FU _ _ u A3.rf)
theorem a_X7_nextBit (u : OS) : pc (f_X7_nextBit u) (fun q => A3 u q.1) := by
  unfold f_X7_nextBit
  refine pc_bnd (pc_ite (fun _ => pc_oC2 (a_X7_next u) (fun v r hv => pc_ite (fun _ => pc_bnd ?_) (fun _ => pc_some hv))) (fun _ => ?_))
  · exact pc_bnd (pc_gdi (fun _ _ => pc_some (hv.x rfl rfl rfl rfl)))
  · exact pc_bnd (pc_gdi (fun _ _ => pc_some ⟨rfl, rfl, rfl, rfl⟩))
theorem a_X7_readTable_L97 (u0 : OS) {Q : OS → Prop} (K : Int32 → OS → Option OS) (hK : ∀ x v, A3 u0 v → pc (K x v) Q) : ∀ (n : Nat) (x : Int32) (u : OS), A3 u0 u → pc (f_X7_readTable_L97 n K x u) Q := by
  intro n
  induction n with
  | zero => intro x u _; exact pc_none
  | succ n ih =>
    intro x u h
    unfold f_X7_readTable_L97
    exact pc_ite (fun _ => hK _ _ h) (fun _ => pc_oC2 (a_X7_nextBit u) (fun v r hv => pc_ite (fun _ => pc_ite (fun _ => ih _ _ (h.tr hv)) (fun _ => ih _ _ (h.tr hv))) (fun _ => ih _ _ (h.tr hv))))
theorem a_X7_readTable_L30 (u0 : OS) {Q : OS → Prop} (K : Int32 → Int32 → OS → Option OS) (hK : ∀ x y v, A3 u0 v → pc (K x y v) Q) : ∀ (n : Nat) (x y : Int32) (u : OS), A3 u0 u → pc (f_X7_readTable_L30 n K x y u) Q := by
  intro n
  induction n with
  | zero => intro x y u _; exact pc_none
  | succ n ih =>
    intro x y u h
    unfold f_X7_readTable_L30
    exact pc_ite (fun _ => hK _ _ _ h) (fun _ => pc_oC2 (a_X7_nextBit u) (fun v r hv => pc_bnd (pc_bnd (ih _ _ _ (h.tr hv)))))
theorem a_X7_readTable_L16 (u0 : OS) (K : Int32 → Int32 → OS → Option OS) (hK : ∀ x y v, A3 u0 v → pc (K x y v) (fun v => A3 u0 v)) : ∀ (n : Nat) (x y : Int32) (u : OS), A3 u0 u → pc (f_X7_readTable_L16 n K x y u) (fun v => A3 u0 v) := by
  intro n
  induction n with
  | zero => intro x y u _; exact pc_none
  | succ n ih =>
    intro x y u h
    unfold f_X7_readTable_L16
    refine pc_ite (fun _ => hK _ _ _ h) (fun _ => pc_oC1 (R := fun _ => True) (fun _ _ => trivial) (fun r _ => pc_bnd (a_X7_readTable_L30 u0 _ (fun a b v hv => pc_bnd ?_) FU _ _ u h)))
    have k : ∀ w : OS, A3 u0 w → pc (gdi ((32 : Int32) + x) 64 <|
    bnd (sA w 8 ((32 : Int32) + x) a) fun u41 =>
    bnd (y - a) fun x42 =>
    if (u41.1 27) ≤ (0 : Int32) then (
    bnd (x + (1 : Int32)) fun x44 =>
    f_X7_readTable_L16 n K x44 x42 u41) else (
    some u41)) (fun v => A3 u0 v) := fun w hw => pc_gdi (fun _ _ => pc_bnd (pc_bnd (pc_ite (fun _ => pc_bnd (ih _ _ _ (hw.x rfl rfl rfl rfl))) (fun _ => pc_some (hw.x rfl rfl rfl rfl)))))
    exact pc_ite (fun _ => pc_ite (fun _ => k v hv) (fun _ => pc_oC1 (a_X7_fail v _) (fun w hw => k w (hv.tr hw)))) (fun _ => k v hv)
theorem a_X7_readTable (u : OS) : pc (f_X7_readTable u) (fun v => A3 u v) := by
  unfold f_X7_readTable
  refine pc_gdi (fun _ _ => pc_bnd (pc_bnd (pc_bnd (a_X7_readTable_L16 u _ (fun a b v hv => pc_bnd (a_X7_readTable_L97 u _ (fun x w hw => ?_) FU _ v hv)) FU _ _ _ ⟨rfl, rfl, rfl, rfl⟩))))
  exact pc_ite (fun _ => pc_oC1 (a_X7_fail w _) (fun z hz => pc_some (hw.tr hz))) (fun _ => pc_ite (fun _ => pc_oC1 (a_X7_fail w _) (fun z hz => pc_some (hw.tr hz))) (fun _ => pc_some hw))
theorem a_X7_readBytes_L39 (u0 : OS) {Q : OS → Prop} (K : Int64 → OS → Option OS) (hK : ∀ y v, A3 u0 v → pc (K y v) Q) : ∀ (n : Nat) (y : Int64) (u : OS), A3 u0 u → pc (f_X7_readBytes_L39 n K y u) Q := by
  intro n
  induction n with
  | zero => intro y u _; exact pc_none
  | succ n ih =>
    intro y u h
    unfold f_X7_readBytes_L39
    exact pc_ite (fun _ => hK _ _ h) (fun _ => pc_ite (fun _ => pc_oC2 (a_X7_next u) (fun v r hv => pc_bnd (ih _ _ (h.tr hv)))) (fun _ => hK _ _ h))
theorem a_X7_readBytes (u : OS) (p a b : Int32) : pc (f_X7_readBytes u p a b) (fun v => A3 u v) := by
  unfold f_X7_readBytes
  refine pc_gdi (fun _ _ => pc_bnd_eq (fun y2 _ => pc_gdi (fun _ _ => pc_bnd_eq (fun x4 _ => pc_bnd_eq (fun y5 _ => pc_bnd (a_X7_readBytes_L39 u _ ?_ FU _ u A3.rf))))))
  intro y v hv
  exact pc_ite (fun _ => pc_gdi (fun _ _ => pc_bnd (pc_some (hv.x rfl rfl rfl rfl)))) (fun _ => pc_some hv)
theorem a_X7_readWords_L39 (u0 : OS) {Q : OS → Prop} (K : Int64 → OS → Option OS) (hK : ∀ y v, A3 u0 v → pc (K y v) Q) : ∀ (n : Nat) (y : Int64) (u : OS), A3 u0 u → pc (f_X7_readWords_L39 n K y u) Q := by
  intro n
  induction n with
  | zero => intro y u _; exact pc_none
  | succ n ih =>
    intro y u h
    unfold f_X7_readWords_L39
    exact pc_ite (fun _ => hK _ _ h) (fun _ => pc_ite (fun _ => pc_oC2 (a_X7_nextWide u _) (fun v r hv => pc_bnd (ih _ _ (h.tr hv)))) (fun _ => hK _ _ h))
theorem a_X7_readWords (u : OS) (p a b : Int32) : pc (f_X7_readWords u p a b) (fun v => A3 u v) := by
  unfold f_X7_readWords
  refine pc_gdi (fun _ _ => pc_bnd_eq (fun y2 _ => pc_gdi (fun _ _ => pc_bnd_eq (fun x4 _ => pc_bnd_eq (fun y5 _ => pc_bnd (a_X7_readWords_L39 u _ ?_ FU _ u A3.rf))))))
  intro y v hv
  exact pc_ite (fun _ => pc_gdi (fun _ _ => pc_bnd (pc_some (hv.x rfl rfl rfl rfl)))) (fun _ => pc_some hv)
theorem a_X7_laySides_L13 (p1 p2 p3 : Int32) (u0 : OS) {Q : OS → Prop} (K : Int32 → OS → Option OS) (hK : ∀ x v, A3 u0 v → pc (K x v) Q) : ∀ (n : Nat) (x : Int32) (u : OS), A3 u0 u → pc (f_X7_laySides_L13 p1 p2 p3 n K x u) Q := by
  intro n
  induction n with
  | zero => intro x u _; exact pc_none
  | succ n ih =>
    intro x u h
    unfold f_X7_laySides_L13
    exact pc_ite (fun _ => hK _ _ h) (fun _ => pc_ite (fun _ => pc_gdi (fun _ _ => pc_bnd (pc_ite (fun _ => pc_gdi (fun _ _ => pc_bnd (pc_bnd (ih _ _ (h.x rfl rfl rfl rfl))))) (fun _ => pc_bnd (pc_bnd (ih _ _ (h.x rfl rfl rfl rfl))))))) (fun _ => pc_bnd (ih _ _ h)))
theorem a_X7_laySides (u : OS) (a b c : Int32) : pc (f_X7_laySides u a b c) (fun v => A3 u v) := by
  unfold f_X7_laySides
  exact pc_bnd (pc_bnd (pc_bnd (a_X7_laySides_L13 a b c u _ (fun x v hv => pc_some hv) FU _ _ ⟨rfl, rfl, rfl, rfl⟩)))
set_option maxHeartbeats 1000000 in
theorem a_X7_readSides_L14 (p1 x2 : Int32) (u0 : OS) {Q : OS × Int32 → Prop} (K : Int32 → Int32 → OS → Option (OS × Int32)) (hK : ∀ a b v, A3 u0 v → pc (K a b v) Q) : ∀ (n : Nat) (x y : Int32) (u : OS), A3 u0 u → pc (f_X7_readSides_L14 p1 x2 n K x y u) Q := by
  intro n
  induction n with
  | zero => intro x y u _; exact pc_none
  | succ n ih =>
    intro x y u h
    unfold f_X7_readSides_L14
    have rc_ : ∀ (b : Int32) (w : OS), A3 u0 w → pc (bnd (((2 : Int32) * y) + b) fun x19 => bnd (x + (1 : Int32)) fun x20 => f_X7_readSides_L14 p1 x2 n K x20 x19 w) Q := fun b w hw => pc_bnd (pc_bnd (ih _ _ _ hw))
    refine pc_ite (fun _ => hK _ _ _ h) (fun _ => pc_ite (fun _ => pc_oC1 (a_X7_laySides u _ _ _) (fun v hv => pc_bnd (pc_ite (fun _ => ?_) (fun _ => ?_)))) (fun _ => hK _ _ _ h))
    · exact pc_bnd (pc_ite (fun _ => rc_ _ v (h.tr hv)) (fun _ => pc_ite (fun _ => rc_ _ v (h.tr hv)) (fun _ => pc_oC1 (R := fun _ => True) (fun _ _ => trivial) (fun r _ => pc_gdi (fun _ _ => pc_bnd (pc_ite (fun _ => pc_bnd (pc_ite (fun _ => pc_bnd (pc_ite (fun _ => pc_oC1 (a_X7_readBytes v p1 _ _) (fun w hw => rc_ _ w ((h.tr hv).tr hw))) (fun _ => pc_oC1 (a_X7_readBytes v p1 _ _) (fun w hw => rc_ _ w ((h.tr hv).tr hw))))) (fun _ => pc_bnd (pc_ite (fun _ => pc_oC1 (a_X7_readBytes v p1 _ _) (fun w hw => rc_ _ w ((h.tr hv).tr hw))) (fun _ => pc_oC1 (a_X7_readBytes v p1 _ _) (fun w hw => rc_ _ w ((h.tr hv).tr hw))))))) (fun _ => pc_bnd (pc_ite (fun _ => pc_bnd (pc_ite (fun _ => pc_oC1 (a_X7_readBytes v p1 _ _) (fun w hw => rc_ _ w ((h.tr hv).tr hw))) (fun _ => pc_oC1 (a_X7_readBytes v p1 _ _) (fun w hw => rc_ _ w ((h.tr hv).tr hw))))) (fun _ => pc_bnd (pc_ite (fun _ => pc_oC1 (a_X7_readBytes v p1 _ _) (fun w hw => rc_ _ w ((h.tr hv).tr hw))) (fun _ => pc_oC1 (a_X7_readBytes v p1 _ _) (fun w hw => rc_ _ w ((h.tr hv).tr hw)))))))))))))
    · exact pc_bnd (pc_ite (fun _ => rc_ _ v (h.tr hv)) (fun _ => pc_ite (fun _ => rc_ _ v (h.tr hv)) (fun _ => pc_oC1 (R := fun _ => True) (fun _ _ => trivial) (fun r _ => pc_gdi (fun _ _ => pc_bnd (pc_ite (fun _ => pc_bnd (pc_ite (fun _ => pc_bnd (pc_ite (fun _ => pc_oC1 (a_X7_readBytes v p1 _ _) (fun w hw => rc_ _ w ((h.tr hv).tr hw))) (fun _ => pc_oC1 (a_X7_readBytes v p1 _ _) (fun w hw => rc_ _ w ((h.tr hv).tr hw))))) (fun _ => pc_bnd (pc_ite (fun _ => pc_oC1 (a_X7_readBytes v p1 _ _) (fun w hw => rc_ _ w ((h.tr hv).tr hw))) (fun _ => pc_oC1 (a_X7_readBytes v p1 _ _) (fun w hw => rc_ _ w ((h.tr hv).tr hw))))))) (fun _ => pc_bnd (pc_ite (fun _ => pc_bnd (pc_ite (fun _ => pc_oC1 (a_X7_readBytes v p1 _ _) (fun w hw => rc_ _ w ((h.tr hv).tr hw))) (fun _ => pc_oC1 (a_X7_readBytes v p1 _ _) (fun w hw => rc_ _ w ((h.tr hv).tr hw))))) (fun _ => pc_bnd (pc_ite (fun _ => pc_oC1 (a_X7_readBytes v p1 _ _) (fun w hw => rc_ _ w ((h.tr hv).tr hw))) (fun _ => pc_oC1 (a_X7_readBytes v p1 _ _) (fun w hw => rc_ _ w ((h.tr hv).tr hw)))))))))))))
theorem a_X7_readSides (u : OS) (p : Int32) : pc (f_X7_readSides u p) (fun q => A3 u q.1) := by
  unfold f_X7_readSides
  exact pc_gdi (fun _ _ => pc_bnd (pc_bnd (a_X7_readSides_L14 p _ u _ (fun a b v hv => pc_some hv) FU _ _ u A3.rf)))
theorem a_X7_readSign_L93 (x2 : Int32) (u0 : OS) {Q : OS → Prop} (K : Int64 → OS → Option OS) (hK : ∀ y v, A3 u0 v → pc (K y v) Q) : ∀ (n : Nat) (y : Int64) (u : OS), A3 u0 u → pc (f_X7_readSign_L93 x2 n K y u) Q := by
  intro n
  induction n with
  | zero => intro y u _; exact pc_none
  | succ n ih =>
    intro y u h
    unfold f_X7_readSign_L93
    exact pc_ite (fun _ => hK _ _ h) (fun _ => pc_ite (fun _ => pc_oC2 (a_X7_nextBit u) (fun v r hv => pc_bnd (ih _ _ (h.tr hv)))) (fun _ => hK _ _ h))
set_option maxHeartbeats 1000000 in
theorem a_X7_readSign (u : OS) (p : Int32) : pc (f_X7_readSign u p) (fun v => A3 u v) := by
  unfold f_X7_readSign
  have keep : ∀ (a : Int32) (w : OS), A3 u w → pc (if (w.1 27) = (0 : Int32) then (
  gdi (w.1 25) 65536 <|
  bnd (sA w 24 (w.1 25) a) fun u8 =>
  bnd (sF u8 25 ((u8.1 25) + (1 : Int32))) fun u9 =>
  some u9) else (
  some w)) (fun v => A3 u v) := fun a w hw => pc_ite (fun _ => pc_gdi (fun _ _ => pc_bnd (pc_bnd (pc_some (hw.x rfl rfl rfl rfl))))) (fun _ => pc_some hw)
  refine pc_gdi (fun _ _ => pc_bnd_eq (fun x2 _ => pc_bnd (pc_ite (fun _ => ?_) (fun _ => pc_ite (fun _ => ?_) (fun _ => ?_)))))
  · exact pc_oC2 (a_X7_readSides u p) (fun v r hv => keep _ v hv)
  · refine pc_gdi (fun _ _ => pc_bnd_eq (fun x27 _ => pc_gdi (fun _ _ => pc_bnd_eq (fun x29 _ => pc_gdi (fun _ _ => pc_bnd_eq (fun y31 _ => pc_gdi (fun _ _ => pc_bnd ?_)))))))
    refine pc_ite (fun _ => ?_) (fun _ => ?_)
    · refine pc_bnd (a_X7_readSign_L93 _ u _ ?_ FU _ u A3.rf)
      intro y v hv
      exact pc_bnd (pc_bnd (pc_ite (fun _ => pc_ite (fun _ => pc_gdi (fun _ _ => pc_bnd (keep _ _ (hv.x rfl rfl rfl rfl)))) (fun _ => pc_gdi (fun _ _ => pc_gdi (fun _ _ => pc_bnd (keep _ _ (hv.x rfl rfl rfl rfl)))))) (fun _ => pc_gdi (fun _ _ => pc_gdi (fun _ _ => pc_bnd (keep _ _ (hv.x rfl rfl rfl rfl)))))))
    · refine pc_bnd (a_X7_readSign_L93 _ u _ ?_ FU _ u A3.rf)
      intro y v hv
      exact pc_bnd (pc_bnd (pc_ite (fun _ => pc_ite (fun _ => pc_gdi (fun _ _ => pc_bnd (keep _ _ (hv.x rfl rfl rfl rfl)))) (fun _ => pc_gdi (fun _ _ => pc_gdi (fun _ _ => pc_bnd (keep _ _ (hv.x rfl rfl rfl rfl)))))) (fun _ => pc_gdi (fun _ _ => pc_gdi (fun _ _ => pc_bnd (keep _ _ (hv.x rfl rfl rfl rfl)))))))
  · refine pc_gdi (fun _ _ => pc_oC1 (R := fun _ => True) (fun _ _ => trivial) (fun r _ => pc_gdi (fun _ _ => pc_ite (fun _ => keep _ u A3.rf) (fun _ => pc_ite (fun _ => ?_) (fun _ => ?_)))))
    · exact pc_gdi (fun _ _ => pc_gdi (fun _ _ => pc_oC1 (a_X7_readBytes u p _ _) (fun v hv => keep _ v hv)))
    · exact pc_gdi (fun _ _ => pc_gdi (fun _ _ => pc_oC1 (a_X7_readWords u p _ _) (fun v hv => keep _ v hv)))
theorem a_X7_readAll_L244 (u0 : OS) {Q : OS → Prop} (K : Int32 → OS → Option OS) (hK : ∀ x v, A3 u0 v → pc (K x v) Q) : ∀ (n : Nat) (x : Int32) (u : OS), A3 u0 u → pc (f_X7_readAll_L244 n K x u) Q := by
  intro n
  induction n with
  | zero => intro x u _; exact pc_none
  | succ n ih =>
    intro x u h
    unfold f_X7_readAll_L244
    exact pc_ite (fun _ => hK _ _ h) (fun _ => pc_oC2 (a_X7_nextBit u) (fun v r hv => pc_ite (fun _ => pc_ite (fun _ => ih _ _ (h.tr hv)) (fun _ => ih _ _ (h.tr hv))) (fun _ => ih _ _ (h.tr hv))))
theorem a_X7_readAll_L186 (u0 : OS) {Q : OS → Prop} (K : Int32 → OS → Option OS) (hK : ∀ x v, A3 u0 v → pc (K x v) Q) : ∀ (n : Nat) (x : Int32) (u : OS), A3 u0 u → pc (f_X7_readAll_L186 n K x u) Q := by
  intro n
  induction n with
  | zero => intro x u _; exact pc_none
  | succ n ih =>
    intro x u h
    unfold f_X7_readAll_L186
    exact pc_ite (fun _ => hK _ _ h) (fun _ => pc_ite (fun _ => pc_gdi (fun _ _ => pc_gdi (fun _ _ => pc_oC1 (R := fun _ => True) (fun _ _ => trivial) (fun r _ => pc_ite (fun _ => pc_bnd (ih _ _ h)) (fun _ => pc_oC1 (a_X7_fail u _) (fun v hv => pc_bnd (ih _ _ (h.tr hv)))))))) (fun _ => hK _ _ h))
theorem a_X7_readAll_L156 (r6 : Int32) (u0 : OS) {Q : OS → Prop} (K : Int32 → OS → Option OS) (hK : ∀ x v, A3 u0 v → pc (K x v) Q) : ∀ (n : Nat) (x : Int32) (u : OS), A3 u0 u → pc (f_X7_readAll_L156 r6 n K x u) Q := by
  intro n
  induction n with
  | zero => intro x u _; exact pc_none
  | succ n ih =>
    intro x u h
    unfold f_X7_readAll_L156
    exact pc_ite (fun _ => hK _ _ h) (fun _ => pc_ite (fun _ => pc_gdz (pc_oC1 (a_X7_readSign u _) (fun v hv => pc_bnd (ih _ _ (h.tr hv))))) (fun _ => hK _ _ h))
theorem a_X7_readAll_L51 (u0 : OS) {Q : OS → Prop} (K : Int32 → OS → Option OS) (hK : ∀ x v, A3 u0 v → pc (K x v) Q) : ∀ (n : Nat) (x : Int32) (u : OS), A3 u0 u → pc (f_X7_readAll_L51 n K x u) Q := by
  intro n
  induction n with
  | zero => intro x u _; exact pc_none
  | succ n ih =>
    intro x u h
    unfold f_X7_readAll_L51
    have k : ∀ a : Int32, pc (oC2 (f_X7_nextWide u a) fun u73 r74 =>
    gdi x 4 <|
    bnd (sL u73 33 x r74) fun u77 =>
    if (u77.1 27) = (0 : Int32) then (
    gdi x 4 <|
    oC1 (f_X7_isInSpan u77 (u77.2.2.1 33 (x).toNatClampNeg)) fun r81 =>
    if r81 = (0 : Int32) then (
    oC1 (f_X7_fail u77 (4 : Int32)) fun u85 =>
    bnd (x + (1 : Int32)) fun x87 =>
    f_X7_readAll_L51 n K x87 u85) else (
    bnd (x + (1 : Int32)) fun x84 =>
    f_X7_readAll_L51 n K x84 u77)) else (
    bnd (x + (1 : Int32)) fun x79 =>
    f_X7_readAll_L51 n K x79 u77)) Q := by
      intro a
      refine pc_oC2 (a_X7_nextWide u a) (fun v r hv => pc_gdi (fun _ _ => pc_bnd ?_))
      have hw : A3 u0 (sL v 33 x r) := (h.tr hv).x rfl rfl rfl rfl
      exact pc_ite (fun _ => pc_gdi (fun _ _ => pc_oC1 (R := fun _ => True) (fun _ _ => trivial) (fun r2 _ => pc_ite (fun _ => pc_oC1 (a_X7_fail _ _) (fun z hz => pc_bnd (ih _ _ (hw.tr hz)))) (fun _ => pc_bnd (ih _ _ hw))))) (fun _ => pc_bnd (ih _ _ hw))
    exact pc_ite (fun _ => hK _ _ h) (fun _ => pc_ite (fun _ => pc_bnd (pc_ite (fun _ => k _) (fun _ => pc_ite (fun _ => k _) (fun _ => k _)))) (fun _ => hK _ _ h))
set_option maxHeartbeats 1000000 in
theorem a_X7_readHead (u : OS) : pc (f_X7_readHead u) (fun q => A3 u q.1) := by
  unfold f_X7_readHead
  refine pc_oC2 (a_X7_next u) (fun v r hv => pc_bnd ?_)
  have k2 : ∀ (w : OS) (r9 : Int32), A3 u w → pc (if (w.1 27) = (0 : Int32) then (
  gdi (1 : Int32) 2 <|
  bnd (sA w 10 (1 : Int32) r9) fun u20 =>
  oC2 (f_X7_nextWide u20 (2 : Int32)) fun u21 r22 =>
  some (u21, (r22).toInt32)) else (
  gdi (1 : Int32) 2 <|
  bnd (sA w 10 (1 : Int32) (5 : Int32)) fun u15 =>
  oC2 (f_X7_nextWide u15 (2 : Int32)) fun u16 r17 =>
  some (u16, (r17).toInt32))) (fun q => A3 u q.1) := by
    intro w r9 hw
    refine pc_ite (fun _ => pc_gdi (fun _ _ => pc_bnd ?_)) (fun _ => pc_gdi (fun _ _ => pc_bnd ?_))
    · exact pc_oC2 (a_X7_nextWide _ _) (fun z r2 hz => pc_some ((hw.x rfl rfl rfl rfl).tr hz))
    · exact pc_oC2 (a_X7_nextWide _ _) (fun z r2 hz => pc_some ((hw.x rfl rfl rfl rfl).tr hz))
  have k1 : ∀ w : OS, A3 u w → pc (bnd (sF w 30 (r >>> ((2 : Int32) &&& (31 : Int32)))) fun u6 =>
  bnd (sF u6 31 ((1 : Int32) <<< ((r &&& (3 : Int32)) &&& (31 : Int32)))) fun u7 =>
  oC2 (f_X7_next u7) fun u8 r9 =>
  bnd (fun (u11 : OS) =>
  if (u11.1 27) = (0 : Int32) then (
  gdi (1 : Int32) 2 <|
  bnd (sA u11 10 (1 : Int32) r9) fun u20 =>
  oC2 (f_X7_nextWide u20 (2 : Int32)) fun u21 r22 =>
  some (u21, (r22).toInt32)) else (
  gdi (1 : Int32) 2 <|
  bnd (sA u11 10 (1 : Int32) (5 : Int32)) fun u15 =>
  oC2 (f_X7_nextWide u15 (2 : Int32)) fun u16 r17 =>
  some (u16, (r17).toInt32))) fun K74_12 =>
  if (u8.1 27) = (0 : Int32) then (
  bnd (oC1 (f_X7_fail u8 (2 : Int32)) fun u26 =>
  K74_12 u26) fun K69_25 =>
  if r9 < (5 : Int32) then (
  K69_25) else (
  if r9 ≤ (12 : Int32) then (
  K74_12 u8) else (
  K69_25))) else (
  K74_12 u8)) (fun q => A3 u q.1) := by
    intro w hw
    refine pc_bnd (pc_bnd (pc_oC2 (a_X7_next _) (fun z r9 hz => pc_bnd ?_)))
    have hz2 : A3 u z := (hw.x rfl rfl rfl rfl).tr hz
    have bad : pc (oC1 (f_X7_fail z (2 : Int32)) fun u26 => if (u26.1 27) = (0 : Int32) then (
  gdi (1 : Int32) 2 <|
  bnd (sA u26 10 (1 : Int32) r9) fun u20 =>
  oC2 (f_X7_nextWide u20 (2 : Int32)) fun u21 r22 =>
  some (u21, (r22).toInt32)) else (
  gdi (1 : Int32) 2 <|
  bnd (sA u26 10 (1 : Int32) (5 : Int32)) fun u15 =>
  oC2 (f_X7_nextWide u15 (2 : Int32)) fun u16 r17 =>
  some (u16, (r17).toInt32))) (fun q => A3 u q.1) := pc_oC1 (a_X7_fail z _) (fun y hy => k2 y r9 (hz2.tr hy))
    exact pc_ite (fun _ => pc_bnd (pc_ite (fun _ => bad) (fun _ => pc_ite (fun _ => k2 z r9 hz2) (fun _ => bad)))) (fun _ => k2 z r9 hz2)
  exact pc_ite (fun _ => pc_bnd (pc_ite (fun _ => pc_oC1 (a_X7_fail v _) (fun y hy => k1 y (hv.tr hy))) (fun _ => pc_ite (fun _ => pc_oC1 (a_X7_fail v _) (fun y hy => k1 y (hv.tr hy))) (fun _ => k1 v hv)))) (fun _ => k1 v hv)
-- the writer's side of the spread, and what was written, stand
def W3 (u v : OS) : Prop := LO 1 u v ∧ v.2.2.1 17 = u.2.2.1 17
theorem A3.w {u v : OS} (h : A3 u v) : W3 u v := ⟨fun i _ => ⟨by rw [h.1], by rw [h.2.1], by rw [h.2.2.1]⟩, h.2.2.2⟩
theorem W3.tr {u v w : OS} (h1 : W3 u v) (h2 : W3 v w) : W3 u w := ⟨h1.1.tr h2.1, h2.2.trans h1.2⟩
set_option maxHeartbeats 1000000 in
theorem w_X7_readAll {g : GH} (u : OS) (h : IM g u) : pc (f_X7_readAll u) (fun v => W3 u v) := by
  have h15 := h.2.2.2.2.2.2.2.1
  have hh : H14 u := h.2.2.2.2.2.2.2.2.1
  unfold f_X7_readAll
  refine pc_bnd (pc_bnd (pc_bnd (pc_bnd ?_)))
  have D4 : A3 u (sF (sF (sF (sF u 25 (0 : Int32)) 26 (0 : Int32)) 27 (0 : Int32)) 32 (0 : Int32)) := ⟨rfl, rfl, rfl, rfl⟩
  have P4 : RP (sF (sF (sF (sF u 25 (0 : Int32)) 26 (0 : Int32)) 27 (0 : Int32)) 32 (0 : Int32)) := ⟨by show 0 ≤ (0 : Int32).toInt; decide, by show (0 : Int32).toInt ≤ (u.1 15).toInt; rw [li_0]; omega, h15.2, by show 0 ≤ (0 : Int32).toInt; decide⟩
  have H4 : H14 (sF (sF (sF (sF u 25 (0 : Int32)) 26 (0 : Int32)) 27 (0 : Int32)) 32 (0 : Int32)) := hh
  generalize (sF (sF (sF (sF u 25 (0 : Int32)) 26 (0 : Int32)) 27 (0 : Int32)) 32 (0 : Int32)) = u4 at D4 P4 H4
  refine pc_oC2 (pc_and (pc_of_ok (s_X7_readHead u4 H4 P4)) (a_X7_readHead u4)) (fun u5 r6 k5 => pc_bnd ?_)
  have R5 : RH u4 u5 := k5.1.1
  have G5 : (u5.1 27).toInt = 0 → HG u5 := k5.1.2.1
  have D5 : A3 u u5 := D4.tr k5.2
  have H5 := R5.h14 H4
  have key : ∀ u8 : OS, A3 u u8 → 0 ≤ (u8.1 27).toInt → ((u8.1 27).toInt = 0 → ∃ k, 5 ≤ k ∧ k ≤ 12 ∧ u8.2.1 10 1 = nI k ∧ SH u8 1 ((2 ^ k : Nat) : Int)) → pc (if (u8.1 27) ≤ (0 : Int32) then (
  oC1 (f_X7_lay u8 (1 : Int32)) fun u11 =>
  bnd (fun (x15 : Int32) (u16 : OS) =>
  bnd (fun (x18 : Int32) =>
  gdb x18 <|
  bnd (sF u16 32 x18) fun u20 =>
  bnd (sF u20 29 (0 : Int32)) fun u22 =>
  bnd (fun (x25 : Int32) (u26 : OS) =>
  bnd (fun (x30 : Int32) (u31 : OS) =>
  if (u31.1 27) = (0 : Int32) then (
  bnd (fun (x36 : Int32) (u37 : OS) =>
  if x36 = (0 : Int32) then (
  oC1 (f_X7_fail u37 (6 : Int32)) fun u40 =>
  some u40) else (
  if (u37.1 15) ≤ (u37.1 26) then (
  some u37) else (
  oC1 (f_X7_fail u37 (6 : Int32)) fun u43 =>
  some u43))) fun K271_38 =>
  f_X7_readAll_L244 FU K271_38 (1 : Int32) u31) else (
  some u31)) fun K235_32 =>
  f_X7_readAll_L186 FU K235_32 (0 : Int32) u26) fun K184_27 =>
  f_X7_readAll_L156 r6 FU K184_27 (0 : Int32) u22) fun K146_19 =>
  if (u16.1 27) = (0 : Int32) then (
  K146_19 (1 : Int32)) else (
  K146_19 (0 : Int32))) fun K133_17 =>
  f_X7_readAll_L51 FU K133_17 (0 : Int32) u11) else (
  some u8)) (fun v => W3 u v) := by
    intro u8 D8 z27' G8
    refine pc_ite (fun c => ?_) (fun c => pc_some D8.w)
    have z8 : (u8.1 27).toInt = 0 := by
      have := i0_le.mp c
      omega
    obtain ⟨k, k1, k2, ek, hSH⟩ := G8 z8
    have sk := sk32 (g := u8.2.1 10 1) k1 k2 ek
    have tw : two (2 ^ k) := two_of (g := nI k) (by rw [nI_toInt (by omega)]; omega) (by rw [nI_toInt (by omega)]; omega) (by rw [nI_toInt (by omega), Int.toNat_natCast]; exact Int.natCast_pow 2 k)
    refine pc_oC1 (p_X7_lay u8 (p := 1) (N := 2 ^ k) (by decide) (by decide) sk ⟨tw, hSH.1, hSH.2⟩) (fun u11 y11 => ?_)
    have W11 : W3 u u11 := D8.w.tr ⟨y11.2.2.1, by rw [y11.2.2.2]⟩
    refine pc_bnd (a_X7_readAll_L51 u11 _ (fun x15 u16 R16 => pc_bnd ?_) FU _ u11 A3.rf)
    have go : ∀ x18 : Int32, pc (gdb x18 <|
  bnd (sF u16 32 x18) fun u20 =>
  bnd (sF u20 29 (0 : Int32)) fun u22 =>
  bnd (fun (x25 : Int32) (u26 : OS) =>
  bnd (fun (x30 : Int32) (u31 : OS) =>
  if (u31.1 27) = (0 : Int32) then (
  bnd (fun (x36 : Int32) (u37 : OS) =>
  if x36 = (0 : Int32) then (
  oC1 (f_X7_fail u37 (6 : Int32)) fun u40 =>
  some u40) else (
  if (u37.1 15) ≤ (u37.1 26) then (
  some u37) else (
  oC1 (f_X7_fail u37 (6 : Int32)) fun u43 =>
  some u43))) fun K271_38 =>
  f_X7_readAll_L244 FU K271_38 (1 : Int32) u31) else (
  some u31)) fun K235_32 =>
  f_X7_readAll_L186 FU K235_32 (0 : Int32) u26) fun K184_27 =>
  f_X7_readAll_L156 r6 FU K184_27 (0 : Int32) u22) (fun v => W3 u v) := by
      intro x18
      refine pc_gdb (pc_bnd (pc_bnd ?_))
      have R22 : A3 u11 (sF (sF u16 32 x18) 29 (0 : Int32)) := R16.x rfl rfl rfl rfl
      refine pc_bnd (a_X7_readAll_L156 r6 u11 _ (fun x25 u26 R26 => pc_bnd (a_X7_readAll_L186 u11 _ (fun x30 u31 R31 => ?_) FU _ u26 R26)) FU _ _ R22)
      refine pc_ite (fun _ => pc_bnd (a_X7_readAll_L244 u11 _ (fun x36 u37 R37 => ?_) FU _ u31 R31)) (fun _ => pc_some (W11.tr R31.w))
      exact pc_ite (fun _ => pc_oC1 (a_X7_fail u37 _) (fun v hv => pc_some (W11.tr (R37.tr hv).w))) (fun _ => pc_ite (fun _ => pc_some (W11.tr R37.w)) (fun _ => pc_oC1 (a_X7_fail u37 _) (fun v hv => pc_some (W11.tr (R37.tr hv).w))))
    exact pc_ite (fun _ => go 1) (fun _ => go 0)
  refine pc_ite (fun c => ?_) (fun c => key u5 D5 R5.2.2.2.2.2.2.2 (fun q => absurd (Int32.toInt_inj.mp (by rw [q, li_0])) c))
  obtain ⟨l31, g1, g2⟩ := G5 (z27 c)
  obtain ⟨k, ek, ek2, _⟩ := nI_ex (x := u5.2.1 10 1) (by omega)
  have k1 : 5 ≤ k := by omega
  have k2 : k ≤ 12 := by omega
  refine pc_oC1 (pc_and (pc_of_ok (s_X7_readTable u5 k1 k2 ek H5 R5.2.2.2.2)) (a_X7_readTable u5)) (fun v hv => key v (D5.tr hv.2) hv.1.1.2.2.2.2.1.2.2.2 (fun q => ⟨k, k1, k2, ?_, hv.1.2.2 q⟩))
  rw [hv.1.1.2.1 10 (by decide)]
  exact ek

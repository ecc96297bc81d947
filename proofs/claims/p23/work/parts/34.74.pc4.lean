theorem s_X6_firstState (p q : Int32) : ok (f_X6_firstState p q) (fun _ => True) := by
  unfold f_X6_firstState
  exact ok_ite (fun _ => ok_some trivial) (fun _ => ok_ite (fun _ => ok_some trivial) (fun _ => ok_some trivial))
theorem s_X6_lastState (p q : Int32) : ok (f_X6_lastState p q) (fun _ => True) := by
  unfold f_X6_lastState
  exact ok_ite (fun _ => ok_some trivial) (fun _ => ok_ite (fun _ => ok_some trivial) (fun _ => ok_some trivial))
theorem s_X6_stateWidth (p : Int32) : ok (f_X6_stateWidth p) (fun r => 0 ≤ r.toInt ∧ r.toInt ≤ 8) := by
  unfold f_X6_stateWidth
  exact ok_ite (fun _ => ok_some (by decide)) (fun _ => ok_ite (fun _ => ok_some (by decide)) (fun _ => ok_some (by decide)))
set_option maxHeartbeats 1000000 in
theorem s_X3_takeStates_L34 (uO : OS) (hO : IO uO) (r1 r3 : Int64) (u0 : OS) (K : Int32 → OS → Option OS) (hK : ∀ x v, SFR u0 v → ok (K x v) (SFR u0)) : ∀ (n : Nat) (x : Int32) (u : OS), 0 ≤ x.toInt → x.toInt ≤ 4 → (4 - x.toInt).toNat < n → SFR u0 u → ok (f_X3_takeStates_L34 uO r1 r3 n K x u) (SFR u0) := by
  intro n
  induction n with
  | zero => intro x u _ _ hn; omega
  | succ n ih =>
    intro x u hx hx2 hn hS
    unfold f_X3_takeStates_L34
    refine ok_ite (fun _ => hK _ _ hS) (fun _ => ok_ite (fun _ => hK _ _ hS) (fun c => ?_))
    have c1 := mt Int32.le_iff_toInt_le.mpr c
    rw [li_4] at c1
    have e1 := inc32 (x := x) (by omega)
    have g4 : x.toInt < (4 : Nat) := by clear hK ih; omega
    have go : ∀ w, SFR u0 w → ok (bnd (x + (1 : Int32)) fun x27 => f_X3_takeStates_L34 uO r1 r3 n K x27 w) (SFR u0) := fun w hw => ok_bnd (ih _ _ (by omega) (by omega) (by omega) hw)
    refine ok_oC1 (s_X6_stateWidth _) (fun r hr => ok_oC2 (s_X3_nextNumber u uO r hr.1 hr.2 hO hS.2.2.2) (fun v y hv => ok_gdi hx g4 (ok_bnd ?_)))
    have hv : SFR u v := hv
    have h19 : SFR u0 (sL v 1 x y) := (hS.tr hv).tr (SFR.setl hv.2.2.2)
    have bad : ok (bnd (sF (sL v 1 x y) 4 (4 : Int32)) fun u25 => if (u25.1 4) = (0 : Int32) then (bnd (x + (1 : Int32)) fun x27 => f_X3_takeStates_L34 uO r1 r3 n K x27 u25) else (some u25)) (SFR u0) := by
      have h25 := h19.tr (SFR.set (i := 4) (x := (4 : Int32)) h19.2.2.2 (by decide))
      exact ok_bnd (ok_ite (fun _ => go _ h25) (fun _ => ok_some h25))
    exact ok_ite (fun _ => ok_gdi hx g4 (ok_bnd (ok_ite (fun _ => bad) (fun _ => ok_gdi hx g4 (ok_ite (fun _ => ok_ite (fun _ => go _ h19) (fun _ => ok_some h19)) (fun _ => bad)))))) (fun _ => ok_ite (fun _ => go _ h19) (fun _ => ok_some h19))
theorem s_X3_takeStates (u uZ uO : OS) (h : IR u) (hO : IO uO) : ok (f_X3_takeStates u uZ uO) (SFR u) := by
  unfold f_X3_takeStates
  exact ok_oC1 (s_X6_firstState _ _) (fun r1 _ => ok_oC1 (s_X6_lastState _ _) (fun r3 _ => ok_bnd (s_X3_takeStates_L34 uO hO r1 r3 u _ (fun x v hv => ok_bnd (ok_some (hv.tr (SFR.set hv.2.2.2 (by decide))))) FU _ _ (by decide) (by decide) (by decide) (SFR.rf h))))
theorem s_X3_restOf (u uZ : OS) (p : Int32) (p0 : 0 ≤ p.toInt) (p1 : p.toInt < 4) : ok (f_X3_restOf u uZ p) (fun _ => True) := by
  unfold f_X3_restOf
  exact ok_gdi p0 (by omega) (ok_some trivial)
theorem s_X3_narrow_L63 (uO : OS) (hO : IO uO) (r1 : Int64) (x3 : Int32) (w0 : 0 ≤ x3.toInt) (w1 : x3.toInt ≤ 8) (u0 : OS) (K : Int64 → Int32 → OS → Option OS) (hK : ∀ y x v, SFR u0 v → ok (K y x v) (SFR u0)) : ∀ (n : Nat) (x : Int32) (y : Int64) (u : OS), 0 ≤ x.toInt → x.toInt ≤ 2 → (2 - x.toInt).toNat < n → SFR u0 u → ok (f_X3_narrow_L63 uO r1 x3 n K x y u) (SFR u0) := by
  intro n
  induction n with
  | zero => intro x y u _ _ hn; omega
  | succ n ih =>
    intro x y u hx hx2 hn hS
    unfold f_X3_narrow_L63
    refine ok_ite (fun _ => hK _ _ _ hS) (fun c => ok_ite (fun _ => hK _ _ _ hS) (fun _ => ?_))
    have c1 := mt Int32.le_iff_toInt_le.mpr c
    rw [li_2] at c1
    have e1 := inc32 (x := x) (by omega)
    exact ok_oC2 (s_X3_nextNumber u uO x3 w0 w1 hO hS.2.2.2) (fun v r hv => ok_ite (fun _ => ok_bnd (ok_bnd (ih _ _ _ (by omega) (by omega) (by omega) (hS.tr hv)))) (fun _ => ok_some (hS.tr hv)))
theorem s_X3_narrow (u uZ uO : OS) (p a b : Int32) (h : IR u) (hO : IO uO) (p0 : 0 ≤ p.toInt) (p1 : p.toInt < 4) : ok (f_X3_narrow u uZ uO p a b) (SFR u) := by
  unfold f_X3_narrow
  refine ok_oC1 (s_X6_firstState _ _) (fun r1 _ => ok_bnd ?_)
  have key : ∀ x3 : Int32, 0 ≤ x3.toInt → x3.toInt ≤ 8 → ok (gdi p 4 <|
  oC1 (f_X3_restOf u uZ p) fun r6 =>
  bnd ((((a).toInt64 * ((u.2.2.1 1 (p).toNatClampNeg) >>> (((uZ.1 0)).toInt64 &&& (63 : Int64)))) + (r6).toInt64) - (b).toInt64) fun y8 =>
  bnd (fun (y12 : Int64) (x13 : Int32) (u14 : OS) =>
  gdi p 4 <|
  bnd (sL u14 1 p y12) fun u17 =>
  some u17) fun K114_15 =>
  f_X3_narrow_L63 uO r1 x3 FU K114_15 (0 : Int32) y8 u) (SFR u) := by
    intro x3 q0 q1
    refine ok_gdi p0 (by omega) (ok_oC1 (s_X3_restOf u uZ p p0 p1) (fun r6 _ => ok_bnd_eq (fun y8 _ => ok_bnd ?_)))
    exact s_X3_narrow_L63 uO hO r1 x3 q0 q1 u _ (fun y x v hv => ok_gdi p0 (by omega) (ok_bnd (ok_some (hv.tr (SFR.setl hv.2.2.2))))) FU (0 : Int32) y8 u (by decide) (by decide) (by decide) (SFR.rf h)
  exact ok_ite (fun _ => key 4 (by decide) (by decide)) (fun _ => key 1 (by decide) (by decide))
theorem s_X3_takeTwoSided_L6 (uZ uO : OS) (hO : IO uO) (p : Int32) (p0 : 0 ≤ p.toInt) (p1 : p.toInt < 4) (u0 : OS) : ∀ (n : Nat) (x y : Int32) (u : OS), x.toInt.toNat < n → SFR u0 u → ok (f_X3_takeTwoSided_L6 uZ p uO n x y u) (fun q => SFR u0 q.1) := by
  intro n
  induction n with
  | zero => intro x y u hn; omega
  | succ n ih =>
    intro x y u hn hS
    unfold f_X3_takeTwoSided_L6
    refine ok_ite (fun _ => ok_some hS) (fun c => ?_)
    have c1 := mt Int32.le_iff_toInt_le.mpr c
    rw [li_0] at c1
    have e2 : (x / (2 : Int32)).toInt = x.toInt / 2 := by rw [div32 (by omega) (by decide), li_2]
    have go : ∀ (a : Int32) (w : OS), SFR u0 w → ok (if (w.1 4) = (0 : Int32) then (bnd (x / (2 : Int32)) fun x13 => f_X3_takeTwoSided_L6 uZ p uO n x13 a w) else (some (w, (-1 : Int32)))) (fun q => SFR u0 q.1) := fun a w hw => ok_ite (fun _ => ok_bnd (ih _ _ _ (by omega) hw)) (fun _ => ok_some hw)
    exact ok_oC1 (s_X4_shareOfZero uZ y x) (fun r5 _ => ok_oC1 (s_X3_restOf u uZ p p0 p1) (fun r7 _ => ok_bnd (ok_ite (fun _ => ok_oC1 (s_X3_narrow u uZ uO p _ _ hS.2.2.2 hO p0 p1) (fun v hv => ok_bnd (go _ v (hS.tr hv)))) (fun _ => ok_oC1 (s_X3_narrow u uZ uO p _ _ hS.2.2.2 hO p0 p1) (fun v hv => go _ v (hS.tr hv))))))
theorem s_X3_takeTwoSided (u uZ uO : OS) (p : Int32) (h : IR u) (hO : IO uO) (p0 : 0 ≤ p.toInt) (p1 : p.toInt < 4) : ok (f_X3_takeTwoSided u uZ uO p) (fun q => SFR u q.1) := by
  unfold f_X3_takeTwoSided
  exact s_X3_takeTwoSided_L6 uZ uO hO p p0 p1 u FU _ _ _ (by decide) (SFR.rf h)
theorem s_X3_takeByTable_L29 (uZ uO : OS) (hO : IO uO) (u0 : OS) (K : Int32 → Int32 → OS → Option (OS × Int32)) (hK : ∀ a b v, SFR u0 v → ok (K a b v) (fun q => SFR u0 q.1)) : ∀ (n : Nat) (x y : Int32) (u : OS), 0 ≤ x.toInt → x.toInt ≤ 13 → (13 - x.toInt).toNat < n → SFR u0 u → ok (f_X3_takeByTable_L29 uZ uO n K x y u) (fun q => SFR u0 q.1) := by
  intro n
  induction n with
  | zero => intro x y u _ _ hn; omega
  | succ n ih =>
    intro x y u hx hx2 hn hS
    unfold f_X3_takeByTable_L29
    refine ok_ite (fun _ => hK _ _ _ hS) (fun c => ok_ite (fun _ => hK _ _ _ hS) (fun _ => ?_))
    have c1 := mt Int32.lt_iff_toInt_lt.mpr c
    rw [li_12] at c1
    have e1 := inc32 (x := x) (by omega)
    exact ok_oC2 (s_X3_nextBits u uO 1 (by decide) (by decide) hO hS.2.2.2) (fun v r hv => ok_ite (fun _ => ok_bnd (ok_bnd (ih _ _ _ (by omega) (by omega) (by omega) (hS.tr hv.1)))) (fun _ => ok_some (hS.tr hv.1)))
theorem s_X3_takeByTable (u uZ uO : OS) (p : Int32) (h : IR u) (hZ : IS uZ) (hO : IO uO) (p0 : 0 ≤ p.toInt) (p1 : p.toInt < 4) : ok (f_X3_takeByTable u uZ uO p) (fun q => SFR u q.1) := by
  unfold f_X3_takeByTable
  refine ok_gdi p0 (by omega) (ok_bnd_eq (fun x2 _ => ok_oC1 (s_X4_numberAt uZ x2 hZ) (fun r3 _ => ok_bnd ?_)))
  exact s_X3_takeByTable_L29 uZ uO hO u _ (fun a b v hv => ok_gdi p0 (by omega) (ok_bnd (ok_oC1 (s_X4_signAt uZ x2 hZ) (fun r14 _ => ok_some (hv.tr (SFR.setl hv.2.2.2)))))) FU (0 : Int32) r3 u (by decide) (by decide) (by decide) (SFR.rf h)
theorem s_X3_takeSign (u uZ uO : OS) (p : Int32) (h : IR u) (hZ : IS uZ) (hO : IO uO) (p0 : 0 ≤ p.toInt) (p1 : p.toInt < 4) : ok (f_X3_takeSign u uZ uO p) (fun q => SFR u q.1) := by
  unfold f_X3_takeSign
  exact ok_ite (fun _ => ok_oC2 (s_X3_takeByTable u uZ uO p h hZ hO p0 p1) (fun v r hv => ok_some hv)) (fun _ => ok_ite (fun _ => ok_oC2 (s_X3_takeTwoSided u uZ uO p h hO p0 p1) (fun v r hv => ok_some hv)) (fun _ => ok_oC1 (s_X3_restOf u uZ p p0 p1) (fun r3 _ => ok_oC1 (s_X4_signOver uZ r3) (fun r5 _ => ok_oC1 (s_X4_shareOf uZ r5 hZ) (fun r7 _ => ok_oC1 (s_X4_fromOf uZ r5) (fun r9 _ => ok_oC1 (s_X3_narrow u uZ uO p r7 r9 h hO p0 p1) (fun v hv => ok_some hv)))))))
theorem s_X3_keep (u : OS) (p : Int32) (h : IR u) : ok (f_X3_keep u p) (CQ (fun v => IR v ∧ v.1 9 = u.1 9) phR (phR u)) := by
  obtain ⟨h3, h2, h5, h9⟩ := h
  unfold f_X3_keep
  refine ok_oA2 (s_withRoom (lm := 65535) (u.2.1 2) h2.1 li_65535 h2.2 (by decide) (by omega)) (fun n f kc ks hr => ?_)
  obtain ⟨r1, r2, r3, r4, r5, r6⟩ := hr
  have r1 : u.2.2.2 2 ≤ n := r1
  have r2 : n ≤ 65535 := r2
  have en := nIt (n := n) (by omega)
  refine CQ_add (b' := ph 65535 n) r5 r6 (ok_bnd (ok_ite (fun c => CQ_some ⟨⟨⟨h3.1, by show (u.1 3).toInt ≤ (n : Int); omega⟩, ⟨by show 1 ≤ n; omega, r2⟩, h5, h9⟩, rfl⟩ (Nat.le_refl _)) (fun c => ?_)))
  have c : ¬ nI n ≤ u.1 3 := c
  have c1 := mt Int32.le_iff_toInt_le.mpr c
  rw [en] at c1
  have e1 := inc32 (x := u.1 3) (by omega)
  exact ok_gdi h3.1 (by show (u.1 3).toInt < (n : Int); omega) (ok_bnd (ok_bnd (CQ_some ⟨⟨⟨by show 0 ≤ (u.1 3 + (1 : Int32)).toInt; omega, by show (u.1 3 + (1 : Int32)).toInt ≤ (n : Int); omega⟩, ⟨by show 1 ≤ n; omega, r2⟩, h5, h9⟩, rfl⟩ (Nat.le_refl _))))
def phRZ (q : OS × OS) : Nat := phR q.1 + phS q.2
set_option maxHeartbeats 1000000 in
theorem s_X3_takeRow_L17 (uO z : OS) (hO : IO uO) (hZ : IS z) {l9 : Int32} (hl : l9.toInt = 1 ∨ l9.toInt = 2 ∨ l9.toInt = 4) : ∀ (n : Nat) (x : Int32) (u : OS), 0 ≤ x.toInt → x.toInt ≤ 65535 → (65535 - x.toInt).toNat < n → IR u → u.1 9 = l9 → ok (f_X3_takeRow_L17 uO z n x u) (CQ (fun q => IR q.1 ∧ IS q.2) phRZ (phR u + phS z)) := by
  intro n
  induction n with
  | zero => intro x u _ _ hn; omega
  | succ n ih =>
    intro x u hx hx2 hn h e9
    unfold f_X3_takeRow_L17
    refine ok_ite (fun _ => CQ_some ⟨h, hZ⟩ (Nat.le_refl _)) (fun _ => ok_ite (fun _ => CQ_some ⟨h, hZ⟩ (Nat.le_refl _)) (fun c => ?_))
    have c1 := mt Int32.le_iff_toInt_le.mpr c
    rw [li_65535] at c1
    have e1 := inc32 (x := x) (by omega)
    have es : ((u.1 9) - (1 : Int32)).toInt = l9.toInt - 1 := by rw [e9, sub32 (by rw [li_1]; omega) (by rw [li_1]; omega), li_1]
    have a := and32 x ((u.1 9) - (1 : Int32)) (by rw [es]; omega)
    rw [es] at a
    refine ok_oC2 (s_X3_takeSign u z uO _ h hZ hO a.1 (by have := a.2; clear ih; omega)) (fun v r hv => ok_ite (fun _ => ?_) (fun _ => CQ_some ⟨hv.2.2.2, hZ⟩ ?_))
    · have hv : SFR u v := hv
      refine ok_oA1 (s_X3_keep v r hv.2.2.2) (fun w kc ks hw => CQ_add (b' := phR w + phS z) hw.2.1 ?_ (ok_bnd (ih _ _ (by omega) (by omega) (by omega) hw.1.1 ((hw.1.2.trans hv.2.1).trans e9))))
      have q1 : phR v + ks ≤ phR w := hw.2.2
      have q2 := hv.ph
      omega
    · have hv : SFR u v := hv
      show phR u + phS z ≤ phR v + phS z
      rw [hv.ph]
      exact Nat.le_refl _
theorem s_X3_takeRow (u uZ uO : OS) (h : IR u) (hL : L124 u) (hZ : IS uZ) (hO : IO uO) : ok (f_X3_takeRow u uZ uO) (CQ (fun q => IR q.1 ∧ IS q.2) phRZ (phR u + phS uZ)) := by
  unfold f_X3_takeRow
  refine ok_bnd (ok_ite (fun _ => ok_oA1 (s_X4_makeSpread uZ hZ) (fun z kc ks hz => CQ_add (b' := phR u + phS z) hz.2.1 ?_ (s_X3_takeRow_L17 uO z hO hz.1.1 hL FU _ _ (by decide) (by decide) (by decide) h rfl))) (fun _ => s_X3_takeRow_L17 uO uZ hO hZ hL FU _ _ (by decide) (by decide) (by decide) h rfl))
  have : phS uZ + ks ≤ phS z := hz.2.2
  omega
theorem s_X3_judgeEnd_L18 (u : OS) (r1 : Int64) {Q : OS → Prop} (K K' : Int32 → Option OS) (hK : ∀ x, ok (K x) Q) (hK' : ∀ x, ok (K' x) Q) : ∀ (n : Nat) (x : Int32), 0 ≤ x.toInt → x.toInt ≤ 4 → (4 - x.toInt).toNat < n → ok (f_X3_judgeEnd_L18 u r1 n K K' x) Q := by
  intro n
  induction n with
  | zero => intro x _ _ hn; omega
  | succ n ih =>
    intro x hx hx2 hn
    unfold f_X3_judgeEnd_L18
    refine ok_ite (fun _ => hK' _) (fun _ => ok_ite (fun _ => hK' _) (fun c => ?_))
    have c1 := mt Int32.le_iff_toInt_le.mpr c
    rw [li_4] at c1
    have e1 := inc32 (x := x) (by omega)
    exact ok_gdi hx (by omega) (ok_ite (fun _ => ok_bnd (ih _ (by omega) (by omega) (by omega))) (fun _ => hK _))
theorem s_X3_judgeEnd (u uZ uO : OS) (h : IR u) : ok (f_X3_judgeEnd u uZ uO) (SFR u) := by
  unfold f_X3_judgeEnd
  exact ok_oC1 (s_X6_firstState _ _) (fun r1 _ => ok_bnd (ok_bnd (s_X3_judgeEnd_L18 u r1 _ _ (fun x => ok_bnd (ok_some (SFR.set h (by decide)))) (fun x => ok_ite (fun _ => ok_bnd (ok_some (SFR.set h (by decide)))) (fun _ => ok_oC1 (s_X3_restIsSet u) (fun r _ => ok_ite (fun _ => ok_some (SFR.rf h)) (fun _ => ok_bnd (ok_some (SFR.set h (by decide))))))) FU _ (by decide) (by decide) (by decide))))
def phRZ3 (q : OS × OS × Int32) : Nat := phR q.1 + phS q.2.1
set_option maxHeartbeats 1000000 in
theorem s_X3_takeIn (u uZ uO : OS) (h : IR u) (hZ : IS uZ) (hO : IO uO) : ok (f_X3_takeIn u uZ uO) (CQ (fun q => IR q.1 ∧ IS q.2.1) phRZ3 (phR u + phS uZ)) := by
  unfold f_X3_takeIn
  refine ok_bnd (ok_bnd (ok_bnd (ok_bnd (ok_bnd ?_))))
  have h5 : IR (sF (sF (sF (sF (sF u 3 (0 : Int32)) 4 (0 : Int32)) 5 (0 : Int32)) 7 (0 : Int32)) 11 (0 : Int32)) := by
    refine ⟨⟨by show 0 ≤ (0 : Int32).toInt; decide, ?_⟩, h.2.1, ⟨by show 0 ≤ (0 : Int32).toInt; decide, by show (0 : Int32).toInt ≤ 8000; decide⟩, h.2.2.2⟩
    show (0 : Int32).toInt ≤ ((u.2.2.2 2 : Nat) : Int)
    rw [li_0]
    omega
  have p5 : phR (sF (sF (sF (sF (sF u 3 (0 : Int32)) 4 (0 : Int32)) 5 (0 : Int32)) 7 (0 : Int32)) 11 (0 : Int32)) = phR u := rfl
  generalize (sF (sF (sF (sF (sF u 3 (0 : Int32)) 4 (0 : Int32)) 5 (0 : Int32)) 7 (0 : Int32)) 11 (0 : Int32)) = u5 at h5 p5
  refine ok_oC2 (s_X3_takeHead u5 uZ uO h5 hZ hO) (fun u6 u7 k6 => ok_bnd ?_)
  obtain ⟨e6, h6, z7, p7, l6⟩ := k6
  have e6 : u6.2.2.2 = u5.2.2.2 := e6
  have p6 : phR u6 = phR u := by
    rw [← p5]
    unfold phR
    rw [e6]
  have h6 : IR u6 := h6
  have z7 : IS u7 := z7
  have p7 : phS u7 = phS uZ := p7
  have l6 : u6.1 4 = 0 → L124 u6 := l6
  have end2 : ∀ (a z : OS), IR a → IS z → ok (if (a.1 4) = (0 : Int32) then (some ((a, z, (a.1 3)), 0, 0)) else (some ((a, z, ((-10 : Int32) - (a.1 5))), 0, 0))) (CQ (fun q => IR q.1 ∧ IS q.2.1) phRZ3 (phR a + phS z)) := fun a z ha hz => ok_ite (fun _ => CQ_some ⟨ha, hz⟩ (Nat.le_refl _)) (fun _ => CQ_some ⟨ha, hz⟩ (Nat.le_refl _))
  have end1 : ∀ (a z : OS), IR a → IS z → ok (bnd (fun (u25 : OS) => if (u25.1 4) = (0 : Int32) then (some ((u25, z, (u25.1 3)), 0, 0)) else (some ((u25, z, ((-10 : Int32) - (u25.1 5))), 0, 0))) fun K78_26 => if (a.1 4) = (0 : Int32) then (oC1 (f_X3_judgeEnd a z uO) fun u29 => K78_26 u29) else (K78_26 a)) (CQ (fun q => IR q.1 ∧ IS q.2.1) phRZ3 (phR a + phS z)) := by
    intro a z ha hz
    refine ok_bnd (ok_ite (fun _ => ok_oC1 (s_X3_judgeEnd a z uO ha) (fun b hb => ?_)) (fun _ => end2 a z ha hz))
    rw [← hb.ph]
    exact end2 b z hb.2.2.2 hz
  have end0 : ∀ (a z : OS), IR a → (a.1 4 = 0 → L124 a) → IS z → ok (bnd (fun (u20 : OS) (u21 : OS) => bnd (fun (u25 : OS) => if (u25.1 4) = (0 : Int32) then (some ((u25, u21, (u25.1 3)), 0, 0)) else (some ((u25, u21, ((-10 : Int32) - (u25.1 5))), 0, 0))) fun K78_26 => if (u20.1 4) = (0 : Int32) then (oC1 (f_X3_judgeEnd u20 u21 uO) fun u29 => K78_26 u29) else (K78_26 u20)) fun K66_22 => if (a.1 4) = (0 : Int32) then (oA2 (f_X3_takeRow a z uO) fun u32 u33 kc37 ks37 => addc kc37 ks37 <| K66_22 u32 u33) else (K66_22 a z)) (CQ (fun q => IR q.1 ∧ IS q.2.1) phRZ3 (phR a + phS z)) := by
    intro a z ha la hz
    refine ok_bnd (ok_ite (fun c => ok_oA2 (s_X3_takeRow a z uO ha (la c) hz hO) (fun b y kc ks hb => CQ_add hb.2.1 hb.2.2 (end1 b y hb.1.1 hb.1.2))) (fun _ => end1 a z ha hz))
  have endS : ∀ (a z : OS), IR a → (a.1 4 = 0 → L124 a) → IS z → ok (bnd (fun (u16 : OS) => bnd (fun (u20 : OS) (u21 : OS) => bnd (fun (u25 : OS) => if (u25.1 4) = (0 : Int32) then (some ((u25, u21, (u25.1 3)), 0, 0)) else (some ((u25, u21, ((-10 : Int32) - (u25.1 5))), 0, 0))) fun K78_26 => if (u20.1 4) = (0 : Int32) then (oC1 (f_X3_judgeEnd u20 u21 uO) fun u29 => K78_26 u29) else (K78_26 u20)) fun K66_22 => if (u16.1 4) = (0 : Int32) then (oA2 (f_X3_takeRow u16 z uO) fun u32 u33 kc37 ks37 => addc kc37 ks37 <| K66_22 u32 u33) else (K66_22 u16 z)) fun K54_17 => if (a.1 4) = (0 : Int32) then (oC1 (f_X3_takeStates a z uO) fun u40 => K54_17 u40) else (K54_17 a)) (CQ (fun q => IR q.1 ∧ IS q.2.1) phRZ3 (phR a + phS z)) := by
    intro a z ha la hz
    refine ok_bnd (ok_ite (fun c => ok_oC1 (s_X3_takeStates a z uO ha hO) (fun b hb => ?_)) (fun _ => end0 a z ha la hz))
    rw [← hb.ph]
    refine end0 b z hb.2.2.2 (fun _ => ?_) hz
    unfold L124
    rw [hb.2.1]
    exact la c
  rw [← p6, ← p7]
  refine ok_ite (fun c => ok_oC2 (s_X3_takeTable u6 u7 uO h6 z7 hO) (fun a z ht => ?_)) (fun _ => endS u6 u7 h6 l6 z7)
  have t1 : SFR u6 a := ht.1
  have t2 : IS z := ht.2.1
  have t3 : phS z = phS u7 := ht.2.2
  rw [← t1.ph, ← t3]
  refine endS a z t1.2.2.2 (fun _ => ?_) t2
  unfold L124
  rw [t1.2.1]
  exact l6 c
theorem s_X3_signAt (u : OS) (p : Int32) (h : IR u) : ok (f_X3_signAt u p) (fun _ => True) := by
  have e := nIt (n := u.2.2.2 2) (by have := h.2.1.2; omega)
  unfold f_X3_signAt
  refine ok_ite (fun _ => ok_some trivial) (fun c => ok_ite (fun _ => ok_some trivial) (fun _ => ok_ite (fun _ => ok_some trivial) (fun d => ?_)))
  have c1 := mt Int32.lt_iff_toInt_lt.mpr c
  have d1 := mt Int32.le_iff_toInt_le.mpr d
  rw [li_0] at c1
  rw [e] at d1
  exact ok_gdi (by omega) (by omega) (ok_some trivial)

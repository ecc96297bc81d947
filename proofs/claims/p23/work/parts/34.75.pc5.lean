-- Writer
def IW (u : OS) : Prop := 0 ≤ (u.1 2).toInt ∧ (u.1 2).toInt ≤ 4
def WQ (p : Int32) (uW uP : OS) (q : OS × OS) : Prop := q.1.1 = uW.1 ∧ I8 p q.2 ∧ phP q.2 = phP uP
theorem s_X5_putByTable_L19 (r3 : Int32) (pP : Nat) {Q : OS × OS → Prop} (K : Int32 → Int32 → OS → Option (OS × OS)) (hK : ∀ a b v, I8 2 v → phP v = pP → ok (K a b v) Q) : ∀ (n : Nat) (x y : Int32) (u : OS), 0 ≤ x.toInt → x.toInt ≤ 13 → (13 - x.toInt).toNat < n → I8 2 u → phP u = pP → ok (f_X5_putByTable_L19 r3 n K x y u) Q := by
  intro n
  induction n with
  | zero => intro x y u _ _ hn; omega
  | succ n ih =>
    intro x y u hx hx2 hn h hp
    unfold f_X5_putByTable_L19
    refine ok_ite (fun _ => hK _ _ _ h hp) (fun c => ok_ite (fun _ => hK _ _ _ h hp) (fun _ => ?_))
    have c1 := mt Int32.lt_iff_toInt_lt.mpr c
    rw [li_12] at c1
    have e1 := inc32 (x := x) (by omega)
    exact ok_oC1 (s_X2_pushBit u y rfl h) (fun v hv => ok_bnd (ok_bnd (ih _ _ _ (by omega) (by omega) (by omega) hv.1 (hv.2.trans hp))))
theorem s_X5_putByTable (uS uW uP : OS) (p q : Int32) (hS : IS uS) (hP : I8 2 uP) (p0 : 0 ≤ p.toInt) (p1 : p.toInt < 4) : ok (f_X5_putByTable uS uW uP p q) (WQ 2 uW uP) := by
  unfold f_X5_putByTable
  refine ok_gdi p0 (by omega) (ok_bnd_eq (fun x2 _ => ok_oC1 (s_X4_shareOf uS q hS) (fun r3 _ => ok_bnd ?_)))
  exact s_X5_putByTable_L19 r3 (phP uP) _ (fun a b v hv hp => ok_oC1 (s_X4_placeOf uS q a hS) (fun r12 _ => ok_gdi p0 (by omega) (ok_bnd (ok_some ⟨rfl, hv, hp⟩)))) FU (0 : Int32) x2 uP (by decide) (by decide) (by decide) hP rfl
theorem s_X5_widen_L77 (x3 : Int32) (x30 : 0 ≤ x3.toInt) (x38 : x3.toInt ≤ 8) {p : Int32} (hp : p ≠ 2) (pP : Nat) {Q : OS × OS → Prop} (K : Int64 → Int32 → OS → Option (OS × OS)) (hK : ∀ a b v, I8 p v → phP v = pP → ok (K a b v) Q) : ∀ (n : Nat) (x : Int32) (y : Int64) (u : OS), 0 ≤ x.toInt → x.toInt ≤ 8 → (8 - x.toInt).toNat < n → I8 p u → phP u = pP → ok (f_X5_widen_L77 x3 n K x y u) Q := by
  intro n
  induction n with
  | zero => intro x y u _ _ hn; omega
  | succ n ih =>
    intro x y u hx hx2 hn h hpp
    unfold f_X5_widen_L77
    refine ok_ite (fun _ => hK _ _ _ h hpp) (fun c => ?_)
    have c1 := mt Int32.le_iff_toInt_le.mpr c
    have e1 := inc32 (x := x) (by omega)
    exact ok_oC1 (s_X2_pushOctet u _ hp h) (fun v hv => ok_bnd (ok_bnd (ih _ _ _ (by omega) (by omega) (by omega) hv.1 (hv.2.trans hpp))))
theorem s_X5_widen_L60 (x3 : Int32) (x30 : 0 ≤ x3.toInt) (x38 : x3.toInt ≤ 8) (y7 : Int64) {p : Int32} (hp : p ≠ 2) (pP : Nat) {Q : OS × OS → Prop} (K : Int64 → Int32 → OS → Option (OS × OS)) (hK : ∀ a b v, I8 p v → phP v = pP → ok (K a b v) Q) : ∀ (n : Nat) (x : Int32) (y : Int64) (u : OS), 0 ≤ x.toInt → x.toInt ≤ 2 → (2 - x.toInt).toNat < n → I8 p u → phP u = pP → ok (f_X5_widen_L60 x3 y7 n K x y u) Q := by
  intro n
  induction n with
  | zero => intro x y u _ _ hn; omega
  | succ n ih =>
    intro x y u hx hx2 hn h hpp
    unfold f_X5_widen_L60
    refine ok_ite (fun _ => hK _ _ _ h hpp) (fun c => ok_ite (fun _ => hK _ _ _ h hpp) (fun _ => ok_bnd ?_))
    have c1 := mt Int32.le_iff_toInt_le.mpr c
    rw [li_2] at c1
    have e1 := inc32 (x := x) (by omega)
    exact s_X5_widen_L77 x3 x30 x38 hp pP _ (fun a b v hv hpv => ok_bnd (ih _ _ _ (by omega) (by omega) (by omega) hv hpv)) FU _ _ _ (by decide) (by decide) (by decide) h hpp
set_option maxHeartbeats 1000000 in
theorem s_X5_widen (uW uP : OS) (p a b c d : Int32) {f : Int32} (hf : f ≠ 2) (hP : I8 f uP) (p0 : 0 ≤ p.toInt) (p1 : p.toInt < 4) : ok (f_X5_widen uW uP p a b c d) (WQ f uW uP) := by
  unfold f_X5_widen
  refine ok_ite (fun _ => ok_some ⟨rfl, hP, rfl⟩) (fun q => ok_ite (fun _ => ok_bnd ?_) (fun _ => ok_some ⟨rfl, hP, rfl⟩))
  have q1 := mt Int32.le_iff_toInt_le.mpr q
  rw [li_0] at q1
  have hz : a.toInt64.toInt ≠ 0 := by
    show (Int32.toInt64 a).toInt ≠ 0
    rw [Int32.toInt_toInt64]
    omega
  have key : ∀ x3 : Int32, 0 ≤ x3.toInt → x3.toInt ≤ 8 → ok (bnd (fun (x5 : Int32) =>
  bnd (((1 : Int64) <<< (((x5 - c)).toInt64 &&& (63 : Int64))) * (a).toInt64) fun y7 =>
  gdi p 4 <|
  bnd (uW.2.2.1 0 (p).toNatClampNeg) fun y9 =>
  bnd (fun (y13 : Int64) (x14 : Int32) (u15 : OS) =>
  gdzl (a).toInt64 <|
  gdzl (a).toInt64 <|
  gdi p 4 <|
  bnd (sL uW 0 p ((((y13 / (a).toInt64) <<< ((c).toInt64 &&& (63 : Int64))) + (y13 - y13 / (a).toInt64 * (a).toInt64)) + (b).toInt64)) fun u20 =>
  some (u20, u15)) fun K113_16 =>
  f_X5_widen_L60 x3 y7 FU K113_16 (0 : Int32) y9 uP) fun K40_6 =>
  if d = (1 : Int32) then (
  K40_6 (63 : Int32)) else (
  K40_6 (31 : Int32))) (WQ f uW uP) := by
    intro x3 x30 x38
    have fin : ∀ x5 : Int32, ok (bnd (((1 : Int64) <<< (((x5 - c)).toInt64 &&& (63 : Int64))) * (a).toInt64) fun y7 =>
  gdi p 4 <|
  bnd (uW.2.2.1 0 (p).toNatClampNeg) fun y9 =>
  bnd (fun (y13 : Int64) (x14 : Int32) (u15 : OS) =>
  gdzl (a).toInt64 <|
  gdzl (a).toInt64 <|
  gdi p 4 <|
  bnd (sL uW 0 p ((((y13 / (a).toInt64) <<< ((c).toInt64 &&& (63 : Int64))) + (y13 - y13 / (a).toInt64 * (a).toInt64)) + (b).toInt64)) fun u20 =>
  some (u20, u15)) fun K113_16 =>
  f_X5_widen_L60 x3 y7 FU K113_16 (0 : Int32) y9 uP) (WQ f uW uP) := by
      intro x5
      refine ok_bnd_eq (fun y7 _ => ok_gdi p0 (by omega) (ok_bnd_eq (fun y9 _ => ok_bnd ?_)))
      exact s_X5_widen_L60 x3 x30 x38 y7 hf (phP uP) _ (fun y x v hv hp => ok_gdzl hz (ok_gdzl hz (ok_gdi p0 (by omega) (ok_bnd (ok_some ⟨rfl, hv, hp⟩))))) FU (0 : Int32) y9 uP (by decide) (by decide) (by decide) hP rfl
    exact ok_bnd (ok_ite (fun _ => fin _) (fun _ => fin _))
  exact ok_ite (fun _ => key 4 (by decide) (by decide)) (fun _ => key 1 (by decide) (by decide))
theorem s_X5_putTwoSided_L3 (p q : Int32) (uS : OS) {f : Int32} (hf : f ≠ 2) (p0 : 0 ≤ p.toInt) (p1 : p.toInt < 4) (w0 q0 : OS) (K : Int32 → OS → OS → Option (OS × OS)) (hK : ∀ x v w, WQ f w0 q0 (v, w) → ok (K x v w) (WQ f w0 q0)) : ∀ (n : Nat) (x : Int32) (u w : OS), 1 ≤ x.toInt → (64 - x.toInt).toNat < n → WQ f w0 q0 (u, w) → ok (f_X5_putTwoSided_L3 p q uS n K x u w) (WQ f w0 q0) := by
  intro n
  induction n with
  | zero => intro x u w _ hn; omega
  | succ n ih =>
    intro x u w hx hn h
    unfold f_X5_putTwoSided_L3
    refine ok_ite (fun _ => hK _ _ _ h) (fun c => ?_)
    have c1 := mt Int32.le_iff_toInt_le.mpr c
    rw [li_32] at c1
    have e1 : (x * (2 : Int32)).toInt = x.toInt * 2 := by rw [mul32 (by rw [li_2]; omega) (by rw [li_2]; omega), li_2]
    have tr : ∀ a b, WQ f u w (a, b) → WQ f w0 q0 (a, b) := fun a b hab => ⟨hab.1.trans h.1, hab.2.1, hab.2.2.trans h.2.2⟩
    exact ok_oC1 (s_X4_shareOfZero uS _ x) (fun r9 _ => ok_ite (fun _ => ok_oC2 (s_X5_widen u w p _ _ _ _ hf h.2.1 p0 p1) (fun a b hab => ok_bnd (ih _ _ _ (by omega) (by omega) (tr a b hab)))) (fun _ => ok_oC2 (s_X5_widen u w p _ _ _ _ hf h.2.1 p0 p1) (fun a b hab => ok_bnd (ih _ _ _ (by omega) (by omega) (tr a b hab)))))
theorem s_X5_putTwoSided (uS uW uP : OS) (p q : Int32) {f : Int32} (hf : f ≠ 2) (hP : I8 f uP) (p0 : 0 ≤ p.toInt) (p1 : p.toInt < 4) : ok (f_X5_putTwoSided uS uW uP p q) (WQ f uW uP) := by
  unfold f_X5_putTwoSided
  exact ok_bnd (s_X5_putTwoSided_L3 p q uS hf p0 p1 uW uP _ (fun x v w h => ok_some h) FU _ _ _ (by decide) (by decide) ⟨rfl, hP, rfl⟩)
theorem s_X5_putSign (uS uW uP : OS) (f p q : Int32) (hS : IS uS) (hP : I8 f uP) (p0 : 0 ≤ p.toInt) (p1 : p.toInt < 4) : ok (f_X5_putSign uS uW uP f p q) (WQ f uW uP) := by
  unfold f_X5_putSign
  refine ok_ite (fun c => ?_) (fun c => ok_ite (fun _ => ok_oC2 (s_X5_putTwoSided uS uW uP p q c hP p0 p1) (fun a b h => ok_some h)) (fun _ => ok_oC1 (s_X4_shareOf uS q hS) (fun r7 _ => ok_oC1 (s_X4_fromOf uS q) (fun r9 _ => ok_oC2 (s_X5_widen uW uP p _ _ _ _ c hP p0 p1) (fun a b h => ok_some h)))))
  rw [c] at hP ⊢
  exact ok_oC2 (s_X5_putByTable uS uW uP p q hS hP p0 p1) (fun a b h => ok_some h)
theorem s_X5_putHead (uS uW uO : OS) (p q : Int32) (hO : IO uO) : ok (f_X5_putHead uS uW uO p q) (CQ IO phO (phO uO)) := by
  unfold f_X5_putHead
  exact ok_oA2 (s_X1_append uO _ hO) (fun a r kc ks ha => CQ_add ha.2.1 ha.2.2 (ok_oA2 (s_X1_append a _ ha.1) (fun b r kc ks hb => CQ_add hb.2.1 hb.2.2 (ok_oA1 (s_X1_appendNumber b _ 2 hb.1 (by decide) (by decide)) (fun c kc ks hc => CQ_add hc.2.1 hc.2.2 (CQ_some hc.1 (Nat.le_refl _)))))))
theorem s_X5_putTable_L8 (uS : OS) (hS : IS uS) (K : Int32 → Int32 → OS → Option (OS × Nat × Nat)) (hK : ∀ a b v, IO v → ok (K a b v) (CQ IO phO (phO v))) : ∀ (n : Nat) (x y : Int32) (u : OS), 0 ≤ x.toInt → x.toInt ≤ 32 → (32 - x.toInt).toNat < n → IO u → ok (f_X5_putTable_L8 uS n K x y u) (CQ IO phO (phO u)) := by
  intro n
  induction n with
  | zero => intro x y u _ _ hn; omega
  | succ n ih =>
    intro x y u hx hx2 hn h
    unfold f_X5_putTable_L8
    refine ok_ite (fun _ => hK _ _ _ h) (fun c => ok_ite (fun _ => hK _ _ _ h) (fun _ => ?_))
    have c1 := mt Int32.le_iff_toInt_le.mpr c
    rw [li_32] at c1
    have e1 := inc32 (x := x) (by omega)
    exact ok_oC1 (s_X4_shareOf uS x hS) (fun r13 _ => ok_oC1 (s_X6_bitLength y) (fun r15 h15 => ok_oA1 (s_X1_appendBits u r13 r15 h h15.1 h15.2.1) (fun v kc ks hv => CQ_add hv.2.1 hv.2.2 (ok_oC1 (s_X4_shareOf uS x hS) (fun r22 _ => ok_bnd (ok_bnd (ih _ _ _ (by omega) (by omega) (by omega) hv.1)))))))
theorem s_X5_putTable (uS uO : OS) (hS : IS uS) (hO : IO uO) : ok (f_X5_putTable uS uO) (CQ IO phO (phO uO)) := by
  unfold f_X5_putTable
  exact ok_bnd (ok_bnd (s_X5_putTable_L8 uS hS _ (fun a b v hv => CQ_some hv (Nat.le_refl _)) FU _ _ _ (by decide) (by decide) (by decide) hO))
theorem s_X5_writeRow_L116 (p4 : Int32) (uW : OS) (hW : (uW.1 2).toInt ≤ 4) {P : OS × OS × OS × OS → Prop} {T : OS × OS × OS × OS → Nat} {c : Nat} (K : Int32 → OS → Option ((OS × OS × OS × OS) × Nat × Nat)) (hK : ∀ x v, IO v → ok (K x v) (CQ P T (phO v + c))) : ∀ (n : Nat) (x : Int32) (u : OS), 0 ≤ x.toInt → x.toInt ≤ 4 → (4 - x.toInt).toNat < n → IO u → ok (f_X5_writeRow_L116 p4 uW n K x u) (CQ P T (phO u + c)) := by
  intro n
  induction n with
  | zero => intro x u _ _ hn; omega
  | succ n ih =>
    intro x u hx hx2 hn h
    unfold f_X5_writeRow_L116
    refine ok_ite (fun _ => hK _ _ h) (fun d => ?_)
    have c1 := mt Int32.le_iff_toInt_le.mpr d
    have e1 := inc32 (x := x) (by omega)
    refine ok_gdi hx (by omega) (ok_oC1 (s_X6_stateWidth p4) (fun r hr => ok_oA1 (s_X1_appendNumber u _ r h hr.1 hr.2) (fun v kc ks hv => CQ_add (b' := phO v + c) hv.2.1 ?_ (ok_bnd (ih _ _ (by omega) (by omega) (by omega) hv.1)))))
    have : phO u + ks ≤ phO v := hv.2.2
    omega
set_option maxHeartbeats 1000000 in
theorem s_X5_writeRow_L53 (uA : OS) (p4 : Int32) (uS : OS) (hS : IS uS) {l2 : Int32} (hl : l2.toInt = 1 ∨ l2.toInt = 2 ∨ l2.toInt = 4) (hA : uA.2.2.2 0 ≤ 1000) {P : OS × OS × OS × OS → Prop} {T : OS × OS × OS × OS → Nat} {c : Nat} (K : Int32 → OS → OS → Option ((OS × OS × OS × OS) × Nat × Nat)) (hK : ∀ x w v, w.1 2 = l2 → I8 p4 v → ok (K x w v) (CQ P T (phP v + c))) : ∀ (n : Nat) (x : Int32) (w u : OS), -1 ≤ x.toInt → x.toInt < uA.2.2.2 0 → (x.toInt + 1).toNat < n → w.1 2 = l2 → I8 p4 u → ok (f_X5_writeRow_L53 uA p4 uS n K x w u) (CQ P T (phP u + c)) := by
  have l3 : 0 ≤ l2.toInt - 1 ∧ l2.toInt - 1 < 4 := by omega
  have l4 : -2147483648 ≤ l2.toInt - (1 : Int32).toInt ∧ l2.toInt - (1 : Int32).toInt < 2147483648 := by
    rw [li_1]
    omega
  clear hl
  intro n
  induction n with
  | zero => intro x w u _ _ hn; omega
  | succ n ih =>
    intro x w u hx hx2 hn ew h
    unfold f_X5_writeRow_L53
    refine ok_ite (fun _ => hK _ _ _ ew h) (fun d => ?_)
    have d1 := mt Int32.lt_iff_toInt_lt.mpr d
    rw [li_0] at d1
    have e1 := dec32 (x := x) (by omega)
    have m0 : 0 ≤ x.toInt := by
      clear ih hK l3 l4 e1
      omega
    have m1 : -1 ≤ (x + (-1 : Int32)).toInt := by
      rw [e1]
      clear ih hK l3 l4 e1
      omega
    have m2 : (x + (-1 : Int32)).toInt < ((uA.2.2.2 0 : Nat) : Int) := by
      rw [e1]
      clear ih hK l3 l4 e1
      omega
    have m3 : ((x + (-1 : Int32)).toInt + 1).toNat < n := by
      rw [e1]
      clear ih hK l3 l4 e1
      omega
    have es : ((w.1 2) - (1 : Int32)).toInt = l2.toInt - 1 := by rw [ew, sub32 l4.1 l4.2, li_1]
    have a := and32 x ((w.1 2) - (1 : Int32)) (by rw [es]; exact l3.1)
    rw [es] at a
    refine ok_oA1 (s_X2_makeRoomForSign u h) (fun v kc ks hv => CQ_add (b' := phP v + c) hv.2.1 ?_ (ok_gdi m0 hx2 (ok_oC2 (s_X5_putSign uS w v p4 _ _ hS hv.1 a.1 (Int.lt_of_le_of_lt a.2 l3.2)) (fun s t hst => ok_bnd ?_))))
    · have : phP u + ks ≤ phP v := hv.2.2
      omega
    · have e2 : s.1 = w.1 := hst.1
      have e3 : phP t = phP v := hst.2.2
      rw [← e3]
      exact ih _ _ _ m1 m2 m3 (by rw [e2]; exact ew) hst.2.1
def ph4 (q : OS × OS × OS × OS) : Nat := phS q.1 + phP q.2.2.1 + phO q.2.2.2
def I4 (q : OS × OS × OS × OS) : Prop := IS q.1 ∧ IW q.2.1 ∧ IP q.2.2.1 ∧ IO q.2.2.2
set_option maxHeartbeats 1000000 in
theorem s_X5_writeRow (uS uW uP uO uA : OS) (p2 p4 p5 : Int32) (hS : IS uS) (hP : IP uP) (hO : IO uO) (hA : uA.2.2.2 0 ≤ 1000) (h2 : 0 ≤ p2.toInt) (h5 : p5.toInt = 1 ∨ p5.toInt = 2 ∨ p5.toInt = 4) : ok (f_X5_writeRow uS uW uP uO uA p2 p4 p5) (CQ (fun q => I4 q ∧ SFr uS q.1) ph4 (phS uS + phP uP + phO uO)) := by
  have en := nIt (n := uA.2.2.2 0) (by omega)
  have e5 : (if (4 : Int32) < p5 then (4 : Int32) else p5) = p5 := by
    rw [if_neg]
    intro q
    have := Int32.lt_iff_toInt_lt.mp q
    rw [li_4] at this
    omega
  unfold f_X5_writeRow
  rw [e5]
  refine ok_bnd (ok_oC1 (s_X2_empty uP p4 hP) (fun v hv => ok_oC1 (s_X6_firstState _ _) (fun r4 _ => ok_bnd_eq (fun u6 e6 => ok_bnd ?_))))
  have l6 : u6.1 2 = p5 := by rw [e6]; rfl
  have ex : ((if (nI (uA.2.2.2 0)) < p2 then (nI (uA.2.2.2 0)) else p2) - (1 : Int32)).toInt < uA.2.2.2 0 ∧ -1 ≤ ((if (nI (uA.2.2.2 0)) < p2 then (nI (uA.2.2.2 0)) else p2) - (1 : Int32)).toInt := by
    by_cases q : (nI (uA.2.2.2 0)) < p2
    · rw [if_pos q, sub32 (by rw [en, li_1]; omega) (by rw [en, li_1]; omega), en, li_1]
      omega
    · rw [if_neg q]
      have q1 := mt Int32.lt_iff_toInt_lt.mpr q
      rw [en] at q1
      rw [sub32 (by rw [li_1]; omega) (by rw [li_1]; omega), li_1]
      omega
  generalize ((if (nI (uA.2.2.2 0)) < p2 then (nI (uA.2.2.2 0)) else p2) - (1 : Int32)) = x13 at ex
  have key : ∀ s : OS, IS s → SFr uS s → ok (bnd x13 fun x13 =>
  bnd (fun (x23 : Int32) (u24 : OS) (u25 : OS) =>
  oC1 (f_X1_restart uO) fun u27 =>
  oA1 (f_X5_putHead s u24 u27 p4 p2) fun u29 kc32 ks32 =>
  addc kc32 ks32 <|
  oA1 (f_X5_putTable s u29) fun u34 kc37 ks37 =>
  addc kc37 ks37 <|
  bnd (fun (x47 : Int32) (u48 : OS) =>
  oA1 (f_X2_pourInto u25 u48) fun u50 kc53 ks53 =>
  addc kc53 ks53 <|
  bnd (sF u24 3 (1 : Int32)) fun u55 =>
  some ((s, u55, u25, u50), 0, 0)) fun K148_49 =>
  f_X5_writeRow_L116 p4 u24 FU K148_49 (0 : Int32) u34) fun K91_26 =>
  f_X5_writeRow_L53 uA p4 s FU K91_26 x13 u6 v) (CQ (fun q => I4 q ∧ SFr uS q.1) ph4 (phP v + (phS s + phO uO))) := by
    intro s hs hsf
    refine ok_bnd (ok_bnd (s_X5_writeRow_L53 uA p4 s hs h5 hA _ ?_ FU _ _ _ ex.2 ex.1 (by have := ex.1; show _ < 100000; omega) l6 hv.1))
    intro x w t ew ht
    refine ok_oC1 (s_X1_restart uO hO) (fun a ha => ok_oA1 (s_X5_putHead s w a p4 p2 ha.1) (fun b kc ks hb => CQ_add (b' := phO b + (phS s + phP t)) hb.2.1 ?_ (ok_oA1 (s_X5_putTable s b hs hb.1) (fun d kc ks hd => CQ_add (b' := phO d + (phS s + phP t)) hd.2.1 ?_ (ok_bnd (s_X5_writeRow_L116 p4 w (by rw [ew]; omega) _ (fun y o ho => ok_oA1 (s_X2_pourInto t o ht.1 ho) (fun e kc ks he => CQ_add (b' := phO e + (phS s + phP t)) he.2.1 ?_ (ok_bnd (CQ_some ⟨⟨hs, ?_, ht.1, he.1⟩, hsf⟩ ?_)))) FU _ _ (by decide) (by decide) (by decide) hd.1))))))
    · have q1 : phO a + ks ≤ phO b := hb.2.2
      have q2 := ha.2
      omega
    · have q1 : phO b + ks ≤ phO d := hd.2.2
      omega
    · have q1 : phO o + ks ≤ phO e := he.2.2
      show phO o + (phS s + phP t) + ks ≤ phO e + (phS s + phP t)
      omega
    · show phO e + (phS s + phP t) ≤ phS s + phP t + phO e
      omega
    · show 0 ≤ (w.1 2).toInt ∧ (w.1 2).toInt ≤ 4
      rw [ew]
      omega
  refine ok_ite (fun _ => ok_oA1 (s_X4_makeSpread uS hS) (fun s kc ks hs => CQ_add hs.2.1 ?_ (key s hs.1.1 hs.1.2))) (fun _ => CQ_le ?_ (key uS hS SFr.rf))
  · have q1 : phS uS + ks ≤ phS s := hs.2.2
    have q2 := hv.2
    omega
  · have q2 := hv.2
    omega

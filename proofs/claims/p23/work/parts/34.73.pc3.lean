-- Reader
def IR (u : OS) : Prop := (0 ≤ (u.1 3).toInt ∧ (u.1 3).toInt ≤ u.2.2.2 2) ∧ (1 ≤ u.2.2.2 2 ∧ u.2.2.2 2 ≤ 65535) ∧ (0 ≤ (u.1 5).toInt ∧ (u.1 5).toInt ≤ 8000) ∧ (0 ≤ (u.1 9).toInt ∧ (u.1 9).toInt ≤ 4)
def phR (u : OS) : Nat := ph 65535 (u.2.2.2 2)
def SFR (u v : OS) : Prop := v.2.2.2 = u.2.2.2 ∧ v.1 9 = u.1 9 ∧ v.1 3 = u.1 3 ∧ IR v
theorem SFR.rf {u : OS} (h : IR u) : SFR u u := ⟨rfl, rfl, rfl, h⟩
theorem SFR.tr {u v w : OS} (h1 : SFR u v) (h2 : SFR v w) : SFR u w := ⟨h2.1.trans h1.1, h2.2.1.trans h1.2.1, h2.2.2.1.trans h1.2.2.1, h2.2.2.2⟩
theorem SFR.ph {u v : OS} (h : SFR u v) : phR v = phR u := by
  unfold phR
  rw [h.1]
theorem SFR.set {u : OS} {i : Nat} {x : Int32} (h : IR u) (hi : i = 4 ∨ i = 6 ∨ i = 7 ∨ i = 8 ∨ i = 10 ∨ i = 11) : SFR u (sF u i x) := by
  have e : ∀ j, j ≠ i → (sF u i x).1 j = u.1 j := fun j hj => va_nec (f := u.1) hj
  refine ⟨rfl, e 9 (by omega), e 3 (by omega), ?_⟩
  unfold IR
  rw [e 3 (by omega), e 5 (by omega), e 9 (by omega)]
  exact h
theorem SFR.setl {u : OS} {i : Int32} {y : Int64} (h : IR u) : SFR u (sL u 1 i y) := ⟨rfl, rfl, rfl, h⟩
theorem s_X3_nextNumber_L5 (uO : OS) (hO : IO uO) (p2 : Int32) (u0 : OS) {Q : OS × Int64 → Prop} (K K' : Int64 → Int32 → OS → Option (OS × Int64)) (hK : ∀ y x v, SFR u0 v → ok (K y x v) Q) (hK' : ∀ y x v, SFR u0 v → ok (K' y x v) Q) : ∀ (n : Nat) (x : Int32) (y : Int64) (u : OS), x.toInt ≤ p2.toInt → (p2.toInt - x.toInt).toNat < n → SFR u0 u → ok (f_X3_nextNumber_L5 uO p2 n K K' x y u) Q := by
  intro n
  have en := nIt (n := uO.2.2.2 0) (by have := hO.2.2.2; omega)
  induction n with
  | zero => intro x y u _ hn; omega
  | succ n ih =>
    intro x y u hx hn hS
    unfold f_X3_nextNumber_L5
    refine ok_ite (fun _ => hK' _ _ _ hS) (fun c => ok_ite (fun _ => hK _ _ _ hS) (fun d => ok_ite (fun e => ?_) (fun _ => hK _ _ _ hS)))
    have c1 := mt Int32.le_iff_toInt_le.mpr c
    have d1 := mt Int32.le_iff_toInt_le.mpr d
    have e1 := Int32.lt_iff_toInt_lt.mp e
    rw [en] at e1
    have b1 := i32_hi p2
    have i1 := inc32 (x := x) (by omega)
    have h5 := hS.2.2.2.2.2.1
    have hO1 := hO.2.1
    have hO2 := hO.2.2.2
    have i5 := inc32 (x := u.1 5) (by omega)
    refine ok_gdi h5.1 e1 (ok_bnd (ok_bnd (ok_bnd (ih _ _ _ (by omega) (by omega) (hS.tr ⟨rfl, rfl, rfl, ?_⟩)))))
    refine ⟨hS.2.2.2.1, hS.2.2.2.2.1, ?_, hS.2.2.2.2.2.2⟩
    show 0 ≤ (u.1 5 + (1 : Int32)).toInt ∧ (u.1 5 + (1 : Int32)).toInt ≤ 8000
    clear hK hK' ih
    omega
theorem s_X3_nextNumber (u uO : OS) (p2 : Int32) (p0 : 0 ≤ p2.toInt) (p1 : p2.toInt ≤ 8) (hO : IO uO) (h : IR u) : ok (f_X3_nextNumber u uO p2) (fun q => SFR u q.1) := by
  unfold f_X3_nextNumber
  exact ok_bnd (ok_bnd (s_X3_nextNumber_L5 uO hO p2 u _ _ (fun y x v hv => ok_bnd (ok_some (hv.tr (SFR.set hv.2.2.2 (Or.inl rfl))))) (fun y x v hv => ok_some hv) FU _ _ _ (by rw [li_0]; exact p0) (by rw [li_0]; show _ < 100000; omega) (SFR.rf h)))
theorem ln4 (x : Int32) : ¬ (x &&& (3 : Int32)) = (3 : Int32) → ((1 : Int32) <<< ((x &&& (3 : Int32)) &&& (31 : Int32))).toInt = 1 ∨ ((1 : Int32) <<< ((x &&& (3 : Int32)) &&& (31 : Int32))).toInt = 2 ∨ ((1 : Int32) <<< ((x &&& (3 : Int32)) &&& (31 : Int32))).toInt = 4 := by
  intro h
  have a := and32 x 3 (by decide)
  rw [li_3] at a
  have b := ne32 h
  rw [li_3] at b
  have e : ∀ x : Int32, x.toInt = 0 → x = 0 := fun x q => Int32.toInt_inj.mp (by rw [q, li_0])
  have e1 : ∀ x : Int32, x.toInt = 1 → x = 1 := fun x q => Int32.toInt_inj.mp (by rw [q, li_1])
  have e2 : ∀ x : Int32, x.toInt = 2 → x = 2 := fun x q => Int32.toInt_inj.mp (by rw [q, li_2])
  rcases (show (x &&& (3 : Int32)).toInt = 0 ∨ (x &&& (3 : Int32)).toInt = 1 ∨ (x &&& (3 : Int32)).toInt = 2 by omega) with q | q | q
  · rw [e _ q]; decide
  · rw [e1 _ q]; decide
  · rw [e2 _ q]; decide
def L124 (u : OS) : Prop := (u.1 9).toInt = 1 ∨ (u.1 9).toInt = 2 ∨ (u.1 9).toInt = 4
-- the rule is 0 only where nothing failed
def RQ (u uZ : OS) (q : OS × OS) : Prop := q.1.2.2.2 = u.2.2.2 ∧ IR q.1 ∧ IS q.2 ∧ phS q.2 = phS uZ ∧ (q.1.1 4 = 0 → L124 q.1)
set_option maxHeartbeats 1000000 in
theorem s_X3_takeHead (u uZ uO : OS) (h : IR u) (hZ : IS uZ) (hO : IO uO) : ok (f_X3_takeHead u uZ uO) (RQ u uZ) := by
  unfold f_X3_takeHead
  refine ok_oC2 (s_X3_nextNumber u uO 1 (by decide) (by decide) hO h) (fun u1 r2 k1 => ?_)
  have k1 : SFR u u1 := k1
  refine ok_bnd_eq (fun x4 _ => ok_bnd ?_)
  have key : ∀ u5 : OS, SFR u u5 → (u5.1 4 = 0 → ¬ (x4 &&& (3 : Int32)) = (3 : Int32)) → ok (if (u5.1 4) = (0 : Int32) then (
  oC2 (f_X3_nextNumber u5 uO (1 : Int32)) fun u8 r9 =>
  bnd (r9).toInt32 fun x11 =>
  bnd (fun (u12 : OS) =>
  if (u12.1 4) = (0 : Int32) then (
  bnd (sF u12 8 (x4 >>> ((2 : Int32) &&& (31 : Int32)))) fun u15 =>
  bnd (sF u15 9 ((1 : Int32) <<< ((x4 &&& (3 : Int32)) &&& (31 : Int32)))) fun u16 =>
  oC1 (f_X4_beginWith uZ x11) fun u17 =>
  oC2 (f_X3_nextNumber u16 uO (2 : Int32)) fun u19 r20 =>
  bnd (sF u19 10 (r20).toInt32) fun u22 =>
  some (u22, u17)) else (
  some (u12, uZ))) fun K73_13 =>
  if (u8.1 4) = (0 : Int32) then (
  bnd (bnd (sF u8 4 (2 : Int32)) fun u25 =>
  K73_13 u25) fun K68_24 =>
  if x11 < (5 : Int32) then (
  K68_24) else (
  if x11 ≤ (12 : Int32) then (
  K73_13 u8) else (
  K68_24))) else (
  K73_13 u8)) else (
  some (u5, uZ))) (RQ u uZ) := by
    intro u5 s5 g5
    refine ok_ite (fun c => ?_) (fun c => ok_some ⟨s5.1, s5.2.2.2, hZ, rfl, fun q => absurd q c⟩)
    have nx := g5 c
    refine ok_oC2 (s_X3_nextNumber u5 uO 1 (by decide) (by decide) hO s5.2.2.2) (fun u8 r9 k8 => ?_)
    have s8 : SFR u u8 := s5.tr k8
    refine ok_bnd_eq (fun x11 _ => ok_bnd ?_)
    have fin : ∀ u12 : OS, SFR u u12 → (u12.1 4 = 0 → 5 ≤ x11.toInt ∧ x11.toInt ≤ 12) → ok (if (u12.1 4) = (0 : Int32) then (
  bnd (sF u12 8 (x4 >>> ((2 : Int32) &&& (31 : Int32)))) fun u15 =>
  bnd (sF u15 9 ((1 : Int32) <<< ((x4 &&& (3 : Int32)) &&& (31 : Int32)))) fun u16 =>
  oC1 (f_X4_beginWith uZ x11) fun u17 =>
  oC2 (f_X3_nextNumber u16 uO (2 : Int32)) fun u19 r20 =>
  bnd (sF u19 10 (r20).toInt32) fun u22 =>
  some (u22, u17)) else (
  some (u12, uZ))) (RQ u uZ) := by
      intro u12 s12 g12
      refine ok_ite (fun c => ?_) (fun c => ok_some ⟨s12.1, s12.2.2.2, hZ, rfl, fun q => absurd q c⟩)
      have gx := g12 c
      have l9 := ln4 x4 nx
      have h16 : IR (sF (sF u12 8 (x4 >>> ((2 : Int32) &&& (31 : Int32)))) 9 ((1 : Int32) <<< ((x4 &&& (3 : Int32)) &&& (31 : Int32)))) := by
        refine ⟨s12.2.2.2.1, s12.2.2.2.2.1, s12.2.2.2.2.2.1, ?_⟩
        show 0 ≤ ((1 : Int32) <<< ((x4 &&& (3 : Int32)) &&& (31 : Int32))).toInt ∧ ((1 : Int32) <<< ((x4 &&& (3 : Int32)) &&& (31 : Int32))).toInt ≤ 4
        omega
      refine ok_bnd (ok_bnd (ok_oC1 (s_X4_beginWith uZ x11 gx.1 gx.2 hZ) (fun z hz => ok_oC2 (s_X3_nextNumber _ uO 2 (by decide) (by decide) hO h16) (fun u19 r20 k19 => ok_bnd (ok_some ?_)))))
      have k19 : SFR _ u19 := k19
      have k22 := k19.tr (SFR.set (i := 10) (x := r20.toInt32) k19.2.2.2 (by decide))
      refine ⟨k22.1.trans s12.1, k22.2.2.2, hz.1, hz.2, fun _ => ?_⟩
      unfold L124
      rw [k22.2.1]
      exact l9
    have bad : ok (bnd (sF u8 4 (2 : Int32)) fun u25 => if (u25.1 4) = (0 : Int32) then (
  bnd (sF u25 8 (x4 >>> ((2 : Int32) &&& (31 : Int32)))) fun u15 =>
  bnd (sF u15 9 ((1 : Int32) <<< ((x4 &&& (3 : Int32)) &&& (31 : Int32)))) fun u16 =>
  oC1 (f_X4_beginWith uZ x11) fun u17 =>
  oC2 (f_X3_nextNumber u16 uO (2 : Int32)) fun u19 r20 =>
  bnd (sF u19 10 (r20).toInt32) fun u22 =>
  some (u22, u17)) else (
  some (u25, uZ))) (RQ u uZ) := by
      refine ok_bnd (fin _ (s8.tr (SFR.set s8.2.2.2 (by decide))) (fun q => ?_))
      have q : (2 : Int32) = 0 := q
      exact absurd q (by decide)
    refine ok_ite (fun c => ok_bnd (ok_ite (fun _ => bad) (fun d1 => ok_ite (fun d2 => fin u8 s8 (fun _ => ?_)) (fun _ => bad)))) (fun c => fin u8 s8 (fun q => absurd q c))
    have x1 := mt Int32.lt_iff_toInt_lt.mpr d1
    have x2 := Int32.le_iff_toInt_le.mp d2
    rw [li_5] at x1
    rw [li_12] at x2
    omega
  have bad : ∀ F : OS → Option (OS × OS), (∀ u5, SFR u u5 → (u5.1 4 = 0 → ¬ (x4 &&& (3 : Int32)) = (3 : Int32)) → ok (F u5) (RQ u uZ)) → ok (bnd (sF u1 4 (2 : Int32)) F) (RQ u uZ) := by
    intro F hF
    refine ok_bnd (hF _ (k1.tr (SFR.set k1.2.2.2 (by decide))) (fun q => ?_))
    have q : (2 : Int32) = 0 := q
    exact absurd q (by decide)
  exact ok_ite (fun c => ok_bnd (ok_ite (fun _ => bad _ key) (fun _ => ok_ite (fun _ => bad _ key) (fun d => key u1 k1 (fun _ => d))))) (fun c => key u1 k1 (fun q => absurd q c))
theorem s_X3_nextBits_L5 (uO : OS) (hO : IO uO) (p2 : Int32) (p13 : p2.toInt ≤ 13) (u0 : OS) : ∀ (n : Nat) (x y : Int32) (u : OS) (c : Nat), x.toInt = c → 0 ≤ y.toInt → y.toInt < ((2 ^ c : Nat) : Int) → x.toInt ≤ p2.toInt → (p2.toInt - x.toInt).toNat < n → SFR u0 u → ok (f_X3_nextBits_L5 uO p2 n x y u) (fun q => SFR u0 q.1 ∧ (q.1.1 4 = 0 → 0 ≤ q.2.toInt ∧ q.2.toInt < 8192)) := by
  intro n
  induction n with
  | zero => intro x y u c _ _ _ _ hn; omega
  | succ n ih =>
    intro x y u c hc y0 y1 hx hn hS
    unfold f_X3_nextBits_L5
    have pc : 2 ^ c ≤ 8192 := by
      have : 2 ^ c ≤ 2 ^ 13 := Nat.pow_le_pow_right (by decide) (by omega)
      exact this
    refine ok_ite (fun _ => ok_some ⟨hS, fun _ => ⟨y0, by show y.toInt < 8192; omega⟩⟩) (fun d => ok_bnd ?_)
    have d1 := mt Int32.le_iff_toInt_le.mpr d
    have e1 := inc32 (x := x) (by omega)
    have key : ∀ w : OS, SFR u0 w → ok (bnd (sF w 7 ((w.1 7) - (1 : Int32))) fun u7 =>
    bnd (((2 : Int32) * y) + (((u7.1 6) >>> ((u7.1 7) &&& (31 : Int32))) &&& (1 : Int32))) fun x8 =>
    bnd (x + (1 : Int32)) fun x9 =>
    f_X3_nextBits_L5 uO p2 n x9 x8 u7) (fun q => SFR u0 q.1 ∧ (q.1.1 4 = 0 → 0 ≤ q.2.toInt ∧ q.2.toInt < 8192)) := by
      intro w hw
      refine ok_bnd_eq (fun u7 e7 => ?_)
      have b := bit32 ((u7.1 6) >>> ((u7.1 7) &&& (31 : Int32)))
      have r01 : 0 ≤ (((u7.1 6) >>> ((u7.1 7) &&& (31 : Int32))) &&& (1 : Int32)).toInt ∧ (((u7.1 6) >>> ((u7.1 7) &&& (31 : Int32))) &&& (1 : Int32)).toInt ≤ 1 := by
        rcases b with q | q
        · rw [q]; decide
        · rw [q]; decide
      generalize (((u7.1 6) >>> ((u7.1 7) &&& (31 : Int32))) &&& (1 : Int32)) = r at r01
      have e2 : ((2 : Int32) * y).toInt = 2 * y.toInt := by rw [mul32 (by rw [li_2]; omega) (by rw [li_2]; omega), li_2]
      have e3 : (((2 : Int32) * y) + r).toInt = 2 * y.toInt + r.toInt := by rw [add32 (by rw [e2]; omega) (by rw [e2]; omega), e2]
      refine ok_bnd (ok_bnd (ih _ _ _ (c + 1) (by omega) (by omega) (by rw [e3, Nat.pow_succ]; omega) (by omega) (by omega) ?_))
      rw [e7]
      exact hw.tr (SFR.set hw.2.2.2 (by decide))
    refine ok_ite (fun _ => ok_oC2 (s_X3_nextNumber u uO 1 (by decide) (by decide) hO hS.2.2.2) (fun v r hv => ok_bnd ?_)) (fun _ => key u hS)
    have hv : SFR u v := hv
    have h14 : SFR u0 (sF v 6 r.toInt32) := (hS.tr hv).tr (SFR.set hv.2.2.2 (by decide))
    refine ok_ite (fun _ => ok_bnd (key _ (h14.tr (SFR.set h14.2.2.2 (by decide))))) (fun c => ok_some ⟨h14, fun q => absurd q c⟩)
theorem s_X3_nextBits (u uO : OS) (p2 : Int32) (p0 : 0 ≤ p2.toInt) (p13 : p2.toInt ≤ 13) (hO : IO uO) (h : IR u) : ok (f_X3_nextBits u uO p2) (fun q => SFR u q.1 ∧ (q.1.1 4 = 0 → 0 ≤ q.2.toInt ∧ q.2.toInt < 8192)) := by
  unfold f_X3_nextBits
  exact s_X3_nextBits_L5 uO hO p2 p13 u FU _ _ _ 0 (by decide) (by decide) (by decide) (by rw [li_0]; exact p0) (by rw [li_0]; show _ < 100000; omega) (SFR.rf h)
theorem s_X3_restIsSet (u : OS) : ok (f_X3_restIsSet u) (fun _ => True) := by
  unfold f_X3_restIsSet
  exact ok_ite (fun _ => ok_some trivial) (fun _ => ok_some trivial)
def TQ (u uZ : OS) (q : OS × OS) : Prop := SFR u q.1 ∧ IS q.2 ∧ phS q.2 = phS uZ
set_option maxHeartbeats 1000000 in
theorem s_X3_takeTable_L10 (uO : OS) (hO : IO uO) (u0 z0 : OS) (K : Int32 → Int32 → OS → OS → Option (OS × OS)) (hK : ∀ a b u z, TQ u0 z0 (u, z) → ok (K a b u z) (TQ u0 z0)) : ∀ (n : Nat) (x y : Int32) (u z : OS), 0 ≤ x.toInt → x.toInt ≤ 32 → (32 - x.toInt).toNat < n → y.toInt ≤ 4096 → TQ u0 z0 (u, z) → ok (f_X3_takeTable_L10 uO n K x y u z) (TQ u0 z0) := by
  intro n
  induction n with
  | zero => intro x y u z _ _ hn; omega
  | succ n ih =>
    intro x y u z hx hx2 hn y1 hT
    unfold f_X3_takeTable_L10
    refine ok_ite (fun _ => hK _ _ _ _ hT) (fun c => ok_ite (fun _ => hK _ _ _ _ hT) (fun d => ?_))
    have c1 := mt Int32.le_iff_toInt_le.mpr c
    have d1 := mt Int32.le_iff_toInt_le.mpr d
    rw [li_32] at c1
    rw [li_0] at d1
    have e1 := inc32 (x := x) (by omega)
    have m1 : 0 ≤ (x + (1 : Int32)).toInt ∧ (x + (1 : Int32)).toInt ≤ 32 ∧ (32 - (x + (1 : Int32)).toInt).toNat < n := by
      clear hK ih
      omega
    refine ok_oC1 (s_X6_bitLength y) (fun r hr => ?_)
    have r13 := hr.2.2 13 (by decide) (by have : ((2 ^ 13 : Nat) : Int) = 8192 := by decide
                                          clear hK ih; omega)
    refine ok_oC2 (s_X3_nextBits u uO r hr.1 r13 hO hT.1.2.2.2) (fun v s hv => ok_ite (fun z0' => ?_) (fun _ => ok_some ⟨hT.1.tr hv.1, hT.2⟩))
    have sv : 0 ≤ s.toInt ∧ s.toInt < 8192 := hv.2 z0'
    have es : (y - s).toInt = y.toInt - s.toInt := sub32 (by clear hK ih; omega) (by clear hK ih; omega)
    exact ok_oC1 (s_X4_give z x s hT.2.1 sv.1 sv.2) (fun w hw => ok_bnd (ok_bnd (ih _ _ _ _ m1.1 m1.2.1 m1.2.2 (by rw [es]; clear hK ih; omega) ⟨hT.1.tr hv.1, hw.1, hw.2.1.trans hT.2.2⟩)))
theorem s_X3_takeTable (u uZ uO : OS) (h : IR u) (hZ : IS uZ) (hO : IO uO) : ok (f_X3_takeTable u uZ uO) (TQ u uZ) := by
  obtain ⟨N, hN, eN, _⟩ := IS_sz hZ
  have bN := two_b hN
  unfold f_X3_takeTable
  refine ok_bnd (ok_bnd (s_X3_takeTable_L10 uO hO u uZ _ ?_ FU _ _ _ _ (by decide) (by decide) (by decide) (by omega) ⟨SFR.rf h, hZ, rfl⟩))
  intro a b v z hT
  have b3 : TQ u uZ (sF v 4 (3 : Int32), z) := ⟨hT.1.tr (SFR.set hT.1.2.2.2 (by decide)), hT.2⟩
  refine ok_ite (fun _ => ok_oC1 (s_X3_restIsSet v) (fun r _ => ok_ite (fun _ => ok_bnd (ok_oC1 (s_X4_finish z hT.2.1) (fun w hw => ok_some ⟨hT.1.tr (SFR.set hT.1.2.2.2 (by decide)), hw.1, hw.2.1.trans hT.2.2⟩))) (fun _ => ok_bnd (ok_some b3)))) (fun _ => ok_bnd (ok_some b3))

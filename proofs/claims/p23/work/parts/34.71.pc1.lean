-- Pile
def IP (u : OS) : Prop := 0 ≤ (u.1 1).toInt ∧ (u.1 1).toInt ≤ 8 * (u.2.2.2 0 : Int) ∧ 1 ≤ u.2.2.2 0 ∧ u.2.2.2 0 ≤ 8000
def phP (u : OS) : Nat := ph 8000 (u.2.2.2 0)
-- whole octets alone, where the form is not 2
def I8 (p : Int32) (u : OS) : Prop := IP u ∧ (p ≠ 2 → (u.1 1).toInt % 8 = 0)
theorem s_X2_empty (u : OS) (p : Int32) (h : IP u) : ok (f_X2_empty u) (fun v => I8 p v ∧ phP v = phP u) := by
  unfold f_X2_empty
  refine ok_bnd (ok_some ⟨⟨⟨by show 0 ≤ (0 : Int32).toInt; decide, ?_, h.2.2⟩, fun _ => by show (0 : Int32).toInt % 8 = 0; decide⟩, rfl⟩)
  show (0 : Int32).toInt ≤ 8 * ((u.2.2.2 0 : Nat) : Int)
  rw [li_0]
  omega
theorem s_X2_makeRoomForSign (u : OS) {p : Int32} (h : I8 p u) : ok (f_X2_makeRoomForSign u) (CQ (I8 p) phP (phP u)) := by
  obtain ⟨⟨h0, h1, h2, h3⟩, h4⟩ := h
  unfold f_X2_makeRoomForSign
  have e1 : ((u.1 1) / (8 : Int32)).toInt = (u.1 1).toInt / 8 := by rw [div32 h0 (by decide), li_8]
  have e2 : (((u.1 1) / (8 : Int32)) + (10 : Int32)).toInt = (u.1 1).toInt / 8 + 10 := by rw [add32 (by rw [e1, li_10]; omega) (by rw [e1, li_10]; omega), e1, li_10]
  refine ok_oA2 (s_withRoom (lm := 8000) (u.2.1 0) h2 li_8000 h3 (by decide) (by rw [e2]; omega)) (fun n f kc ks hr => ?_)
  obtain ⟨r1, r2, r3, r4, r5, r6⟩ := hr
  have r1 : u.2.2.2 0 ≤ n := r1
  have r2 : n ≤ 8000 := r2
  exact CQ_add (b' := ph 8000 n) r5 r6 (ok_bnd (CQ_some ⟨⟨h0, by show (u.1 1).toInt ≤ 8 * (n : Int); omega, by show 1 ≤ n; omega, r2⟩, h4⟩ (Nat.le_refl _)))
theorem s_X2_pushOctet (u : OS) (q : Int32) {p : Int32} (hp : p ≠ 2) (h : I8 p u) : ok (f_X2_pushOctet u q) (fun v => I8 p v ∧ phP v = phP u) := by
  have h' := h
  obtain ⟨⟨h0, h1, h2, h3⟩, h4⟩ := h
  have h5 := h4 hp
  have e1 : ((u.1 1) / (8 : Int32)).toInt = (u.1 1).toInt / 8 := by rw [div32 h0 (by decide), li_8]
  have en := nIt (n := u.2.2.2 0) (by omega)
  unfold f_X2_pushOctet
  refine ok_bnd (ok_ite (fun _ => ok_some ⟨h', rfl⟩) (fun c => ?_))
  have c1 := mt Int32.le_iff_toInt_le.mpr c
  rw [e1, en] at c1
  have e8 : ((u.1 1) + (8 : Int32)).toInt = (u.1 1).toInt + 8 := by rw [add32 (by rw [li_8]; omega) (by rw [li_8]; omega), li_8]
  refine ok_gdi (by rw [e1]; omega) (by rw [e1]; omega) (ok_bnd (ok_bnd (ok_some ⟨⟨⟨?_, ?_, h2, h3⟩, fun _ => ?_⟩, rfl⟩)))
  · show 0 ≤ ((u.1 1) + (8 : Int32)).toInt
    omega
  · show ((u.1 1) + (8 : Int32)).toInt ≤ 8 * ((u.2.2.2 0 : Nat) : Int)
    omega
  · show ((u.1 1) + (8 : Int32)).toInt % 8 = 0
    omega
theorem s_X2_pushBit (u : OS) (q : Int32) {p : Int32} (hp : p = 2) (h : I8 p u) : ok (f_X2_pushBit u q) (fun v => I8 p v ∧ phP v = phP u) := by
  have h' := h
  obtain ⟨⟨h0, h1, h2, h3⟩, h4⟩ := h
  have e1 : ((u.1 1) / (8 : Int32)).toInt = (u.1 1).toInt / 8 := by rw [div32 h0 (by decide), li_8]
  have en := nIt (n := u.2.2.2 0) (by omega)
  unfold f_X2_pushBit
  refine ok_bnd (ok_ite (fun _ => ok_some ⟨h', rfl⟩) (fun c => ok_bnd ?_))
  have c1 := mt Int32.le_iff_toInt_le.mpr c
  rw [e1, en] at c1
  have e8 : ((u.1 1) + (1 : Int32)).toInt = (u.1 1).toInt + 1 := by rw [add32 (by rw [li_1]; omega) (by rw [li_1]; omega), li_1]
  have g0 : 0 ≤ ((u.1 1) / (8 : Int32)).toInt := by rw [e1]; omega
  have g1 : ((u.1 1) / (8 : Int32)).toInt < ((u.2.2.2 0 : Nat) : Int) := by rw [e1]; omega
  have key : ∀ x3 : Int32, ok (gdi ((u.1 1) / (8 : Int32)) (u.2.2.2 0) <|
  bnd (sA u 0 ((u.1 1) / (8 : Int32)) (x3 ||| ((q &&& (1 : Int32)) <<< (((u.1 1) - (u.1 1) / (8 : Int32) * (8 : Int32)) &&& (31 : Int32))))) fun u6 =>
  bnd (sF u6 1 ((u6.1 1) + (1 : Int32))) fun u7 =>
  some u7) (fun v => I8 p v ∧ phP v = phP u) := by
    intro x3
    refine ok_gdi g0 g1 (ok_bnd (ok_bnd (ok_some ⟨⟨⟨?_, ?_, h2, h3⟩, fun q => absurd hp q⟩, rfl⟩)))
    · show 0 ≤ ((u.1 1) + (1 : Int32)).toInt
      omega
    · show ((u.1 1) + (1 : Int32)).toInt ≤ 8 * ((u.2.2.2 0 : Nat) : Int)
      omega
  exact ok_ite (fun _ => key _) (fun _ => ok_gdi g0 g1 (key _))
theorem s_X2_pourInto_L28 (uP : OS) (x2 : Int32) (h2 : uP.2.2.2 0 ≤ 8000) {P : OS → Prop} {T : OS → Nat} {c : Nat} (K : Int32 → OS → Option (OS × Nat × Nat)) (hK : ∀ x v, IO v → ok (K x v) (CQ P T (phO v + c))) : ∀ (n : Nat) (x : Int32) (u : OS), -1 ≤ x.toInt → x.toInt < uP.2.2.2 0 → (x.toInt + 1).toNat < n → IO u → ok (f_X2_pourInto_L28 uP x2 n K x u) (CQ P T (phO u + c)) := by
  intro n
  induction n with
  | zero => intro x u _ _ hn; omega
  | succ n ih =>
    intro x u hx hx2 hn h
    unfold f_X2_pourInto_L28
    refine ok_ite (fun _ => hK _ _ h) (fun d => ok_bnd ?_)
    have d1 := mt Int32.lt_iff_toInt_lt.mpr d
    rw [li_0] at d1
    have e1 := dec32 (x := x) (by omega)
    have key : ∀ x13 : Int32, ok (gdi x (uP.2.2.2 0) <|
    oA2 (f_X1_append u (((uP.2.1 0 (x).toNatClampNeg) <<< (((8 : Int32) - x2) &&& (31 : Int32))) ||| (x13 >>> (x2 &&& (31 : Int32))))) fun u16 r18 kc20 ks20 =>
    addc kc20 ks20 <|
    bnd (x + (-1 : Int32)) fun x22 =>
    f_X2_pourInto_L28 uP x2 n K x22 u16) (CQ P T (phO u + c)) := by
      intro x13
      refine ok_gdi (by omega) hx2 (ok_oA2 (s_X1_append u _ h) (fun v r kc ks hv => CQ_add (b' := phO v + c) hv.2.1 ?_ (ok_bnd (ih _ _ (by omega) (by omega) (by omega) hv.1))))
      have : phO u + ks ≤ phO v := hv.2.2
      omega
    refine ok_ite (fun _ => key _) (fun d2 => ?_)
    have d3 := mt Int32.le_iff_toInt_le.mpr d2
    rw [li_0] at d3
    have e3 : (x - (1 : Int32)).toInt = x.toInt - 1 := by rw [sub32 (by rw [li_1]; omega) (by rw [li_1]; omega), li_1]
    exact ok_gdi (by omega) (by omega) (key _)
theorem s_X2_pourInto (uP uO : OS) (hp : IP uP) (h : IO uO) : ok (f_X2_pourInto uP uO) (CQ IO phO (phO uO)) := by
  obtain ⟨h0, h1, h2, h3⟩ := hp
  unfold f_X2_pourInto
  have e7 : ((uP.1 1) + (7 : Int32)).toInt = (uP.1 1).toInt + 7 := by rw [add32 (by rw [li_7]; omega) (by rw [li_7]; omega), li_7]
  have e1 : (((uP.1 1) + (7 : Int32)) / (8 : Int32)).toInt = ((uP.1 1).toInt + 7) / 8 := by rw [div32 (by rw [e7]; omega) (by decide), e7, li_8]
  have e2 : ((((uP.1 1) + (7 : Int32)) / (8 : Int32)) - (1 : Int32)).toInt = ((uP.1 1).toInt + 7) / 8 - 1 := by rw [sub32 (by rw [e1, li_1]; omega) (by rw [e1, li_1]; omega), e1, li_1]
  exact ok_bnd (ok_bnd (ok_bnd (ok_bnd (s_X2_pourInto_L28 uP _ h3 (c := 0) _ (fun x v hv => CQ_some hv (Nat.le_refl _)) FU _ _ (by rw [e2]; omega) (by rw [e2]; omega) (by rw [e2]; show _ < 100000; omega) h))))
-- Shares
def R3 (u : OS) : Prop := ∀ i, 0 ≤ (u.2.1 3 i).toInt ∧ (u.2.1 3 i).toInt < 8192
def IS (u : OS) : Prop := (5 ≤ (u.1 0).toInt ∧ (u.1 0).toInt ≤ 12) ∧ u.1 1 = (1 : Int32) <<< (u.1 0 &&& (31 : Int32)) ∧ R3 u ∧ (∀ i, 0 ≤ (u.2.1 4 i).toInt ∧ (u.2.1 4 i).toInt ≤ 300000) ∧ (∀ i, 0 ≤ (u.2.1 8 i).toInt ∧ (u.2.1 8 i).toInt < 32) ∧ (u.2.2.2 9 = u.2.2.2 8 ∧ u.2.2.2 10 = u.2.2.2 8 ∧ (u.2.2.2 8 = 0 ∨ two (u.2.2.2 8)))
def phS (u : OS) : Nat := 6 * u.2.2.2 8
-- what making the spread leaves: the logarithm, whether there are shares, the shares
abbrev KT : Type := Nat × Int32 × Int32 × (Nat → Int32)
def KP (p : KT) (u : OS) : Prop := phS u = p.1 ∧ u.1 0 = p.2.1 ∧ u.1 2 = p.2.2.1 ∧ u.2.1 3 = p.2.2.2
def kpo (u : OS) : KT := (phS u, u.1 0, u.1 2, u.2.1 3)
theorem KP.rf {u : OS} : KP (kpo u) u := ⟨rfl, rfl, rfl, rfl⟩
def SFr (u v : OS) : Prop := v.1 0 = u.1 0 ∧ v.1 2 = u.1 2 ∧ v.2.1 3 = u.2.1 3
theorem SFr.rf {u : OS} : SFr u u := ⟨rfl, rfl, rfl⟩
theorem SFr.tr {u v w : OS} (h1 : SFr u v) (h2 : SFr v w) : SFr u w := ⟨h2.1.trans h1.1, h2.2.1.trans h1.2.1, h2.2.2.trans h1.2.2⟩
theorem IS_sz {u : OS} (h : IS u) : ∃ N : Nat, two N ∧ (u.1 1).toInt = N ∧ (N : Int) = 2 ^ (u.1 0).toInt.toNat := by
  obtain ⟨h0, h1, _⟩ := h
  have s := sz32 h0.1 h0.2
  rw [← h1] at s
  exact ⟨(u.1 1).toInt.toNat, two_of h0.1 h0.2 (by omega), by omega, by omega⟩
theorem two_b {N : Nat} (h : two N) : 32 ≤ N ∧ N ≤ 4096 := by
  unfold two at h
  omega
theorem two_d {M N : Nat} (hM : two M) (hN : two N) (h : M < N) : 2 * M ≤ N := by
  unfold two at hM hN
  omega
theorem R3_fl {u : OS} (h : R3 u) : R3 (sG u 3 (flI 32 (u.2.1 3) (0 : Int32))) := by
  intro i
  show 0 ≤ (flI 32 (u.2.1 3) (0 : Int32) i).toInt ∧ (flI 32 (u.2.1 3) (0 : Int32) i).toInt < 8192
  unfold flI
  by_cases e : i < 32
  · rw [if_pos e]; decide
  · rw [if_neg e]; exact h i
theorem s_X4_forget (u : OS) (h : IS u) : ok (f_X4_forget u) (fun v => IS v ∧ phS v = phS u ∧ v.2.1 3 = flI 32 (u.2.1 3) (0 : Int32) ∧ v.1 1 = u.1 1 ∧ v.1 0 = u.1 0 ∧ v.1 2 = 0) := by
  unfold f_X4_forget
  exact ok_bnd (ok_bnd (ok_bnd (ok_some ⟨⟨h.1, h.2.1, R3_fl h.2.2.1, h.2.2.2⟩, rfl, rfl, rfl, rfl, rfl⟩)))
theorem s_X4_beginWith (u : OS) (p : Int32) (p0 : 5 ≤ p.toInt) (p1 : p.toInt ≤ 12) (h : IS u) : ok (f_X4_beginWith u p) (fun v => IS v ∧ phS v = phS u) := by
  unfold f_X4_beginWith
  exact ok_oC1 (s_X4_forget u h) (fun v hv => ok_bnd (ok_bnd (ok_some ⟨⟨⟨p0, p1⟩, rfl, hv.1.2.2⟩, hv.2.1⟩)))
theorem s_X6_isSign (p : Int32) : ok (f_X6_isSign p) (fun r => r ≠ 0 → 0 ≤ p.toInt ∧ p.toInt < 32) := by
  unfold f_X6_isSign
  refine ok_ite (fun _ => ok_some (fun q => absurd rfl q)) (fun c => ok_ite (fun _ => ok_some (fun q => absurd rfl q)) (fun d => ok_some (fun _ => ?_)))
  have c1 := mt Int32.lt_iff_toInt_lt.mpr c
  have d1 := mt Int32.le_iff_toInt_le.mpr d
  rw [li_0] at c1
  rw [li_32] at d1
  omega
theorem R3_up {u : OS} {i v : Int32} (h : R3 u) (h0 : 0 ≤ v.toInt) (h1 : v.toInt < 8192) : R3 (sA u 3 i v) := upd_R (f := u.2.1 3) h h0 h1
theorem IS_3 {u : OS} {i v : Int32} (h : IS u) (h0 : 0 ≤ v.toInt) (h1 : v.toInt < 8192) : IS (sA u 3 i v) := ⟨h.1, h.2.1, R3_up h.2.2.1 h0 h1, h.2.2.2⟩
theorem s_X4_give (u : OS) (p q : Int32) (h : IS u) (h0 : 0 ≤ q.toInt) (h1 : q.toInt < 8192) : ok (f_X4_give u p q) (fun v => IS v ∧ phS v = phS u ∧ v.1 1 = u.1 1) := by
  unfold f_X4_give
  refine ok_oC1 (s_X6_isSign p) (fun r hr => ok_ite (fun _ => ok_some ⟨h, rfl, rfl⟩) (fun c => ?_))
  have g := hr c
  exact ok_gdi g.1 (by omega) (ok_bnd (ok_some ⟨IS_3 h h0 h1, rfl, rfl⟩))
theorem s_X4_finish_L4 {Q : OS → Prop} (K : Int32 → Int32 → OS → Option OS) (pS : KT) (hK : ∀ a b v, IS v → KP pS v → a.toInt = psum pS.2.2.2 32 → 0 ≤ a.toInt → a.toInt ≤ 300000 → ok (K a b v) Q) : ∀ (n : Nat) (x y : Int32) (u : OS), 0 ≤ x.toInt → x.toInt ≤ 32 → (32 - x.toInt).toNat < n → 0 ≤ y.toInt → y.toInt ≤ 8192 * x.toInt → y.toInt = psum pS.2.2.2 x.toInt.toNat → IS u → KP pS u → ok (f_X4_finish_L4 n K x y u) Q := by
  intro n
  induction n with
  | zero => intro x y u _ _ hn; omega
  | succ n ih =>
    intro x y u hx hx2 hn y0 y1 yp h hp
    unfold f_X4_finish_L4
    refine ok_ite (fun c => hK _ _ _ h hp ?_ y0 (by omega)) (fun c => ?_)
    · have c1 := Int32.le_iff_toInt_le.mp c
      rw [li_32] at c1
      rw [yp]
      congr 1
      omega
    have c1 := mt Int32.le_iff_toInt_le.mpr c
    rw [li_32] at c1
    have e1 := inc32 (x := x) (by omega)
    have r := h.2.2.1 x.toNatClampNeg
    have e2 : (y + u.2.1 3 x.toNatClampNeg).toInt = y.toInt + (u.2.1 3 x.toNatClampNeg).toInt := add32 (by omega) (by omega)
    have e3 : (x + (1 : Int32)).toInt.toNat = x.toInt.toNat + 1 := by omega
    have h4 : IS (sA u 4 x y) := by
      refine ⟨h.1, h.2.1, h.2.2.1, ?_, h.2.2.2.2⟩
      intro i
      show 0 ≤ (upd (u.2.1 4) x.toNatClampNeg y i).toInt ∧ (upd (u.2.1 4) x.toNatClampNeg y i).toInt ≤ 300000
      unfold upd
      by_cases e : i = x.toNatClampNeg
      · rw [if_pos e]; omega
      · rw [if_neg e]; exact h.2.2.2.1 i
    refine ok_gdi hx (by omega) (ok_bnd (ok_gdi hx (by omega) (ok_bnd (ok_bnd (ih _ _ _ (by omega) (by omega) (by omega) (by show 0 ≤ (y + u.2.1 3 x.toNatClampNeg).toInt; omega) (by show (y + u.2.1 3 x.toNatClampNeg).toInt ≤ _; omega) ?_ h4 hp)))))
    show (y + u.2.1 3 x.toNatClampNeg).toInt = psum pS.2.2.2 (x + (1 : Int32)).toInt.toNat
    rw [e2, e3, yp, hp.2.2.2]
    rfl
theorem s_X4_finish (u : OS) (h : IS u) : ok (f_X4_finish u) (fun v => IS v ∧ phS v = phS u ∧ v.1 0 = u.1 0 ∧ v.2.1 3 = u.2.1 3 ∧ ((u.1 1).toInt = psum (u.2.1 3) 32 → v.1 2 = 1)) := by
  unfold f_X4_finish
  obtain ⟨N, hN, eN, eN2⟩ := IS_sz h
  refine ok_bnd (s_X4_finish_L4 _ (kpo u) (fun a b v hv hp ap a0 a1 => ?_) FU _ _ _ (by decide) (by decide) (by decide) (by decide) (by decide) (by rw [li_0]; rfl) h KP.rf)
  have h4 : IS (sA v 4 (32 : Int32) a) := by
    refine ⟨hv.1, hv.2.1, hv.2.2.1, ?_, hv.2.2.2.2⟩
    intro i
    show 0 ≤ (upd (v.2.1 4) ((32 : Int32)).toNatClampNeg a i).toInt ∧ (upd (v.2.1 4) ((32 : Int32)).toNatClampNeg a i).toInt ≤ 300000
    unfold upd
    by_cases e : i = ((32 : Int32)).toNatClampNeg
    · rw [if_pos e]; omega
    · rw [if_neg e]; exact hv.2.2.2.1 i
  have e1 : v.1 1 = u.1 1 := by
    have a1 := hv.2.1
    have a2 := h.2.1
    have a3 : v.1 0 = u.1 0 := hp.2.1
    rw [a1, a2, a3]
  refine ok_gdi (by decide) (by decide) (ok_bnd (ok_ite (fun c => ok_bnd (ok_some ⟨h4, hp.1, hp.2.1, hp.2.2.2, fun _ => rfl⟩)) (fun c => ok_bnd (ok_some ⟨h4, hp.1, hp.2.1, hp.2.2.2, fun q => ?_⟩))))
  exfalso
  apply c
  show a = v.1 1
  rw [e1]
  refine Int32.toInt_inj.mp ?_
  rw [q, ap]
  rfl

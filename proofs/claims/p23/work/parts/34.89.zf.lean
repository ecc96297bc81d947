-- ===== write: both write the same octets =====
theorem b0_eq {F l : Int32} (hF : F = 0 ∨ F = 1 ∨ F = 2 ∨ F = 3) (hl : l = 1 ∨ l = 2 ∨ l = 4) : (F * (4 : Int32)) + (l / (2 : Int32)) = ((4 : Int32) * F) + (if l = (4 : Int32) then (2 : Int32) else l - (1 : Int32)) := by
  rcases hF with q | q | q | q <;> rcases hl with w | w | w <;> subst q <;> subst w <;> decide
theorem F_of {F : Int32} (h0 : 0 ≤ F.toInt) (h3 : F.toInt ≤ 3) : F = 0 ∨ F = 1 ∨ F = 2 ∨ F = 3 := by
  rcases (show F.toInt = 0 ∨ F.toInt = 1 ∨ F.toInt = 2 ∨ F.toInt = 3 by omega) with q | q | q | q
  · exact Or.inl (Int32.toInt_inj.mp (by rw [q, li_0]))
  · exact Or.inr (Or.inl (Int32.toInt_inj.mp (by rw [q, li_1])))
  · exact Or.inr (Or.inr (Or.inl (Int32.toInt_inj.mp (by rw [q, li_2]))))
  · exact Or.inr (Or.inr (Or.inr (Int32.toInt_inj.mp (by rw [q, li_3]))))
def WT (g : GH) (pf pl : Nat → Int32) : SS := rowS g.1.1.1 g.2.1 ((1 : Int32) <<< (g.2.1 &&& (31 : Int32))) g.2.2.2 pf pl g.1.2.1 g.1.1.2.1.toInt.toNat g.1.1.2.2.toInt.toNat (s0F g.1.1.1 g.2.1)
def WB0 (g : GH) : Int32 := ((4 : Int32) * g.1.1.1) + (if g.1.1.2.1 = (4 : Int32) then (2 : Int32) else g.1.1.2.1 - (1 : Int32))
def WPR (g : GH) (pf pl : Nat → Int32) : OT := preO g.1.1.1 g.2.1 g.1.1.2.2 (WB0 g) g.2.2.2 g.1.1.2.1.toInt.toNat (WT g pf pl).2
theorem SI_row {F lg : Int32} {sh pf pl row : Nat → Int32} {k ln M : Nat} (h1 : 5 ≤ k) (h2 : k ≤ 12) (hlg : lg = nI k) (hF : F = 0 ∨ F = 1 ∨ F = 2 ∨ F = 3) (hPF : PFX sh pf) (hsum : psum sh 32 = ((2 ^ k : Nat) : Int)) (hpl : F = 2 → ∀ i, i < 2 ^ k → 0 ≤ (pl i).toInt ∧ (pl i).toInt < ((2 ^ k : Nat) : Int)) (hln : ln = 1 ∨ ln = 2 ∨ ln = 4) (hM : M ≤ 1000) (hrow : ∀ i, i < M → 0 ≤ (row i).toInt ∧ (row i).toInt < 32 ∧ 1 ≤ (sh (row i).toNatClampNeg).toInt) : ∀ (m : Nat) (s : SS), m ≤ M → SI F k s (M - m) → SI F k (rowS F lg ((1 : Int32) <<< (lg &&& (31 : Int32))) sh pf pl row ln m s) M := by
  intro m
  induction m with
  | zero => intro s _ h; exact h
  | succ m ih =>
    intro s hm h
    obtain ⟨r2, r3, r4⟩ := hrow m (by omega)
    have hp32 : (row m).toNatClampNeg < 32 := by
      show (row m).toInt.toNat < 32
      omega
    have l4 : m % ln < 4 := by
      rcases hln with q | q | q
      · subst q; omega
      · subst q; omega
      · subst q; omega
    have st := SI.st (l := m % ln) h1 h2 hlg hF hPF hsum hpl l4 hp32 r4 (by omega) h
    rw [show M - (m + 1) + 1 = M - m by omega] at st
    exact ih _ (by omega) st
-- what a writing needs of the ghost
def GW (g : GH) (pf pl : Nat → Int32) (k : Nat) : Prop := 5 ≤ k ∧ k ≤ 12 ∧ g.2.1 = nI k ∧ (g.1.1.1 = 0 ∨ g.1.1.1 = 1 ∨ g.1.1.1 = 2 ∨ g.1.1.1 = 3) ∧ (g.1.1.2.1 = 1 ∨ g.1.1.2.1 = 2 ∨ g.1.1.2.1 = 4) ∧ PFX g.2.2.2 pf ∧ psum g.2.2.2 32 = ((2 ^ k : Nat) : Int) ∧ (∀ i, i < 2 ^ k → 0 ≤ (pl i).toInt ∧ (pl i).toInt < ((2 ^ k : Nat) : Int)) ∧ (0 ≤ g.1.1.2.2.toInt ∧ g.1.1.2.2.toInt ≤ 1000) ∧ (∀ i : Nat, (i : Int) < g.1.1.2.2.toInt → 0 ≤ (g.1.2.1 i).toInt ∧ (g.1.2.1 i).toInt < 32 ∧ 1 ≤ (g.2.2.2 (g.1.2.1 i).toNatClampNeg).toInt)
theorem ln_of {l : Int32} (h : l = 1 ∨ l = 2 ∨ l = 4) : l.toInt.toNat = 1 ∨ l.toInt.toNat = 2 ∨ l.toInt.toNat = 4 := by
  rcases h with q | q | q
  · subst q; exact Or.inl (by decide)
  · subst q; exact Or.inr (Or.inl (by decide))
  · subst q; exact Or.inr (Or.inr (by decide))
theorem GW.si {g : GH} {pf pl : Nat → Int32} {k : Nat} (h : GW g pf pl k) : SI g.1.1.1 k (WT g pf pl) g.1.1.2.2.toInt.toNat := by
  obtain ⟨h1, h2, hlg, hF, hl, hPF, hsum, hpl, hlen, hrow⟩ := h
  exact SI_row h1 h2 hlg hF hPF hsum (fun _ => hpl) (ln_of hl) (by omega) (fun i hi => hrow i (by omega)) _ _ (Nat.le_refl _) (by rw [Nat.sub_self]; exact SI0 h1 h2 hlg)
def WOUT (g : GH) (pf pl : Nat → Int32) : OT := pourF g.1.1.1 (WT g pf pl).1 (WPR g pf pl)
def MWR (g : GH) (pf pl : Nat → Int32) (v : OS) : Prop := RO (WOUT g pf pl) (v.1 15) (v.2.1 14) ∧ v.1 18 = g.1.1.2.1 ∧ (∀ i, i < g.1.1.2.1.toInt.toNat → v.2.2.1 17 i = (WT g pf pl).2 i)
def XWR (g : GH) (pf pl : Nat → Int32) (w o : OS) : Prop := XO (WOUT g pf pl) o ∧ w.1 2 = g.1.1.2.1 ∧ w.1 3 = 1 ∧ (∀ i, i < 4 → w.2.2.1 0 i = (WT g pf pl).2 i)
def gF (g : GH) (F : Int32) : GH := (((F, g.1.1.2.1, g.1.1.2.2), g.1.2.1, g.1.2.2), g.2)
theorem gF_self (g : GH) : gF g g.1.1.1 = g := rfl
set_option maxHeartbeats 1000000 in
theorem wform_m {g : GH} {pf pl : Nat → Int32} {F : Int32} {k : Nat} (u : OS) (h : IM g u) (w : WR g) (gw : GW (gF g F) pf pl k) (h13 : ∀ i, i < 2 ^ k → u.2.1 13 i = pl i) : pc (f_X7_writeForm u F) (fun v => MWR (gF g F) pf pl v ∧ v.2.2.1 33 = u.2.2.1 33) := by
  have hg := IM_g h
  obtain ⟨h1, h2, hlg, hF, hl, hPF, hsum, hpl, hlen, hrow⟩ := gw
  have hlg : g.2.1 = nI k := hlg
  have hF : F = 0 ∨ F = 1 ∨ F = 2 ∨ F = 3 := hF
  have hl : g.1.1.2.1 = 1 ∨ g.1.1.2.1 = 2 ∨ g.1.1.2.1 = 4 := hl
  have hPF : PFX g.2.2.2 pf := hPF
  have hlen : 0 ≤ g.1.1.2.2.toInt ∧ g.1.1.2.2.toInt ≤ 1000 := hlen
  have hrow : ∀ i : Nat, (i : Int) < g.1.1.2.2.toInt → 0 ≤ (g.1.2.1 i).toInt ∧ (g.1.2.1 i).toInt < 32 ∧ 1 ≤ (g.2.2.2 (g.1.2.1 i).toNatClampNeg).toInt := hrow
  have h7 := h.2.2.2.2.2.2.1
  have z7 : u.1 7 = 1 := h7.2.1.trans w.1
  have lnl : (g.1.1.2.1).toInt = ((g.1.1.2.1.toInt.toNat : Nat) : Int) := by
    rcases hl with q | q | q <;> rw [q] <;> decide
  have hLY : LY u 0 := by
    rcases h7.1 with q | q
    · rw [z7] at q; exact absurd q (by decide)
    · exact q.2.2
  have h9 : ∀ i, i < 32 → u.2.1 9 i = pf i := by
    intro i hi
    have a := hLY i hi
    rw [Nat.mul_zero, Nat.zero_add, psum_congr (g := g.2.2.2) i (fun s hs => by rw [shr0]; exact h7.2.2 s (by omega))] at a
    refine Int32.toInt_inj.mp ?_
    rw [a, hPF.2.2 i (by omega)]
  refine pc_mono (p_X7_writeForm (g := g) (F := F) (lg := g.2.1) h1 h2 hlg hF g.2.2.2 pf pl g.1.2.1 g.1.1.2.1.toInt.toNat (ln_of hl) u h z7 h.2.2.2.2.2.1.2 (by rw [hg.2.1]; exact lnl) (fun i hi => h7.2.2 i hi) hPF hsum h9 h13 (fun _ => hpl) g.1.1.2.2.toInt.toNat (by rw [hg.2.2.1]; omega) (by omega) (fun i hi => ⟨by rw [hg.2.2.2.1], hrow i (by omega)⟩) (WB0 (gF g F)) (by rw [hg.2.1]; rfl) (WT (gF g F) pf pl) rfl) (fun v hv => ⟨⟨?_, ?_, hv.2.2.1⟩, hv.2.2.2⟩)
  · have r := hv.1
    rw [hg.2.2.1] at r
    exact r
  · rw [hv.2.1]
    exact hg.2.1
set_option maxHeartbeats 1000000 in
theorem wrow_x {g : GH} {pf pl : Nat → Int32} {F : Int32} {k : Nat} (uX uS uW uP uO : OS) (hX : IX g uX) (hS : IS uS) (hP : IP uP) (hO : IO uO) (hG : IG g.2 uS) (gw : GW (gF g F) pf pl k) (s1 : F ≠ 2 → SWF F g.2.1 k g.2.2.2 pl uS ∧ uS.2.1 4 = pf) (s2 : F = 2 → pcA (f_X4_makeSpread uS) (fun v => SWF F g.2.1 k g.2.2.2 pl v ∧ v.2.1 4 = pf)) : pcA (f_X5_writeRow uS uW uP uO (mkA (uX.2.2.2 6) (uX.2.1 6)) (uX.1 7) F (uX.1 9)) (fun q => XWR (gF g F) pf pl q.2.1 q.2.2.2) := by
  obtain ⟨h1, h2, hlg, hF, hl, hPF, hsum, hpl, hlen, hrow⟩ := gw
  have hlg : g.2.1 = nI k := hlg
  have hF : F = 0 ∨ F = 1 ∨ F = 2 ∨ F = 3 := hF
  have hl : g.1.1.2.1 = 1 ∨ g.1.1.2.1 = 2 ∨ g.1.1.2.1 = 4 := hl
  have hlen : 0 ≤ g.1.1.2.2.toInt ∧ g.1.1.2.2.toInt ≤ 1000 := hlen
  have hrow : ∀ i : Nat, (i : Int) < g.1.1.2.2.toInt → 0 ≤ (g.1.2.1 i).toInt ∧ (g.1.2.1 i).toInt < 32 ∧ 1 ≤ (g.2.2.2 (g.1.2.1 i).toNatClampNeg).toInt := hrow
  obtain ⟨⟨x8, x9, x7⟩, l7, l6, l9, x5, xr⟩ := hX
  rw [x7] at l7 xr
  rw [x7, x9]
  have lnI : g.1.1.2.1 = nI g.1.1.2.1.toInt.toNat := by
    rcases hl with q | q | q <;> rw [q] <;> decide
  have hsz : uS.1 1 = (1 : Int32) <<< (g.2.1 &&& (31 : Int32)) := by rw [hS.2.1, hG.1]
  have e5 : f_X5_writeRow uS uW uP uO (mkA (uX.2.2.2 6) (uX.2.1 6)) g.1.1.2.2 F g.1.1.2.1 = f_X5_writeRow uS uW uP uO (mkA (uX.2.2.2 6) (uX.2.1 6)) g.1.1.2.2 F (nI g.1.1.2.1.toInt.toNat) := by rw [← lnI]
  rw [e5]
  intro q m n eq
  have r := p_X5_writeRow (F := F) (lg := g.2.1) (k := k) (sh := g.2.2.2) (pl := pl) (pf := pf) h1 h2 hlg hF uS uW uP uO (mkA (uX.2.2.2 6) (uX.2.1 6)) hsz hP hO s1 s2 g.1.2.1 g.1.1.2.1.toInt.toNat (ln_of hl) g.1.1.2.2 g.1.1.2.2.toInt.toNat (by omega) (by omega) (by show g.1.1.2.2.toInt.toNat ≤ uX.2.2.2 6; omega) l6.2 (fun i hi => ⟨(xr i (by omega)).1, hrow i (by omega)⟩) (WB0 (gF g F)) (by rw [← lnI]; exact b0_eq hF hl) (WT (gF g F) pf pl) rfl q m n eq
  exact ⟨r.1, r.2.1.trans lnI.symm, r.2.2.1, r.2.2.2⟩
theorem p_X7_write {g : GH} {pf pl : Nat → Int32} (u : OS) (h : IM g u) (hW : WR g → ∃ k, GW g pf pl k ∧ ∀ i, i < 2 ^ k → u.2.1 13 i = pl i) : pc (f_X7_write u) (fun q => (¬ WR g ∧ q.2 = -2 ∧ F15 u q.1 ∧ q.1.2.2.1 33 = u.2.2.1 33) ∨ (WR g ∧ q.2 = q.1.1 15 ∧ MWR g pf pl q.1 ∧ q.1.2.2.1 33 = u.2.2.1 33)) := by
  have hg := IM_g h
  unfold f_X7_write
  refine pc_bnd (pc_oC1 (p_X7_mayWrite _ (IM_1 h)) (fun a ha => pc_ite (fun c => pc_some (Or.inl ⟨?_, rfl, ⟨rfl, rfl, rfl, rfl⟩, rfl⟩)) (fun c => ?_)))
  · rcases ha with q | q
    · exact q.2
    · rw [c] at q
      exact absurd q.1 (by decide)
  · have w : WR g := by
      rcases ha with q | q
      · exact absurd q.1 c
      · exact q.2
    obtain ⟨k, gw, h13⟩ := hW w
    have eF : (sF u 1 (0 : Int32)).1 2 = g.1.1.1 := hg.1
    rw [eF]
    exact pc_oC1 (wform_m (F := g.1.1.1) (sF u 1 (0 : Int32)) (IM_1 h) w gw h13) (fun v hv => pc_some (Or.inr ⟨w, rfl, hv.1, hv.2⟩))
theorem p_X6_write {g : GH} {pf pl : Nat → Int32} (uX uS uW uP uO : OS) (hX : IX g uX) (hS : IS uS) (hP : IP uP) (hO : IO uO) (hG : IG g.2 uS) (hK : LK g.1.2.2 g.2) (hW : WR g → ∃ k, GW g pf pl k ∧ (g.1.1.1 ≠ 2 → SWF g.1.1.1 g.2.1 k g.2.2.2 pl uS ∧ uS.2.1 4 = pf) ∧ (g.1.1.1 = 2 → pcA (f_X4_makeSpread uS) (fun v => SWF g.1.1.1 g.2.1 k g.2.2.2 pl v ∧ v.2.1 4 = pf))) : pcA (f_X6_write uX uS uW uP uO) (fun q => (¬ WR g ∧ q.2.2.2.2 = -2 ∧ q.2.1 = uW ∧ q.2.2.2.1 = uO) ∨ (WR g ∧ q.2.2.2.2 = q.2.2.2.1.1 1 ∧ XWR g pf pl q.2.1 q.2.2.2.1)) := by
  unfold f_X6_write
  refine pcA_oC1 (p_X6_isWritable uX uS hX hS hG hK) (fun r hr => pcA_ite (fun c => pcA_some (Or.inl ⟨?_, rfl, rfl, rfl⟩)) (fun c => ?_))
  · rcases hr with q | q
    · exact q.2
    · rw [c] at q
      exact absurd q.1 (by decide)
  · have w : WR g := by
      rcases hr with q | q
      · exact absurd q.1 c
      · exact q.2
    obtain ⟨k, gw, s1, s2⟩ := hW w
    have x8 : uX.1 8 = g.1.1.1 := hX.1.1
    rw [x8]
    exact pcA_oA4 (wrow_x (F := g.1.1.1) uX uS uW uP uO hX hS hP hO hG gw s1 s2) (fun a b c d m n hq => pcA_addc (pcA_some (Or.inr ⟨w, rfl, hq⟩)))
-- the ghost of both objects gives what a writing needs
theorem gw_ofF {g : GH} {S M : OS} {F : Int32} (hF : F = 0 ∨ F = 1 ∨ F = 2 ∨ F = 3) (hS : IS S) (hG : IG g.2 S) (hJS : JS S) (hM : IM g M) (hJM : JM M) (w : WR g) : ∃ k, GW (gF g F) (S.2.1 4) (M.2.1 13) k ∧ (F ≠ 2 → SWF F g.2.1 k g.2.2.2 (M.2.1 13) S ∧ S.2.1 4 = S.2.1 4) ∧ (F = 2 → pcA (f_X4_makeSpread S) (fun v => SWF F g.2.1 k g.2.2.2 (M.2.1 13) v ∧ v.2.1 4 = S.2.1 4)) := by
  obtain ⟨k, ⟨k1, k2, elg, shS, shg, e3, z⟩, ekS, ekM⟩ := shb hG hM w.1
  have hg := IM_g hM
  have h7 := hM.2.2.2.2.2.2.1
  have z7 : M.1 7 = 1 := h7.2.1.trans w.1
  have ak := (powA k (by omega) k1).2.2.2.2.2
  have js := hJS z
  have hPF : PFX g.2.2.2 (S.2.1 4) := by
    refine ⟨shg.2.1, by rw [shg.2.2]; omega, fun i hi => ?_⟩
    rw [js.1 i hi, psum_congr i (fun s hs => e3 s (by omega))]
  have jm := hJM z7
  have kM : (M.1 0).toInt.toNat = k := by
    rw [ekM, nI_toInt (by omega)]
    omega
  rw [kM] at jm
  have e13 : (fun i => M.2.1 13 (4096 * 0 + i)) = M.2.1 13 := by
    funext i
    rw [Nat.mul_zero, Nat.zero_add]
  rw [e13] at jm
  have jmg : SPD g.2.2.2 (2 ^ k) (plc M 0) (M.2.1 13) (fun i => M.2.1 12 (4096 * 0 + i)) := SPD.cg (fun i hi => by rw [shr0]; exact (h7.2.2 i hi).symm) jm
  have rg := NPL.rg shg jmg.1 jmg.2.1
  have gw : GW (gF g F) (S.2.1 4) (M.2.1 13) k := by
    have h3 := hM.2.2.1
    have h5 := hM.2.2.2.2.1
    rw [hg.2.1] at h3
    rw [hg.2.2.1] at h5
    refine ⟨k1, k2, elg, hF, ?_, hPF, shg.2.2, rg, h5, fun i hi => ?_⟩
    · rcases h3 with q | q | q
      · exact Or.inl (Int32.toInt_inj.mp (q.trans li_1.symm))
      · exact Or.inr (Or.inl (Int32.toInt_inj.mp (q.trans li_2.symm)))
      · exact Or.inr (Or.inr (Int32.toInt_inj.mp (q.trans li_4.symm)))
    · have r := hM.2.2.2.1 i
      rw [hg.2.2.2.1] at r
      exact ⟨r.1, r.2, w.2 i hi⟩
  refine ⟨k, gw, fun n2 => ⟨⟨hS, hG.1, e3, hPF, shg.2.2, fun q => absurd q n2⟩, rfl⟩, fun _ v m n e => ?_⟩
  have q := js_makeSpread k1 k2 S hS ekS shS z hJS v m n e
  have i := pcA_cq (s_X4_makeSpread S hS) v m n e
  have ev3 : ∀ i, i < 32 → v.2.1 3 i = g.2.2.2 i := fun i hi => by rw [q.1.2.2.2.1]; exact e3 i hi
  have sv : SPD g.2.2.2 (2 ^ k) (v.2.1 8) (v.2.1 10) (v.2.1 9) := SPD.cg (fun i hi => (ev3 i hi).symm) q.2.1.1
  have e4 : v.2.1 4 = S.2.1 4 := q.1.2.2.2.2
  refine ⟨⟨i.1, q.1.1.trans hG.1, ev3, by rw [e4]; exact hPF, shg.2.2, fun _ => ⟨fun j hj => ⟨NPL.eq shg sv.1 jmg.1 sv.2.1 jmg.2.1 j hj, rg j hj⟩, ?_, fun p hp hs => NPL.one shg jmg.1 jmg.2.1 hp hs⟩⟩, e4⟩
  rw [i.1.2.2.2.2.2.2.1]
  exact q.2.1.2
theorem gw_of {g : GH} {S M : OS} (hS : IS S) (hG : IG g.2 S) (hJS : JS S) (hM : IM g M) (hJM : JM M) (w : WR g) : ∃ k, GW g (S.2.1 4) (M.2.1 13) k ∧ (g.1.1.1 ≠ 2 → SWF g.1.1.1 g.2.1 k g.2.2.2 (M.2.1 13) S ∧ S.2.1 4 = S.2.1 4) ∧ (g.1.1.1 = 2 → pcA (f_X4_makeSpread S) (fun v => SWF g.1.1.1 g.2.1 k g.2.2.2 (M.2.1 13) v ∧ v.2.1 4 = S.2.1 4)) := by
  have hg := IM_g hM
  have h2 := hM.2.1
  rw [hg.1] at h2
  exact gw_ofF (F_of h2.1 h2.2) hS hG hJS hM hJM w
-- OUT and what was written are the same in both
def OQ (O M : OS) : Prop := M.1 15 = O.1 1 ∧ ∀ i : Nat, (i : Int) < (O.1 1).toInt → M.2.1 14 i = O.2.1 0 i
def WVQ (W M : OS) : Prop := (W.1 3 = 0 ∧ M.1 18 = 0) ∨ (W.1 3 = 1 ∧ W.1 2 = M.1 18 ∧ ∀ i : Nat, (i : Int) < (M.1 18).toInt → i < 4 → W.2.2.1 0 i = M.2.2.1 17 i)
theorem OQ.fr {O M m : OS} (h : OQ O M) (f : F15 M m) : OQ O m := ⟨f.1.trans h.1, fun i hi => by rw [f.2.1]; exact h.2 i hi⟩
theorem WVQ.fr {W M m : OS} (h : WVQ W M) (f : F15 M m) : WVQ W m := by
  unfold WVQ at *
  rw [f.2.2.1, f.2.2.2]
  exact h
theorem ow_of {g : GH} {pf pl : Nat → Int32} {w o m : OS} (hM : MWR g pf pl m) (hX : XWR g pf pl w o) : OQ o m ∧ WVQ w m := by
  obtain ⟨⟨a1, a2, a3⟩, b, c⟩ := hM
  obtain ⟨⟨⟨x1, x2, x3⟩, _⟩, y1, y2, y3⟩ := hX
  refine ⟨⟨a1.trans x1.symm, fun i hi => ?_⟩, Or.inr ⟨y2, y1.trans b.symm, fun i hi i4 => ?_⟩⟩
  · rw [a3 i (by rw [a1, ← x1]; exact hi), x3 i hi]
  · rw [b] at hi
    rw [y3 i i4, c i (by omega)]
theorem ow_eq {g : GH} {pf pl : Nat → Int32} {W O w o M m : OS} {a b : Int32} {z : Prop} (hO : OQ O M) (hW : WVQ W M) (h1 : (¬ WR g ∧ a = -2 ∧ w = W ∧ o = O) ∨ (WR g ∧ a = o.1 1 ∧ XWR g pf pl w o)) (h2 : (¬ WR g ∧ b = -2 ∧ F15 M m ∧ z) ∨ (WR g ∧ b = m.1 15 ∧ MWR g pf pl m ∧ z)) : OQ o m ∧ WVQ w m ∧ a = b := by
  rcases h1 with ⟨p, q, e1, e2⟩ | ⟨p, q, x⟩
  · rcases h2 with ⟨r, s, f, _⟩ | ⟨r, s, y, _⟩
    · rw [e1, e2]
      exact ⟨hO.fr f, hW.fr f, by rw [q, s]⟩
    · exact absurd r p
  · rcases h2 with ⟨r, s, f, _⟩ | ⟨r, s, y, _⟩
    · exact absurd p r
    · have k := ow_of y x
      exact ⟨k.1, k.2, by rw [q, s, k.1.1]⟩

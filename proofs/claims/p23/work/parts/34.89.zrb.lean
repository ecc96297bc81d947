-- ===== all of it =====
theorem sT_sum {t : OT} : ∀ (c j : Nat) (y : Int32) (s : RC) (sh : Nat → Int32), j + c = 32 → 0 ≤ y.toInt → y.toInt ≤ 4096 → (sT t c j y s sh).1.2.1 = 0 → psum (sT t c j y s sh).2.2 32 + (sT t c j y s sh).2.1.toInt = psum sh j + y.toInt := by
  intro c
  induction c with
  | zero =>
    intro j y s sh hj _ _ _
    have e : j = 32 := by omega
    subst e
    rfl
  | succ c ih =>
    intro j y s sh hj h0 h1 hz
    by_cases z : (sBs t (bl0 y) (s, 0)).1.2.1 = (0 : Int32)
    · by_cases d : (sBs t (bl0 y) (s, 0)).2 ≤ y
      · rw [sT_g z d] at hz ⊢
        have d1 := Int32.le_iff_toInt_le.mp d
        have b13 := (bo0 (y := y)).2 h1
        have sv := (sBs_v (t := t) (bl0 y) 0 (s, 0) (by omega) (by show 0 ≤ (0 : Int32).toInt; decide) (by show (0 : Int32).toInt < ((2 ^ 0 : Nat) : Int); decide)).1
        have es : (y - (sBs t (bl0 y) (s, 0)).2).toInt = y.toInt - (sBs t (bl0 y) (s, 0)).2.toInt := sub32 (by omega) (by omega)
        have r := ih (j + 1) (y - (sBs t (bl0 y) (s, 0)).2) (sBs t (bl0 y) (s, 0)).1 (upd sh j (sBs t (bl0 y) (s, 0)).2) (by omega) (by omega) (by omega) hz
        have ep : psum (upd sh j (sBs t (bl0 y) (s, 0)).2) (j + 1) = psum (upd sh j (sBs t (bl0 y) (s, 0)).2) j + (upd sh j (sBs t (bl0 y) (s, 0)).2 j).toInt := rfl
        have ec : psum (upd sh j (sBs t (bl0 y) (s, 0)).2) j = psum sh j := psum_congr j (fun i hi => by unfold upd; rw [if_neg (by omega)])
        rw [upd_at, ec] at ep
        rw [r, ep, es]
        omega
      · rw [sT_3 z d] at hz
        have hz : (3 : Int32) = 0 := hz
        exact absurd hz (by decide)
    · rw [sT_e z] at hz
      exact absurd hz z
noncomputable def hdk (t : OT) : Nat := (hLg t).toInt.toNat
noncomputable def hdl (t : OT) : Nat := (hLn t).toInt.toNat
noncomputable def hds (t : OT) : Nat → Int32 := (tbT t (hLg t) (hd3 t).1).2.2
noncomputable def hdn (t : OT) : Nat := (hNn t).toInt.toNat
theorem dh_2 : ∀ b : Nat, b < 256 → (15 : Int32) < nI b ∨ (nI b >>> ((2 : Int32) &&& (31 : Int32))) = 0 ∨ (nI b >>> ((2 : Int32) &&& (31 : Int32))) = 1 ∨ (nI b >>> ((2 : Int32) &&& (31 : Int32))) = 2 ∨ (nI b >>> ((2 : Int32) &&& (31 : Int32))) = 3 := by decide +kernel
theorem hd_ok {t : OT} (k0 : SK t ((0 : Int32), (0 : Int32), (0 : Int32))) (h8 : T8 t) (z : (hd3 t).1.2.1 = 0) : 5 ≤ hdk t ∧ hdk t ≤ 12 ∧ hLg t = nI (hdk t) ∧ (hdl t = 1 ∨ hdl t = 2 ∨ hdl t = 4) ∧ hLn t = nI (hdl t) ∧ (hFm t = 0 ∨ hFm t = 1 ∨ hFm t = 2 ∨ hFm t = 3) ∧ (hNn t).toInt = (hdn t : Int) ∧ hdn t ≤ 65535 := by
  obtain ⟨a1, a2, a3, a4, a5, a6, a7, a8⟩ := h_ok z
  have b3 := mt Int32.lt_iff_toInt_lt.mpr a3
  have b4 := Int32.le_iff_toInt_le.mp a4
  rw [li_5] at b3
  rw [li_12] at b4
  have lg : (hLg t).toInt = (hd2 t).2.toInt := rfl
  obtain ⟨k, ek, ek2, _⟩ := nI_ex (x := hLg t) (by omega)
  have kk : hdk t = k := by
    unfold hdk
    omega
  have ln := ln4 (hd1 t).2 a8
  have ln : (hLn t).toInt = 1 ∨ (hLn t).toInt = 2 ∨ (hLn t).toInt = 4 := ln
  obtain ⟨l, el, el2, _⟩ := nI_ex (x := hLn t) (by omega)
  have ll : hdl t = l := by
    unfold hdl
    omega
  obtain ⟨b, hb, eb⟩ := nI_o (sN_v k0 h8)
  have eb : (hd1 t).2 = nI b := by
    rw [hd1_e]
    exact eb
  have f := dh_2 b hb
  rw [← eb] at f
  have f := f.resolve_left a7
  have v := sW_v h8 2 0 (hb2 t, 0) (by decide) (sk_h2 k0) (by show 0 ≤ (0 : Int64).toInt; decide) (by show (0 : Int64).toInt < ((256 ^ 0 : Nat) : Int); decide)
  have v : 0 ≤ (hd3 t).2.toInt ∧ (hd3 t).2.toInt < ((256 ^ (0 + 2) : Nat) : Int) := by
    rw [hd3_e]
    exact v
  have p : ((256 ^ (0 + 2) : Nat) : Int) = 65536 := rfl
  rw [p] at v
  have en : (hNn t).toInt = (hd3 t).2.toInt := ti32 (by omega) (by omega)
  refine ⟨by omega, by omega, by rw [kk]; exact ek, by omega, by rw [ll]; exact el, f, ?_, ?_⟩
  · unfold hdn
    omega
  · unfold hdn
    omega
theorem tb_gsh {t : OT} {k : Nat} (k1 : 5 ≤ k) (k2 : k ≤ 12) {s r : RC} (h : tbE t (nI k) s r) (z : r.2.1 = 0) : GSH k (tbT t (nI k) s).2.2 := by
  obtain ⟨zT, nb, _⟩ := tbE_0 h z
  have sk := sk32 k1 k2 (rfl : nI k = nI k)
  have ak := (powA k (by omega) k1).2.2.2.2.2
  have y0 : 0 ≤ ((1 : Int32) <<< (nI k &&& (31 : Int32))).toInt := by omega
  have y1 : ((1 : Int32) <<< (nI k &&& (31 : Int32))).toInt ≤ 4096 := by omega
  have yy : 0 ≤ (tbT t (nI k) s).2.1.toInt := sT_y (t := t) 32 0 _ s (fun _ => 0) y0 y1 zT
  have ss : psum (tbT t (nI k) s).2.2 32 + (tbT t (nI k) s).2.1.toInt = psum (fun _ => (0 : Int32)) 0 + ((1 : Int32) <<< (nI k &&& (31 : Int32))).toInt := sT_sum (t := t) 32 0 _ s (fun _ => 0) rfl y0 y1 zT
  have z0 : psum (fun _ => (0 : Int32)) 0 = 0 := rfl
  have n0 : ¬ (0 : Int32) < (tbT t (nI k) s).2.1 := fun q => nb (Or.inl q)
  have n1 := mt Int32.lt_iff_toInt_lt.mpr n0
  rw [li_0] at n1
  have sb := sT_sh (t := t) 32 0 ((1 : Int32) <<< (nI k &&& (31 : Int32))) s (fun _ => 0) y0 y1 (fun i => ⟨by show 0 ≤ (0 : Int32).toInt; decide, by show (0 : Int32).toInt < 8192; decide⟩)
  refine ⟨k1, k2, two_of (g := nI k) (by rw [nI_toInt (by omega)]; omega) (by rw [nI_toInt (by omega)]; omega) (by rw [nI_toInt (by omega), Int.toNat_natCast]; exact Int.natCast_pow 2 k), fun i _ => (sb i).1, ?_⟩
  rw [z0, sk] at ss
  omega
-- what comes of reading t: octets read and what is broken; signs; whether there are states; lanes; states
abbrev DR : Type := (Int32 × Int32) × (Int32 × (Nat → Int32)) × Int32 × Nat × (Nat → Int64)
def d0 (a b : Int32) : DR := ((a, b), (0, fun _ => 0), 0, 0, fun _ => 0)
def RDS (t : OT) (D : DR) : Prop :=
  (¬ (hd3 t).1.2.1 = 0 ∧ D = d0 (hd3 t).1.1 (hd3 t).1.2.1) ∨
  ((hd3 t).1.2.1 = 0 ∧ ∃ r, tbE t (hLg t) (hd3 t).1 r ∧ ((¬ r.2.1 = 0 ∧ D = d0 r.1 r.2.1) ∨
    (r.2.1 = 0 ∧ ∃ E, sS t (hFm t) (hLg t) (hdl t) 0 r (fun _ => 0) E ∧ ((¬ E.1.2.1 = 0 ∧ D = d0 E.1.1 E.1.2.1) ∨
      (E.1.2.1 = 0 ∧ ((¬ (rowR t (hFm t) (hdk t) (hds t) (hdl t) (hdn t) 0 E (0, fun _ => 0)).1.1.2.1 = 0 ∧ D = (((rowR t (hFm t) (hdk t) (hds t) (hdl t) (hdn t) 0 E (0, fun _ => 0)).1.1.1, (rowR t (hFm t) (hdk t) (hds t) (hdl t) (hdn t) 0 E (0, fun _ => 0)).1.1.2.1), (rowR t (hFm t) (hdk t) (hds t) (hdl t) (hdn t) 0 E (0, fun _ => 0)).2, 1, hdl t, (rowR t (hFm t) (hdk t) (hds t) (hdl t) (hdn t) 0 E (0, fun _ => 0)).1.2)) ∨
        ((rowR t (hFm t) (hdk t) (hds t) (hdl t) (hdn t) 0 E (0, fun _ => 0)).1.1.2.1 = 0 ∧ ∃ B, JG t (hFm t) (hLg t) (hdl t) (rowR t (hFm t) (hdk t) (hds t) (hdl t) (hdn t) 0 E (0, fun _ => 0)).1 B ∧ D = (((rowR t (hFm t) (hdk t) (hds t) (hdl t) (hdn t) 0 E (0, fun _ => 0)).1.1.1, B), (rowR t (hFm t) (hdk t) (hds t) (hdl t) (hdn t) 0 E (0, fun _ => 0)).2, 1, hdl t, (rowR t (hFm t) (hdk t) (hds t) (hdl t) (hdn t) 0 E (0, fun _ => 0)).1.2))))))))
theorem RDS_ex (t : OT) : ∃ D, RDS t D := by
  by_cases z : (hd3 t).1.2.1 = 0
  · obtain ⟨r, hr⟩ := tbE_ex t (hLg t) (hd3 t).1
    by_cases z2 : r.2.1 = 0
    · obtain ⟨E, hE⟩ := sS_ex t (hFm t) (hLg t) (hdl t) 0 r (fun _ => 0)
      by_cases z3 : E.1.2.1 = 0
      · by_cases z4 : (rowR t (hFm t) (hdk t) (hds t) (hdl t) (hdn t) 0 E (0, fun _ => 0)).1.1.2.1 = 0
        · obtain ⟨B, hB⟩ := JG_ex t (hFm t) (hLg t) (hdl t) (rowR t (hFm t) (hdk t) (hds t) (hdl t) (hdn t) 0 E (0, fun _ => 0)).1
          exact ⟨_, Or.inr ⟨z, r, hr, Or.inr ⟨z2, E, hE, Or.inr ⟨z3, Or.inr ⟨z4, B, hB, rfl⟩⟩⟩⟩⟩
        · exact ⟨_, Or.inr ⟨z, r, hr, Or.inr ⟨z2, E, hE, Or.inr ⟨z3, Or.inl ⟨z4, rfl⟩⟩⟩⟩⟩
      · exact ⟨_, Or.inr ⟨z, r, hr, Or.inr ⟨z2, E, hE, Or.inl ⟨z3, rfl⟩⟩⟩⟩
    · exact ⟨_, Or.inr ⟨z, r, hr, Or.inl ⟨z2, rfl⟩⟩⟩
  · exact ⟨_, Or.inl ⟨z, rfl⟩⟩
def MRES (D : DR) (v : OS) : Prop := v.1 26 = D.1.1 ∧ v.1 27 = D.1.2 ∧ v.1 25 = D.2.1.1 ∧ (∀ j : Nat, (j : Int) < D.2.1.1.toInt → v.2.1 24 j = D.2.1.2 j) ∧ v.1 32 = D.2.2.1 ∧ (¬ D.2.2.1 = 0 → v.1 31 = nI D.2.2.2.1 ∧ ∀ i, i < D.2.2.2.1 → v.2.2.1 33 i = D.2.2.2.2 i)
def XRES (D : DR) (R : OS) : Prop := R.1 5 = D.1.1 ∧ R.1 4 = D.1.2 ∧ R.1 3 = D.2.1.1 ∧ (∀ j : Nat, (j : Int) < D.2.1.1.toInt → R.2.1 2 j = D.2.1.2 j) ∧ R.1 11 = D.2.2.1 ∧ (¬ D.2.2.1 = 0 → R.1 9 = nI D.2.2.2.1 ∧ ∀ i, i < D.2.2.2.1 → R.2.2.1 1 i = D.2.2.2.2 i)
theorem m0 {v : OS} {a b : Int32} (h26 : v.1 26 = a) (h27 : v.1 27 = b) (h25 : v.1 25 = 0) (h32 : v.1 32 = 0) : MRES (d0 a b) v := by
  refine ⟨h26, h27, h25, fun j hj => ?_, h32, fun q => absurd rfl q⟩
  have hj : (j : Int) < (0 : Int32).toInt := hj
  rw [li_0] at hj
  omega
theorem x0 {v : OS} {a b : Int32} (h5 : v.1 5 = a) (h4 : v.1 4 = b) (h3 : v.1 3 = 0) (h11 : v.1 11 = 0) : XRES (d0 a b) v := by
  refine ⟨h5, h4, h3, fun j hj => ?_, h11, fun q => absurd rfl q⟩
  have hj : (j : Int) < (0 : Int32).toInt := hj
  rw [li_0] at hj
  omega
-- the span of the first states
theorem inS_spf {F lg : Int32} {k ln : Nat} (k2 : k ≤ 12) (hlg : lg = nI k) {st : Nat → Int64} (h : ∀ i, i < ln → inS F lg (st i)) : SPF F k ln st := by
  have o := one_k k (by omega)
  rw [← hlg] at o
  refine ⟨fun f1 i hi => ?_, fun f2 i hi => ?_, fun f1 f2 i hi => ?_⟩
  · have q := h i hi
    unfold inS at q
    rw [if_pos f1] at q
    have q1 := mt Int64.lt_iff_toInt_lt.mpr q
    rw [e231] at q1
    omega
  · have q := h i hi
    unfold inS at q
    rw [if_neg (by rw [f2]; decide), if_pos f2] at q
    have q1 := mt Int64.lt_iff_toInt_lt.mpr q.1
    have q2 := mt Int64.le_iff_toInt_le.mpr q.2
    rw [o.1] at q1
    rw [o.2] at q2
    omega
  · have q := h i hi
    unfold inS at q
    rw [if_neg f1, if_neg f2] at q
    have q1 := mt Int64.lt_iff_toInt_lt.mpr q.1
    have q2 := mt Int64.le_iff_toInt_le.mpr q.2
    rw [e823] at q1
    rw [e231] at q2
    omega
-- loops that have nothing to do any more
theorem r186_b (u : OS) (z : ¬ u.1 27 = 0) {Q : OS → Prop} (K : Int32 → OS → Option OS) (hK : ∀ x, pc (K x u) Q) : ∀ (n : Nat) (x : Int32), pc (f_X7_readAll_L186 n K x u) Q := by
  intro n x
  cases n with
  | zero => exact pc_none
  | succ n =>
    unfold f_X7_readAll_L186
    exact pc_ite (fun _ => hK _) (fun _ => pc_ite (fun q => absurd q z) (fun _ => hK _))
theorem r156_b (u : OS) (z : ¬ u.1 27 = 0) (r6 : Int32) {Q : OS → Prop} (K : Int32 → OS → Option OS) (hK : ∀ x, pc (K x u) Q) : ∀ (n : Nat) (x : Int32), pc (f_X7_readAll_L156 r6 n K x u) Q := by
  intro n x
  cases n with
  | zero => exact pc_none
  | succ n =>
    unfold f_X7_readAll_L156
    exact pc_ite (fun _ => hK _) (fun _ => pc_ite (fun q => absurd q z) (fun _ => hK _))
set_option maxHeartbeats 4000000 in
theorem r_readAll {g : GH} {t : OT} {D : DR} (u : OS) (h : IM g u) (hRO : RO t (u.1 15) (u.2.1 14)) (h8 : T8 t) (hD : RDS t D) : pc (f_X7_readAll u) (MRES D) := by
  have h15 := h.2.2.2.2.2.2.2.1
  have hh : H14 u := h.2.2.2.2.2.2.2.2.1
  have h11 : R11 u := h.2.2.2.2.2.2.2.2.2.2.2.2.1
  have h13 : R13 u := h.2.2.2.2.2.2.2.2.2.2.2.2.2
  have k0 : SK t ((0 : Int32), (0 : Int32), (0 : Int32)) := sk0 (by rw [← hRO.1]; exact h15.1) (by rw [← hRO.1]; exact h15.2)
  unfold f_X7_readAll
  refine pc_bnd (pc_bnd (pc_bnd (pc_bnd ?_)))
  have P4 : RP (sF (sF (sF (sF u 25 (0 : Int32)) 26 (0 : Int32)) 27 (0 : Int32)) 32 (0 : Int32)) := ⟨by show 0 ≤ (0 : Int32).toInt; decide, by show (0 : Int32).toInt ≤ (u.1 15).toInt; rw [li_0]; omega, h15.2, by show 0 ≤ (0 : Int32).toInt; decide⟩
  have H4 : H14 (sF (sF (sF (sF u 25 (0 : Int32)) 26 (0 : Int32)) 27 (0 : Int32)) 32 (0 : Int32)) := hh
  have N4 : R11 (sF (sF (sF (sF u 25 (0 : Int32)) 26 (0 : Int32)) 27 (0 : Int32)) 32 (0 : Int32)) ∧ R13 (sF (sF (sF (sF u 25 (0 : Int32)) 26 (0 : Int32)) 27 (0 : Int32)) 32 (0 : Int32)) := ⟨h11, h13⟩
  have w4 : MRw t ((0 : Int32), (0 : Int32), (0 : Int32)) (sF (sF (sF (sF u 25 (0 : Int32)) 26 (0 : Int32)) 27 (0 : Int32)) 32 (0 : Int32)) := ⟨rfl, rfl, hRO, k0⟩
  have c4 : (sF (sF (sF (sF u 25 (0 : Int32)) 26 (0 : Int32)) 27 (0 : Int32)) 32 (0 : Int32)).1 25 = 0 ∧ (sF (sF (sF (sF u 25 (0 : Int32)) 26 (0 : Int32)) 27 (0 : Int32)) 32 (0 : Int32)).1 32 = 0 := ⟨rfl, rfl⟩
  generalize (sF (sF (sF (sF u 25 (0 : Int32)) 26 (0 : Int32)) 27 (0 : Int32)) 32 (0 : Int32)) = u4 at P4 H4 N4 w4 c4
  refine pc_oC2 (pc_and (pc_of_ok (s_X7_readHead u4 H4 P4)) (r_readHead u4 w4)) (fun u5 r6 k5 => pc_bnd ?_)
  obtain ⟨⟨R5, G5, _⟩, w5, e30, e31, e10, er6⟩ := k5
  have R5 : RH u4 u5 := R5
  have e30 : u5.1 30 = hFm t := e30
  have e31 : u5.1 31 = hLn t := e31
  have er6 : r6 = hNn t := er6
  have H5 := R5.h14 H4
  have c5 : u5.1 25 = 0 ∧ u5.1 32 = 0 := ⟨(R5.1 25 (by decide) (by decide) (by decide) (by decide) (by decide)).trans c4.1, (R5.1 32 (by decide) (by decide) (by decide) (by decide) (by decide)).trans c4.2⟩
  have N5 : R11 u5 ∧ R13 u5 := ⟨N4.1.eq (R5.2.1 11 (by decide)), N4.2.eq (R5.2.1 13 (by decide))⟩
  by_cases z5 : (hd3 t).1.2.1 = 0
  · have z27 : u5.1 27 = (0 : Int32) := w5.2.1.trans z5
    rw [if_pos z27]
    obtain ⟨k1, k2, ek, hln, eln, hF, hn, hn2⟩ := hd_ok k0 h8 z5
    have e10 : u5.2.1 10 1 = nI (hdk t) := (e10 z5).trans ek
    obtain ⟨r, hr, hD⟩ : ∃ r, tbE t (hLg t) (hd3 t).1 r ∧ ((¬ r.2.1 = 0 ∧ D = d0 r.1 r.2.1) ∨ (r.2.1 = 0 ∧ ∃ E, sS t (hFm t) (hLg t) (hdl t) 0 r (fun _ => 0) E ∧ ((¬ E.1.2.1 = 0 ∧ D = d0 E.1.1 E.1.2.1) ∨ (E.1.2.1 = 0 ∧ ((¬ (rowR t (hFm t) (hdk t) (hds t) (hdl t) (hdn t) 0 E (0, fun _ => 0)).1.1.2.1 = 0 ∧ D = (((rowR t (hFm t) (hdk t) (hds t) (hdl t) (hdn t) 0 E (0, fun _ => 0)).1.1.1, (rowR t (hFm t) (hdk t) (hds t) (hdl t) (hdn t) 0 E (0, fun _ => 0)).1.1.2.1), (rowR t (hFm t) (hdk t) (hds t) (hdl t) (hdn t) 0 E (0, fun _ => 0)).2, 1, hdl t, (rowR t (hFm t) (hdk t) (hds t) (hdl t) (hdn t) 0 E (0, fun _ => 0)).1.2)) ∨ ((rowR t (hFm t) (hdk t) (hds t) (hdl t) (hdn t) 0 E (0, fun _ => 0)).1.1.2.1 = 0 ∧ ∃ B, JG t (hFm t) (hLg t) (hdl t) (rowR t (hFm t) (hdk t) (hds t) (hdl t) (hdn t) 0 E (0, fun _ => 0)).1 B ∧ D = (((rowR t (hFm t) (hdk t) (hds t) (hdl t) (hdn t) 0 E (0, fun _ => 0)).1.1.1, B), (rowR t (hFm t) (hdk t) (hds t) (hdl t) (hdn t) 0 E (0, fun _ => 0)).2, 1, hdl t, (rowR t (hFm t) (hdk t) (hds t) (hdl t) (hdn t) 0 E (0, fun _ => 0)).1.2))))))) := by
      rcases hD with ⟨q, _⟩ | ⟨_, q⟩
      · exact absurd z5 q
      · exact q
    have hr' := hr
    rw [ek] at hr'
    refine pc_oC1 (pc_and (pc_of_ok (s_X7_readTable u5 k1 k2 e10 H5 R5.2.2.2.2)) (r_readTable k1 k2 h8 (s := (hd3 t).1) (r := r) u5 e10 z5 (h3_2 t) hr' w5)) (fun u8 k8 => ?_)
    obtain ⟨⟨T8', _, S8⟩, w8, s8⟩ := k8
    have T8' : RT u5 u8 := T8'
    have c8 : u8.1 25 = 0 ∧ u8.1 32 = 0 := ⟨(T8'.1 25 (by decide) (by decide) (by decide)).trans c5.1, (T8'.1 32 (by decide) (by decide) (by decide)).trans c5.2⟩
    have f30 : u8.1 30 = hFm t := (T8'.1 30 (by decide) (by decide) (by decide)).trans e30
    have f31 : u8.1 31 = nI (hdl t) := (T8'.1 31 (by decide) (by decide) (by decide)).trans (e31.trans eln)
    have f10 : u8.2.1 10 1 = nI (hdk t) := by rw [T8'.2.1 10 (by decide)]; exact e10
    have N8 : R11 u8 ∧ R13 u8 := ⟨N5.1.eq (T8'.2.1 11 (by decide)), N5.2.eq (T8'.2.1 13 (by decide))⟩
    by_cases z8 : r.2.1 = 0
    · have z27' : u8.1 27 ≤ (0 : Int32) := by rw [w8.2.1, z8]; decide
      have z27i : (u8.1 27).toInt = 0 := by rw [w8.2.1, z8, li_0]
      refine pc_ite (fun _ => ?_) (fun q => absurd z27' q)
      obtain ⟨E, hE, hD⟩ := (hD.resolve_left (fun q => q.1 z8)).2
      have hG : GSH (hdk t) (hds t) := by
        unfold hds
        rw [ek]
        exact tb_gsh k1 k2 hr' z8
      have sh8 : ∀ i, i < 32 → u8.2.1 8 (32 + i) = hds t i := fun i hi => by
        rw [s8 z8 i hi]
        unfold hds
        rw [ek]
      have shr8 : ∀ i, i < 32 → shr u8 1 i = hds t i := fun i hi => sh8 i hi
      have sk := sk32 (g := u8.2.1 10 1) k1 k2 f10
      have SH8 : SHN (shr u8 1) (2 ^ hdk t) := ⟨hG.2.2.1, (S8 z27i).1, (S8 z27i).2⟩
      have b0 : r.2.2 = 0 := by rw [(tbE_0 hr z8).2.2]
      refine pc_oC1 (pc_and (pc_of_ok (s_X7_lay u8 (p1 := 1) (p := 1) (N := 2 ^ hdk t) (by decide) (by decide) (by rw [f10, nI_toInt (by omega)]; omega) (by rw [f10, nI_toInt (by omega)]; omega) (by rw [f10, nI_toInt (by omega), Int.toNat_natCast]; exact Int.natCast_pow 2 _) N8.1 N8.2 (S8 z27i))) (p_X7_lay u8 (p1 := 1) (p := 1) (N := 2 ^ hdk t) (by decide) (by decide) sk SH8)) (fun u11 k11 => ?_)
      obtain ⟨L11, sp11, _⟩ := k11
      have L11 : LYP 1 (2 ^ hdk t) u8 u11 := L11
      have spd := SPD.cg (fun i hi => (shr8 i hi).symm) sp11
      have sa := SPD.sa hG spd
      have tm : RTM2 (hdk t) (hds t) u11 := by
        refine ⟨⟨?_, fun i hi => ?_, fun i hi => ?_⟩, fun p hp => ?_, fun p hp => ?_⟩
        · rw [L11.2.1 10 (by decide) (by decide) (by decide) (by decide)]; exact f10
        · rw [L11.2.1 8 (by decide) (by decide) (by decide) (by decide)]; exact sh8 i hi
        · have a := L11.2.2.2.1 i hi
          have e8 : shr u11 1 = shr u8 1 := shr_eq (L11.2.1 8 (by decide) (by decide) (by decide) (by decide))
          rw [e8, psum_congr (g := hds t) i (fun s hs => shr8 s (by omega))] at a
          exact a
        · exact sa.1 p hp
        · exact sa.2 p hp
      have w11 : MR t r u11 := by
        refine ⟨?_, ?_, ?_, ?_, w8.2.2.2.2⟩
        · rw [L11.1]; exact w8.1
        · rw [L11.1]; exact w8.2.1
        · rw [L11.1]; exact w8.2.2.1
        · rw [L11.1, L11.2.1 14 (by decide) (by decide) (by decide) (by decide)]; exact w8.2.2.2.1
      have g30 : u11.1 30 = hFm t := by rw [L11.1]; exact f30
      have g31 : u11.1 31 = nI (hdl t) := by rw [L11.1]; exact f31
      have c11 : u11.1 25 = 0 ∧ u11.1 32 = 0 := by rw [L11.1]; exact c8
      have ln4 : hdl t ≤ 4 := by omega
      have lk := sS_k (hdl t) 0 r (fun _ => 0) E hE b0 w8.2.2.2.2
      refine pc_bnd (r_readAll_L51 (F := hFm t) (lg := hLg t) u11 (hdl t) g31 ln4 g30 (by rw [tm.1.1, ← ek]) _ E ?_ FU (hdl t) 0 0 u11 r (fun _ => 0) rfl (by omega) z8 hE w11 M33.rf (fun i hi => absurd hi (Nat.not_lt_zero i)))
      intro x15 u16 w16 F16 s16
      have c16 : u16.1 25 = 0 := (F16.1 25 (by decide) (by decide) (by decide)).trans c11.1
      refine pc_bnd ?_
      have go : ∀ x18 : Int32, x18 = (if E.1.2.1 = (0 : Int32) then (1 : Int32) else 0) → pc (gdb x18 <|
  bnd (sF u16 32 x18) fun u20 =>
  bnd (sF u20 29 (0 : Int32)) fun u22 =>
  bnd (fun (x25 : Int32) (u26 : OS) =>
  bnd (fun (x30 : Int32) (u31 : OS) =>
  if (u31.1 27) = (0 : Int32) then (
  bnd (fun (x36 : Int32) (u37 : OS) =>
  if x36 = (0 : Int32) then (
  oC1 (f_X7_fail u37 (6 : Int32)) fun u40 =>
  some u40) else (
  if (u37.1 15) ≤ (u37.1 26) then (
  some u37) else (
  oC1 (f_X7_fail u37 (6 : Int32)) fun u43 =>
  some u43))) fun K271_38 =>
  f_X7_readAll_L244 FU K271_38 (1 : Int32) u31) else (
  some u31)) fun K235_32 =>
  f_X7_readAll_L186 FU K235_32 (0 : Int32) u26) fun K184_27 =>
  f_X7_readAll_L156 r6 FU K184_27 (0 : Int32) u22) (MRES D) := by
        intro x18 ex
        refine pc_gdb (pc_bnd (pc_bnd (pc_bnd ?_)))
        have w22 : MR t E.1 (sF (sF u16 32 x18) 29 (0 : Int32)) := ⟨w16.1, w16.2.1, lk.1.symm, w16.2.2.2.1, w16.2.2.2.2⟩
        by_cases zE : E.1.2.1 = 0
        · rw [if_pos zE] at ex
          have hD := (hD.resolve_left (fun q => q.1 zE)).2
          have sp := inS_spf (F := hFm t) (ln := hdl t) k2 ek (fun i hi => sS_in (hdl t) 0 r (fun _ => 0) E hE zE (fun i hi => absurd hi (Nat.not_lt_zero i)) i (by omega))
          have t22 : RTM2 (hdk t) (hds t) (sF (sF u16 32 x18) 29 (0 : Int32)) := by
            unfold RTM2 RTM at *
            show (u16.2.1 10 1 = nI (hdk t) ∧ (∀ i, i < 32 → u16.2.1 8 (32 + i) = hds t i) ∧ (∀ i, i < 32 → (u16.2.1 9 (32 + i)).toInt = psum (hds t) i)) ∧ (∀ p, p < 2 ^ hdk t → u16.2.1 11 (4096 + p) = saF (hdk t) (hds t) p) ∧ (∀ p, p < 2 ^ hdk t → u16.2.1 12 (4096 + p) = naF (hdk t) (hds t) p)
            rw [F16.2]
            exact tm
          have rk := row_b (t := t) h8 hF hG hln (hdn t) 0 E (0, fun _ => 0) lk.2 sp
          refine r_L156 (t := t) h8 hF hG hln (r6 := r6) (N := hdn t) (by rw [er6]; exact hn) hn2 (sF (sF u16 32 x18) 29 (0 : Int32)) ((F16.1 30 (by decide) (by decide) (by decide)).trans g30) ((F16.1 31 (by decide) (by decide) (by decide)).trans g31) t22 _ (rowR t (hFm t) (hdk t) (hds t) (hdl t) (hdn t) 0 E (0, fun _ => 0)) ?_ FU (hdn t) 0 0 _ E (0, fun _ => 0) rfl (by omega) li_0 zE sp rfl w22 (s16 zE) RSF.rf c16 (fun j hj => ?_)
          · intro x25 u26 w26 s26 F26 e25 e24
            generalize rowR t (hFm t) (hdk t) (hds t) (hdl t) (hdn t) 0 E (0, fun _ => 0) = T at hD w26 s26 e25 e24 rk
            have h32' : u26.1 32 = 1 := by
              rw [F26.1 32 (by decide) (by decide) (by decide) (by decide) (by decide) (by decide)]
              exact ex
            have h31' : u26.1 31 = nI (hdl t) := by
              rw [F26.1 31 (by decide) (by decide) (by decide) (by decide) (by decide) (by decide)]
              exact (F16.1 31 (by decide) (by decide) (by decide)).trans g31
            have h30' : u26.1 30 = hFm t := by
              rw [F26.1 30 (by decide) (by decide) (by decide) (by decide) (by decide) (by decide)]
              exact (F16.1 30 (by decide) (by decide) (by decide)).trans g30
            have h10' : u26.2.1 10 1 = hLg t := by
              rw [F26.2 10 (by decide)]
              show u16.2.1 10 1 = _
              rw [F16.2, tm.1.1, ← ek]
            have fin : ∀ (A B : Int32) (v : OS), v.1 26 = A → v.1 27 = B → MF u26 v → MRES ((A, B), T.2, 1, hdl t, T.1.2) v := by
              intro A B v a1 a2 hFv
              refine ⟨a1, a2, ?_, fun j hj => ?_, ?_, fun _ => ⟨?_, fun i hi => ?_⟩⟩
              · exact (hFv.1 25 (by decide) (by decide) (by decide)).trans e25
              · rw [hFv.2]; exact e24 j hj
              · exact (hFv.1 32 (by decide) (by decide) (by decide)).trans h32'
              · exact (hFv.1 31 (by decide) (by decide) (by decide)).trans h31'
              · rw [hFv.2]; exact s26 i hi
            by_cases zT : T.1.1.2.1 = 0
            · obtain ⟨B, hJ, hD⟩ := (hD.resolve_left (fun q => q.1 zT)).2
              rw [hD]
              have z26 : u26.1 27 = 0 := w26.2.1.trans zT
              refine pc_bnd (r_L186 (F := hFm t) (lg := hLg t) u26 h30' h10' h31' ln4 T.1.2 s26 z26 _ ?_ ?_ FU 0 0 rfl (Nat.zero_le _) (fun i hi => absurd hi (Nat.not_lt_zero i)))
              · intro all x30
                rw [if_pos z26]
                refine pc_bnd (r_L244 h8 _ u26 T.1.1 (rsd t T.1.1) ?_ FU 1 u26 T.1.1 rfl rfl zT ⟨fun q => q.elim (fun w => absurd w (by decide)) id, Or.inr⟩ (Or.inr rfl) w26 MF.rf)
                intro x36 u37 hx w37 F37
                have z37 : u37.1 27 = 0 := w37.2.1.trans zT
                have six : (T.1.1.1 < t.1 ∨ rsd t T.1.1) → B = 6 := by
                  intro c
                  rcases hJ with ⟨a, _⟩ | ⟨_, _, e⟩ | ⟨_, a, _⟩
                  · exact absurd all a
                  · exact e
                  · exact absurd c a
                have bad : (T.1.1.1 < t.1 ∨ rsd t T.1.1) → pc (oC1 (f_X7_fail u37 (6 : Int32)) fun u40 => some u40) (MRES ((T.1.1.1, B), T.2, 1, hdl t, T.1.2)) := by
                  intro c
                  refine pc_oC1 (r_fail u37 6) (fun v hv => pc_some ?_)
                  rw [if_pos z37] at hv
                  rw [hv, six c]
                  exact fin _ _ _ w37.1 rfl (F37.tr ⟨fun k _ b _ => va_ne (f := u37.1) b, rfl⟩)
                refine pc_ite (fun a0 => bad (Or.inr (hx.mp a0))) (fun a0 => pc_ite (fun d => pc_some ?_) (fun d => bad (Or.inl ?_)))
                · have e : B = 0 := by
                    rcases hJ with ⟨a, _⟩ | ⟨_, a, _⟩ | ⟨_, _, e⟩
                    · exact absurd all a
                    · rcases a with a | a
                      · rw [w37.2.2.2.1.1, w37.1] at d
                        exact absurd a (Int32.not_lt.mpr d)
                      · exact absurd (hx.mpr a) a0
                    · exact e
                  rw [e]
                  exact fin _ _ _ w37.1 z37 F37
                · rw [w37.2.2.2.1.1, w37.1] at d
                  exact Int32.not_le.mp d
              · intro nall x30
                have e : B = 5 := by
                  rcases hJ with ⟨_, e⟩ | ⟨a, _⟩ | ⟨a, _⟩
                  · exact e
                  · exact absurd a nall
                  · exact absurd a nall
                refine pc_ite (fun q => ?_) (fun _ => pc_some ?_)
                · have q : (5 : Int32) = 0 := q
                  exact absurd q (by decide)
                · rw [e]
                  exact fin _ _ _ w26.1 rfl ⟨fun k _ b _ => va_ne (f := u26.1) b, rfl⟩
            · have hD := (hD.resolve_right (fun q => zT q.1)).2
              rw [hD]
              have z26 : ¬ u26.1 27 = 0 := fun q => zT (w26.2.1.symm.trans q)
              have res : MRES ((T.1.1.1, T.1.1.2.1), T.2, 1, hdl t, T.1.2) u26 := fin _ _ _ w26.1 w26.2.1 MF.rf
              have hk : ∀ x30 : Int32, pc (if (u26.1 27) = (0 : Int32) then (
  bnd (fun (x36 : Int32) (u37 : OS) =>
  if x36 = (0 : Int32) then (
  oC1 (f_X7_fail u37 (6 : Int32)) fun u40 =>
  some u40) else (
  if (u37.1 15) ≤ (u37.1 26) then (
  some u37) else (
  oC1 (f_X7_fail u37 (6 : Int32)) fun u43 =>
  some u43))) fun K271_38 =>
  f_X7_readAll_L244 FU K271_38 (1 : Int32) u26) else (
  some u26))                     (MRES ((T.1.1.1, T.1.1.2.1), T.2, 1, hdl t, T.1.2)) := fun _ => pc_ite (fun q => absurd q z26) (fun _ => pc_some res)
              refine pc_bnd (r186_b u26 z26 _ hk FU 0)
          · have hj : (j : Int) < (0 : Int32).toInt := hj
            rw [li_0] at hj
            omega
        · rw [if_neg zE] at ex
          have hD := (hD.resolve_right (fun q => zE q.1)).2
          rw [hD]
          have z22 : ¬ (sF (sF u16 32 x18) 29 (0 : Int32)).1 27 = 0 := fun q => zE (w16.2.1.symm.trans q)
          have res : MRES (d0 E.1.1 E.1.2.1) (sF (sF u16 32 x18) 29 (0 : Int32)) := m0 w16.1 w16.2.1 c16 ex
          refine r156_b (sF (sF u16 32 x18) 29 (0 : Int32)) z22 r6 _ ?_ FU 0
          intro x25
          refine pc_bnd (r186_b (sF (sF u16 32 x18) 29 (0 : Int32)) z22 _ ?_ FU 0)
          intro x30
          exact pc_ite (fun q => absurd q z22) (fun _ => pc_some res)
      refine pc_ite (fun z16 => go 1 ?_) (fun z16 => go 0 ?_)
      · rw [if_pos (w16.2.1.symm.trans z16)]
      · rw [if_neg (fun q => z16 (w16.2.1.trans q))]
    · have hD := (hD.resolve_right (fun q => z8 q.1)).2
      rw [hD]
      have nle : ¬ u8.1 27 ≤ (0 : Int32) := fun q => by
        have q1 := i0_le.mp q
        have q2 := w8.2.2.2.2.2.2.2.1
        rw [w8.2.1] at q1
        exact z8 (Int32.toInt_inj.mp (by rw [li_0]; omega))
      exact pc_ite (fun q => absurd q nle) (fun _ => pc_some (m0 w8.1 w8.2.1 c8.1 c8.2))
  · have hD : D = d0 (hd3 t).1.1 (hd3 t).1.2.1 := (hD.resolve_right (fun q => z5 q.1)).2
    rw [hD]
    have n27 : ¬ u5.1 27 = (0 : Int32) := fun q => z5 (w5.2.1.symm.trans q)
    have nle : ¬ u5.1 27 ≤ (0 : Int32) := fun q => by
      have q1 := i0_le.mp q
      have q2 := w5.2.2.2.2.2.2.1
      rw [w5.2.1] at q1
      exact z5 (Int32.toInt_inj.mp (by rw [li_0]; omega))
    exact pc_ite (fun q => absurd q n27) (fun _ => pc_ite (fun q => absurd q nle) (fun _ => pc_some (m0 w5.1 w5.2.1 c5.1 c5.2)))

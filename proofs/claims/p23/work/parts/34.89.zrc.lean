-- ===== the class: all of it =====
theorem pcA_oC3 {a b c r : Type} {x : Option (a × b × c)} {k : a → b → c → Option (r × Nat × Nat)} {R : a × b × c → Prop} {Q : r → Prop} (hx : pc x R) (h : ∀ z y w, R (z, y, w) → pcA (k z y w) Q) : pcA (oC3 x k) Q := by
  cases x with
  | none => exact pcA_none
  | some z =>
    obtain ⟨z1, z2, z3⟩ := z
    exact h z1 z2 z3 (hx _ rfl)
def ansD (D : DR) : Int32 := if D.1.2 = (0 : Int32) then D.2.1.1 else (-10 : Int32) - D.1.1
theorem x_end {D : DR} (v z : OS) (h : XRES D v) : pcA (if (v.1 4) = (0 : Int32) then (
  some ((v, z, (v.1 3)), 0, 0)) else (
  some ((v, z, ((-10 : Int32) - (v.1 5))), 0, 0))) (fun q : OS × OS × Int32 => XRES D q.1 ∧ q.2.2 = ansD D) := by
  unfold ansD
  refine pcA_ite (fun c => pcA_some ⟨h, ?_⟩) (fun c => pcA_some ⟨h, ?_⟩)
  · rw [h.2.1] at c
    rw [if_pos c]
    exact h.2.2.1
  · rw [h.2.1] at c
    rw [if_neg c]
    show (-10 : Int32) - v.1 5 = _
    rw [h.1]
theorem l17_z (O z : OS) : ∀ (n : Nat) (x : Int32) (u : OS), pcA (f_X3_takeRow_L17 O z n x u) (fun v => v.2 = z) := by
  intro n
  induction n with
  | zero => intro x u; exact pcA_none
  | succ n ih =>
    intro x u
    unfold f_X3_takeRow_L17
    exact pcA_ite (fun _ => pcA_some rfl) (fun _ => pcA_ite (fun _ => pcA_some rfl) (fun _ => pcA_oC2 (R := fun _ => True) (fun _ _ => trivial) (fun a b _ => pcA_ite (fun _ => pcA_oA1 (R := fun _ => True) (fun _ _ _ _ => trivial) (fun c m n _ => pcA_addc (pcA_bnd (ih _ _)))) (fun _ => pcA_some rfl))))
set_option maxHeartbeats 4000000 in
theorem x_takeIn {t : OT} {D : DR} (R Z O : OS) (hR : IR R) (hZ : IS Z) (hO : XO t O) (h8 : T8 t) (hD : RDS t D) : pcA (f_X3_takeIn R Z O) (fun q => XRES D q.1 ∧ q.2.2 = ansD D) := by
  have on := hO.n
  have ob : t.1.toInt ≤ 8000 := by
    rw [← on.1]
    have := hO.2.2.1
    have := hO.2.2.2.2
    omega
  have k0 : SK t ((0 : Int32), (0 : Int32), (0 : Int32)) := sk0 on.2 (by omega)
  unfold f_X3_takeIn
  refine pcA_bnd (pcA_bnd (pcA_bnd (pcA_bnd (pcA_bnd ?_))))
  have x5 : XR t ((0 : Int32), (0 : Int32), (0 : Int32)) (sF (sF (sF (sF (sF R 3 (0 : Int32)) 4 (0 : Int32)) 5 (0 : Int32)) 7 (0 : Int32)) 11 (0 : Int32)) := ⟨rfl, rfl, rfl, fun q => absurd rfl q, k0⟩
  have c5 : (sF (sF (sF (sF (sF R 3 (0 : Int32)) 4 (0 : Int32)) 5 (0 : Int32)) 7 (0 : Int32)) 11 (0 : Int32)).1 3 = 0 ∧ (sF (sF (sF (sF (sF R 3 (0 : Int32)) 4 (0 : Int32)) 5 (0 : Int32)) 7 (0 : Int32)) 11 (0 : Int32)).1 11 = 0 := ⟨rfl, rfl⟩
  have p5 : 1 ≤ (sF (sF (sF (sF (sF R 3 (0 : Int32)) 4 (0 : Int32)) 5 (0 : Int32)) 7 (0 : Int32)) 11 (0 : Int32)).2.2.2 2 ∧ (sF (sF (sF (sF (sF R 3 (0 : Int32)) 4 (0 : Int32)) 5 (0 : Int32)) 7 (0 : Int32)) 11 (0 : Int32)).2.2.2 2 ≤ 65535 := hR.2.1
  have i5 : IR (sF (sF (sF (sF (sF R 3 (0 : Int32)) 4 (0 : Int32)) 5 (0 : Int32)) 7 (0 : Int32)) 11 (0 : Int32)) := ⟨⟨by show 0 ≤ (0 : Int32).toInt; decide, by show (0 : Int32).toInt ≤ ((R.2.2.2 2 : Nat) : Int); rw [li_0]; omega⟩, hR.2.1, ⟨by show 0 ≤ (0 : Int32).toInt; decide, by show (0 : Int32).toInt ≤ 8000; decide⟩, hR.2.2.2⟩
  generalize (sF (sF (sF (sF (sF R 3 (0 : Int32)) 4 (0 : Int32)) 5 (0 : Int32)) 7 (0 : Int32)) 11 (0 : Int32)) = u5 at x5 c5 p5 i5
  refine pcA_oC2 (pc_and (pc_of_ok (s_X3_takeHead u5 Z O i5 hZ hO.2)) (x_takeHead u5 Z O x5 h8 hO)) (fun u6 u7 k6 => pcA_bnd ?_)
  obtain ⟨sq6, h6, g6, f3, f11, f2⟩ := k6
  have h6 : XR t (hd3 t).1 u6 := h6
  have f3 : u6.1 3 = 0 := f3.trans c5.1
  have f11 : u6.1 11 = 0 := f11.trans c5.2
  have f2 : u6.2 = u5.2 := f2
  by_cases z5 : (hd3 t).1.2.1 = 0
  · have z4 : u6.1 4 = 0 := h6.2.1.trans z5
    rw [if_pos z4]
    obtain ⟨k1, k2, ek, hln, eln, hF, hn, hn2⟩ := hd_ok k0 h8 z5
    obtain ⟨e8, e9, e10, bw⟩ := g6 z5
    have e8 : u6.1 8 = hFm t := e8
    have e9 : u6.1 9 = nI (hdl t) := e9.trans eln
    have e10 : u6.1 10 = hNn t := e10
    have bw : BW (hLg t) Z u7 := bw
    rw [ek] at bw
    obtain ⟨r, hr, hD⟩ : ∃ r, tbE t (hLg t) (hd3 t).1 r ∧ ((¬ r.2.1 = 0 ∧ D = d0 r.1 r.2.1) ∨ (r.2.1 = 0 ∧ ∃ E, sS t (hFm t) (hLg t) (hdl t) 0 r (fun _ => 0) E ∧ ((¬ E.1.2.1 = 0 ∧ D = d0 E.1.1 E.1.2.1) ∨ (E.1.2.1 = 0 ∧ ((¬ (rowR t (hFm t) (hdk t) (hds t) (hdl t) (hdn t) 0 E (0, fun _ => 0)).1.1.2.1 = 0 ∧ D = (((rowR t (hFm t) (hdk t) (hds t) (hdl t) (hdn t) 0 E (0, fun _ => 0)).1.1.1, (rowR t (hFm t) (hdk t) (hds t) (hdl t) (hdn t) 0 E (0, fun _ => 0)).1.1.2.1), (rowR t (hFm t) (hdk t) (hds t) (hdl t) (hdn t) 0 E (0, fun _ => 0)).2, 1, hdl t, (rowR t (hFm t) (hdk t) (hds t) (hdl t) (hdn t) 0 E (0, fun _ => 0)).1.2)) ∨ ((rowR t (hFm t) (hdk t) (hds t) (hdl t) (hdn t) 0 E (0, fun _ => 0)).1.1.2.1 = 0 ∧ ∃ B, JG t (hFm t) (hLg t) (hdl t) (rowR t (hFm t) (hdk t) (hds t) (hdl t) (hdn t) 0 E (0, fun _ => 0)).1 B ∧ D = (((rowR t (hFm t) (hdk t) (hds t) (hdl t) (hdn t) 0 E (0, fun _ => 0)).1.1.1, B), (rowR t (hFm t) (hdk t) (hds t) (hdl t) (hdn t) 0 E (0, fun _ => 0)).2, 1, hdl t, (rowR t (hFm t) (hdk t) (hds t) (hdl t) (hdn t) 0 E (0, fun _ => 0)).1.2))))))) := by
      rcases hD with ⟨q, _⟩ | ⟨_, q⟩
      · exact absurd z5 q
      · exact q
    have hr' := hr
    rw [ek] at hr'
    have I6 : IR u6 := sq6.2.1
    have S6 : IS u7 := sq6.2.2.1
    refine pcA_oC2 (pc_and (pc_of_ok (s_X3_takeTable u6 u7 O I6 S6 hO.2)) (x_takeTable k1 k2 (s := (hd3 t).1) (r := r) u6 u7 Z O z5 hr' h6 bw hO)) (fun u11 u12 k11 => pcA_bnd ?_)
    obtain ⟨tq, t5, t4, tF, tg⟩ := k11
    have t5 : u11.1 5 = r.1 := t5
    have t4 : u11.1 4 = r.2.1 := t4
    have tF : XF u6 u11 := tF
    have IS12 : IS u12 := tq.2.1
    have g3 : u11.1 3 = 0 := (tF.1 3 (by decide) (by decide) (by decide) (by decide)).trans f3
    have g11 : u11.1 11 = 0 := (tF.1 11 (by decide) (by decide) (by decide) (by decide)).trans f11
    by_cases z8 : r.2.1 = 0
    · have y4 : u11.1 4 = 0 := t4.trans z8
      rw [if_pos y4]
      obtain ⟨x11, zt⟩ := tg z8
      have x11 : XR t r u11 := x11
      obtain ⟨E, hE, hD⟩ := (hD.resolve_left (fun q => q.1 z8)).2
      have hG : GSH (hdk t) (hds t) := by
        unfold hds
        rw [ek]
        exact tb_gsh k1 k2 hr' z8
      have zt : ZT (nI (hdk t)) (hds t) u12 := by
        unfold hds
        rw [ek]
        exact zt
      have b0 : r.2.2 = 0 := by rw [(tbE_0 hr z8).2.2]
      have ln4 : hdl t ≤ 4 := by omega
      have lk := sS_k (hdl t) 0 r (fun _ => 0) E hE b0 x11.2.2.2.2
      have v8 : u11.1 8 = hFm t := (tF.1 8 (by decide) (by decide) (by decide) (by decide)).trans e8
      have v9 : u11.1 9 = nI (hdl t) := (tF.1 9 (by decide) (by decide) (by decide) (by decide)).trans e9
      have v10 : u11.1 10 = hNn t := (tF.1 10 (by decide) (by decide) (by decide) (by decide)).trans e10
      refine pcA_oC1 (x_takeStates (F := hFm t) (lg := hLg t) k1 k2 ek (s := r) u11 u12 O (by rw [ek]; exact zt.2.1) v8 (hdl t) v9 ln4 z8 b0 (fun _ => 0) E hE x11 hO) (fun u16 k16 => pcA_bnd ?_)
      obtain ⟨s5, s4, sk16, sa16, sc16, s11, sg⟩ := k16
      have y3 : u16.1 3 = 0 := (sk16 3 (by decide) (by decide) (by decide) (by decide) (by decide)).trans g3
      by_cases zE : E.1.2.1 = 0
      · have y4 : u16.1 4 = 0 := s4.trans zE
        rw [if_pos y4]
        obtain ⟨x16, h11', hst⟩ := sg zE
        have hD := (hD.resolve_left (fun q => q.1 zE)).2
        have sp := inS_spf (F := hFm t) (ln := hdl t) k2 ek (fun i hi => sS_in (hdl t) 0 r (fun _ => 0) E hE zE (fun i hi => absurd hi (Nat.not_lt_zero i)) i (by omega))
        have w8 : u16.1 8 = hFm t := (sk16 8 (by decide) (by decide) (by decide) (by decide) (by decide)).trans v8
        have w9 : u16.1 9 = nI (hdl t) := (sk16 9 (by decide) (by decide) (by decide) (by decide) (by decide)).trans v9
        have w10 : u16.1 10 = hNn t := (sk16 10 (by decide) (by decide) (by decide) (by decide) (by decide)).trans v10
        have cap : CAPR u16 := by
          have ec : u16.2.2.2 2 = u5.2.2.2 2 := by rw [sc16, tF.2, f2]
          refine ⟨⟨by rw [y3]; decide, ?_⟩, ?_, ?_⟩
          · rw [y3, li_0]; omega
          · rw [ec]; exact p5.1
          · rw [ec]; exact p5.2
        have rtx : RTX (hdk t) (hds t) u12 := ⟨zt.1, zt.2.1, zt.2.2.2.1, zt.2.2.2.2⟩
        have row : ∀ z2 : OS, RTX2 (hFm t) (hdk t) (hds t) z2 → pcA (f_X3_takeRow_L17 O z2 FU (0 : Int32) u16) (fun v => XROW t (rowR t (hFm t) (hdk t) (hds t) (hdl t) (hdn t) 0 E (0, fun _ => 0)) (hdl t) u16 v.1 ∧ v.2 = z2) := by
          intro z2 hz2
          refine pcA_and (x_L17 (t := t) h8 hF hG hln (r6 := hNn t) (N := hdn t) hn hn2 O z2 hO hz2 u16 w8 w9 w10 _ FU (hdn t) 0 0 u16 E (0, fun _ => 0) rfl (by omega) li_0 zE (fun _ => lk.1) sp rfl x16 hst (fun _ _ _ _ _ _ => rfl) y3 (fun j hj => ?_) cap) (l17_z O z2 FU 0 u16)
          have hj : (j : Int) < (0 : Int32).toInt := hj
          rw [li_0] at hj
          omega
        -- the row is taken: what is left
        have fin : ∀ u20 u21 : OS, XROW t (rowR t (hFm t) (hdk t) (hds t) (hdl t) (hdn t) 0 E (0, fun _ => 0)) (hdl t) u16 u20 → u21.1 1 = (1 : Int32) <<< (hLg t &&& (31 : Int32)) → pcA (bnd (fun (u25 : OS) =>
  if (u25.1 4) = (0 : Int32) then (
  some ((u25, u21, (u25.1 3)), 0, 0)) else (
  some ((u25, u21, ((-10 : Int32) - (u25.1 5))), 0, 0))) fun K78_26 =>
  if (u20.1 4) = (0 : Int32) then (
  oC1 (f_X3_judgeEnd u20 u21 O) fun u29 =>
  K78_26 u29) else (
  K78_26 u20)) (fun q => XRES D q.1 ∧ q.2.2 = ansD D) := by
          intro u20 u21 hx hz1
          generalize rowR t (hFm t) (hdk t) (hds t) (hdl t) (hdn t) 0 E (0, fun _ => 0) = T at hD hx
          obtain ⟨xr, xs, x3, x2, xk⟩ := hx
          have q8 : u20.1 8 = hFm t := (xk 8 (by decide) (by decide) (by decide) (by decide) (by decide)).trans w8
          have q9 : u20.1 9 = nI (hdl t) := (xk 9 (by decide) (by decide) (by decide) (by decide) (by decide)).trans w9
          have q11 : u20.1 11 = 1 := (xk 11 (by decide) (by decide) (by decide) (by decide) (by decide)).trans h11'
          have res : ∀ (A B : Int32) (v : OS), v.1 5 = A → v.1 4 = B → XF u20 v → XRES ((A, B), T.2, 1, hdl t, T.1.2) v := by
            intro A B v a1 a2 hFv
            refine ⟨a1, a2, ?_, fun j hj => ?_, ?_, fun _ => ⟨?_, fun i hi => ?_⟩⟩
            · exact (hFv.1 3 (by decide) (by decide) (by decide) (by decide)).trans x3
            · rw [hFv.2]; exact x2 j hj
            · exact (hFv.1 11 (by decide) (by decide) (by decide) (by decide)).trans q11
            · exact (hFv.1 9 (by decide) (by decide) (by decide) (by decide)).trans q9
            · rw [hFv.2]; exact xs i hi
          refine pcA_bnd ?_
          by_cases zT : T.1.1.2.1 = 0
          · obtain ⟨B, hJ, hD⟩ := (hD.resolve_left (fun q => q.1 zT)).2
            rw [hD]
            have y4 : u20.1 4 = 0 := xr.2.1.trans zT
            rw [if_pos y4]
            refine pcA_oC1 (x_judgeEnd (F := hFm t) (lg := hLg t) k1 k2 ek ln4 u20 u21 O q8 q9 hz1 hO T.1 xr xs zT B hJ) (fun v hv => x_end v u21 (res _ _ v ?_ hv.1 hv.2.1))
            rw [hv.2.2]
            exact xr.1
          · have hD := (hD.resolve_right (fun q => zT q.1)).2
            rw [hD]
            have y4 : ¬ u20.1 4 = 0 := fun q => zT (xr.2.1.symm.trans q)
            rw [if_neg y4]
            exact x_end u20 u21 (res _ _ u20 xr.1 xr.2.1 XF.rf)
        have hz1 : u12.1 1 = (1 : Int32) <<< (hLg t &&& (31 : Int32)) := by rw [ek]; exact zt.2.1
        refine pcA_oA2 (R := fun q => XROW t (rowR t (hFm t) (hdk t) (hds t) (hdl t) (hdn t) 0 E (0, fun _ => 0)) (hdl t) u16 q.1 ∧ q.2.1 1 = (1 : Int32) <<< (hLg t &&& (31 : Int32))) ?_ (fun a b m n hab => pcA_addc (fin a b hab.1 hab.2))
        unfold f_X3_takeRow
        rw [w8]
        refine pcA_bnd (pcA_ite (fun f2' => ?_) (fun f2' => ?_))
        · have sh3 : SHN (u12.2.1 3) (2 ^ hdk t) := ⟨hG.2.2.1, fun i hi => by rw [rtx.2.2.1 i hi]; exact hG.2.2.2.1 i hi, by rw [psum_congr 32 (fun i hi => rtx.2.2.1 i hi)]; exact hG.2.2.2.2⟩
          refine pcA_oA1 (pcA_and (pcA_cq (s_X4_makeSpread u12 IS12)) (p_X4_makeSpread k1 k2 u12 IS12 zt.1 sh3 (fun j hj => by rw [rtx.2.2.2 j (by omega)]; exact (psum_congr j (fun i hi => rtx.2.2.1 i (by omega))).symm) (fun q => absurd zt.2.2.1 q))) (fun v m n hv => pcA_addc ?_)
          obtain ⟨⟨isv, _⟩, fk, sps⟩ := hv
          have spd := SPD.cg (sh2 := hds t) (fun i hi => by rw [fk.2.2.2.1]; exact (rtx.2.2.1 i hi).symm) sps.1
          have sa := SPD.sa hG spd
          have rv : RTX2 (hFm t) (hdk t) (hds t) v := by
            refine ⟨⟨by rw [fk.1]; exact zt.1, by rw [fk.2.1]; exact zt.2.1, fun i hi => by rw [fk.2.2.2.1]; exact rtx.2.2.1 i hi, fun j hj => by rw [fk.2.2.2.2]; exact rtx.2.2.2 j hj⟩, fun _ => ⟨sps.2, isv.2.2.2.2.2.1, (IS_n isv).1, sa.1, sa.2⟩⟩
          intro q m2 n2 e
          have rr := row v rv q m2 n2 e
          refine ⟨rr.1, ?_⟩
          rw [rr.2, fk.2.1]
          exact hz1
        · intro q m2 n2 e
          have rr := row u12 ⟨rtx, fun q => absurd q f2'⟩ q m2 n2 e
          refine ⟨rr.1, ?_⟩
          rw [rr.2]
          exact hz1
      · have hD := (hD.resolve_right (fun q => zE q.1)).2
        rw [hD]
        have y4 : ¬ u16.1 4 = 0 := fun q => zE (s4.symm.trans q)
        have y11 : u16.1 11 = 0 := (s11 zE).trans g11
        rw [if_neg y4]
        exact pcA_bnd (pcA_ite (fun q => absurd q y4) (fun _ => x_end u16 u12 (x0 s5 s4 y3 y11)))
    · have hD := (hD.resolve_right (fun q => z8 q.1)).2
      rw [hD]
      have y4 : ¬ u11.1 4 = 0 := fun q => z8 (t4.symm.trans q)
      rw [if_neg y4]
      exact pcA_bnd (pcA_ite (fun q => absurd q y4) (fun _ => pcA_bnd (pcA_ite (fun q => absurd q y4) (fun _ => x_end u11 u12 (x0 t5 t4 g3 g11)))))
  · have hD : D = d0 (hd3 t).1.1 (hd3 t).1.2.1 := (hD.resolve_right (fun q => z5 q.1)).2
    rw [hD]
    have y4 : ¬ u6.1 4 = 0 := fun q => z5 (h6.2.1.symm.trans q)
    rw [if_neg y4]
    exact pcA_bnd (pcA_ite (fun q => absurd q y4) (fun _ => pcA_bnd (pcA_ite (fun q => absurd q y4) (fun _ => pcA_bnd (pcA_ite (fun q => absurd q y4) (fun _ => x_end u6 u7 (x0 h6.1 h6.2.1 f3 f11)))))))

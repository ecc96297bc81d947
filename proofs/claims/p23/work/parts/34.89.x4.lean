theorem MST.ls {lg : Int32} {s : SS} {u v : OS} (h : MST lg s u) (hl : LSD u v) : MST lg s v := by
  obtain ⟨a, b, c⟩ := h
  unfold MST
  rw [hl.1 0 (by decide) (by decide), hl.1 20 (by decide) (by decide), hl.2]
  exact ⟨a, b, c⟩
set_option maxHeartbeats 2000000 in
theorem p_X7_writeSides_L2 {g : GH} {k : Nat} (h1 : 5 ≤ k) (h2 : k ≤ 12) (lg : Int32) (hlg : lg = nI k) (pf : Nat → Int32) (p1 : Int32) (l p : Nat) (hp1 : p1.toInt = l) (hl : l < 4) (hp : p < 32) (u0 : OS) {Q : OS → Prop} (K : Int32 → OS → Option OS) (T : SS) (hK : ∀ x v, MST lg T v → IM g v → ST v 0 2147483648 → WV u0 v → (u0.1 20).toInt ≤ (v.1 20).toInt → (v.1 20).toInt ≤ (u0.1 20).toInt + 10 → pc (K x v) Q) : ∀ (n m : Nat) (x : Int32) (u : OS) (s : SS), x.toInt = (m : Int) - 1 → m ≤ 5 → lvs lg ((1 : Int32) <<< (lg &&& (31 : Int32))) pf l p m s = T → MST lg s u → IM g u → ST u 0 2147483648 → WV u0 u → PFX (u0.2.1 8) pf → 0 ≤ (u0.1 20).toInt → (u0.1 20).toInt ≤ (u.1 20).toInt → (u.1 20).toInt ≤ (u0.1 20).toInt + 2 * (5 - (m : Int)) → (u0.1 20).toInt + 10 ≤ 70000 → pc (f_X7_writeSides_L2 p1 (nI p) n K x u) Q := by
  intro n
  induction n with
  | zero => intro m x u s _ _ _ _ _ _ _ _ _ _ _ _; exact pc_none
  | succ n ih =>
    intro m x u s hx hm hT h hI hS hW hPF b0 b1 b2 b3
    unfold f_X7_writeSides_L2
    refine pc_ite (fun d => ?_) (fun d => ?_)
    · have d1 := Int32.lt_iff_toInt_lt.mp d
      rw [li_0, hx] at d1
      have : m = 0 := by omega
      subst this
      have hT : s = T := hT
      rw [← hT] at hK
      exact hK _ _ h hI hS hW b1 (by omega)
    · have d1 := mt Int32.lt_iff_toInt_lt.mpr d
      rw [li_0, hx] at d1
      obtain ⟨x', rfl⟩ : ∃ x', m = x' + 1 := ⟨m - 1, by omega⟩
      have hx5 : x' < 5 := by omega
      have ex : x = nI x' := by
        refine Int32.toInt_inj.mp ?_
        rw [hx, nI_toInt (by omega)]
        omega
      have e1 := dec32 (x := x) (by omega)
      have m1 : (x + (-1 : Int32)).toInt = (x' : Int) - 1 := by
        rw [e1, hx]
        omega
      have e8 : u.2.1 8 = u0.2.1 8 := hW.2.1 8 (by decide)
      have hPu : PFX (u.2.1 8) pf := by rw [e8]; exact hPF
      have nd := (nd_3 x' hx5 p hp).2.2
      have pp := Nat.two_pow_pos (4 - x')
      have sk := sk32 h1 h2 hlg
      have ak := (powA k (by omega) h1).2.2.2.2.2
      have hT : lvs lg ((1 : Int32) <<< (lg &&& (31 : Int32))) pf l p x' (lv3 lg ((1 : Int32) <<< (lg &&& (31 : Int32))) pf l p x' s) = T := hT
      rw [ex]
      refine pc_oC1 (p_X7_laySides u x' p hx5 hp hPu.1 hPu.2.1) (fun v hv => ?_)
      obtain ⟨v1, v2, v3⟩ := hv
      have t22 : v.1 22 = dT pf x' p := Int32.toInt_inj.mp (by rw [v2]; exact ((hPu.d (by omega) nd.1).1).symm)
      have t23 : v.1 23 = dL pf x' p := Int32.toInt_inj.mp (by rw [v3]; exact ((hPu.d (by omega) (by omega)).1).symm)
      have e20 : v.1 20 = u.1 20 := v1.1 20 (by decide) (by decide)
      have hv0 : v.1 0 = lg := (h.ls v1).1
      have hWv := hW.tr v1.wv
      have keep : ∀ w : OS, MST lg (lv3 lg ((1 : Int32) <<< (lg &&& (31 : Int32))) pf l p x' s) w → IM g w → ST w 0 2147483648 → WV u0 w → (u.1 20).toInt ≤ (w.1 20).toInt → (w.1 20).toInt ≤ (u.1 20).toInt + 2 → pc (f_X7_writeSides_L2 p1 (nI p) n K (nI x' + (-1 : Int32)) w) Q := by
        intro w a1 a2 a3 a4 a5 a6
        exact ih x' _ w _ (by rw [← ex]; exact m1) (by omega) hT a1 a2 a3 a4 hPF b0 (by omega) (by omega) b3
      rw [t22, t23, hv0]
      refine pc_ite (fun z => ?_) (fun z => pc_ite (fun z2 => ?_) (fun z2 => ?_))
      · refine pc_bnd (keep v ?_ (v1.im hI) (v1.st hS) hWv (by rw [e20]; exact Int.le_refl _) (by rw [e20]; omega))
        unfold lv3
        rw [if_pos z]
        exact h.ls v1
      · refine pc_bnd (keep v ?_ (v1.im hI) (v1.st hS) hWv (by rw [e20]; exact Int.le_refl _) (by rw [e20]; omega))
        unfold lv3
        rw [if_neg z, if_pos z2]
        exact h.ls v1
      · refine pc_oC1 (p_X7_sideChance v _) (fun r hr => ?_)
        rw [t22, t23] at hr
        have cb := chn_b (sz := (1 : Int32) <<< (lg &&& (31 : Int32))) (l := dL pf x' p) (t := dT pf x' p) (by rw [sk]; omega)
        rw [← hr, sk] at cb
        have hl0 : v.1 0 = nI k := hv0.trans hlg
        have sl := (v1.st hS) l hl
        have sl2 : v.2.2.1 16 l = s.2 l := (h.ls v1).2.2 l hl
        rw [sl2] at sl
        have l0 : 0 ≤ p1.toInt := by omega
        have l1 : p1.toInt < 4 := by omega
        have c20 : 0 ≤ (v.1 20).toInt := by rw [e20]; omega
        have c21 : (v.1 20).toInt + 2 ≤ 70000 := by rw [e20]; omega
        have es : (((1 : Int32) <<< (lg &&& (31 : Int32))) - r).toInt = ((2 ^ k : Nat) : Int) - r.toInt := by rw [sub32 (by rw [sk]; omega) (by rw [sk]; omega), sk]
        refine pc_ite (fun z3 => ?_) (fun z3 => ?_)
        · refine pc_oC1 (pc_and (pc_of_ok (s_X7_writeBytes v p1 r 0 (v1.im hI) h1 h2 hl0 l0 l1 cb.1 (by decide) (by rw [li_0]; omega) c20 c21 (v1.st hS))) (p_X7_writeBytes v p1 r 0 l hp1 hl (h.ls v1) (rn8_lt h1 h2 hlg cb.1 (by omega) sl.1 sl.2))) (fun w hw => pc_bnd (keep w ?_ hw.1.1 hw.1.2.2.1 (hWv.tr hw.1.2.1) (by have := hw.1.2.2.2.1; rw [e20] at this; exact this) (by have := hw.1.2.2.2.2; rw [e20] at this; exact this)))
          unfold lv3
          rw [if_neg z, if_neg z2, if_pos z3, ← hr]
          exact hw.2.1
        · refine pc_oC1 (pc_and (pc_of_ok (s_X7_writeBytes v p1 _ r (v1.im hI) h1 h2 hl0 l0 l1 (by rw [es]; omega) (by omega) (by rw [es]; omega) c20 c21 (v1.st hS))) (p_X7_writeBytes v p1 _ r l hp1 hl (h.ls v1) (rn8_lt h1 h2 hlg (by rw [es]; omega) (by rw [es]; omega) sl.1 sl.2))) (fun w hw => pc_bnd (keep w ?_ hw.1.1 hw.1.2.2.1 (hWv.tr hw.1.2.1) (by have := hw.1.2.2.2.1; rw [e20] at this; exact this) (by have := hw.1.2.2.2.2; rw [e20] at this; exact this)))
          unfold lv3
          rw [if_neg z, if_neg z2, if_neg z3, ← hr]
          exact hw.2.1

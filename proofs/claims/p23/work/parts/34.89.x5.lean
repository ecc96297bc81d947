theorem PFX.in_ {sh pf : Nat → Int32} (h : PFX sh pf) {a b p : Nat} (h1 : a ≤ p) (h2 : p < b) (hb : b ≤ 32) : (sh p).toInt ≤ (pf b - pf a).toInt := by
  have d := (h.d (a := a) (b := b) (by omega) hb).1
  have m1 := psum_mono (f := sh) (N := 32) h.1 h1 (by omega)
  have m2 := psum_mono (f := sh) (N := 32) (m := p + 1) (n := b) h.1 (by omega) hb
  have e : psum sh (p + 1) = psum sh p + (sh p).toInt := rfl
  omega
theorem p_widen_all {lg q r p f : Int32} (W P : OS) (q0 : ¬ q ≤ (0 : Int32)) (hq : q = ((1 : Int32) <<< (lg &&& (31 : Int32)))) : pc (f_X5_widen W P p q r lg f) (fun v => v = (W, P)) := by
  unfold f_X5_widen
  rw [if_neg q0, if_neg]
  · exact pc_some rfl
  · rw [hq]
    exact fun z => Int32.lt_irrefl z
theorem rn8_n (B : Int64) (y : Int64) (t : OT) (h0 : 0 ≤ t.1.toInt) (h1 : t.1.toInt ≤ 10000) : t.1.toInt ≤ (rn8 B 2 (y, t)).2.1.toInt ∧ (rn8 B 2 (y, t)).2.1.toInt ≤ t.1.toInt + 2 := by
  have e : rn8 B 2 (y, t) = if y < B then (y, t) else (if (y >>> (((8 : Int32)).toInt64 &&& (63 : Int64))) < B then (y >>> (((8 : Int32)).toInt64 &&& (63 : Int64)), ap t y.toInt32) else ((y >>> (((8 : Int32)).toInt64 &&& (63 : Int64))) >>> (((8 : Int32)).toInt64 &&& (63 : Int64)), ap (ap t y.toInt32) (y >>> (((8 : Int32)).toInt64 &&& (63 : Int64))).toInt32)) := rfl
  have a1 := ap_n t y.toInt32 (by omega)
  have a2 := ap_n (ap t y.toInt32) (y >>> (((8 : Int32)).toInt64 &&& (63 : Int64))).toInt32 (by omega)
  rw [e]
  by_cases c : y < B
  · rw [if_pos c]
    show t.1.toInt ≤ t.1.toInt ∧ t.1.toInt ≤ t.1.toInt + 2
    omega
  · rw [if_neg c]
    by_cases d : (y >>> (((8 : Int32)).toInt64 &&& (63 : Int64))) < B
    · rw [if_pos d]
      show t.1.toInt ≤ (ap t y.toInt32).1.toInt ∧ (ap t y.toInt32).1.toInt ≤ t.1.toInt + 2
      omega
    · rw [if_neg d]
      show t.1.toInt ≤ (ap (ap t y.toInt32) (y >>> (((8 : Int32)).toInt64 &&& (63 : Int64))).toInt32).1.toInt ∧ (ap (ap t y.toInt32) (y >>> (((8 : Int32)).toInt64 &&& (63 : Int64))).toInt32).1.toInt ≤ t.1.toInt + 2
      omega
theorem lv3_n (lg sz : Int32) (pf : Nat → Int32) (l p x : Nat) (s : SS) (h0 : 0 ≤ s.1.1.toInt) (h1 : s.1.1.toInt ≤ 10000) : s.1.1.toInt ≤ (lv3 lg sz pf l p x s).1.1.toInt ∧ (lv3 lg sz pf l p x s).1.1.toInt ≤ s.1.1.toInt + 2 := by
  unfold lv3
  by_cases a : dL pf x p ≤ (0 : Int32)
  · rw [if_pos a]; omega
  · rw [if_neg a]
    by_cases b : dT pf x p ≤ dL pf x p
    · rw [if_pos b]; omega
    · rw [if_neg b]
      by_cases c : ((nI p >>> (((4 : Int32) - nI x) &&& (31 : Int32))) &&& (1 : Int32)) = (0 : Int32)
      · rw [if_pos c]
        exact rn8_n _ _ s.1 h0 h1
      · rw [if_neg c]
        exact rn8_n _ _ s.1 h0 h1
-- the class's object of shares, seen by a writer
def SW (lg : Int32) (sh : Nat → Int32) (u : OS) : Prop := u.1 0 = lg ∧ u.1 1 = (1 : Int32) <<< (lg &&& (31 : Int32)) ∧ PFX sh (u.2.1 4)
set_option maxHeartbeats 2000000 in
theorem p_X5_putTwoSided_L3 {k : Nat} (h1 : 5 ≤ k) (h2 : k ≤ 12) (lg : Int32) (hlg : lg = nI k) (sh : Nat → Int32) (uS : OS) (hSW : SW lg sh uS) (p1 : Int32) (l p : Nat) (hp1 : p1.toInt = l) (hl : l < 4) (hp : p < 32) (hpos : 1 ≤ (sh p).toInt) (W0 : OS) (cap : Nat → Nat) {Q : OS × OS → Prop} (K : Int32 → OS → OS → Option (OS × OS)) (T : SS) (hK : ∀ x W P, (∀ i, i < 4 → W.2.2.1 0 i = T.2 i) → PST T.1 P → P.2.2.2 = cap → W.1 = W0.1 → pc (K x W P) Q) : ∀ (n m : Nat) (x : Int32) (W P : OS) (s : SS), x = nI (2 ^ (5 - m)) → m ≤ 5 → lvs lg ((1 : Int32) <<< (lg &&& (31 : Int32))) (uS.2.1 4) l p m s = T → (∀ i, i < 4 → W.2.2.1 0 i = s.2 i) → PST s.1 P → P.2.2.2 = cap → W.1 = W0.1 → s.1.1.toInt + 2 * m ≤ cap 0 → pc (f_X5_putTwoSided_L3 p1 (nI p) uS n K x W P) Q := by
  intro n
  induction n with
  | zero => intro m x W P s _ _ _ _ _ _ _ _; exact pc_none
  | succ n ih =>
    intro m x W P s hx hm hT hW hP hcap hW1 hc
    unfold f_X5_putTwoSided_L3
    rcases Nat.eq_zero_or_pos m with q | q
    · subst q
      have e32 : x = (32 : Int32) := by rw [hx]; rfl
      rw [if_pos (by rw [e32]; exact Int32.le_refl _)]
      have hT : s = T := hT
      rw [← hT] at hK
      exact hK _ _ _ hW hP hcap hW1
    · obtain ⟨x', rfl⟩ : ∃ x', m = x' + 1 := ⟨m - 1, by omega⟩
      have hx5 : x' < 5 := by omega
      have e4 : 5 - (x' + 1) = 4 - x' := by omega
      rw [e4] at hx
      obtain ⟨w1, w2, w3⟩ := pw_5 x' hx5
      have lt32 : ¬ (32 : Int32) ≤ x := fun z => by
        have := Int32.le_iff_toInt_le.mp z
        rw [li_32, hx, w1] at this
        omega
      rw [if_neg lt32]
      obtain ⟨n1, n2, n3, n4, n5⟩ := nd_3 x' hx5 p hp
      have bit := (nd_2 x' hx5 p hp p hp).resolve_left (fun z => z ⟨n4, n5⟩)
      have sk := sk32 h1 h2 hlg
      have ak := (powA k (by omega) h1).2.2.2.2.2
      have hsz : 2 ≤ (uS.1 1).toInt := by rw [hSW.2.1, sk]; omega
      have pp := Nat.two_pow_pos (4 - x')
      have hT : lvs lg ((1 : Int32) <<< (lg &&& (31 : Int32))) (uS.2.1 4) l p x' (lv3 lg ((1 : Int32) <<< (lg &&& (31 : Int32))) (uS.2.1 4) l p x' s) = T := hT
      have e2 : x * (2 : Int32) = nI (2 ^ (5 - x')) := by
        refine Int32.toInt_inj.mp ?_
        have pe : 2 ^ (5 - x') = 2 * 2 ^ (4 - x') := by
          rw [show 5 - x' = (4 - x') + 1 by omega, Nat.pow_succ]
          omega
        rw [hx, mul32 (by rw [w1, li_2]; omega) (by rw [w1, li_2]; omega), w1, li_2, nI_toInt (by omega), pe]
        omega
      have hc8 : cap 0 ≤ 8000 := by rw [← hcap]; exact hP.2.2.2
      have hstep := lv3_n lg ((1 : Int32) <<< (lg &&& (31 : Int32))) (uS.2.1 4) l p x' s hP.1 (by omega)
      have go : ∀ W' P', (∀ i, i < 4 → W'.2.2.1 0 i = (lv3 lg ((1 : Int32) <<< (lg &&& (31 : Int32))) (uS.2.1 4) l p x' s).2 i) → PST (lv3 lg ((1 : Int32) <<< (lg &&& (31 : Int32))) (uS.2.1 4) l p x' s).1 P' → P'.2.2.2 = cap → W'.1 = W0.1 → pc (f_X5_putTwoSided_L3 p1 (nI p) uS n K (x * (2 : Int32)) W' P') Q := by
        intro W' P' a1 a2 a3 a4
        exact ih x' _ W' P' _ e2 (by omega) hT a1 a2 a3 a4 (by omega)
      have hPF := hSW.2.2
      have dTn := hPF.d (a := frm x' p) (b := frm x' p + 2 * 2 ^ (4 - x')) (by omega) n3
      have dLn := hPF.d (a := frm x' p) (b := frm x' p + 2 ^ (4 - x')) (by omega) (by omega)
      have mid := psum_mono (f := sh) (N := 32) (m := frm x' p + 2 ^ (4 - x')) (n := frm x' p + 2 * 2 ^ (4 - x')) hPF.1 (by omega) n3
      have inT := hPF.in_ (a := frm x' p) (b := frm x' p + 2 * 2 ^ (4 - x')) (p := p) n4 n5 n3
      have inL : p < frm x' p + 2 ^ (4 - x') → (sh p).toInt ≤ (dL (uS.2.1 4) x' p).toInt := fun z => hPF.in_ (a := frm x' p) (b := frm x' p + 2 ^ (4 - x')) (p := p) n4 z (by omega)
      have inR : ¬ p < frm x' p + 2 ^ (4 - x') → (dL (uS.2.1 4) x' p).toInt + (sh p).toInt ≤ (dT (uS.2.1 4) x' p).toInt := by
        intro z
        have i2 := hPF.in_ (a := frm x' p + 2 ^ (4 - x')) (b := frm x' p + 2 * 2 ^ (4 - x')) (p := p) (by omega) n5 n3
        have d2 := hPF.d (a := frm x' p + 2 ^ (4 - x')) (b := frm x' p + 2 * 2 ^ (4 - x')) (by omega) n3
        have eL : (dL (uS.2.1 4) x' p).toInt = psum sh (frm x' p + 2 ^ (4 - x')) - psum sh (frm x' p) := dLn.1
        have eT : (dT (uS.2.1 4) x' p).toInt = psum sh (frm x' p + 2 * 2 ^ (4 - x')) - psum sh (frm x' p) := dTn.1
        omega
      have dT1 : 1 ≤ (dT (uS.2.1 4) x' p).toInt := Int.le_trans hpos inT
      have dL0 : 0 ≤ (dL (uS.2.1 4) x' p).toInt := dLn.2
      have dLT : (dL (uS.2.1 4) x' p).toInt ≤ (dT (uS.2.1 4) x' p).toInt := by
        have eL : (dL (uS.2.1 4) x' p).toInt = psum sh (frm x' p + 2 ^ (4 - x')) - psum sh (frm x' p) := dLn.1
        have eT : (dT (uS.2.1 4) x' p).toInt = psum sh (frm x' p + 2 * 2 ^ (4 - x')) - psum sh (frm x' p) := dTn.1
        omega
      rw [hx, n1]
      refine pc_oC1 (p_X4_shareOfZero uS x' p hx5 hp hsz) (fun r hr => ?_)
      have hr : r = sz0 (uS.1 1) (dL (uS.2.1 4) x' p) (dT (uS.2.1 4) x' p) := hr
      rw [hSW.2.1] at hr ⊢
      rw [hSW.1]
      clear dTn dLn mid inT hsz
      generalize hdL : dL (uS.2.1 4) x' p = L at *
      generalize hdT : dT (uS.2.1 4) x' p = D at *
      have nD : ¬ D ≤ (0 : Int32) := fun z => by
        have := i0_le.mp z
        omega
      have eLv : lv3 lg ((1 : Int32) <<< (lg &&& (31 : Int32))) (uS.2.1 4) l p x' s = if L ≤ (0 : Int32) then s else if D ≤ L then s else if ((nI p >>> (((4 : Int32) - nI x') &&& (31 : Int32))) &&& (1 : Int32)) = (0 : Int32) then sgB lg (chn ((1 : Int32) <<< (lg &&& (31 : Int32))) L D) 0 l s else sgB lg (((1 : Int32) <<< (lg &&& (31 : Int32))) - chn ((1 : Int32) <<< (lg &&& (31 : Int32))) L D) (chn ((1 : Int32) <<< (lg &&& (31 : Int32))) L D) l s := by
        unfold lv3
        rw [hdL, hdT]
      rw [hx] at go
      rw [eLv] at go
      clear eLv hstep
      have szp : ¬ ((1 : Int32) <<< (lg &&& (31 : Int32))) ≤ (0 : Int32) := fun z => by
        have := i0_le.mp z
        rw [sk] at this
        omega
      by_cases cA : L ≤ (0 : Int32)
      · have a1 := i0_le.mp cA
        have eL0 : L = 0 := Int32.toInt_inj.mp (by rw [li_0]; omega)
        have np : ¬ p < frm x' p + 2 ^ (4 - x') := fun z => by
          have := inL z
          omega
        have nb : ¬ (nI p &&& nI (2 ^ (4 - x'))) = (0 : Int32) := fun z => np (bit.mp (n2.mp z))
        have er : r = 0 := by
          rw [hr]
          unfold sz0
          rw [if_neg nD, if_neg (fun z => nD (by rw [← z]; exact cA)), if_pos eL0]
        rw [if_neg nb, er, Int32.sub_zero]
        rw [if_pos cA] at go
        refine pc_oC2 (p_widen_all W P szp rfl) (fun a b hab => pc_bnd ?_)
        cases hab
        exact go W P hW hP hcap hW1
      · rw [if_neg cA] at go
        have a1 := mt i0_le.mpr cA
        by_cases cB : D ≤ L
        · have b1 := Int32.le_iff_toInt_le.mp cB
          have eLD : L = D := Int32.toInt_inj.mp (by omega)
          have pl : p < frm x' p + 2 ^ (4 - x') := by
            rcases Nat.lt_or_ge p (frm x' p + 2 ^ (4 - x')) with z | z
            · exact z
            · have := inR (by omega)
              omega
          have pb : (nI p &&& nI (2 ^ (4 - x'))) = (0 : Int32) := n2.mpr (bit.mpr pl)
          have er : r = (1 : Int32) <<< (lg &&& (31 : Int32)) := by
            rw [hr]
            unfold sz0
            rw [if_neg nD, if_pos eLD]
          rw [if_pos pb, er]
          rw [if_pos cB] at go
          refine pc_oC2 (p_widen_all W P szp rfl) (fun a b hab => pc_bnd ?_)
          cases hab
          exact go W P hW hP hcap hW1
        · rw [if_neg cB] at go
          have b1 := mt Int32.le_iff_toInt_le.mpr cB
          have er : r = chn ((1 : Int32) <<< (lg &&& (31 : Int32))) L D := by
            rw [hr]
            unfold sz0
            rw [if_neg nD, if_neg (fun z => cB (by rw [z]; exact Int32.le_refl _)), if_neg (fun z => cA (by rw [z]; exact Int32.le_refl _))]
          have cb := chn_b (sz := (1 : Int32) <<< (lg &&& (31 : Int32))) (l := L) (t := D) (by rw [sk]; omega)
          rw [← er] at cb go
          have es : (((1 : Int32) <<< (lg &&& (31 : Int32))) - r).toInt = ((1 : Int32) <<< (lg &&& (31 : Int32))).toInt - r.toInt := sub32 (by omega) (by omega)
          have hc2 : s.1.1.toInt + 2 ≤ P.2.2.2 0 := by rw [hcap]; omega
          by_cases pb : (nI p &&& nI (2 ^ (4 - x'))) = (0 : Int32)
          · rw [if_pos pb]
            rw [if_pos (n2.mp pb)] at go
            refine pc_oC2 (p_X5_widenB W P l hp1 hl (by decide) hW hP hc2 (fun z => by have := i0_le.mp z; omega) (Int32.lt_iff_toInt_lt.mpr (by omega))) (fun a b hab => pc_bnd (go a b hab.1 hab.2.1 (hab.2.2.1.trans hcap) (hab.2.2.2.trans hW1)))
          · rw [if_neg pb]
            rw [if_neg (fun z => pb (n2.mpr z))] at go
            refine pc_oC2 (p_X5_widenB W P l hp1 hl (by decide) hW hP hc2 (fun z => by have := i0_le.mp z; omega) (Int32.lt_iff_toInt_lt.mpr (by omega))) (fun a b hab => pc_bnd (go a b hab.1 hab.2.1 (hab.2.2.1.trans hcap) (hab.2.2.2.trans hW1)))

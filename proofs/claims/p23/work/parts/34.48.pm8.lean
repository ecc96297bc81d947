set_option maxHeartbeats 4000000 in
theorem s_X7_lay_L119 {p1 x2 : Int32} {p N : Nat} (hp : p1.toInt = p) (h1 : p ≤ 1) (h2 : x2.toInt = N) (hN : two N) (u0 : OS) (hsh : ∀ t, t < 32 → 0 ≤ (shr u0 p t).toInt) (hsum : psum (shr u0 p) 32 = N) (hLY : LY u0 p) (hcnt : ∀ s, s < 32 → (cw (plc u0 p) (fun _ => true) (nI s) N : Int) ≤ (shr u0 p s).toInt) {Q : OS → Prop} (K : Int32 → OS → Option OS)
    (hK : ∀ (a : Int32) (u : OS), FC u0 u → R13 u → (∀ i, i < N → (plc u0 p i).toInt < 32 → NO u p N i) → ok (K a u) Q) :
    ∀ (n : Nat) (x12 : Int32) (u : OS) (s : Nat), x12 = nI s → s ≤ 32 → 32 - s < n → FC u0 u → R13 u → (∀ i, i < N → (plc u0 p i).toInt < s → NO u p N i) → ok (f_X7_lay_L119 p1 x2 n K x12 u) Q := by
  intro n
  induction n with
  | zero => intro x12 u s _ _ hn; omega
  | succ n ih =>
    intro x12 u s hx hs hn hF hR hA
    have hx2 : x12.toInt = s := by rw [hx, nI_toInt (by omega)]
    have hN1 : 32 ≤ N ∧ N ≤ 4096 := by unfold two at hN; omega
    unfold f_X7_lay_L119
    refine ok_ite (fun d => hK _ _ hF hR ?_) (fun d => ?_)
    · have d1 := Int32.le_iff_toInt_le.mp d
      rw [li_32] at d1
      intro i hi q
      exact hA i hi (by omega)
    · have d1 := mt Int32.le_iff_toInt_le.mpr d
      rw [li_32] at d1
      have hs3 : s < 32 := by omega
      have e1 : x12 + (1 : Int32) = nI (s + 1) := by rw [hx, nI_1]
      refine ok_bnd (s_X7_lay_L132 hp h1 h2 hN hx hs3 u0 hsh hsum hLY (hcnt s hs3) _ ?_ FU _ _ _ 0 (by decide) (by omega) (by show N - 0 < 100000; omega) (by rw [li_0]; rfl) hF hR hA (fun i hi => absurd hi (Nat.not_lt_zero i)))
      intro a b v hF' hR' hA' hB'
      refine ok_bnd (ih _ _ (s + 1) e1 (by omega) (by omega) hF' hR' ?_)
      intro i hi q
      rcases Int.lt_or_le (plc u0 p i).toInt s with r | r
      · exact hA' i hi r
      · refine hB' i hi (Int32.toInt_inj.mp ?_)
        rw [nI_toInt (by omega)]
        omega
def LYP (p N : Nat) (u v : OS) : Prop := v.1 = u.1 ∧ (∀ k, k ≠ 9 → k ≠ 11 → k ≠ 12 → k ≠ 13 → v.2.1 k = u.2.1 k) ∧ v.2.2 = u.2.2 ∧ LY v p ∧ (∀ i, i < 32 * p → v.2.1 9 i = u.2.1 9 i) ∧ R11 v ∧ R13 v ∧ (∀ i, i < N → NO v p N i)
theorem two_of {g : Int32} {N : Nat} (h1 : 5 ≤ g.toInt) (h2 : g.toInt ≤ 12) (h : (N : Int) = 2 ^ g.toInt.toNat) : two N := by
  unfold two
  rcases (show g.toInt.toNat = 5 ∨ g.toInt.toNat = 6 ∨ g.toInt.toNat = 7 ∨ g.toInt.toNat = 8 ∨ g.toInt.toNat = 9 ∨ g.toInt.toNat = 10 ∨ g.toInt.toNat = 11 ∨ g.toInt.toNat = 12 by omega) with e | e | e | e | e | e | e | e <;> rw [e] at h <;> omega
set_option maxHeartbeats 4000000 in
theorem s_X7_lay (u : OS) {p1 : Int32} {p N : Nat} (hp : p1.toInt = p) (h1 : p ≤ 1) (g1 : 5 ≤ (u.2.1 10 p).toInt) (g2 : (u.2.1 10 p).toInt ≤ 12) (hN : (N : Int) = 2 ^ (u.2.1 10 p).toInt.toNat) (hR11 : R11 u) (hR13 : R13 u) (hS : SH u p N) : ok (f_X7_lay u p1) (LYP p N u) := by
  have hN2 := two_of g1 g2 hN
  have hN1 : 32 ≤ N ∧ N ≤ 4096 := by unfold two at hN2; omega
  have ep : p1.toNatClampNeg = p := by
    show p1.toInt.toNat = p
    omega
  have sz := sz32 g1 g2
  unfold f_X7_lay
  refine ok_gdi (by omega) (by omega) ?_
  rw [ep]
  refine ok_bnd (ok_bnd (s_X7_lay_L17 hp h1 (by rw [sz.1, hN]) hN2 u hS.1 hS.2 _ ?_ FU _ _ _ _ 0 (fun _ => false) 0 (by decide) (by decide) (by decide) ⟨rfl, fun _ _ _ => rfl, rfl, fun _ _ => rfl⟩ hR11 (fun t ht => absurd ht (Nat.not_lt_zero t)) (by rw [li_0]; rfl) rfl (by rw [li_0, Nat.zero_mul, Nat.zero_mod]; rfl) (fun j hj => absurd hj (Nat.not_lt_zero j)) ?_))
  · intro x5 x4 x3 v w hF hR hLY hw hC
    have esh : shr v p = shr u p := shr_eq (hF.2.1 8 (by decide) (by decide))
    have hwa : ∀ i, i < N → w i = true := by
      intro i hi
      obtain ⟨j, hj, e⟩ := stp_all hN2 i hi
      rw [← e]
      exact hw j hj
    refine ok_bnd (s_X7_lay_L119 hp h1 (by rw [sz.1, hN]) hN2 v (by rw [esh]; exact hS.1) (by rw [esh]; exact hS.2) hLY ?_ _ ?_ FU _ _ 0 (by decide) (by decide) (by decide) ⟨rfl, fun _ _ _ => rfl, rfl⟩ ?_ ?_)
    · intro s hs
      rw [cw_all N hwa, esh]
      have q := hC s hs
      rw [if_pos hs] at q
      exact q
    · intro a z hF' hR' hA'
      refine ok_some ⟨hF'.1.trans hF.1, fun k a b c d => ?_, hF'.2.2.trans hF.2.2.1, ?_, fun i hi => ?_, ?_, hR', ?_⟩
      · rw [hF'.2.1 k c d, hF.2.1 k a b]
      · intro s hs
        rw [shr_eq (hF'.2.1 8 (by decide) (by decide)), hF'.2.1 9 (by decide) (by decide)]
        exact hLY s hs
      · rw [hF'.2.1 9 (by decide) (by decide)]
        exact hF.2.2.2 i hi
      · intro i
        rw [hF'.2.1 11 (by decide) (by decide)]
        exact hR i
      · intro i hi
        exact hA' i hi (hR _).2
    · intro i
      rw [hF.2.1 13 (by decide) (by decide)]
      exact hR13 i
    · intro i _ q
      have := (hR (4096 * p + i)).1
      exact absurd q (by show ¬ (v.2.1 11 (4096 * p + i)).toInt < ((0 : Nat) : Int); omega)
  · intro t ht
    have z : ∀ n, cw (plc u p) (fun _ => false) (nI t) n = 0 := by
      intro n
      induction n with
      | zero => rfl
      | succ n ih =>
        unfold cw
        rw [ih, if_neg (fun q => by cases q.1)]
    rw [z N, if_neg (Nat.not_lt_zero t)]
    by_cases q : t = 0
    · rw [if_pos q]; exact Int.le_refl _
    · rw [if_neg q]; exact Int.le_refl _
set_option maxHeartbeats 1000000 in
theorem s_X7_normal {g : GH} (u : OS) (h : IM g u) : ok (f_X7_normal u) (fun q => IM (g_normal g) q.1 ∧ q.2.toInt = if cpos g.1.2.2 32 = 0 then -2 else cpos g.1.2.2 32) := by
  have h0 := h.1
  have hg := IM_g h
  have ecn : u.2.1 6 = g.1.2.2 := hg.2.2.2.2
  have elg : u.1 0 = g.2.1 := h.2.2.2.2.2.1.2
  have sz := sz32 h0.1 h0.2
  unfold f_X7_normal
  have h2 : IM (f0 g) (sF (sF u 1 (0 : Int32)) 7 (0 : Int32)) := IM_7 (IM_1 h)
  refine ok_bnd (ok_bnd (ok_oC1 (s_X7_signsCounted _) (fun r3 hr => ok_ite (fun c => ?_) (fun c => ?_))))
  · have hr : r3.toInt = cpos (u.2.1 6) 32 := hr
    have z : cpos g.1.2.2 32 = 0 := by rw [← ecn, ← hr, c, li_0]
    unfold g_normal
    rw [if_pos z, if_pos z]
    exact ok_some ⟨h2, lim_2⟩
  have hb := cpos_b (u.2.1 6) 32
  have hr : r3.toInt = cpos (u.2.1 6) 32 := hr
  have c1 := ne32 c
  rw [li_0] at c1
  have zn : ¬ cpos g.1.2.2 32 = 0 := by
    rw [← ecn]
    omega
  have egn : g_normal g = (g.1, g.2.1, (1 : Int32), GSF g.1.2.2 g.2.1) := by
    unfold g_normal
    rw [if_neg zn]
  rw [egn, if_neg zn]
  have ex : (((1 : Int32) <<< (u.1 0 &&& (31 : Int32))) - r3).toInt = ((1 : Int32) <<< (u.1 0 &&& (31 : Int32))).toInt - r3.toInt := sub32 (by omega) (by omega)
  have egf : GS g.1.2.2 (((1 : Int32) <<< (u.1 0 &&& (31 : Int32))) - r3).toInt.toNat = GSF g.1.2.2 g.2.1 := by
    unfold GSF
    rw [ex, sz.1, hr, ecn, elg]
  refine ok_bnd (s_X7_normal_L24 (g := f0 g) (u.2.1 6) (u.1 0) _ ?_ FU _ _ (by decide) (by decide) (by decide) (IM_sh8 h2) rfl rfl rfl (fun s hs => absurd hs (Nat.not_lt_zero s)) rfl (fun s hs => absurd hs (Nat.not_lt_zero s)))
  intro x v hv z hc hl hsh hps hg0
  have hl2 : v.1 0 = u.1 0 := hl
  refine ok_bnd_eq (fun x11 ex11 => ?_)
  rw [hl2] at ex11
  subst ex11
  refine ok_bnd (s_X7_normal_L65 (g := f0 g) (u.1 0) ((1 : Int32) <<< (u.1 0 &&& (31 : Int32))).toInt sz.2.2 _ (u.2.1 6) (((1 : Int32) <<< (u.1 0 &&& (31 : Int32))) - r3).toInt.toNat ?_ FU _ _ 0 (by rw [ex]; omega) hc hg0 (by rw [ex]; omega) (by rw [ex]; show _ < 100000; omega) hv z hl2 hsh (by rw [hps, ex]; omega) ?_)
  · intro x w hw z2 hl3 hS hGS
    obtain ⟨k0, k2, k3, k4, k5, k10, k7, k15, k14, k18, k25, k32, k11, k13⟩ := hw
    have hl4 : w.1 0 = u.1 0 := hl3
    have e10 : (sF w 7 (1 : Int32)).2.1 10 0 = u.1 0 := k10.1.trans hl4
    have eN : ((((1 : Int32) <<< (u.1 0 &&& (31 : Int32))).toInt.toNat : Nat) : Int) = ((1 : Int32) <<< (u.1 0 &&& (31 : Int32))).toInt := by omega
    refine ok_bnd (ok_oC1 (s_X7_lay (sF w 7 (1 : Int32)) (p := 0) (N := ((1 : Int32) <<< (u.1 0 &&& (31 : Int32))).toInt.toNat) (by decide) (by decide) (by rw [e10]; exact h0.1) (by rw [e10]; exact h0.2) (by rw [e10, eN, sz.1]) k11 k13 (by rw [eN]; exact hS)) (fun y hy => ok_some ⟨?_, ?_⟩))
    · obtain ⟨y1, y2, y3, y4, y5, y6, y7, y8⟩ := hy
      have a0 : y.1 0 = u.1 0 := by rw [y1]; exact hl4
      have e8 : y.2.1 8 = w.2.1 8 := y2 8 (by decide) (by decide) (by decide) (by decide)
      have b : ∀ k, k ≠ 7 → y.1 k = w.1 k := by
        intro k hk
        rw [y1]
        show va_up w.1 7 _ k = w.1 k
        unfold va_up
        rw [if_neg hk]
      refine ⟨by rw [a0]; exact h0, by rw [b 2 (by decide)]; exact k2, by rw [b 3 (by decide)]; exact k3, by rw [y2 4 (by decide) (by decide) (by decide) (by decide)]; exact k4, by rw [b 5 (by decide)]; exact k5, ⟨by rw [y2 10 (by decide) (by decide) (by decide) (by decide), a0]; exact e10, by rw [a0]; exact elg⟩, ⟨Or.inr ⟨by rw [y1]; rfl, ?_, y4⟩, by rw [y1]; rfl, fun i hi => ?_⟩, by rw [b 15 (by decide)]; exact k15, by rw [y2 14 (by decide) (by decide) (by decide) (by decide)]; exact k14, ⟨by rw [b 18 (by decide)]; exact k18.1, by rw [b 18 (by decide)]; exact k18.2.1, by rw [b 2 (by decide)]; exact k18.2.2.1, by rw [b 3 (by decide)]; exact k18.2.2.2.1, by rw [b 5 (by decide)]; exact k18.2.2.2.2.1, by rw [y2 4 (by decide) (by decide) (by decide) (by decide)]; exact k18.2.2.2.2.2.1, by rw [y2 6 (by decide) (by decide) (by decide) (by decide)]; exact k18.2.2.2.2.2.2⟩, by rw [b 25 (by decide)]; exact k25, by rw [b 32 (by decide), b 31 (by decide)]; exact k32, y6, y7⟩
      · rw [a0, ← sz.1]
        unfold SH
        rw [shr_eq e8]
        exact hS
      · show y.2.1 8 i = GSF g.1.2.2 g.2.1 i
        rw [e8, ← egf, ← ecn, ← shr0]
        exact hGS i hi
    · show r3.toInt = cpos g.1.2.2 32
      rw [hr, ecn]
  · have e3 : 0 < psum (shr v 0) 32 := by rw [hps]; omega
    rcases Classical.em (∃ s, s < 32 ∧ 0 < (shr v 0 s).toInt) with q | q
    · exact q
    · exfalso
      have z0 : ∀ n, n ≤ 32 → psum (shr v 0) n = 0 := by
        intro n
        induction n with
        | zero => intro _; rfl
        | succ n ih =>
          intro hn
          unfold psum
          rw [ih (by omega)]
          have q1 := hsh n (by omega)
          rcases Int.lt_or_le 0 (shr v 0 n).toInt with r | r
          · exact absurd ⟨n, by omega, r⟩ q
          · omega
      rw [z0 32 (Nat.le_refl _)] at e3
      exact absurd e3 (by decide)

def FA (p : Nat) (u v : OS) : Prop := v.1 = u.1 ∧ (∀ k, k ≠ 9 → k ≠ 11 → v.2.1 k = u.2.1 k) ∧ v.2.2 = u.2.2 ∧ (∀ i, i < 32 * p → v.2.1 9 i = u.2.1 9 i)
theorem shr_eq {u v : OS} {p : Nat} (h : v.2.1 8 = u.2.1 8) : shr v p = shr u p := by
  funext t
  unfold shr
  rw [h]
set_option maxHeartbeats 4000000 in
theorem s_X7_lay_L17 {p1 x2 : Int32} {p N : Nat} (hp : p1.toInt = p) (h1 : p ≤ 1) (h2 : x2.toInt = N) (hN : two N) (u0 : OS) (hsh : ∀ t, t < 32 → 0 ≤ (shr u0 p t).toInt) (hsum : psum (shr u0 p) 32 = N) {Q : OS → Prop} (K : Int32 → Int32 → Int32 → OS → Option OS)
    (hK : ∀ (x5 x4 x3 : Int32) (u : OS) (w : Nat → Bool), FA p u0 u → R11 u → LY u p → (∀ j, j < N → w (j * stp N % N) = true) → CB u p N 32 0 w (shr u0 p) → ok (K x5 x4 x3 u) Q) :
    ∀ (n : Nat) (x3 x4 x5 : Int32) (u : OS) (k : Nat) (w : Nat → Bool) (s : Nat), x3.toInt = s → s ≤ 32 → 32 - s < n → FA p u0 u → R11 u → (∀ t, t < s → (u.2.1 9 (32 * p + t)).toInt = psum (shr u0 p) t) → x5.toInt = psum (shr u0 p) s → (k : Int) = psum (shr u0 p) s → x4.toInt = ((k * stp N % N : Nat) : Int) → (∀ j, j < k → w (j * stp N % N) = true) → CB u p N s 0 w (shr u0 p) → ok (f_X7_lay_L17 p1 x2 n K x3 x4 x5 u) Q := by
  intro n
  induction n with
  | zero => intro x3 x4 x5 u k w s _ _ hn; omega
  | succ n ih =>
    intro x3 x4 x5 u k w s hs hs2 hn hF hR h9 h5 hk h4 hw hC
    have hN1 : 32 ≤ N ∧ N ≤ 4096 := by unfold two at hN; omega
    have esh : shr u p = shr u0 p := shr_eq (hF.2.1 8 (by decide) (by decide))
    unfold f_X7_lay_L17
    refine ok_ite (fun d => ?_) (fun d => ?_)
    · have d1 : s = 32 := by
        have := Int32.le_iff_toInt_le.mp d
        rw [li_32] at this
        omega
      subst d1
      refine hK _ _ _ _ w hF hR ?_ ?_ hC
      · intro t ht
        rw [esh]
        exact h9 t ht
      · intro j hj
        refine hw j ?_
        rw [hsum] at hk
        omega
    · have d1 : s < 32 := by
        have := mt Int32.le_iff_toInt_le.mpr d
        rw [li_32] at this
        omega
      have hel := psum_el hsh d1
      rw [hsum] at hel
      have hss := hsh s d1
      have e1 := inc32 (x := x3) (by omega)
      have i1 := ix32 (x := x3) hp h1 (by omega) (by omega)
      have i1n : (((32 : Int32) * p1) + x3).toNatClampNeg = 32 * p + s := by
        show (((32 : Int32) * p1) + x3).toInt.toNat = _
        omega
      have esh2 : shr (sA u 9 (((32 : Int32) * p1) + x3) x5) p = shr u0 p := esh
      have e8 : (sA u 9 (((32 : Int32) * p1) + x3) x5).2.1 8 (((32 : Int32) * p1) + x3).toNatClampNeg = shr u0 p s := by
        rw [i1n, ← esh2]; rfl
      refine ok_gdi (by omega) (by omega) (ok_bnd (ok_gdi (by omega) (by omega) ?_))
      rw [e8]
      have e5 : (x5 + shr u0 p s).toInt = psum (shr u0 p) (s + 1) := by
        rw [add32 (by omega) (by omega), h5]; rfl
      refine ok_bnd (ok_bnd (s_X7_lay_L55 hp h1 h2 hN hs d1 (sA u 9 (((32 : Int32) * p1) + x3) x5) ?_ _ ?_ FU _ _ _ k w (by decide) ?_ ?_ ⟨rfl, fun _ _ => rfl, rfl⟩ hR ?_ h4 hw ?_))
      · intro t ht
        rw [esh2]
        have := psum_el hsh ht
        have := hsh t ht
        rw [hsum] at *
        omega
      · intro x47 x46 v k' w' hF' hR' hk' hx' hw' hC'
        rw [esh2] at hk' hC'
        refine ok_bnd (ih _ _ _ _ k' w' (s + 1) (by omega) (by omega) (by omega) ?_ hR' ?_ e5 hk' hx' hw' hC')
        · refine ⟨hF'.1.trans hF.1, fun j a b => ?_, hF'.2.2.trans hF.2.2.1, fun i hi => ?_⟩
          · rw [hF'.2.1 j b]
            show va_up u.2.1 9 _ j = _
            unfold va_up
            rw [if_neg a]
            exact hF.2.1 j a b
          · rw [hF'.2.1 9 (by decide)]
            show upd (u.2.1 9) (((32 : Int32) * p1) + x3).toNatClampNeg x5 i = _
            unfold upd
            rw [i1n, if_neg (by omega)]
            exact hF.2.2.2 i hi
        · intro t ht
          rw [hF'.2.1 9 (by decide)]
          show (upd (u.2.1 9) (((32 : Int32) * p1) + x3).toNatClampNeg x5 (32 * p + t)).toInt = _
          unfold upd
          rw [i1n]
          by_cases r : t = s
          · rw [if_pos (by omega), h5, r]
          · rw [if_neg (by omega)]
            exact h9 t (by omega)
      · rw [esh2, li_0]; omega
      · rw [esh2, li_0]
        show _ < 100000
        omega
      · rw [esh2, li_0]; omega
      · rw [esh2, li_0]; exact hC
def FC (u v : OS) : Prop := v.1 = u.1 ∧ (∀ k, k ≠ 12 → k ≠ 13 → v.2.1 k = u.2.1 k) ∧ v.2.2 = u.2.2
def NO (u : OS) (p N i : Nat) : Prop := 1 ≤ (u.2.1 12 (4096 * p + i)).toInt ∧ (u.2.1 12 (4096 * p + i)).toInt < 2 * N
def R13 (u : OS) : Prop := ∀ i, 0 ≤ (u.2.1 13 i).toInt ∧ (u.2.1 13 i).toInt < 4096
set_option maxHeartbeats 4000000 in
theorem s_X7_lay_L132 {p1 x2 x12 : Int32} {p N s : Nat} (hp : p1.toInt = p) (h1 : p ≤ 1) (h2 : x2.toInt = N) (hN : two N) (h12 : x12 = nI s) (hs : s < 32) (u0 : OS) (hsh : ∀ t, t < 32 → 0 ≤ (shr u0 p t).toInt) (hsum : psum (shr u0 p) 32 = N) (hLY : LY u0 p) (hcnt : (cw (plc u0 p) (fun _ => true) (nI s) N : Int) ≤ (shr u0 p s).toInt) {Q : OS → Prop} (K : Int32 → Int32 → OS → Option OS)
    (hK : ∀ (a b : Int32) (u : OS), FC u0 u → R13 u → (∀ i, i < N → (plc u0 p i).toInt < s → NO u p N i) → (∀ i, i < N → plc u0 p i = nI s → NO u p N i) → ok (K a b u) Q) :
    ∀ (n : Nat) (x18 x19 : Int32) (u : OS) (m : Nat), x18.toInt = m → m ≤ N → N - m < n → x19.toInt = cw (plc u0 p) (fun _ => true) (nI s) m → FC u0 u → R13 u → (∀ i, i < N → (plc u0 p i).toInt < s → NO u p N i) → (∀ i, i < m → plc u0 p i = nI s → NO u p N i) → ok (f_X7_lay_L132 p1 x2 x12 n K x18 x19 u) Q := by
  intro n
  induction n with
  | zero => intro x18 x19 u m _ _ hn; omega
  | succ n ih =>
    intro x18 x19 u m hm hmN hn h19 hF hR hA hB
    have hN1 : 32 ≤ N ∧ N ≤ 4096 := by unfold two at hN; omega
    have hs12 : x12.toInt = s := by rw [h12, nI_toInt (by omega)]
    unfold f_X7_lay_L132
    refine ok_ite (fun d => ?_) (fun d => ?_)
    · have d1 : m = N := by
        have := Int32.le_iff_toInt_le.mp d
        omega
      subst d1
      exact hK _ _ _ hF hR hA hB
    · have d1 : m < N := by
        have := mt Int32.le_iff_toInt_le.mpr d
        omega
      have e1 := inc32 (x := x18) (by omega)
      have i1 := ix32 (x := x12) hp h1 (by omega) (by omega)
      have i1n : (((32 : Int32) * p1) + x12).toNatClampNeg = 32 * p + s := by
        show (((32 : Int32) * p1) + x12).toInt.toNat = _
        omega
      have i2 := ix4096 (x := x18) hp h1 (by omega) (by omega)
      have i2n : (((4096 : Int32) * p1) + x18).toNatClampNeg = 4096 * p + m := by
        show (((4096 : Int32) * p1) + x18).toInt.toNat = _
        omega
      have e8 : u.2.1 8 (((32 : Int32) * p1) + x12).toNatClampNeg = shr u0 p s := by
        rw [i1n, hF.2.1 8 (by decide) (by decide)]; rfl
      have e9 : (u.2.1 9 (((32 : Int32) * p1) + x12).toNatClampNeg).toInt = psum (shr u0 p) s := by
        rw [i1n, hF.2.1 9 (by decide) (by decide)]; exact hLY s hs
      have e11 : u.2.1 11 (((4096 : Int32) * p1) + x18).toNatClampNeg = plc u0 p m := by
        rw [i2n, hF.2.1 11 (by decide) (by decide)]; rfl
      have hel := psum_el hsh hs
      rw [hsum] at hel
      have hss := hsh s hs
      have c1 : cw (plc u0 p) (fun _ => true) (nI s) (m + 1) ≤ cw (plc u0 p) (fun _ => true) (nI s) N := by
        have := cw_mono (plc u0 p) (fun _ => true) (nI s) (N - (m + 1)) (m + 1)
        rw [show m + 1 + (N - (m + 1)) = N by omega] at this
        exact this
      have c2 : cw (plc u0 p) (fun _ => true) (nI s) (m + 1) = cw (plc u0 p) (fun _ => true) (nI s) m + if true = true ∧ plc u0 p m = nI s then 1 else 0 := rfl
      refine ok_gdi (by omega) (by omega) ?_
      rw [e8]
      refine ok_ite (fun q => ok_bnd ?_) (fun q => ok_gdi (by omega) (by omega) ?_)
      · have q1 : (shr u0 p s).toInt ≤ 0 := by
          have := Int32.le_iff_toInt_le.mp q
          rw [li_0] at this
          exact this
        have q2 : ¬ plc u0 p m = nI s := by
          intro r
          rw [if_pos ⟨rfl, r⟩] at c2
          omega
        rw [if_neg (fun r => q2 r.2)] at c2
        refine ih _ _ _ (m + 1) (by omega) (by omega) (by omega) (by rw [h19, c2]; rfl) hF hR hA ?_
        intro i hi r
        rcases Nat.lt_or_ge i m with z | z
        · exact hB i z r
        · have : i = m := by omega
          subst this
          exact absurd r q2
      · have q1 : 1 ≤ (shr u0 p s).toInt := by
          have := mt Int32.le_iff_toInt_le.mpr q
          rw [li_0] at this
          omega
        rw [e11]
        refine ok_ite (fun r => ?_) (fun r => ok_bnd ?_)
        · rw [h12] at r
          rw [if_pos ⟨rfl, r⟩] at c2
          have e19 : (shr u0 p s + x19).toInt = (shr u0 p s).toInt + x19.toInt := add32 (by omega) (by omega)
          have e9' : (sA u 12 (((4096 : Int32) * p1) + x18) (shr u0 p s + x19)).2.1 9 (((32 : Int32) * p1) + x12).toNatClampNeg = u.2.1 9 (((32 : Int32) * p1) + x12).toNatClampNeg := rfl
          have i3 := ix4096 (x := u.2.1 9 (((32 : Int32) * p1) + x12).toNatClampNeg) hp h1 (by omega) (by omega)
          have i4 : ((((4096 : Int32) * p1) + (u.2.1 9 (((32 : Int32) * p1) + x12).toNatClampNeg)) + x19).toInt = 4096 * p + psum (shr u0 p) s + x19.toInt := by
            rw [add32 (by omega) (by omega), i3, e9]
          have e20 := inc32 (x := x19) (by omega)
          refine ok_gdi (by omega) (by omega) ?_
          refine ok_gdi (by omega) (by omega) (ok_bnd (ok_gdi (by omega) (by omega) ?_))
          rw [e9']
          refine ok_gdi (by omega) (by omega) (ok_bnd (ok_bnd (ok_bnd ?_)))
          have hno : ∀ i, i < N → ∀ j z, NO (sA (sA u 12 (((4096 : Int32) * p1) + x18) (shr u0 p s + x19)) 13 j z) p N i ↔ (if i = m then True else NO u p N i) := by
            intro i hi j z
            show (1 ≤ (upd (u.2.1 12) (((4096 : Int32) * p1) + x18).toNatClampNeg (shr u0 p s + x19) (4096 * p + i)).toInt ∧ (upd (u.2.1 12) (((4096 : Int32) * p1) + x18).toNatClampNeg (shr u0 p s + x19) (4096 * p + i)).toInt < 2 * N) ↔ _
            unfold upd
            rw [i2n]
            by_cases y : i = m
            · rw [if_pos (by omega), if_pos y]
              exact ⟨fun _ => trivial, fun _ => by omega⟩
            · rw [if_neg (by omega), if_neg y]
              exact Iff.rfl
          refine ih _ _ _ (m + 1) (by omega) (by omega) (by omega) (by omega) ?_ ?_ ?_ ?_
          · refine ⟨hF.1, fun j a b => ?_, hF.2.2⟩
            rw [← hF.2.1 j a b]
            show va_up (va_up u.2.1 12 _) 13 _ j = _
            unfold va_up
            rw [if_neg b, if_neg a]
          · exact upd_R (f := u.2.1 13) hR (by omega) (by omega)
          · intro i hi y
            rw [hno i hi]
            by_cases z : i = m
            · rw [if_pos z]; trivial
            · rw [if_neg z]; exact hA i hi y
          · intro i hi y
            rw [hno i (by omega)]
            by_cases z : i = m
            · rw [if_pos z]; trivial
            · rw [if_neg z]; exact hB i (by omega) y
        · have q2 : ¬ plc u0 p m = nI s := fun z => r (by rw [h12]; exact z)
          rw [if_neg (fun r => q2 r.2)] at c2
          refine ih _ _ _ (m + 1) (by omega) (by omega) (by omega) (by rw [h19, c2]; rfl) hF hR hA ?_
          intro i hi y
          rcases Nat.lt_or_ge i m with z | z
          · exact hB i z y
          · have : i = m := by omega
            subst this
            exact absurd y q2

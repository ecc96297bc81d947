-- places of a side
def plc (u : OS) (p : Nat) : Nat → Int32 := fun i => u.2.1 11 (4096 * p + i)
def FB (u v : OS) : Prop := v.1 = u.1 ∧ (∀ k, k ≠ 11 → v.2.1 k = u.2.1 k) ∧ v.2.2 = u.2.2
def R11 (u : OS) : Prop := ∀ i, 0 ≤ (u.2.1 11 i).toInt ∧ (u.2.1 11 i).toInt < 32
theorem upd_R {f : Nat → Int32} {k : Nat} {v : Int32} {a b : Int} (h : ∀ i, a ≤ (f i).toInt ∧ (f i).toInt < b) (h1 : a ≤ v.toInt) (h2 : v.toInt < b) : ∀ i, a ≤ (upd f k v i).toInt ∧ (upd f k v i).toInt < b := by
  intro i
  unfold upd
  by_cases e : i = k
  · rw [if_pos e]; exact ⟨h1, h2⟩
  · rw [if_neg e]; exact h i
theorem ix32 {p1 x : Int32} {p : Nat} (hp : p1.toInt = p) (h1 : p ≤ 1) (hx0 : 0 ≤ x.toInt) (hx1 : x.toInt < 32) : (((32 : Int32) * p1) + x).toInt = 32 * p + x.toInt := by
  have e : ((32 : Int32) * p1).toInt = 32 * p := by rw [mul32 (by rw [li_32]; omega) (by rw [li_32]; omega), li_32, hp]
  rw [add32 (by rw [e]; omega) (by rw [e]; omega), e]
theorem ix4096 {p1 x : Int32} {p : Nat} (hp : p1.toInt = p) (h1 : p ≤ 1) (hx0 : 0 ≤ x.toInt) (hx1 : x.toInt < 100000) : (((4096 : Int32) * p1) + x).toInt = 4096 * p + x.toInt := by
  have e : ((4096 : Int32) * p1).toInt = 4096 * p := by rw [mul32 (by rw [li_4096]; omega) (by rw [li_4096]; omega), li_4096, hp]
  rw [add32 (by rw [e]; omega) (by rw [e]; omega), e]
def CB (u : OS) (p N s : Nat) (x : Int) (w : Nat → Bool) (sh : Nat → Int32) : Prop := ∀ t, t < 32 → (cw (plc u p) w (nI t) N : Int) ≤ if t < s then (sh t).toInt else if t = s then x else 0
theorem stp32 {x47 x2 : Int32} {N k : Nat} (h2 : x2.toInt = N) (hN : two N) (h : x47.toInt = ((k * stp N % N : Nat) : Int)) : ((((x47 + (x2 / (2 : Int32))) + (x2 / (8 : Int32))) + (3 : Int32)) - (((x47 + (x2 / (2 : Int32))) + (x2 / (8 : Int32))) + (3 : Int32)) / x2 * x2).toInt = (((k + 1) * stp N % N : Nat) : Int) := by
  have hN1 : 32 ≤ N ∧ N ≤ 4096 := by unfold two at hN; omega
  have hm : k * stp N % N < N := Nat.mod_lt _ (by omega)
  have d2 : (x2 / (2 : Int32)).toInt = N / 2 := by rw [div32 (by omega) (by decide), li_2, h2]
  have d8 : (x2 / (8 : Int32)).toInt = N / 8 := by rw [div32 (by omega) (by decide), li_8, h2]
  have a1 : (x47 + x2 / (2 : Int32)).toInt = x47.toInt + N / 2 := by rw [add32 (by omega) (by omega), d2]
  have a2 : (x47 + x2 / (2 : Int32) + x2 / (8 : Int32)).toInt = x47.toInt + N / 2 + N / 8 := by rw [add32 (by omega) (by omega), a1, d8]
  have a3 : (x47 + x2 / (2 : Int32) + x2 / (8 : Int32) + (3 : Int32)).toInt = x47.toInt + N / 2 + N / 8 + 3 := by rw [add32 (by rw [li_3]; omega) (by rw [li_3]; omega), a2, li_3]
  rw [rem32 (by rw [a3]; omega) (by omega), a3, h, h2]
  have e : ((k * stp N % N : Nat) : Int) + N / 2 + N / 8 + 3 = ((k * stp N % N + stp N : Nat) : Int) := by
    unfold stp
    omega
  rw [e, ← Int.natCast_emod, Nat.mod_add_mod, Nat.succ_mul]
set_option maxHeartbeats 4000000 in
theorem s_X7_lay_L55 {p1 x2 x3 : Int32} {p N s : Nat} (hp : p1.toInt = p) (h1 : p ≤ 1) (h2 : x2.toInt = N) (hN : two N) (h3 : x3.toInt = s) (hs : s < 32) (u0 : OS) (hsh : ∀ t, t < 32 → 0 ≤ (shr u0 p t).toInt ∧ (shr u0 p t).toInt ≤ N) {Q : OS → Prop} (K : Int32 → Int32 → OS → Option OS)
    (hK : ∀ (x47 x46 : Int32) (u : OS) (k : Nat) (w : Nat → Bool), FB u0 u → R11 u → (k : Int) = psum (shr u0 p) (s + 1) → x47.toInt = ((k * stp N % N : Nat) : Int) → (∀ j, j < k → w (j * stp N % N) = true) → CB u p N (s + 1) 0 w (shr u0 p) → ok (K x47 x46 u) Q) :
    ∀ (n : Nat) (x46 x47 : Int32) (u : OS) (k : Nat) (w : Nat → Bool), 0 ≤ x46.toInt → x46.toInt ≤ (shr u0 p s).toInt → ((shr u0 p s).toInt - x46.toInt).toNat < n → FB u0 u → R11 u → (k : Int) = psum (shr u0 p) s + x46.toInt → x47.toInt = ((k * stp N % N : Nat) : Int) → (∀ j, j < k → w (j * stp N % N) = true) → CB u p N s x46.toInt w (shr u0 p) → ok (f_X7_lay_L55 p1 x2 x3 n K x46 x47 u) Q := by
  intro n
  induction n with
  | zero => intro x46 x47 u k w _ _ hn; omega
  | succ n ih =>
    intro x46 x47 u k w ha hb hn hF hR hk hx hw hC
    have hN1 : 32 ≤ N ∧ N ≤ 4096 := by unfold two at hN; omega
    have hm : k * stp N % N < N := Nat.mod_lt _ (by omega)
    have i1 := ix32 (x := x3) hp h1 (by omega) (by omega)
    have i2 := ix4096 (x := x47) hp h1 (by omega) (by omega)
    have i1n : (((32 : Int32) * p1) + x3).toNatClampNeg = 32 * p + s := by
      show (((32 : Int32) * p1) + x3).toInt.toNat = _
      omega
    have i2n : (((4096 : Int32) * p1) + x47).toNatClampNeg = 4096 * p + k * stp N % N := by
      show (((4096 : Int32) * p1) + x47).toInt.toNat = _
      omega
    have e8 : u.2.1 8 (((32 : Int32) * p1) + x3).toNatClampNeg = shr u0 p s := by
      rw [i1n, hF.2.1 8 (by decide)]; rfl
    have hss := hsh s hs
    unfold f_X7_lay_L55
    refine ok_gdi (by omega) (by omega) ?_
    rw [e8]
    refine ok_ite (fun d => ?_) (fun d => ?_)
    · have d1 : (shr u0 p s).toInt ≤ x46.toInt := Int32.le_iff_toInt_le.mp d
      refine hK _ _ _ k w hF hR ?_ hx hw ?_
      · show (k : Int) = psum (shr u0 p) s + (shr u0 p s).toInt
        omega
      · intro t ht
        have q := hC t ht
        by_cases r : t < s
        · rw [if_pos r] at q; rw [if_pos (by omega)]; exact q
        · rw [if_neg r] at q
          by_cases r2 : t = s
          · subst r2
            rw [if_pos rfl] at q
            rw [if_pos (by omega)]
            omega
          · rw [if_neg r2] at q
            rw [if_neg (by omega)]
            by_cases r3 : t = s + 1
            · rw [if_pos r3]; exact q
            · rw [if_neg r3]; exact q
    · have d1 : x46.toInt < (shr u0 p s).toInt := by
        have := mt Int32.le_iff_toInt_le.mpr d
        omega
      have e1 := inc32 (x := x46) (by omega)
      have e2 := stp32 h2 hN hx
      refine ok_gdi (by omega) (by omega) (ok_bnd (ok_gdz (by omega) (ok_bnd (ok_bnd ?_))))
      have hpl : ∀ j, plc (sA u 11 (((4096 : Int32) * p1) + x47) x3) p j = if j = k * stp N % N then x3 else plc u p j := by
        intro j
        show upd (u.2.1 11) (((4096 : Int32) * p1) + x47).toNatClampNeg x3 (4096 * p + j) = _
        unfold upd plc
        rw [i2n]
        by_cases r : j = k * stp N % N
        · rw [if_pos r, if_pos (by omega)]
        · rw [if_neg r, if_neg (by omega)]
      refine ih _ _ _ (k + 1) (fun j => if j = k * stp N % N then true else w j) (by omega) (by omega) (by omega) ?_ ?_ (by omega) e2 ?_ ?_
      · refine ⟨hF.1, fun j hj => ?_, hF.2.2⟩
        rw [← hF.2.1 j hj]
        show va_up u.2.1 11 _ j = u.2.1 j
        unfold va_up
        rw [if_neg hj]
      · exact upd_R hR (by omega) (by omega)
      · intro j hj
        by_cases r : j * stp N % N = k * stp N % N
        · exact if_pos r
        · have hjk : j < k := by
            rcases Nat.lt_or_ge j k with q | q
            · exact q
            · have : j = k := by omega
              subst this
              exact absurd rfl r
          show (if j * stp N % N = k * stp N % N then true else w (j * stp N % N)) = true
          rw [if_neg r]
          exact hw j hjk
      · intro t ht
        have q := hC t ht
        have c := cw_upd (f := plc u p) (w := w) (s := nI t) hpl (fun _ => rfl) N
        have e3 : x3 = nI t ↔ t = s := by
          constructor
          · intro e
            rw [e, nI_toInt (by omega)] at h3
            omega
          · intro e
            apply Int32.toInt_inj.mp
            rw [nI_toInt (by omega), h3, e]
        by_cases r : t < s
        · rw [if_pos r] at q ⊢
          rw [if_neg (fun e => by have := e3.mp e; omega)] at c
          omega
        · rw [if_neg r] at q ⊢
          by_cases r2 : t = s
          · rw [if_pos r2] at q ⊢
            rw [if_pos (e3.mpr r2)] at c
            omega
          · rw [if_neg r2] at q ⊢
            rw [if_neg (fun e => r2 (e3.mp e))] at c
            omega

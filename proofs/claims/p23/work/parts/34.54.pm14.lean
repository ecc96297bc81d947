def WF (u v : OS) : Prop := (∀ j, j ≠ 15 → j ≠ 18 → j ≠ 20 → j ≠ 21 → j ≠ 22 → j ≠ 23 → v.1 j = u.1 j) ∧ (∀ j, j ≠ 14 → j ≠ 19 → v.2.1 j = u.2.1 j)
theorem WF.rf {u : OS} : WF u u := ⟨fun _ _ _ _ _ _ _ => rfl, fun _ _ _ => rfl⟩
theorem WF.tr {u v w : OS} (h1 : WF u v) (h2 : WF v w) : WF u w := ⟨fun k a b c d e f => (h2.1 k a b c d e f).trans (h1.1 k a b c d e f), fun k a b => (h2.2 k a b).trans (h1.2 k a b)⟩
theorem PO.wf {u v : OS} (h : PO u v) : WF u v := ⟨fun k a _ _ d _ _ => h.1 k a d, fun k a _ => h.2.1 k a⟩
theorem WV.wf {u v : OS} (h : WV u v) : WF u v := ⟨fun k _ _ c _ e f => h.1 k c e f, fun k _ b => h.2.1 k b⟩
theorem va_ne {α : Type} {f : Nat → α} {i j : Nat} {v : α} (h : j ≠ i) : va_up f i v j = f j := by
  unfold va_up
  rw [if_neg h]
theorem WF.sF {u : OS} {i : Nat} {x : Int32} (hi : i = 15 ∨ i = 18 ∨ i = 20 ∨ i = 21) : WF u (sF u i x) := by
  refine ⟨fun j a b c d e f => ?_, fun _ _ _ => rfl⟩
  exact va_ne (f := u.1) (by omega)
theorem WF.sL {u : OS} {i : Nat} {x : Int32} {y : Int64} : WF u (sL u i x y) := ⟨fun _ _ _ _ _ _ _ => rfl, fun _ _ _ => rfl⟩
theorem POS.wf {u v : OS} {n : Int} (h : WF u v) (hp : POS u n) : POS v n := by
  unfold POS at *
  rw [h.2 8 (by decide) (by decide), h.2 4 (by decide) (by decide)]
  exact hp
-- the span of a form's states
def SPN (p1 : Int32) (k : Nat) (lo hi : Int) : Prop := (p1 = 1 → lo = 0 ∧ hi = 9223372036854775808) ∧ (p1 = 2 → lo = ((2 ^ k : Nat) : Int) ∧ hi = ((2 ^ k : Nat) : Int) + 4096) ∧ (p1 ≠ 1 → p1 ≠ 2 → lo = 0 ∧ hi = 2147483648)
theorem SPN_ex (p1 : Int32) (k : Nat) : ∃ lo hi, SPN p1 k lo hi := by
  by_cases h1 : p1 = 1
  · exact ⟨0, 9223372036854775808, fun _ => ⟨rfl, rfl⟩, fun q => absurd (h1.symm.trans q) (by decide), fun q => absurd h1 q⟩
  · by_cases h2 : p1 = 2
    · exact ⟨_, _, fun q => absurd q h1, fun _ => ⟨rfl, rfl⟩, fun _ q => absurd h2 q⟩
    · exact ⟨_, _, fun q => absurd q h1, fun q => absurd q h2, fun _ _ => ⟨rfl, rfl⟩⟩
theorem s_X7_firstState (p1 : Int32) {k : Nat} (h1 : 5 ≤ k) (h2 : k ≤ 12) {lo hi : Int} (hS : SPN p1 k lo hi) : ok (f_X7_firstState p1 (nI k)) (fun y => lo ≤ y.toInt ∧ y.toInt < hi) := by
  unfold f_X7_firstState
  obtain ⟨s1, s2, s3⟩ := hS
  refine ok_ite (fun c => ok_some ?_) (fun c => ok_ite (fun c2 => ok_some ?_) (fun c2 => ok_some ?_))
  · obtain ⟨rfl, rfl⟩ := s1 c
    decide
  · obtain ⟨rfl, rfl⟩ := s2 c2
    rw [(one_k k (by omega)).1]
    omega
  · obtain ⟨rfl, rfl⟩ := s3 c c2
    decide
theorem s_X7_writeForm_L55 {g : GH} {p1 : Int32} {k : Nat} (h1 : 5 ≤ k) (h2 : k ≤ 12) {lo hi : Int} (hS : SPN p1 k lo hi) (u0 : OS) (hl : u0.1 0 = nI k) {Q : OS → Prop} (K : Int32 → OS → Option OS) (hK : ∀ x u, IM g u → u.1 = u0.1 → u.2.1 = u0.2.1 → ST u lo hi → ok (K x u) Q) : ∀ (n : Nat) (x : Int32) (u : OS), 0 ≤ x.toInt → x.toInt ≤ 4 → (4 - x.toInt).toNat < n → IM g u → u.1 = u0.1 → u.2.1 = u0.2.1 → (∀ i : Nat, (i : Int) < x.toInt → lo ≤ (u.2.2.1 16 i).toInt ∧ (u.2.2.1 16 i).toInt < hi) → ok (f_X7_writeForm_L55 p1 n K x u) Q := by
  intro n
  induction n with
  | zero => intro x u _ _ hn; omega
  | succ n ih =>
    intro x u hx hx2 hn h e0 e1 hA
    unfold f_X7_writeForm_L55
    refine ok_ite (fun c => hK _ _ h e0 e1 ?_) (fun c => ?_)
    · have c1 := Int32.le_iff_toInt_le.mp c
      rw [li_4] at c1
      intro i hi
      exact hA i (by omega)
    · have c1 := mt Int32.le_iff_toInt_le.mpr c
      rw [li_4] at c1
      have e2 := inc32 (x := x) (by omega)
      have el : u.1 0 = nI k := by rw [e0, hl]
      rw [el]
      refine ok_oC1 (s_X7_firstState p1 h1 h2 hS) (fun y hy => ok_gdi hx (by omega) (ok_bnd (ok_bnd (ih _ _ (by omega) (by omega) (by omega) h e0 e1 ?_))))
      intro i hi2
      rw [e2] at hi2
      show lo ≤ (vp_updL (u.2.2.1 16) x.toNatClampNeg y i).toInt ∧ (vp_updL (u.2.2.1 16) x.toNatClampNeg y i).toInt < hi
      unfold vp_updL
      by_cases e : i = x.toNatClampNeg
      · rw [if_pos e]; exact hy
      · rw [if_neg e]
        refine hA i ?_
        have : ¬ i = x.toInt.toNat := e
        omega
theorem IM_ly {g : GH} {u : OS} (h : IM g u) (z : u.1 7 = 1) {k : Nat} (h1 : 5 ≤ k) (h2 : k ≤ 12) (hl : u.1 0 = nI k) : ∀ s, s < 32 → 0 ≤ (u.2.1 9 s).toInt ∧ 0 ≤ (u.2.1 8 s).toInt ∧ (u.2.1 8 s).toInt + (u.2.1 9 s).toInt ≤ ((2 ^ k : Nat) : Int) := by
  intro s hs
  have ek : (nI k).toInt = k := nI_toInt (by omega)
  rcases h.2.2.2.2.2.2.1.1 with q | ⟨_, q, r⟩
  · rw [z] at q; exact absurd q (by decide)
  · have e := psum_el q.1 hs
    have e2 := q.1 s hs
    have e3 := r s hs
    rw [q.2, shr0, hl, ek] at e
    rw [shr0] at e2
    rw [Nat.mul_zero, Nat.zero_add] at e3
    have e4 : ((2 : Int) ^ (((k : Nat) : Int)).toNat) = ((2 ^ k : Nat) : Int) := by
      rw [Int.toNat_natCast]
      exact (Int.natCast_pow 2 k).symm
    rw [e4] at e
    omega

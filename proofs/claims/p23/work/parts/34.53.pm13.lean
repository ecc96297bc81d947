def LSD (u v : OS) : Prop := (∀ j, j ≠ 22 → j ≠ 23 → v.1 j = u.1 j) ∧ v.2 = u.2
theorem LSD.rf {u : OS} : LSD u u := ⟨fun _ _ _ => rfl, rfl⟩
theorem LSD.tr {u v w : OS} (h1 : LSD u v) (h2 : LSD v w) : LSD u w := ⟨fun k a b => (h2.1 k a b).trans (h1.1 k a b), h2.2.trans h1.2⟩
theorem LSD.s22 {u : OS} {x : Int32} : LSD u (sF u 22 x) := by
  refine ⟨fun j a b => ?_, rfl⟩
  show va_up u.1 22 _ j = u.1 j
  unfold va_up
  rw [if_neg a]
theorem LSD.s23 {u : OS} {x : Int32} : LSD u (sF u 23 x) := by
  refine ⟨fun j a b => ?_, rfl⟩
  show va_up u.1 23 _ j = u.1 j
  unfold va_up
  rw [if_neg b]
theorem IM_eq {g : GH} {u v : OS} (h : IM g u) (e0 : v.1 0 = u.1 0) (e2 : v.1 2 = u.1 2) (e3 : v.1 3 = u.1 3) (e5 : v.1 5 = u.1 5) (e7 : v.1 7 = u.1 7) (e15 : v.1 15 = u.1 15) (e18 : v.1 18 = u.1 18) (e25 : v.1 25 = u.1 25) (e31 : v.1 31 = u.1 31) (e32 : v.1 32 = u.1 32) (ea : v.2.1 = u.2.1) : IM g v := by
  unfold IM GG SH LY shr at *
  rw [e0, e2, e3, e5, e7, e15, e18, e25, e31, e32, ea]
  exact h
theorem LSD.im {g : GH} {u v : OS} (h : LSD u v) (hi : IM g u) : IM g v := IM_eq hi (h.1 _ (by decide) (by decide)) (h.1 _ (by decide) (by decide)) (h.1 _ (by decide) (by decide)) (h.1 _ (by decide) (by decide)) (h.1 _ (by decide) (by decide)) (h.1 _ (by decide) (by decide)) (h.1 _ (by decide) (by decide)) (h.1 _ (by decide) (by decide)) (h.1 _ (by decide) (by decide)) (h.1 _ (by decide) (by decide)) (by rw [h.2])
theorem s_X7_laySides_L13 {p1 p2 p3 : Int32} {p : Nat} (hp : p1.toInt = p) (h1 : p ≤ 1) (u0 : OS) {Q : OS → Prop} (K : Int32 → OS → Option OS) (hK : ∀ x u, LSD u0 u → ok (K x u) Q) : ∀ (n : Nat) (x : Int32) (u : OS), 0 ≤ x.toInt → x.toInt ≤ 32 → (32 - x.toInt).toNat < n → LSD u0 u → ok (f_X7_laySides_L13 p1 p2 p3 n K x u) Q := by
  intro n
  induction n with
  | zero => intro x u _ _ hn; omega
  | succ n ih =>
    intro x u hx hx2 hn hL
    unfold f_X7_laySides_L13
    refine ok_ite (fun c => hK _ _ hL) (fun c => ?_)
    have c1 : x.toInt < 32 := by ((try simp only [Int32.lt_iff_toInt_lt, Int32.le_iff_toInt_le, Int32.not_lt, Int32.not_le, li_0, li_1, li_2, li_3, li_4, li_5, li_6, li_7, li_8, li_10, li_12, li_15, li_16, li_20, li_30, li_31, li_32, li_33, li_63, li_64, li_128, li_255, li_256, li_1000, li_4096, li_8000, li_8192, li_20000, li_65535, li_65536, li_70000, li_1000000, lim_1, lim_2, lim_3, lim_10] at *) <;> omega)
    have e1 := inc32 (x := x) (by omega)
    have i1 := ix32 (x := x) hp h1 hx c1
    refine ok_ite (fun d => ok_gdi (by omega) (by omega) (ok_bnd (ok_ite (fun d2 => ok_gdi (by omega) (by omega) (ok_bnd (ok_bnd (ih _ _ (by omega) (by omega) (by omega) (hL.tr (LSD.s22.tr LSD.s23)))))) (fun d2 => ok_bnd (ok_bnd (ih _ _ (by omega) (by omega) (by omega) (hL.tr (LSD.s22.tr LSD.s23)))))))) (fun d => ok_bnd (ih _ _ (by omega) (by omega) (by omega) hL))
theorem s_X7_laySides (u : OS) {p1 : Int32} (p2 p3 : Int32) {p : Nat} (hp : p1.toInt = p) (h1 : p ≤ 1) : ok (f_X7_laySides u p1 p2 p3) (LSD u) := by
  unfold f_X7_laySides
  exact ok_bnd (ok_bnd (ok_bnd (s_X7_laySides_L13 hp h1 u _ (fun x v hv => ok_some hv) FU _ _ (by decide) (by decide) (by decide) (LSD.s22.tr LSD.s23))))
theorem s_X7_sideChance (u : OS) (p1 : Int32) (h1 : 2 ≤ p1.toInt) (hz : (u.1 22).toInt ≠ 0) : ok (f_X7_sideChance u p1) (fun x => 1 ≤ x.toInt ∧ x.toInt ≤ p1.toInt - 1) := by
  have e : (p1 - (1 : Int32)).toInt = p1.toInt - 1 := by
    have := i32_hi p1
    rw [sub32 (by rw [li_1]; omega) (by rw [li_1]; omega), li_1]
  unfold f_X7_sideChance
  refine ok_gdz hz (ok_bnd_eq (fun x _ => ok_ite (fun c => ok_ite (fun c2 => ok_some ?_) (fun c2 => ok_some ?_)) (fun c => ok_some ?_)))
  · constructor <;> ((try simp only [Int32.lt_iff_toInt_lt, Int32.le_iff_toInt_le, Int32.not_lt, Int32.not_le, li_0, li_1, li_2, li_3, li_4, li_5, li_6, li_7, li_8, li_10, li_12, li_15, li_16, li_20, li_30, li_31, li_32, li_33, li_63, li_64, li_128, li_255, li_256, li_1000, li_4096, li_8000, li_8192, li_20000, li_65535, li_65536, li_70000, li_1000000, lim_1, lim_2, lim_3, lim_10] at *) <;> omega)
  · constructor <;> ((try simp only [Int32.lt_iff_toInt_lt, Int32.le_iff_toInt_le, Int32.not_lt, Int32.not_le, li_0, li_1, li_2, li_3, li_4, li_5, li_6, li_7, li_8, li_10, li_12, li_15, li_16, li_20, li_30, li_31, li_32, li_33, li_63, li_64, li_128, li_255, li_256, li_1000, li_4096, li_8000, li_8192, li_20000, li_65535, li_65536, li_70000, li_1000000, lim_1, lim_2, lim_3, lim_10] at *) <;> omega)
  · rw [li_1]
    omega
theorem LSD.wv {u v : OS} (h : LSD u v) : WV u v := ⟨fun j _ b c => h.1 j b c, fun j _ => by rw [h.2], fun j _ => by rw [h.2]⟩
theorem LSD.st {u v : OS} {a b : Int} (h : LSD u v) (hs : ST u a b) : ST v a b := by
  unfold ST at *
  rw [h.2]
  exact hs
set_option maxHeartbeats 4000000 in
theorem s_X7_writeSides_L2 {g : GH} {p1 p2 : Int32} {k : Nat} (h1 : 5 ≤ k) (h2 : k ≤ 12) (l0 : 0 ≤ p1.toInt) (l1 : p1.toInt < 4) (u0 : OS) (hl : u0.1 0 = nI k) (hs0 : 0 ≤ (u0.1 20).toInt) (hs1 : (u0.1 20).toInt + 10 ≤ 70000) {Q : OS → Prop} (K : Int32 → OS → Option OS)
    (hK : ∀ x v, IM g v → WV u0 v → ST v 0 2147483648 → (u0.1 20).toInt ≤ (v.1 20).toInt → (v.1 20).toInt ≤ (u0.1 20).toInt + 10 → ok (K x v) Q) : ∀ (n : Nat) (x : Int32) (u : OS), -1 ≤ x.toInt → x.toInt ≤ 4 → (x.toInt + 1).toNat < n → IM g u → WV u0 u → ST u 0 2147483648 → (u0.1 20).toInt ≤ (u.1 20).toInt → (u.1 20).toInt ≤ (u0.1 20).toInt + 2 * (4 - x.toInt) → ok (f_X7_writeSides_L2 p1 p2 n K x u) Q := by
  intro n
  induction n with
  | zero => intro x u _ _ hn; omega
  | succ n ih =>
    intro x u hx hx2 hn h hW hS b0 b1
    unfold f_X7_writeSides_L2
    refine ok_ite (fun c => hK _ _ h hW hS b0 (by omega)) (fun c => ?_)
    have c1 := mt Int32.lt_iff_toInt_lt.mpr c
    rw [li_0] at c1
    have e1 := dec32 (x := x) (by omega)
    have m1 : -1 ≤ (x + (-1 : Int32)).toInt ∧ (x + (-1 : Int32)).toInt ≤ 4 ∧ ((x + (-1 : Int32)).toInt + 1).toNat < n := by rw [e1]; clear hK ih; omega
    refine ok_oC1 (s_X7_laySides u _ x (p := 0) (by decide) (by decide)) (fun v hv => ?_)
    have e20 : v.1 20 = u.1 20 := hv.1 20 (by decide) (by decide)
    have el : v.1 0 = nI k := by rw [hv.1 0 (by decide) (by decide), hW.1 0 (by decide) (by decide) (by decide), hl]
    have sk : ((1 : Int32) <<< ((v.1 0) &&& (31 : Int32))).toInt = ((2 ^ k : Nat) : Int) := by
      have ek : (nI k).toInt = k := nI_toInt (by omega)
      rw [el, (sz32 (g := nI k) (by omega) (by omega)).1, ek]
      exact (Int.natCast_pow 2 k).symm
    have ak := (powA k (by omega) h1).2.2.2.2.2
    have keep : ok (f_X7_writeSides_L2 p1 p2 n K (x + (-1 : Int32)) v) Q := ih _ _ m1.1 m1.2.1 m1.2.2 (hv.im h) (hW.tr hv.wv) (hv.st hS) (by rw [e20]; exact b0) (by rw [e20, e1]; omega)
    refine ok_ite (fun d => ok_bnd keep) (fun d => ok_ite (fun d2 => ok_bnd keep) (fun d2 => ?_))
    have hz : (v.1 22).toInt ≠ 0 := by
      clear hK ih keep
      have q1 := mt Int32.le_iff_toInt_le.mpr d
      have q2 := mt Int32.le_iff_toInt_le.mpr d2
      rw [li_0] at q1
      omega
    refine ok_oC1 (s_X7_sideChance v _ (by rw [sk]; omega) hz) (fun r hr => ?_)
    rw [sk] at hr
    refine ok_ite (fun d3 => ok_oC1 (s_X7_writeBytes v p1 r 0 (hv.im h) h1 h2 el l0 l1 hr.1 (by decide) (by rw [li_0]; omega) (by rw [e20]; omega) (by rw [e20]; omega) (hv.st hS)) (fun w hw => ok_bnd ?_)) (fun d3 => ?_)
    · obtain ⟨w1, w2, w3, w4, w5⟩ := hw
      rw [e20] at w4 w5
      exact ih _ _ m1.1 m1.2.1 m1.2.2 w1 ((hW.tr hv.wv).tr w2) w3 (by omega) (by rw [e1]; omega)
    · have es : (((1 : Int32) <<< ((v.1 0) &&& (31 : Int32))) - r).toInt = ((2 ^ k : Nat) : Int) - r.toInt := by rw [sub32 (by rw [sk]; omega) (by rw [sk]; omega), sk]
      refine ok_oC1 (s_X7_writeBytes v p1 _ r (hv.im h) h1 h2 el l0 l1 (by rw [es]; omega) (by omega) (by rw [es]; omega) (by rw [e20]; omega) (by rw [e20]; omega) (hv.st hS)) (fun w hw => ok_bnd ?_)
      obtain ⟨w1, w2, w3, w4, w5⟩ := hw
      rw [e20] at w4 w5
      exact ih _ _ m1.1 m1.2.1 m1.2.2 w1 ((hW.tr hv.wv).tr w2) w3 (by omega) (by rw [e1]; omega)
theorem s_X7_writeSides {g : GH} (u : OS) (p1 p2 : Int32) {k : Nat} (h : IM g u) (h1 : 5 ≤ k) (h2 : k ≤ 12) (hl : u.1 0 = nI k) (l0 : 0 ≤ p1.toInt) (l1 : p1.toInt < 4) (hs0 : 0 ≤ (u.1 20).toInt) (hs1 : (u.1 20).toInt + 10 ≤ 70000) (hS : ST u 0 2147483648) :
    ok (f_X7_writeSides u p1 p2) (fun v => IM g v ∧ WV u v ∧ ST v 0 2147483648 ∧ (u.1 20).toInt ≤ (v.1 20).toInt ∧ (v.1 20).toInt ≤ (u.1 20).toInt + 10) := by
  unfold f_X7_writeSides
  exact ok_bnd (s_X7_writeSides_L2 h1 h2 l0 l1 u hl hs0 hs1 _ (fun x v a b c d e => ok_some ⟨a, b, c, d, e⟩) FU _ _ (by decide) (by decide) (by decide) h WV.rf hS (Int.le_refl _) (by rw [li_4]; omega))
def POS (u : OS) (n : Int) : Prop := ∀ i : Nat, (i : Int) < n → 1 ≤ (u.2.1 8 (u.2.1 4 i).toNatClampNeg).toInt
theorem s_X7_mayWrite_L7 {g : GH} (u : OS) (h : IM g u) {Q : Int32 → Prop} (K : Int32 → Int32 → Option Int32) (hK : ∀ a b : Int32, (a = 0 ∨ (a = 1 ∧ u.1 7 = 1 ∧ POS u (u.1 5).toInt)) → ok (K a b) Q) : ∀ (n : Nat) (x y : Int32), 0 ≤ x.toInt → x.toInt ≤ 1000 → (1000 - x.toInt).toNat < n → (y = 0 ∨ (y = 1 ∧ u.1 7 = 1 ∧ POS u x.toInt)) → ok (f_X7_mayWrite_L7 u n K x y) Q := by
  intro n
  induction n with
  | zero => intro x y _ _ hn; omega
  | succ n ih =>
    intro x y hx hx2 hn hy
    have h5 := h.2.2.2.2.1
    have r := h.2.2.2.1 x.toNatClampNeg
    unfold f_X7_mayWrite_L7
    refine ok_ite (fun c => hK _ _ ?_) (fun c => ok_ite (fun c2 => hK _ _ (Or.inl c2)) (fun c2 => ?_))
    · rcases hy with q | ⟨q1, q2, q3⟩
      · exact Or.inl q
      · refine Or.inr ⟨q1, q2, fun i hi => q3 i ?_⟩
        have := Int32.le_iff_toInt_le.mp c
        omega
    · have c1 := mt Int32.le_iff_toInt_le.mpr c
      have e1 := inc32 (x := x) (by omega)
      refine ok_gdi hx (by omega) (ok_gdi r.1 (by omega) (ok_ite (fun d => ok_bnd (ih _ _ (by omega) (by omega) (by omega) (Or.inl rfl))) (fun d => ok_bnd (ih _ _ (by omega) (by omega) (by omega) (Or.inr ⟨rfl, ?_, ?_⟩)))))
      · rcases hy with q | q
        · exact absurd q c2
        · exact q.2.1
      · intro i hi
        rcases hy with q | q
        · exact absurd q c2
        · rw [e1] at hi
          rcases Int.lt_or_le i x.toInt with z | z
          · exact q.2.2 i z
          · have ei : i = x.toNatClampNeg := by
              show i = x.toInt.toNat
              omega
            have d1 := mt Int32.le_iff_toInt_le.mpr d
            rw [li_0] at d1
            rw [ei]
            omega
theorem s_X7_mayWrite {g : GH} (u : OS) (h : IM g u) : ok (f_X7_mayWrite u) (fun a => a = 0 ∨ (a = 1 ∧ u.1 7 = 1 ∧ POS u (u.1 5).toInt)) := by
  unfold f_X7_mayWrite
  refine ok_bnd (ok_bnd (s_X7_mayWrite_L7 u h _ (fun a b hab => ok_gdb ?_ (ok_some hab)) FU _ _ (by decide) (by decide) (by decide) ?_))
  · rcases hab with q | q
    · exact Or.inl q
    · exact Or.inr q.1
  · rcases h.2.2.2.2.2.2.1.1 with q | q
    · exact Or.inl q
    · refine Or.inr ⟨q.1, q.1, fun i hi => ?_⟩
      rw [li_0] at hi
      omega

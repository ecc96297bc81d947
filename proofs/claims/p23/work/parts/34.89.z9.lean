-- ===== the model lays the spread =====
theorem plc_set {u : OS} {p i : Nat} {x v : Int32} (hx : x.toNatClampNeg = 4096 * p + i) : plc (sA u 11 x v) p = upd (plc u p) i v := by
  funext j
  show upd (u.2.1 11) x.toNatClampNeg v (4096 * p + j) = upd (plc u p) i v j
  unfold upd plc
  rw [hx]
  by_cases r : j = i
  · rw [if_pos r, if_pos (by omega)]
  · rw [if_neg r, if_neg (by omega)]
def LO (p : Nat) (u v : OS) : Prop := ∀ i, i < 4096 * p → v.2.1 11 i = u.2.1 11 i ∧ v.2.1 12 i = u.2.1 12 i ∧ v.2.1 13 i = u.2.1 13 i
theorem LO.rf {p : Nat} {u : OS} : LO p u u := fun _ _ => ⟨rfl, rfl, rfl⟩
theorem LO.tr {p : Nat} {u v w : OS} (h1 : LO p u v) (h2 : LO p v w) : LO p u w := fun i hi => ⟨(h2 i hi).1.trans (h1 i hi).1, (h2 i hi).2.1.trans (h1 i hi).2.1, (h2 i hi).2.2.trans (h1 i hi).2.2⟩
theorem upd_lo {f : Nat → Int32} {a i : Nat} {v : Int32} (h : i < a) : upd f a v i = f i := by
  unfold upd
  rw [if_neg (by omega)]
set_option maxHeartbeats 1000000 in
theorem p_X7_lay_L55 {p1 x2 x3 : Int32} {p N s : Nat} (hp : p1.toInt = p) (h1 : p ≤ 1) (h2 : x2.toInt = N) (hN : two N) (h3 : x3 = nI s) (hs : s < 32) (u0 : OS) {Q : OS → Prop} (K : Int32 → Int32 → OS → Option OS) (QQ : Nat × (Nat → Int32)) (hK : ∀ (x47 x46 : Int32) (u : OS), FB u0 u → LO p u0 u → plc u p = QQ.2 → x47.toInt = ((QQ.1 * stp N % N : Nat) : Int) → pc (K x47 x46 u) Q) : ∀ (n c : Nat) (x46 x47 : Int32) (u : OS) (q : Nat × (Nat → Int32)), 0 ≤ x46.toInt → x46.toInt + (c : Int) = (shr u0 p s).toInt → FB u0 u → LO p u0 u → plc u p = q.2 → x47.toInt = ((q.1 * stp N % N : Nat) : Int) → ws N s c q = QQ → pc (f_X7_lay_L55 p1 x2 x3 n K x46 x47 u) Q := by
  intro n
  induction n with
  | zero => intro c x46 x47 u q _ _ _ _ _ _ _; exact pc_none
  | succ n ih =>
    intro c x46 x47 u q ha hc hF hLo hq hx hw
    have hN1 := two_b hN
    have hm : q.1 * stp N % N < N := Nat.mod_lt _ (by omega)
    have ex3 : x3.toInt = s := by rw [h3, nI_toInt (by omega)]
    have i1 := ix32 (x := x3) hp h1 (by omega) (by omega)
    have i2 := ix4096 (x := x47) hp h1 (by omega) (by omega)
    have i1n : (((32 : Int32) * p1) + x3).toNatClampNeg = 32 * p + s := by
      show (((32 : Int32) * p1) + x3).toInt.toNat = _
      omega
    have i2n : (((4096 : Int32) * p1) + x47).toNatClampNeg = 4096 * p + q.1 * stp N % N := by
      show (((4096 : Int32) * p1) + x47).toInt.toNat = _
      omega
    have e8 : u.2.1 8 (((32 : Int32) * p1) + x3).toNatClampNeg = shr u0 p s := by
      rw [i1n, hF.2.1 8 (by decide)]; rfl
    unfold f_X7_lay_L55
    refine pc_gdi (fun _ _ => ?_)
    rw [e8]
    refine pc_ite (fun d => ?_) (fun d => ?_)
    · have d1 : (shr u0 p s).toInt ≤ x46.toInt := Int32.le_iff_toInt_le.mp d
      have : c = 0 := by omega
      subst this
      have hw : q = QQ := hw
      rw [hw] at hq hx
      exact hK _ _ _ hF hLo hq hx
    · have d1 := mt Int32.le_iff_toInt_le.mpr d
      obtain ⟨c', rfl⟩ : ∃ c', c = c' + 1 := ⟨c - 1, by omega⟩
      have hi := i32_hi (shr u0 p s)
      have e1 := inc32 (x := x46) (by omega)
      have e2 := stp32 h2 hN hx
      refine pc_gdi (fun _ _ => pc_bnd (pc_gdz (pc_bnd (pc_bnd (ih c' _ _ _ (q.1 + 1, upd q.2 (q.1 * stp N % N) (nI s)) (by omega) (by omega) ?_ ?_ ?_ e2 hw)))))
      · refine ⟨hF.1, fun j hj => ?_, hF.2.2⟩
        rw [← hF.2.1 j hj]
        exact va_ne (f := u.2.1) hj
      · refine hLo.tr (fun i hi => ⟨?_, rfl, rfl⟩)
        show upd (u.2.1 11) (((4096 : Int32) * p1) + x47).toNatClampNeg x3 i = u.2.1 11 i
        exact upd_lo (by rw [i2n]; omega)
      · rw [plc_set i2n, hq, h3]
set_option maxHeartbeats 1000000 in
theorem p_X7_lay_L17 {p1 x2 : Int32} {p N : Nat} (hp : p1.toInt = p) (h1 : p ≤ 1) (h2 : x2.toInt = N) (hN : two N) (u0 : OS) (hsh : ∀ t, t < 32 → 0 ≤ (shr u0 p t).toInt) (hsum : psum (shr u0 p) 32 = N) {Q : OS → Prop} (K : Int32 → Int32 → Int32 → OS → Option OS) (QQ : Nat × (Nat → Int32)) (hK : ∀ (x5 x4 x3 : Int32) (u : OS), FA p u0 u → LO p u0 u → plc u p = QQ.2 → LY u p → pc (K x5 x4 x3 u) Q) : ∀ (n c s : Nat) (x3 x4 x5 : Int32) (u : OS) (q : Nat × (Nat → Int32)), x3 = nI s → s + c = 32 → FA p u0 u → LO p u0 u → (∀ t, t < s → (u.2.1 9 (32 * p + t)).toInt = psum (shr u0 p) t) → x5.toInt = psum (shr u0 p) s → plc u p = q.2 → x4.toInt = ((q.1 * stp N % N : Nat) : Int) → wl N (shr u0 p) c s q = QQ → pc (f_X7_lay_L17 p1 x2 n K x3 x4 x5 u) Q := by
  intro n
  induction n with
  | zero => intro c s x3 x4 x5 u q _ _ _ _ _ _ _ _ _; exact pc_none
  | succ n ih =>
    intro c s x3 x4 x5 u q hx hs hF hLo h9 h5 hq h4 hw
    have hN1 := two_b hN
    have ex3 : x3.toInt = s := by rw [hx, nI_toInt (by omega)]
    have esh : shr u p = shr u0 p := shr_eq (hF.2.1 8 (by decide) (by decide))
    unfold f_X7_lay_L17
    refine pc_ite (fun d => ?_) (fun d => ?_)
    · have d1 := Int32.le_iff_toInt_le.mp d
      rw [li_32, ex3] at d1
      have c0 : c = 0 := by omega
      have s32 : s = 32 := by omega
      subst c0
      subst s32
      have hw : q = QQ := hw
      rw [hw] at hq
      refine hK _ _ _ _ hF hLo hq (fun t ht => ?_)
      rw [esh]
      exact h9 t ht
    · have d1 := mt Int32.le_iff_toInt_le.mpr d
      rw [li_32, ex3] at d1
      have s32 : s < 32 := by omega
      obtain ⟨c', rfl⟩ : ∃ c', c = c' + 1 := ⟨c - 1, by omega⟩
      have hel := psum_el hsh s32
      rw [hsum] at hel
      have hss := hsh s s32
      have e1 : x3 + (1 : Int32) = nI (s + 1) := by rw [hx, nI_1]
      have i1 := ix32 (x := x3) hp h1 (by omega) (by omega)
      have i1n : (((32 : Int32) * p1) + x3).toNatClampNeg = 32 * p + s := by
        show (((32 : Int32) * p1) + x3).toInt.toNat = _
        omega
      have esh2 : shr (sA u 9 (((32 : Int32) * p1) + x3) x5) p = shr u0 p := esh
      have e8 : (sA u 9 (((32 : Int32) * p1) + x3) x5).2.1 8 (((32 : Int32) * p1) + x3).toNatClampNeg = shr u0 p s := by
        rw [i1n, ← esh2]; rfl
      refine pc_gdi (fun _ _ => pc_bnd (pc_gdi (fun _ _ => ?_)))
      rw [e8]
      have e5 : (x5 + shr u0 p s).toInt = psum (shr u0 p) (s + 1) := by
        rw [add32 (by omega) (by omega), h5]; rfl
      have hw : wl N (shr u0 p) c' (s + 1) (ws N s (shr u0 p s).toInt.toNat q) = QQ := hw
      refine pc_bnd (pc_bnd (p_X7_lay_L55 hp h1 h2 hN hx s32 (sA u 9 (((32 : Int32) * p1) + x3) x5) _ (ws N s (shr u0 p s).toInt.toNat q) ?_ FU (shr u0 p s).toInt.toNat (0 : Int32) x4 (sA u 9 (((32 : Int32) * p1) + x3) x5) q (by decide) (by rw [esh2, li_0]; omega) ⟨rfl, fun _ _ => rfl, rfl⟩ LO.rf hq h4 rfl))
      intro x47 x46 v hF' hLo' hq' hx'
      refine pc_bnd (ih c' (s + 1) _ _ _ _ (ws N s (shr u0 p s).toInt.toNat q) e1 (by omega) ?_ (hLo.tr hLo') ?_ e5 hq' hx' hw)
      · refine ⟨hF'.1.trans hF.1, fun j a b => ?_, hF'.2.2.trans hF.2.2.1, fun i hi => ?_⟩
        · rw [hF'.2.1 j b]
          show va_up u.2.1 9 _ j = _
          rw [va_ne a]
          exact hF.2.1 j a b
        · rw [hF'.2.1 9 (by decide)]
          show upd (u.2.1 9) (((32 : Int32) * p1) + x3).toNatClampNeg x5 i = _
          unfold upd
          rw [i1n, if_neg (by omega)]
          exact hF.2.2.2 i hi
      · intro t ht
        rw [hF'.2.1 9 (by decide)]
        show (upd (u.2.1 9) (((32 : Int32) * p1) + x3).toNatClampNeg x5 (32 * p + t)).toInt = _
        unfold upd
        rw [i1n]
        by_cases r : t = s
        · rw [if_pos (by omega), h5, r]
        · rw [if_neg (by omega)]
          exact h9 t (by omega)
-- numbers and places, s signs done, x places of the next
def NPM (u : OS) (p N : Nat) (sh f : Nat → Int32) (s x : Nat) : Prop := ∀ r t, r < N → t < 32 → f r = nI t → (t < s ∨ (t = s ∧ r < x)) → u.2.1 13 (4096 * p + ((psum sh t).toNat + cw f al (nI t) r)) = nI r ∧ u.2.1 12 (4096 * p + r) = nI ((sh t).toInt.toNat + cw f al (nI t) r)
theorem slot_lt {sh f : Nat → Int32} {N r t : Nat} (h : SHN sh N) (hf : SPC sh N f) (hr : r < N) (ht : t < 32) (e : f r = nI t) : ((psum sh t).toNat + cw f al (nI t) r : Int) < psum sh (t + 1) ∧ 0 ≤ psum sh t ∧ psum sh (t + 1) ≤ (N : Int) ∧ (cw f al (nI t) r : Int) < (sh t).toInt := by
  have c := (hf.cnt h).2 t ht
  have l := cw_lt (f := f) hr e
  have el := psum_el (f := sh) (N := 32) (s := t) h.2.1 ht
  have e2 : psum sh (t + 1) = psum sh t + (sh t).toInt := rfl
  rw [h.2.2] at el
  omega
theorem slt_ne {sh f : Nat → Int32} {N r r2 t t2 : Nat} (h : SHN sh N) (hf : SPC sh N f) (hr : r < N) (ht : t < 32) (e : f r = nI t) (hr2 : r2 < N) (ht2 : t2 < 32) (e2 : f r2 = nI t2) (hlt : t2 < t ∨ (t2 = t ∧ r2 < r)) : (psum sh t2).toNat + cw f al (nI t2) r2 < (psum sh t).toNat + cw f al (nI t) r := by
  have a := slot_lt h hf hr2 ht2 e2
  have b := slot_lt h hf hr ht e
  rcases hlt with q | ⟨q1, q2⟩
  · have m := psum_mono (f := sh) (N := 32) (m := t2 + 1) (n := t) h.2.1 (by omega) (by omega)
    omega
  · subst q1
    have := cw_lt (f := f) q2 e2
    omega
set_option maxHeartbeats 2000000 in
theorem p_X7_lay_L132 {p1 x2 x12 : Int32} {p N s : Nat} (hp : p1.toInt = p) (h1 : p ≤ 1) (h2 : x2.toInt = N) (h12 : x12 = nI s) (hs : s < 32) (u0 : OS) (sh f : Nat → Int32) (esh : shr u0 p = sh) (ef : plc u0 p = f) (hSH : SHN sh N) (hf : SPC sh N f) (hLY : LY u0 p) {Q : OS → Prop} (K : Int32 → Int32 → OS → Option OS) (hK : ∀ a b u, FC u0 u → LO p u0 u → NPM u p N sh f (s + 1) 0 → pc (K a b u) Q) : ∀ (n x : Nat) (x18 x19 : Int32) (u : OS), x18 = nI x → x ≤ N → x19 = nI (cw f al (nI s) x) → FC u0 u → LO p u0 u → NPM u p N sh f s x → pc (f_X7_lay_L132 p1 x2 x12 n K x18 x19 u) Q := by
  have hN1 := two_b hSH.1
  have cN := (hf.cnt hSH).2 s hs
  have el := psum_el (f := sh) (N := 32) (s := s) hSH.2.1 hs
  rw [hSH.2.2] at el
  intro n
  induction n with
  | zero => intro x x18 x19 u _ _ _ _ _ _; exact pc_none
  | succ n ih =>
    intro x x18 x19 u hx hxN hx19 hF hLo hN
    have ex : x18.toInt = x := by rw [hx, nI_toInt (by omega)]
    have ex12 : x12.toInt = s := by rw [h12, nI_toInt (by omega)]
    have cx := cw_le f (nI s) (N - x) x
    rw [show x + (N - x) = N by omega] at cx
    have ex19 : x19.toInt = (cw f al (nI s) x : Int) := by rw [hx19, nI_toInt (by omega)]
    have i1 := ix32 (x := x12) hp h1 (by omega) (by omega)
    have i1n : (((32 : Int32) * p1) + x12).toNatClampNeg = 32 * p + s := by
      show (((32 : Int32) * p1) + x12).toInt.toNat = _
      omega
    have i2 := ix4096 (x := x18) hp h1 (by omega) (by omega)
    have i2n : (((4096 : Int32) * p1) + x18).toNatClampNeg = 4096 * p + x := by
      show (((4096 : Int32) * p1) + x18).toInt.toNat = _
      omega
    have e8 : u.2.1 8 (((32 : Int32) * p1) + x12).toNatClampNeg = sh s := by
      rw [i1n, hF.2.1 8 (by decide) (by decide), ← esh]; rfl
    have e9 : (u.2.1 9 (((32 : Int32) * p1) + x12).toNatClampNeg).toInt = psum sh s := by
      rw [i1n, hF.2.1 9 (by decide) (by decide), hLY s hs, esh]
    have e11 : u.2.1 11 (((4096 : Int32) * p1) + x18).toNatClampNeg = f x := by
      rw [i2n, hF.2.1 11 (by decide) (by decide), ← ef]; rfl
    unfold f_X7_lay_L132
    refine pc_ite (fun d => ?_) (fun d => ?_)
    · have d1 := Int32.le_iff_toInt_le.mp d
      rw [h2, ex] at d1
      refine hK _ _ _ hF hLo (fun r t hr ht er hc => hN r t hr ht er ?_)
      omega
    · have d1 := mt Int32.le_iff_toInt_le.mpr d
      rw [h2, ex] at d1
      have xN : x < N := by omega
      have e1 : x18 + (1 : Int32) = nI (x + 1) := by rw [hx, nI_1]
      have cs := cw_s f (nI s) x
      have skip : ¬ f x = nI s → pc (bnd (x18 + (1 : Int32)) fun x29 => f_X7_lay_L132 p1 x2 x12 n K x29 x19 u) Q := by
        intro q
        rw [if_neg q] at cs
        refine pc_bnd (ih (x + 1) _ _ _ e1 (by omega) (by rw [cs]; exact hx19) hF hLo (fun r t hr ht er hc => hN r t hr ht er ?_))
        rcases hc with z | ⟨z1, z2⟩
        · exact Or.inl z
        · right
          refine ⟨z1, ?_⟩
          rcases Nat.lt_or_ge r x with w | w
          · exact w
          · have : r = x := by omega
            rw [this, z1] at er
            exact absurd er q
      refine pc_gdi (fun _ _ => ?_)
      rw [e8]
      refine pc_ite (fun q => skip ?_) (fun q => pc_gdi (fun _ _ => ?_))
      · intro w
        have q1 := i0_le.mp q
        have := cw_lt (f := f) xN w
        omega
      · rw [e11]
        refine pc_ite (fun q => ?_) (fun q => skip (by rw [← h12]; exact q))
        have q : f x = nI s := by rw [← h12]; exact q
        rw [if_pos q] at cs
        have sl := slot_lt hSH hf xN hs q
        have ev : sh s + x19 = nI ((sh s).toInt.toNat + cw f al (nI s) x) := by
          refine Int32.toInt_inj.mp ?_
          rw [add32 (by omega) (by omega), nI_toInt (by omega), ex19]
          omega
        have i3 : (((4096 : Int32) * p1) + (u.2.1 9 (((32 : Int32) * p1) + x12).toNatClampNeg)).toInt = 4096 * p + psum sh s := by
          rw [ix4096 (x := u.2.1 9 (((32 : Int32) * p1) + x12).toNatClampNeg) hp h1 (by omega) (by omega), e9]
        have i4 : ((((4096 : Int32) * p1) + (u.2.1 9 (((32 : Int32) * p1) + x12).toNatClampNeg)) + x19).toInt = 4096 * p + psum sh s + (cw f al (nI s) x : Int) := by
          rw [add32 (by omega) (by omega), i3, ex19]
        have i4n : ((((4096 : Int32) * p1) + (u.2.1 9 (((32 : Int32) * p1) + x12).toNatClampNeg)) + x19).toNatClampNeg = 4096 * p + ((psum sh s).toNat + cw f al (nI s) x) := by
          show ((((4096 : Int32) * p1) + (u.2.1 9 (((32 : Int32) * p1) + x12).toNatClampNeg)) + x19).toInt.toNat = _
          omega
        refine pc_gdi (fun _ _ => pc_gdi (fun _ _ => pc_bnd (pc_gdi (fun _ _ => pc_gdi (fun _ _ => pc_bnd (pc_bnd (pc_bnd (ih (x + 1) _ _ _ e1 (by omega) ?_ ?_ ?_ ?_))))))))
        · rw [hx19, cs, ← nI_1]
        · refine ⟨hF.1, fun j a b => ?_, hF.2.2⟩
          rw [← hF.2.1 j a b]
          show va_up (va_up u.2.1 12 _) 13 _ j = _
          rw [va_ne b, va_ne a]
        · refine hLo.tr (fun i hi => ⟨rfl, ?_, ?_⟩)
          · show upd (u.2.1 12) (((4096 : Int32) * p1) + x18).toNatClampNeg (sh s + x19) i = u.2.1 12 i
            exact upd_lo (by rw [i2n]; omega)
          · show upd (u.2.1 13) ((((4096 : Int32) * p1) + (u.2.1 9 (((32 : Int32) * p1) + x12).toNatClampNeg)) + x19).toNatClampNeg x18 i = u.2.1 13 i
            exact upd_lo (by rw [i4n]; omega)
        · intro r t hr ht er hc
          show upd (u.2.1 13) ((((4096 : Int32) * p1) + (u.2.1 9 (((32 : Int32) * p1) + x12).toNatClampNeg)) + x19).toNatClampNeg x18 (4096 * p + ((psum sh t).toNat + cw f al (nI t) r)) = nI r ∧ upd (u.2.1 12) (((4096 : Int32) * p1) + x18).toNatClampNeg (sh s + x19) (4096 * p + r) = nI ((sh t).toInt.toNat + cw f al (nI t) r)
          rw [i4n, i2n]
          unfold upd
          by_cases w : t = s ∧ r = x
          · obtain ⟨w1, w2⟩ := w
            subst w1
            subst w2
            rw [if_pos rfl, if_pos rfl]
            exact ⟨hx, ev⟩
          · have old : t < s ∨ (t = s ∧ r < x) := by omega
            have o := hN r t hr ht er old
            have ne := slt_ne hSH hf xN hs q hr ht er old
            have rx : ¬ r = x := by
              intro z
              rcases old with y | y
              · rw [z, q] at er
                have := nI_inj (by omega) (by omega) er
                omega
              · omega
            rw [if_neg (by omega), if_neg (by omega)]
            exact o
theorem FC.tr {u v w : OS} (h1 : FC u v) (h2 : FC v w) : FC u w := ⟨h2.1.trans h1.1, fun k a b => (h2.2.1 k a b).trans (h1.2.1 k a b), h2.2.2.trans h1.2.2⟩
theorem p_X7_lay_L119 {p1 x2 : Int32} {p N : Nat} (hp : p1.toInt = p) (h1 : p ≤ 1) (h2 : x2.toInt = N) (u0 : OS) (sh f : Nat → Int32) (esh : shr u0 p = sh) (ef : plc u0 p = f) (hSH : SHN sh N) (hf : SPC sh N f) (hLY : LY u0 p) {Q : OS → Prop} (K : Int32 → OS → Option OS) (hK : ∀ a u, FC u0 u → LO p u0 u → NPM u p N sh f 32 0 → pc (K a u) Q) : ∀ (n s : Nat) (x12 : Int32) (u : OS), x12 = nI s → s ≤ 32 → FC u0 u → LO p u0 u → NPM u p N sh f s 0 → pc (f_X7_lay_L119 p1 x2 n K x12 u) Q := by
  intro n
  induction n with
  | zero => intro s x12 u _ _ _ _ _; exact pc_none
  | succ n ih =>
    intro s x12 u hx hs hF hLo hN
    have ex : x12.toInt = s := by rw [hx, nI_toInt (by omega)]
    unfold f_X7_lay_L119
    refine pc_ite (fun d => ?_) (fun d => pc_bnd ?_)
    · have d1 := Int32.le_iff_toInt_le.mp d
      rw [li_32, ex] at d1
      have : s = 32 := by omega
      subst this
      exact hK _ _ hF hLo hN
    · have d1 := mt Int32.le_iff_toInt_le.mpr d
      rw [li_32, ex] at d1
      have e1 : x12 + (1 : Int32) = nI (s + 1) := by rw [hx, nI_1]
      have esu : shr u p = shr u0 p := shr_eq (hF.2.1 8 (by decide) (by decide))
      have efu : plc u p = plc u0 p := by
        unfold plc
        rw [hF.2.1 11 (by decide) (by decide)]
      refine p_X7_lay_L132 hp h1 h2 hx (by omega) u sh f (esu.trans esh) (efu.trans ef) hSH hf (fun t ht => ?_) _ (fun a b v hv hLv hNv => pc_bnd (ih (s + 1) _ v e1 (by omega) (hF.tr hv) (hLo.tr hLv) hNv)) FU 0 (0 : Int32) (0 : Int32) u rfl (Nat.zero_le _) rfl ⟨rfl, fun _ _ _ => rfl, rfl⟩ LO.rf hN
      rw [hF.2.1 9 (by decide) (by decide), esu]
      exact hLY t ht
theorem p_X7_lay (u : OS) {p1 : Int32} {p N : Nat} (hp : p1.toInt = p) (h1 : p ≤ 1) (hsz : ((1 : Int32) <<< ((u.2.1 10 p) &&& (31 : Int32))).toInt = N) (hSH : SHN (shr u p) N) : pc (f_X7_lay u p1) (fun v => SPD (shr u p) N (plc v p) (fun i => v.2.1 13 (4096 * p + i)) (fun i => v.2.1 12 (4096 * p + i)) ∧ v.2.1 8 = u.2.1 8 ∧ LO p u v ∧ v.2.2 = u.2.2) := by
  have en : p1.toNatClampNeg = p := by
    show p1.toInt.toNat = p
    omega
  unfold f_X7_lay
  refine pc_gdi (fun _ _ => ?_)
  rw [en]
  refine pc_bnd_eq (fun x2 hx2 => pc_bnd (p_X7_lay_L17 hp h1 (by rw [hx2]; exact hsz) hSH.1 u hSH.2.1 hSH.2.2 _ (wl N (shr u p) 32 0 (0, plc u p)) ?_ FU 32 0 (0 : Int32) (0 : Int32) (0 : Int32) u (0, plc u p) rfl rfl ⟨rfl, fun _ _ _ => rfl, rfl, fun _ _ => rfl⟩ LO.rf (fun t ht => absurd ht (Nat.not_lt_zero t)) (by rw [li_0]; rfl) rfl (by rw [li_0, Nat.zero_mul, Nat.zero_mod]; rfl) rfl))
  intro x5 x4 x3 v hF hLo hq hLY
  have esv : shr v p = shr u p := shr_eq (hF.2.1 8 (by decide) (by decide))
  have hf : SPC (shr u p) N (plc v p) := ⟨plc u p, fun i _ => by rw [hq]⟩
  refine pc_bnd (p_X7_lay_L119 hp h1 (by rw [hx2]; exact hsz) v (shr u p) (plc v p) esv rfl hSH hf hLY _ ?_ FU 0 (0 : Int32) v rfl (Nat.zero_le _) ⟨rfl, fun _ _ _ => rfl, rfl⟩ LO.rf (fun r t _ _ _ hc => absurd hc (by omega)))
  intro a w hFw hLw hNw
  have efw : plc w p = plc v p := by
    unfold plc
    rw [hFw.2.1 11 (by decide) (by decide)]
  refine pc_some ⟨⟨?_, fun r t hr ht er => ?_, fun r t hr ht er => ?_⟩, ?_, hLo.tr hLw, hFw.2.2.trans hF.2.2.1⟩
  · rw [efw]; exact hf
  · rw [efw] at er ⊢
    exact (hNw r t hr ht er (Or.inl ht)).1
  · rw [efw] at er ⊢
    exact (hNw r t hr ht er (Or.inl ht)).2
  · rw [hFw.2.1 8 (by decide) (by decide), hF.2.1 8 (by decide) (by decide)]

-- ===== the class makes the spread =====
theorem tn32x {x : Int32} (h : 0 ≤ x.toInt) : (x.toBitVec.toNat : Int) = x.toInt := by
  have h4 := BitVec.toInt_eq_toNat_cond x.toBitVec
  have e : x.toInt = x.toBitVec.toInt := rfl
  rw [← e] at h4
  have h6 := x.toBitVec.isLt
  by_cases c : 2 * x.toBitVec.toNat < 2 ^ 32
  · rw [if_pos c] at h4
    omega
  · rw [if_neg c] at h4
    omega
theorem and_m {k : Nat} (h1 : 5 ≤ k) (h2 : k ≤ 12) (a : Int32) (ha : 0 ≤ a.toInt) {sz : Int32} (hs : sz.toInt = ((2 ^ k : Nat) : Int)) : (a &&& (sz - (1 : Int32))).toInt = a.toInt % ((2 ^ k : Nat) : Int) := by
  have ak := (powA k (by omega) h1).2.2.2.2.2
  have e1 : (sz - (1 : Int32)).toInt = ((2 ^ k : Nat) : Int) - 1 := by rw [sub32 (by rw [li_1]; omega) (by rw [li_1]; omega), li_1, hs]
  have n1 := tn32x (x := sz - (1 : Int32)) (by omega)
  have n2 := tn32x ha
  have p := and32 a (sz - (1 : Int32)) (by omega)
  have n3 := tn32x p.1
  have h3 : (a &&& (sz - (1 : Int32))).toBitVec.toNat = a.toBitVec.toNat % 2 ^ k := by
    rw [Int32.toBitVec_and, BitVec.toNat_and]
    have e : (sz - (1 : Int32)).toBitVec.toNat = 2 ^ k - 1 := by omega
    rw [e, Nat.and_two_pow_sub_one_eq_mod]
  rw [← n3, h3, ← n2, Int.natCast_emod]
def FS (u v : OS) : Prop := v.1 = u.1 ∧ (∀ j, j ≠ 8 → v.2.1 j = u.2.1 j) ∧ v.2.2 = u.2.2
theorem FS.tr {u v w : OS} (h1 : FS u v) (h2 : FS v w) : FS u w := ⟨h2.1.trans h1.1, fun k a => (h2.2.1 k a).trans (h1.2.1 k a), h2.2.2.trans h1.2.2⟩
set_option maxHeartbeats 1000000 in
theorem p_X4_makeSpread_L80 {x5 x7 : Int32} {k s : Nat} (h1 : 5 ≤ k) (h2 : k ≤ 12) (hN : two (2 ^ k)) (h5 : x5.toInt = ((stp (2 ^ k) : Nat) : Int)) (h7 : x7 = nI s) (hs : s < 32) (u0 : OS) (hsz : (u0.1 1).toInt = ((2 ^ k : Nat) : Int)) (hle : (u0.2.1 3 s).toInt ≤ ((2 ^ k : Nat) : Int)) {Q : OS → Prop} (K : Int32 → Int32 → OS → Option (OS × Nat × Nat)) (QQ : Nat × (Nat → Int32)) (hK : ∀ (a b : Int32) (u : OS), FS u0 u → u.2.1 8 = QQ.2 → a.toInt = ((QQ.1 * stp (2 ^ k) % 2 ^ k : Nat) : Int) → pcA (K a b u) Q) : ∀ (n c : Nat) (x20 x21 : Int32) (u : OS) (q : Nat × (Nat → Int32)), 0 ≤ x20.toInt → x20.toInt + (c : Int) = (u0.2.1 3 s).toInt → FS u0 u → u.2.1 8 = q.2 → x21.toInt = ((q.1 * stp (2 ^ k) % 2 ^ k : Nat) : Int) → ws (2 ^ k) s c q = QQ → pcA (f_X4_makeSpread_L80 x5 x7 n K x20 x21 u) Q := by
  have ak := (powA k (by omega) h1).2.2.2.2.2
  intro n
  induction n with
  | zero => intro c x20 x21 u q _ _ _ _ _ _; exact pcA_none
  | succ n ih =>
    intro c x20 x21 u q ha hc hF hq hx hw
    have hm : q.1 * stp (2 ^ k) % 2 ^ k < 2 ^ k := Nat.mod_lt _ (by omega)
    have ex7 : x7.toInt = s := by rw [h7, nI_toInt (by omega)]
    have en7 : x7.toNatClampNeg = s := by
      show x7.toInt.toNat = s
      omega
    have enx : x21.toNatClampNeg = q.1 * stp (2 ^ k) % 2 ^ k := by
      show x21.toInt.toNat = _
      omega
    have e3 : u.2.1 3 s = u0.2.1 3 s := by rw [hF.2.1 3 (by decide)]
    have e1 : u.1 1 = u0.1 1 := by rw [hF.1]
    have s0 : stp (2 ^ k) ≤ 5000 := by
      unfold stp
      omega
    unfold f_X4_makeSpread_L80
    refine pcA_gdi (fun _ _ => ?_)
    rw [en7, e3, e1]
    refine pcA_ite (fun d => ?_) (fun d => pcA_ite (fun d2 => ?_) (fun d2 => pcA_gdi (fun _ _ => pcA_bnd ?_)))
    · have d1 := Int32.le_iff_toInt_le.mp d
      have : c = 0 := by omega
      subst this
      have hw : q = QQ := hw
      rw [hw] at hq hx
      exact hK _ _ _ hF hq hx
    · exfalso
      have d1 := mt Int32.le_iff_toInt_le.mpr d
      have d3 := Int32.le_iff_toInt_le.mp d2
      omega
    · have d1 := mt Int32.le_iff_toInt_le.mpr d
      obtain ⟨c', rfl⟩ : ∃ c', c = c' + 1 := ⟨c - 1, by omega⟩
      have e4 := inc32 (x := x20) (by omega)
      have ea : (x21 + x5).toInt = ((q.1 * stp (2 ^ k) % 2 ^ k + stp (2 ^ k) : Nat) : Int) := by
        rw [add32 (by omega) (by omega), hx, h5]
        omega
      have em := and_m h1 h2 (x21 + x5) (by omega) (sz := (sA u 8 x21 x7).1 1) (by show (u.1 1).toInt = _; rw [e1]; exact hsz)
      have em2 : ((x21 + x5) &&& ((sA u 8 x21 x7).1 1 - (1 : Int32))).toInt = (((q.1 + 1) * stp (2 ^ k) % 2 ^ k : Nat) : Int) := by
        rw [em, ea, ← Int.natCast_emod, Nat.mod_add_mod, Nat.succ_mul]
      refine pcA_bnd (pcA_bnd (ih c' _ _ _ (q.1 + 1, upd q.2 (q.1 * stp (2 ^ k) % 2 ^ k) (nI s)) (by omega) (by omega) ?_ ?_ em2 hw))
      · refine ⟨hF.1, fun j hj => ?_, hF.2.2⟩
        rw [← hF.2.1 j hj]
        exact va_ne (f := u.2.1) hj
      · show upd (u.2.1 8) x21.toNatClampNeg x7 = _
        rw [enx, hq, h7]
theorem p_X4_makeSpread_L71 {x5 : Int32} {k : Nat} (h1 : 5 ≤ k) (h2 : k ≤ 12) (hN : two (2 ^ k)) (h5 : x5.toInt = ((stp (2 ^ k) : Nat) : Int)) (u0 : OS) (hsz : (u0.1 1).toInt = ((2 ^ k : Nat) : Int)) (hSH : SHN (u0.2.1 3) (2 ^ k)) {Q : OS → Prop} (K : Int32 → Int32 → OS → Option (OS × Nat × Nat)) (QQ : Nat × (Nat → Int32)) (hK : ∀ (a b : Int32) (u : OS), FS u0 u → u.2.1 8 = QQ.2 → pcA (K a b u) Q) : ∀ (n c s : Nat) (x7 x8 : Int32) (u : OS) (q : Nat × (Nat → Int32)), x7 = nI s → s + c = 32 → FS u0 u → u.2.1 8 = q.2 → x8.toInt = ((q.1 * stp (2 ^ k) % 2 ^ k : Nat) : Int) → wl (2 ^ k) (u0.2.1 3) c s q = QQ → pcA (f_X4_makeSpread_L71 x5 n K x7 x8 u) Q := by
  intro n
  induction n with
  | zero => intro c s x7 x8 u q _ _ _ _ _ _; exact pcA_none
  | succ n ih =>
    intro c s x7 x8 u q hx hs hF hq h8 hw
    have ex : x7.toInt = s := by rw [hx, nI_toInt (by omega)]
    unfold f_X4_makeSpread_L71
    refine pcA_ite (fun d => ?_) (fun d => pcA_bnd ?_)
    · have d1 := Int32.le_iff_toInt_le.mp d
      rw [li_32, ex] at d1
      have c0 : c = 0 := by omega
      subst c0
      have hw : q = QQ := hw
      rw [hw] at hq
      exact hK _ _ _ hF hq
    · have d1 := mt Int32.le_iff_toInt_le.mpr d
      rw [li_32, ex] at d1
      have s32 : s < 32 := by omega
      obtain ⟨c', rfl⟩ : ∃ c', c = c' + 1 := ⟨c - 1, by omega⟩
      have e1 : x7 + (1 : Int32) = nI (s + 1) := by rw [hx, nI_1]
      have hw : wl (2 ^ k) (u0.2.1 3) c' (s + 1) (ws (2 ^ k) s (u0.2.1 3 s).toInt.toNat q) = QQ := hw
      have e3 : u.2.1 3 = u0.2.1 3 := hF.2.1 3 (by decide)
      have s0 := hSH.2.1 s s32
      have el := psum_el (f := u0.2.1 3) (N := 32) (s := s) hSH.2.1 s32
      rw [hSH.2.2] at el
      exact p_X4_makeSpread_L80 h1 h2 hN h5 hx s32 u (by rw [hF.1]; exact hsz) (by rw [e3]; omega) _ (ws (2 ^ k) s (u0.2.1 3 s).toInt.toNat q) (fun a b v hv hqv hav => pcA_bnd (ih c' (s + 1) _ _ v _ e1 (by omega) (hF.tr hv) hqv hav hw)) FU (u0.2.1 3 s).toInt.toNat (0 : Int32) x8 u q (by decide) (by rw [e3, li_0]; omega) ⟨rfl, fun _ _ => rfl, rfl⟩ hq h8 rfl
def FN (u v : OS) : Prop := v.1 = u.1 ∧ (∀ j, j ≠ 6 → j ≠ 9 → j ≠ 10 → v.2.1 j = u.2.1 j) ∧ v.2.2 = u.2.2
def NPC (u : OS) (sh f : Nat → Int32) (x : Nat) : Prop := (∀ r t, r < x → t < 32 → f r = nI t → u.2.1 10 ((psum sh t).toNat + cw f al (nI t) r) = nI r ∧ u.2.1 9 r = nI ((sh t).toInt.toNat + cw f al (nI t) r)) ∧ ∀ t, t < 32 → u.2.1 6 t = nI (cw f al (nI t) x)
set_option maxHeartbeats 2000000 in
theorem p_X4_numberPlaces_L10 {N : Nat} (u0 : OS) (sh f : Nat → Int32) (esh : u0.2.1 3 = sh) (ef : u0.2.1 8 = f) (hSH : SHN sh N) (hf : SPC sh N f) (h4 : ∀ t, t < 32 → (u0.2.1 4 t).toInt = psum sh t) (hN : (u0.1 1).toInt = N) (c8 : N ≤ u0.2.2.2 8) (c8b : u0.2.2.2 8 ≤ 4096) (c10 : N ≤ u0.2.2.2 10) (c10b : u0.2.2.2 10 ≤ 4096) {Q : OS → Prop} (K : Int32 → OS → Option OS) (hK : ∀ a u, FN u0 u → NPC u sh f N → pc (K a u) Q) : ∀ (n x : Nat) (x3 : Int32) (u : OS), x3 = nI x → x ≤ N → FN u0 u → NPC u sh f x → pc (f_X4_numberPlaces_L10 n K x3 u) Q := by
  have hN1 := two_b hSH.1
  have en8 := nIt (n := u0.2.2.2 8) (by omega)
  have en10 := nIt (n := u0.2.2.2 10) (by omega)
  intro n
  induction n with
  | zero => intro x x3 u _ _ _ _; exact pc_none
  | succ n ih =>
    intro x x3 u hx hxN hF hI
    have ex : x3.toInt = x := by rw [hx, nI_toInt (by omega)]
    have exn : x3.toNatClampNeg = x := by
      show x3.toInt.toNat = x
      omega
    have e1 : u.1 1 = u0.1 1 := by rw [hF.1]
    have e8c : u.2.2.2 8 = u0.2.2.2 8 := by rw [hF.2.2]
    have fin : ¬ x < N → pc (K x3 u) Q := by
      intro q
      have : x = N := by omega
      subst this
      exact hK _ _ hF hI
    unfold f_X4_numberPlaces_L10
    rw [e1, e8c]
    refine pc_ite (fun d => fin ?_) (fun d => pc_ite (fun d2 => fin ?_) (fun d2 => pc_gdi (fun _ _ => ?_)))
    · have d1 := Int32.le_iff_toInt_le.mp d
      rw [hN, ex] at d1
      omega
    · have d1 := Int32.le_iff_toInt_le.mp d2
      rw [en8, ex] at d1
      omega
    · have d1 := mt Int32.le_iff_toInt_le.mpr d
      rw [hN, ex] at d1
      have xN : x < N := by omega
      obtain ⟨t, ht, et⟩ := (hf.cnt hSH).1 x xN
      have e8 : u.2.1 8 x3.toNatClampNeg = nI t := by rw [exn, hF.2.1 8 (by decide) (by decide) (by decide), ef, et]
      rw [e8]
      have tn : (nI t).toNatClampNeg = t := nIn (by omega)
      have sl := slot_lt hSH hf xN ht et
      have el := psum_el (f := sh) (N := 32) (s := t) hSH.2.1 ht
      rw [hSH.2.2] at el
      have s0 := hSH.2.1 t ht
      have c6 := hI.2 t ht
      have cl : (cw f al (nI t) x : Int) < 5000 := by omega
      have c6t : (u.2.1 6 t).toInt = (cw f al (nI t) x : Int) := by rw [c6, nI_toInt (by omega)]
      have e4 : (u.2.1 4 t).toInt = psum sh t := by rw [hF.2.1 4 (by decide) (by decide) (by decide)]; exact h4 t ht
      have e3 : u.2.1 3 t = sh t := by rw [hF.2.1 3 (by decide) (by decide) (by decide), esh]
      have e14 : ((u.2.1 4 t) + (u.2.1 6 t)).toInt = psum sh t + (cw f al (nI t) x : Int) := by rw [add32 (by omega) (by omega), e4, c6t]
      have e14n : ((u.2.1 4 t) + (u.2.1 6 t)).toNatClampNeg = (psum sh t).toNat + cw f al (nI t) x := by
        show ((u.2.1 4 t) + (u.2.1 6 t)).toInt.toNat = _
        omega
      have ev : sh t + u.2.1 6 t = nI ((sh t).toInt.toNat + cw f al (nI t) x) := by
        refine Int32.toInt_inj.mp ?_
        rw [add32 (by omega) (by omega), nI_toInt (by omega), c6t]
        omega
      have ex1 : x3 + (1 : Int32) = nI (x + 1) := by rw [hx, nI_1]
      refine pc_bnd (pc_gdi (fun _ _ => pc_gdi (fun _ _ => ?_)))
      rw [tn, e3]
      refine pc_bnd (pc_gdi (fun _ _ => pc_gdi (fun _ _ => pc_gdi (fun _ _ => pc_bnd (pc_bnd (pc_ite (fun z => ?_) (fun z => pc_gdi (fun _ _ => pc_bnd (pc_gdi (fun _ _ => pc_gdi (fun _ _ => pc_bnd (pc_bnd (ih (x + 1) _ _ ex1 (by omega) ?_ ⟨?_, ?_⟩)))))))))))))
      · exfalso
        have z1 := Int32.le_iff_toInt_le.mp z
        have z2 : (sA u 9 x3 (sh t + u.2.1 6 t)).2.2.2 10 = u0.2.2.2 10 := by
          show u.2.2.2 10 = _
          rw [hF.2.2]
        rw [z2, en10, e14] at z1
        omega
      · refine ⟨hF.1, fun j a b c => ?_, hF.2.2⟩
        rw [← hF.2.1 j a b c]
        show va_up (va_up (va_up u.2.1 9 _) 10 _) 6 _ j = _
        rw [va_ne a, va_ne c, va_ne b]
      · intro r t2 hr ht2 er
        show upd (u.2.1 10) ((u.2.1 4 t) + (u.2.1 6 t)).toNatClampNeg x3 ((psum sh t2).toNat + cw f al (nI t2) r) = nI r ∧ upd (u.2.1 9) x3.toNatClampNeg (sh t + u.2.1 6 t) r = nI ((sh t2).toInt.toNat + cw f al (nI t2) r)
        rw [e14n, exn]
        unfold upd
        by_cases w : r = x
        · subst w
          have tt : t2 = t := nI_inj (by omega) (by omega) (er.symm.trans et)
          subst tt
          rw [if_pos rfl, if_pos rfl]
          exact ⟨hx, ev⟩
        · have o := hI.1 r t2 (by omega) ht2 er
          have ne : ¬ (psum sh t2).toNat + cw f al (nI t2) r = (psum sh t).toNat + cw f al (nI t) x := by
            rcases Nat.lt_or_ge t2 t with y | y
            · have := slt_ne hSH hf xN ht et (by omega) ht2 er (Or.inl y)
              omega
            · rcases Nat.lt_or_ge t t2 with y2 | y2
              · have := slt_ne hSH hf (show r < N by omega) ht2 er xN ht et (Or.inl y2)
                omega
              · have := slt_ne hSH hf xN ht et (by omega) ht2 er (Or.inr ⟨by omega, by omega⟩)
                omega
          rw [if_neg ne, if_neg w]
          exact o
      · intro t2 ht2
        show upd (u.2.1 6) (nI t).toNatClampNeg (u.2.1 6 t + (1 : Int32)) t2 = nI (cw f al (nI t2) (x + 1))
        rw [tn, cw_s, et]
        unfold upd
        by_cases w : t2 = t
        · subst w
          rw [if_pos rfl, if_pos rfl, c6, nI_1]
        · rw [if_neg w, if_neg (fun q => w (nI_inj (by omega) (by omega) q).symm)]
          exact hI.2 t2 ht2
theorem p_X4_numberPlaces {N : Nat} (u : OS) (hSH : SHN (u.2.1 3) N) (hf : SPC (u.2.1 3) N (u.2.1 8)) (h4 : ∀ t, t < 32 → (u.2.1 4 t).toInt = psum (u.2.1 3) t) (hN : (u.1 1).toInt = N) (c8 : N ≤ u.2.2.2 8) (c8b : u.2.2.2 8 ≤ 4096) (c10 : N ≤ u.2.2.2 10) (c10b : u.2.2.2 10 ≤ 4096) : pc (f_X4_numberPlaces u) (fun v => FN u v ∧ SPD (u.2.1 3) N (v.2.1 8) (v.2.1 10) (v.2.1 9)) := by
  unfold f_X4_numberPlaces
  refine pc_bnd (pc_bnd (p_X4_numberPlaces_L10 (N := N) (sG u 6 (flI 32 (u.2.1 6) (0 : Int32))) (u.2.1 3) (u.2.1 8) rfl rfl hSH hf h4 hN c8 c8b c10 c10b _ ?_ FU 0 (0 : Int32) _ rfl (Nat.zero_le _) ⟨rfl, fun _ _ _ _ => rfl, rfl⟩ ⟨fun r t hr => absurd hr (Nat.not_lt_zero r), fun t ht => ?_⟩))
  · intro a v hF hI
    have e8 : v.2.1 8 = u.2.1 8 := hF.2.1 8 (by decide) (by decide) (by decide)
    refine pc_some ⟨⟨hF.1, fun j a b c => ?_, hF.2.2⟩, ?_, fun r t hr ht er => ?_, fun r t hr ht er => ?_⟩
    · rw [hF.2.1 j a b c]
      show va_up u.2.1 6 _ j = _
      rw [va_ne a]
    · rw [e8]; exact hf
    · rw [e8] at er ⊢
      exact (hI.1 r t hr ht er).1
    · rw [e8] at er ⊢
      exact (hI.1 r t hr ht er).2
  · show flI 32 (u.2.1 6) (0 : Int32) t = nI (cw (u.2.1 8) al (nI t) 0)
    unfold flI
    rw [if_pos ht]
    rfl
-- what is known of a spread that stands
def SPS (k : Nat) (u : OS) : Prop := SPD (u.2.1 3) (2 ^ k) (u.2.1 8) (u.2.1 10) (u.2.1 9) ∧ 2 ^ k ≤ u.2.2.2 8
def FK (u v : OS) : Prop := v.1 0 = u.1 0 ∧ v.1 1 = u.1 1 ∧ v.1 2 = u.1 2 ∧ v.2.1 3 = u.2.1 3 ∧ v.2.1 4 = u.2.1 4
set_option maxHeartbeats 2000000 in
theorem p_X4_makeSpread {k : Nat} (h1 : 5 ≤ k) (h2 : k ≤ 12) (u : OS) (hIS : IS u) (hlg : u.1 0 = nI k) (hSH : SHN (u.2.1 3) (2 ^ k)) (h4 : ∀ t, t < 32 → (u.2.1 4 t).toInt = psum (u.2.1 3) t) (h7 : ¬ u.1 7 = 0 → SPS k u) : pcA (f_X4_makeSpread u) (fun v => FK u v ∧ SPS k v) := by
  have sk := sk32 h1 h2 hlg
  have hsz : (u.1 1).toInt = ((2 ^ k : Nat) : Int) := by rw [hIS.2.1]; exact sk
  have bN := two_b hSH.1
  have cn := IS_n hIS
  have en := nIt (n := u.2.2.2 8) (by omega)
  unfold f_X4_makeSpread
  refine pcA_ite (fun _ => pcA_bnd ?_) (fun z => pcA_some ⟨⟨rfl, rfl, rfl, rfl, rfl⟩, h7 z⟩)
  have key : ∀ w : OS, w.1 = u.1 → w.2.1 3 = u.2.1 3 → w.2.1 4 = u.2.1 4 → 2 ^ k ≤ w.2.2.2 8 → w.2.2.2 8 ≤ 4096 → w.2.2.2 10 = w.2.2.2 8 → pcA (bnd ((((w.1 1) / (2 : Int32)) + ((w.1 1) / (8 : Int32))) + (3 : Int32)) fun x5 =>
  bnd (fun (x11 : Int32) (x12 : Int32) (u13 : OS) =>
  oC1 (f_X4_numberPlaces u13) fun u15 =>
  bnd (sF u15 7 (1 : Int32)) fun u17 =>
  some (u17, 0, 0)) fun K130_14 =>
  f_X4_makeSpread_L71 x5 FU K130_14 (0 : Int32) (0 : Int32) w) (fun v => FK u v ∧ SPS k v) := by
    intro w ew e3 e4 c8 c8b c10
    have wsz : (w.1 1).toInt = ((2 ^ k : Nat) : Int) := by rw [ew]; exact hsz
    have d2 : ((w.1 1) / (2 : Int32)).toInt = ((2 ^ k : Nat) : Int) / 2 := by rw [div32 (by omega) (by decide), li_2, wsz]
    have d8 : ((w.1 1) / (8 : Int32)).toInt = ((2 ^ k : Nat) : Int) / 8 := by rw [div32 (by omega) (by decide), li_8, wsz]
    have a1 : (((w.1 1) / (2 : Int32)) + ((w.1 1) / (8 : Int32))).toInt = ((2 ^ k : Nat) : Int) / 2 + ((2 ^ k : Nat) : Int) / 8 := by rw [add32 (by omega) (by omega), d2, d8]
    have a2 : ((((w.1 1) / (2 : Int32)) + ((w.1 1) / (8 : Int32))) + (3 : Int32)).toInt = ((stp (2 ^ k) : Nat) : Int) := by
      rw [add32 (by rw [li_3]; omega) (by rw [li_3]; omega), a1, li_3]
      unfold stp
      omega
    refine pcA_bnd_eq (fun x5 hx5 => pcA_bnd ?_)
    refine p_X4_makeSpread_L71 h1 h2 hSH.1 (by rw [hx5]; exact a2) w wsz (by rw [e3]; exact hSH) _ (wl (2 ^ k) (w.2.1 3) 32 0 (0, w.2.1 8)) ?_ FU 32 0 (0 : Int32) (0 : Int32) w (0, w.2.1 8) rfl rfl ⟨rfl, fun _ _ => rfl, rfl⟩ rfl (by rw [li_0, Nat.zero_mul, Nat.zero_mod]; rfl) rfl
    intro a b v hF hq
    have v3 : v.2.1 3 = u.2.1 3 := (hF.2.1 3 (by decide)).trans e3
    have v4 : v.2.1 4 = u.2.1 4 := (hF.2.1 4 (by decide)).trans e4
    have vc8 : v.2.2.2 8 = w.2.2.2 8 := by rw [hF.2.2]
    have vc10 : v.2.2.2 10 = w.2.2.2 8 := by rw [hF.2.2]; exact c10
    refine pcA_oC1 (p_X4_numberPlaces (N := 2 ^ k) v (by rw [v3]; exact hSH) ⟨w.2.1 8, fun i _ => by rw [hq, v3, e3]⟩ (fun t ht => by rw [v4, v3]; exact h4 t ht) (by rw [hF.1]; exact wsz) (by omega) (by omega) (by omega) (by omega)) (fun x hx => pcA_bnd (pcA_some ⟨⟨?_, ?_, ?_, ?_, ?_⟩, ?_, ?_⟩))
    · show x.1 0 = u.1 0
      rw [hx.1.1, hF.1, ew]
    · show x.1 1 = u.1 1
      rw [hx.1.1, hF.1, ew]
    · show x.1 2 = u.1 2
      rw [hx.1.1, hF.1, ew]
    · show x.2.1 3 = u.2.1 3
      rw [hx.1.2.1 3 (by decide) (by decide) (by decide), v3]
    · show x.2.1 4 = u.2.1 4
      rw [hx.1.2.1 4 (by decide) (by decide) (by decide), v4]
    · show SPD (x.2.1 3) (2 ^ k) (x.2.1 8) (x.2.1 10) (x.2.1 9)
      rw [hx.1.2.1 3 (by decide) (by decide) (by decide)]
      exact hx.2
    · show 2 ^ k ≤ x.2.2.2 8
      rw [hx.1.2.2]
      omega
  have eNn : (u.1 1).toNatClampNeg = 2 ^ k := by
    show (u.1 1).toInt.toNat = 2 ^ k
    omega
  refine pcA_ite (fun c => key u rfl rfl rfl ?_ cn.1 hIS.2.2.2.2.2.2.1) (fun c => pcA_gdn (pcA_addc (pcA_bnd (pcA_gdn (pcA_addc (pcA_bnd (pcA_gdn (pcA_addc (pcA_bnd (key _ rfl rfl rfl ?_ ?_ ?_))))))))))
  · have := Int32.le_iff_toInt_le.mp c
    rw [en, hsz] at this
    omega
  · show 2 ^ k ≤ (u.1 1).toNatClampNeg
    rw [eNn]
    exact Nat.le_refl _
  · show (u.1 1).toNatClampNeg ≤ 4096
    rw [eNn]
    omega
  · rfl

-- ===== form 1: words; an octet of a number =====
theorem and255 (a : Int32) : (a &&& (255 : Int32)).toInt = a.toInt % 256 := by
  have h1 : (a &&& (255 : Int32)).toBitVec.toNat = a.toBitVec.toNat % 256 := by
    rw [Int32.toBitVec_and, BitVec.toNat_and]
    have e : ((255 : Int32)).toBitVec.toNat = 2 ^ 8 - 1 := by decide
    rw [e, Nat.and_two_pow_sub_one_eq_mod]
  have h2 := it32 (x := a &&& (255 : Int32)) (by rw [h1]; omega)
  rw [h2, h1]
  have h3 := BitVec.toInt_eq_toNat_cond a.toBitVec
  have h4 : a.toInt = a.toBitVec.toInt := rfl
  rw [← h4] at h3
  have h5 := a.toBitVec.isLt
  by_cases c : 2 * a.toBitVec.toNat < 2 ^ 32
  · rw [if_pos c] at h3
    rw [h3]
    omega
  · rw [if_neg c] at h3
    rw [h3]
    omega
-- octet b of a word
def octb (w : Int32) (b : Nat) : Int32 := (w >>> (nI (8 * b) &&& (31 : Int32))) &&& (255 : Int32)
theorem shr_255 (a : Int32) (b : Nat) (hb : b < 4) : ((a >>> (nI (8 * b) &&& (31 : Int32))) &&& (255 : Int32)).toInt = a.toInt / ((2 ^ (8 * b) : Nat) : Int) % 256 := by
  rw [and255, shr32 a (8 * b) (by omega)]
theorem low_ar {y a c P : Int} (hP : P = 1 ∨ P = 256 ∨ P = 65536 ∨ P = 16777216) (ha : a % 4294967296 = (y / P) % 4294967296) (hc : c % 4294967296 = y % 4294967296) : a % 256 = c / P % 256 := by
  rcases hP with rfl | rfl | rfl | rfl <;> omega
theorem pw_8 : ∀ b : Nat, b < 4 → (((2 ^ (8 * b) : Nat) : Int) = 1 ∨ ((2 ^ (8 * b) : Nat) : Int) = 256 ∨ ((2 ^ (8 * b) : Nat) : Int) = 65536 ∨ ((2 ^ (8 * b) : Nat) : Int) = 16777216) := by decide
theorem low_oct (y : Int64) (b : Nat) (hb : b < 4) (z : Int64) (hz : z.toInt = y.toInt / ((2 ^ (8 * b) : Nat) : Int)) : (z.toInt32 &&& (255 : Int32)) = octb y.toInt32 b := by
  unfold octb
  refine Int32.toInt_inj.mp ?_
  have e1 : ∀ x : Int, (x.bmod (2 ^ 32)) % 4294967296 = x % 4294967296 := fun x => Int.bmod_emod
  rw [shr_255 _ b hb, and255, Int64.toInt_toInt32, Int64.toInt_toInt32, hz]
  exact low_ar (pw_8 b hb) (e1 _) (e1 _)
def bnd32 (lg q : Int32) : Int64 := ((1 : Int64) <<< ((((63 : Int32) - lg)).toInt64 &&& (63 : Int64))) * q.toInt64
def rnW (B : Int64) (s : Int64 × OT) : Int64 × OT := if s.1 < B then s else (((s.1).toUInt64 >>> (((32 : Int32)).toInt64.toUInt64 &&& Int64.toUInt64 63)).toInt64, apw s.2 s.1.toInt32)
theorem rnW_st (B : Int64) (s : Int64 × OT) (h : s.1 < B) : rnW B s = s := by
  unfold rnW
  rw [if_pos h]
def sgW (lg q r : Int32) (l : Nat) (s : SS) : SS := ((rnW (bnd32 lg q) (s.2 l, s.1)).2, vp_updL s.2 l (nst lg q r (rnW (bnd32 lg q) (s.2 l, s.1)).1))
theorem p_X7_writeWords_L8 (q : Int32) (lg : Int32) {Q : OS → Prop} (K : Int64 → OS → Option OS) (st : Nat → Int64) (F : Int64 × OT) (hF : F.1 < bnd32 lg q) (u0 : OS) (hK : ∀ v, MST lg (F.2, st) v → WS u0 v → pc (K F.1 v) Q) : ∀ (n : Nat) (y : Int64) (t : OT) (u : OS), rnW (bnd32 lg q) (y, t) = F → MST lg (t, st) u → WS u0 u → pc (f_X7_writeWords_L8 q n K y u) Q := by
  intro n
  induction n with
  | zero => intro y t u _ _ _; exact pc_none
  | succ n ih =>
    intro y t u hk h hW
    obtain ⟨h0, h1, h2⟩ := h
    have h1 : RO t (u.1 20) (u.2.1 19) := h1
    unfold f_X7_writeWords_L8
    rw [h0]
    refine pc_ite (fun c => ?_) (fun c => pc_gdi (fun _ g1 => pc_bnd (pc_bnd (pc_bnd ?_))))
    · have c : y < bnd32 lg q := c
      rw [rnW_st _ (y, t) c] at hk
      have e : y = F.1 := by rw [← hk]
      have e2 : t = F.2 := by rw [← hk]
      rw [e]
      refine hK u ⟨h0, ?_, h2⟩ hW
      rw [← e2]
      exact h1
    · have c : ¬ y < bnd32 lg q := c
      have hk2 : (if y < bnd32 lg q then (y, t) else (((y).toUInt64 >>> (((32 : Int32)).toInt64.toUInt64 &&& Int64.toUInt64 63)).toInt64, apw t y.toInt32)) = F := hk
      rw [if_neg c] at hk2
      refine ih _ (apw t y.toInt32) _ ?_ ⟨h0, h1.apw y.toInt32 (by omega), h2⟩ hW.push
      rw [hk2]
      exact rnW_st _ F hF
theorem p_X7_writeWords {lg : Int32} {s : SS} (u : OS) (p q r : Int32) (l : Nat) (hp : p.toInt = l) (hl : l < 4) (h : MST lg s u) (hB : (rnW (bnd32 lg q) (s.2 l, s.1)).1 < bnd32 lg q) : pc (f_X7_writeWords u p q r) (fun v => MST lg (sgW lg q r l s) v ∧ WV u v) := by
  have en : p.toNatClampNeg = l := by
    show p.toInt.toNat = l
    omega
  unfold f_X7_writeWords
  refine pc_gdi (fun _ _ => pc_bnd (pc_bnd ?_))
  rw [en, h.2.2 l hl]
  refine p_X7_writeWords_L8 q lg _ s.2 _ hB u (fun v hv hW => pc_gdzl (pc_gdzl (pc_gdi (fun _ _ => pc_bnd (pc_some ⟨⟨hv.1, hv.2.1, fun i hi => ?_⟩, hW.wv.setL⟩))))) FU (s.2 l) s.1 u rfl h WS.rf
  show vp_updL (v.2.2.1 16) p.toNatClampNeg _ i = vp_updL s.2 l _ i
  unfold vp_updL
  rw [en, hv.1]
  by_cases q : i = l
  · rw [if_pos q, if_pos q]
    rfl
  · rw [if_neg q, if_neg q]
    exact hv.2.2 i hi
-- the class's pile: four octets a word; j octets of the word w are there already
def PSW (t : OT) (w : Int32) (j : Nat) (P : OS) : Prop := 0 ≤ t.1.toInt ∧ (P.1 1).toInt = 8 * (4 * t.1.toInt + j) ∧ (∀ i b : Nat, (i : Int) < t.1.toInt → b < 4 → P.2.1 0 (4 * i + b) = octb (t.2 i) b) ∧ (∀ b, b < j → P.2.1 0 (4 * t.1.toInt.toNat + b) = octb w b) ∧ P.2.2.2 0 ≤ 8000
theorem PSW.nx {t : OT} {w : Int32} {P : OS} (h : PSW t w 4 P) (w2 : Int32) : PSW (apw t w) w2 0 P := by
  obtain ⟨h0, h1, h2, h3, h4⟩ := h
  have en : t.1.toNatClampNeg = t.1.toInt.toNat := rfl
  have e1 : (apw t w).1.toInt = t.1.toInt + 1 := inc32 (x := t.1) (by have := i32_hi (P.1 1); omega)
  refine ⟨by omega, by rw [e1, h1]; omega, fun i b hi hb => ?_, fun b hb => absurd hb (Nat.not_lt_zero b), h4⟩
  rw [e1] at hi
  show P.2.1 0 (4 * i + b) = octb (upd t.2 t.1.toNatClampNeg w i) b
  unfold upd
  by_cases q : i = t.1.toNatClampNeg
  · rw [if_pos q, q, en]
    exact h3 b hb
  · rw [if_neg q]
    rw [en] at q
    exact h2 i b (by omega) hb
theorem p_pushW {t : OT} {w : Int32} {j : Nat} (P : OS) (b : Int32) (h : PSW t w j P) (hj : j < 4) (hb : b &&& (255 : Int32) = octb w j) (hc : 4 * t.1.toInt + j < P.2.2.2 0) : pc (f_X2_pushOctet P b) (fun v => PSW t w (j + 1) v ∧ v.2.2.2 = P.2.2.2) := by
  obtain ⟨h0, h1, h2, h3, h4⟩ := h
  have e1 : ((P.1 1) / (8 : Int32)).toInt = 4 * t.1.toInt + j := by
    rw [div32 (by omega) (by decide), li_8, h1]
    omega
  have en := nIt (n := P.2.2.2 0) (by omega)
  have e8 : ((P.1 1) + (8 : Int32)).toInt = (P.1 1).toInt + 8 := by rw [add32 (by rw [li_8]; omega) (by rw [li_8]; omega), li_8]
  have ex : ((P.1 1) / (8 : Int32)).toNatClampNeg = 4 * t.1.toInt.toNat + j := by
    show ((P.1 1) / (8 : Int32)).toInt.toNat = _
    omega
  unfold f_X2_pushOctet
  refine pc_bnd (pc_ite (fun c => ?_) (fun _ => pc_gdi (fun _ _ => pc_bnd (pc_bnd (pc_some ⟨⟨h0, ?_, fun i c hi hc2 => ?_, fun c hc2 => ?_, h4⟩, rfl⟩)))))
  · exfalso
    have c1 := Int32.le_iff_toInt_le.mp c
    rw [en, e1] at c1
    omega
  · show ((P.1 1) + (8 : Int32)).toInt = _
    rw [e8, h1]
    omega
  · show upd (P.2.1 0) ((P.1 1) / (8 : Int32)).toNatClampNeg (b &&& (255 : Int32)) (4 * i + c) = _
    unfold upd
    rw [ex, if_neg (by omega)]
    exact h2 i c hi hc2
  · show upd (P.2.1 0) ((P.1 1) / (8 : Int32)).toNatClampNeg (b &&& (255 : Int32)) (4 * t.1.toInt.toNat + c) = _
    unfold upd
    rw [ex]
    by_cases q : c = j
    · rw [if_pos (by omega), q]
      exact hb
    · rw [if_neg (by omega)]
      exact h3 c (by omega)
theorem p_widen77W {t : OT} (y : Int64) (cap : Nat → Nat) {Q : OS × OS → Prop} (K : Int64 → Int32 → OS → Option (OS × OS)) (hc : 4 * t.1.toInt + 4 ≤ cap 0) (hK : ∀ x (z : Int64) v, z.toInt = y.toInt / 4294967296 → PSW t y.toInt32 4 v → v.2.2.2 = cap → pc (K z x v) Q) : ∀ (n j : Nat) (x : Int32) (z : Int64) (P : OS), x = nI j → j ≤ 4 → z.toInt = y.toInt / ((2 ^ (8 * j) : Nat) : Int) → PSW t y.toInt32 j P → P.2.2.2 = cap → pc (f_X5_widen_L77 4 n K x z P) Q := by
  intro n
  induction n with
  | zero => intro j x z P _ _ _ _ _; exact pc_none
  | succ n ih =>
    intro j x z P hx hj hz h hcap
    have ex : x.toInt = j := by rw [hx, nI_toInt (by omega)]
    unfold f_X5_widen_L77
    refine pc_ite (fun c => ?_) (fun c => ?_)
    · have c1 := Int32.le_iff_toInt_le.mp c
      rw [li_4, ex] at c1
      have : j = 4 := by omega
      subst this
      have p32 : ((2 ^ (8 * 4) : Nat) : Int) = 4294967296 := by decide
      rw [p32] at hz
      exact hK _ _ _ hz h hcap
    · have c1 := mt Int32.le_iff_toInt_le.mpr c
      rw [li_4, ex] at c1
      have hj4 : j < 4 := by omega
      have e1 : x + (1 : Int32) = nI (j + 1) := by rw [hx, nI_1]
      refine pc_oC1 (p_pushW P z.toInt32 h hj4 (low_oct y j hj4 z hz) (by rw [hcap]; omega)) (fun v hv => pc_bnd (pc_bnd (ih (j + 1) _ _ v e1 (by omega) ?_ hv.1 (hv.2.trans hcap))))
      have s := shr64 z ((((8 : Int32)).toInt64 &&& (63 : Int64))) 8 sh_8
      have p8 : ((2 ^ 8 : Nat) : Int) = 256 := by decide
      rw [p8] at s
      rw [s, hz]
      have pe : ((2 ^ (8 * (j + 1)) : Nat) : Int) = ((2 ^ (8 * j) : Nat) : Int) * 256 := by
        rw [show 8 * (j + 1) = 8 * j + 8 by omega, Nat.pow_add, Int.natCast_mul]
        rfl
      rw [pe, Int.ediv_ediv_of_nonneg (Int.natCast_nonneg _)]
theorem p_widen60W (B : Int64) (F : Int64 × OT) (hF : F.1 < B) (cap : Nat → Nat) {Q : OS × OS → Prop} (K : Int64 → Int32 → OS → Option (OS × OS)) (hK : ∀ x v w, PSW F.2 w 0 v → v.2.2.2 = cap → pc (K F.1 x v) Q) : ∀ (n : Nat) (x : Int32) (y : Int64) (t : OT) (P : OS) (w : Int32), x.toInt = 0 ∨ (x.toInt = 1 ∧ y < B) → 0 ≤ y.toInt → rnW B (y, t) = F → PSW t w 0 P → P.2.2.2 = cap → 4 * t.1.toInt + 4 ≤ cap 0 ∨ y < B → pc (f_X5_widen_L60 4 B n K x y P) Q := by
  intro n
  induction n with
  | zero => intro x y t P w _ _ _ _ _ _; exact pc_none
  | succ n ih =>
    intro x y t P w hx hy hk h hcap hc
    unfold f_X5_widen_L60
    have fin : y < B → pc (K y x P) Q := by
      intro d
      rw [rnW_st B (y, t) d] at hk
      have e1 : y = F.1 := by rw [← hk]
      have e2 : t = F.2 := by rw [← hk]
      rw [e1]
      refine hK x P w ?_ hcap
      rw [← e2]
      exact h
    refine pc_ite (fun c => ?_) (fun c => pc_ite (fun d => fin d) (fun d => pc_bnd ?_))
    · exfalso
      have c1 := Int32.le_iff_toInt_le.mp c
      rw [li_2] at c1
      omega
    · have x0 : x.toInt = 0 := by
        rcases hx with q | q
        · exact q
        · exact absurd q.2 d
      have hc2 : 4 * t.1.toInt + 4 ≤ cap 0 := by
        rcases hc with q | q
        · exact q
        · exact absurd q d
      have hk2 : (if y < B then (y, t) else (((y).toUInt64 >>> (((32 : Int32)).toInt64.toUInt64 &&& Int64.toUInt64 63)).toInt64, apw t y.toInt32)) = F := hk
      rw [if_neg d] at hk2
      have e1 := inc32 (x := x) (by omega)
      have us := ushr64 y hy
      have h' : PSW t y.toInt32 0 P := ⟨h.1, h.2.1, h.2.2.1, fun b hb => absurd hb (Nat.not_lt_zero b), h.2.2.2.2⟩
      refine p_widen77W y cap _ hc2 (fun x2 z v hz hv hcv => ?_) FU 0 0 y P rfl (by decide) (by show y.toInt = y.toInt / ((1 : Nat) : Int); omega) h' hcap
      have ez : z = F.1 := by
        rw [← hk2]
        refine Int64.toInt_inj.mp ?_
        rw [hz]
        exact us.symm
      have et : apw t y.toInt32 = F.2 := by rw [← hk2]
      have zB : z < B := by rw [ez]; exact hF
      refine pc_bnd (ih _ z F.2 v 0 (Or.inr ⟨by rw [e1, x0]; rfl, zB⟩) (by rw [hz]; exact Int.ediv_nonneg hy (by decide)) ?_ ?_ hcv (Or.inr zB))
      · rw [rnW_st B (z, F.2) zB, ez]
      · rw [← et]
        exact hv.nx 0
theorem p_X5_widenW {lg q r p : Int32} {s : SS} (W P : OS) (l : Nat) (w : Int32) (hp : p.toInt = l) (hl : l < 4) (hW : ∀ i, i < 4 → W.2.2.1 0 i = s.2 i) (h : PSW s.1 w 0 P) (hc : 4 * s.1.1.toInt + 4 ≤ P.2.2.2 0) (h0 : 0 ≤ (s.2 l).toInt) (hB : (rnW (bnd32 lg q) (s.2 l, s.1)).1 < bnd32 lg q) (q0 : ¬ q ≤ (0 : Int32)) (q1 : q < ((1 : Int32) <<< (lg &&& (31 : Int32)))) : pc (f_X5_widen W P p q r lg 1) (fun v => (∀ i, i < 4 → v.1.2.2.1 0 i = (sgW lg q r l s).2 i) ∧ (∃ w, PSW (sgW lg q r l s).1 w 0 v.2) ∧ v.2.2.2.2 = P.2.2.2 ∧ v.1.1 = W.1) := by
  have en : p.toNatClampNeg = l := by
    show p.toInt.toNat = l
    omega
  unfold f_X5_widen
  rw [if_neg q0, if_pos q1]
  refine pc_bnd ?_
  rw [if_pos rfl]
  refine pc_bnd ?_
  rw [if_pos rfl]
  refine pc_bnd (pc_gdi (fun _ _ => pc_bnd (pc_bnd ?_)))
  rw [en, hW l hl]
  refine p_widen60W (bnd32 lg q) (rnW (bnd32 lg q) (s.2 l, s.1)) hB P.2.2.2 _ (fun x v w hv hcv => pc_gdzl (pc_gdzl (pc_gdi (fun _ _ => pc_bnd (pc_some ⟨fun i hi => ?_, ⟨w, hv⟩, hcv, rfl⟩))))) FU 0 (s.2 l) s.1 P w (Or.inl li_0) h0 rfl h rfl (Or.inl hc)
  show vp_updL (W.2.2.1 0) p.toNatClampNeg _ i = vp_updL s.2 l _ i
  unfold vp_updL
  rw [en]
  by_cases z : i = l
  · rw [if_pos z, if_pos z]
    rfl
  · rw [if_neg z, if_neg z]
    exact hW i hi

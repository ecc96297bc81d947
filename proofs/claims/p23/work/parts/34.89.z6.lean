-- ===== the model writes a form =====
def s0F (F lg : Int32) : SS := (((0 : Int32), fun _ => 0), fun _ => fsF F lg)
theorem SI0 {F lg : Int32} {k : Nat} (h1 : 5 ≤ k) (h2 : k ≤ 12) (hlg : lg = nI k) : SI F k (s0F F lg) 0 := by
  have z : (s0F F lg).1.1.toInt = 0 := li_0
  have ak := (powA k (by omega) h1).2.2.2.2.2
  refine ⟨fun f1 => ⟨by rw [z]; exact Int.le_refl _, by rw [z]; exact Int.le_refl _, fun l _ => ?_⟩, fun f2 => ⟨by rw [z]; exact Int.le_refl _, by rw [z]; exact Int.le_refl _, fun l _ => ?_⟩, fun f1 f2 => ⟨fun _ => 24, fun l _ => ?_, by rw [z]; exact Int.le_refl _, by rw [z]; decide⟩⟩
  · show 0 ≤ (fsF F lg).toInt
    unfold fsF
    rw [if_pos f1]
    decide
  · show ((2 ^ k : Nat) : Int) ≤ (fsF F lg).toInt ∧ (fsF F lg).toInt < 2 * ((2 ^ k : Nat) : Int)
    unfold fsF
    rw [if_neg (by rw [f2]; decide), if_pos f2, hlg, (one_k k (by omega)).1]
    omega
  · show 0 ≤ (fsF F lg).toInt ∧ (fsF F lg).toInt < 2147483648 ∧ (fsF F lg).toInt < ((2 ^ 24 : Nat) : Int)
    unfold fsF
    rw [if_neg f1, if_neg f2]
    decide
def preO (F lg len b0 : Int32) (sh : Nat → Int32) (ln : Nat) (st : Nat → Int64) : OT := stO (wF F) st ln 0 (tab sh 32 0 ((1 : Int32) <<< (lg &&& (31 : Int32))) (wid len.toInt64 2 (ap (ap ((0 : Int32), fun _ => 0) b0) lg), 0)).1
theorem preO_n {F lg len b0 : Int32} {sh : Nat → Int32} {ln k : Nat} {st : Nat → Int64} (h1 : 5 ≤ k) (h2 : k ≤ 12) (hlg : lg = nI k) (hs : ∀ i, i < 32 → 0 ≤ (sh i).toInt) (hln : ln ≤ 4) : 0 ≤ (preO F lg len b0 sh ln st).1.toInt ∧ (preO F lg len b0 sh ln st).1.toInt ≤ 452 := by
  have sk := sk32 h1 h2 hlg
  have ak := (powA k (by omega) h1).2.2.2.2.2
  have a1 : (ap ((0 : Int32), fun _ => 0) b0).1.toInt = 1 := ap_n ((0 : Int32), fun _ => 0) b0 (by show (0 : Int32).toInt < 100000; decide)
  have a2 := ap_n (ap ((0 : Int32), fun _ => 0) b0) lg (by omega)
  have a3 := wid_n len.toInt64 2 (ap (ap ((0 : Int32), fun _ => 0) b0) lg) (by omega) (by omega)
  have a4 := tab_n hs 32 0 ((1 : Int32) <<< (lg &&& (31 : Int32))) (wid len.toInt64 2 (ap (ap ((0 : Int32), fun _ => 0) b0) lg), 0) (by decide) (by rw [sk]; omega) (by show 1 ≤ (wid len.toInt64 2 (ap (ap ((0 : Int32), fun _ => 0) b0) lg)).1.toInt; omega) (by show (wid len.toInt64 2 (ap (ap ((0 : Int32), fun _ => 0) b0) lg)).1.toInt + 13 * ((32 : Nat) : Int) < 50000; omega)
  have a4l : (wid len.toInt64 2 (ap (ap ((0 : Int32), fun _ => 0) b0) lg)).1.toInt ≤ (tab sh 32 0 ((1 : Int32) <<< (lg &&& (31 : Int32))) (wid len.toInt64 2 (ap (ap ((0 : Int32), fun _ => 0) b0) lg), 0)).1.1.toInt := a4.1
  have a4h : (tab sh 32 0 ((1 : Int32) <<< (lg &&& (31 : Int32))) (wid len.toInt64 2 (ap (ap ((0 : Int32), fun _ => 0) b0) lg), 0)).1.1.toInt ≤ (wid len.toInt64 2 (ap (ap ((0 : Int32), fun _ => 0) b0) lg)).1.toInt + 13 * ((32 : Nat) : Int) := a4.2
  have a5 := stO_n (wF_8 F) (st := st) ln 0 (tab sh 32 0 ((1 : Int32) <<< (lg &&& (31 : Int32))) (wid len.toInt64 2 (ap (ap ((0 : Int32), fun _ => 0) b0) lg), 0)).1 (by omega) (by omega)
  unfold preO
  omega
theorem IM_eq2 {g : GH} {u v : OS} (h : IM g u) (e : v.1 = u.1) (ea : v.2.1 = u.2.1) : IM g v := IM_eq h (by rw [e]) (by rw [e]) (by rw [e]) (by rw [e]) (by rw [e]) (by rw [e]) (by rw [e]) (by rw [e]) (by rw [e]) (by rw [e]) ea
theorem SI.cnt {F : Int32} {k m : Nat} {s : SS} (hm : m ≤ 1000) (h : SI F k s m) : 0 ≤ s.1.1.toInt ∧ s.1.1.toInt ≤ 13000 ∧ ∀ l, l < 4 → 0 ≤ (s.2 l).toInt := by
  by_cases f1 : F = 1
  · have w := h.1 f1
    exact ⟨w.1, by have := w.2.1; omega, w.2.2⟩
  · by_cases f2 : F = 2
    · have w := h.2.1 f2
      refine ⟨w.1, by have := w.2.1; omega, fun l hl => ?_⟩
      have := w.2.2 l hl
      omega
    · have w := h.2.2 f1 f2
      have n := w.n
      exact ⟨n.1, by omega, fun l hl => (w.s l hl).1⟩
set_option maxHeartbeats 1000000 in
theorem p_X7_writeForm {g : GH} {F lg : Int32} {k : Nat} (h1 : 5 ≤ k) (h2 : k ≤ 12) (hlg : lg = nI k) (hF : F = 0 ∨ F = 1 ∨ F = 2 ∨ F = 3) (sh pf pl row : Nat → Int32) (ln : Nat) (hln : ln = 1 ∨ ln = 2 ∨ ln = 4) (u : OS) (h : IM g u) (z : u.1 7 = 1) (hl : u.1 0 = lg) (h3 : (u.1 3).toInt = ln) (hsh : ∀ i, i < 32 → u.2.1 8 i = sh i) (hPF : PFX sh pf) (hsum : psum sh 32 = ((2 ^ k : Nat) : Int)) (h9 : ∀ i, i < 32 → u.2.1 9 i = pf i) (h13 : ∀ i, i < 2 ^ k → u.2.1 13 i = pl i) (hpl : F = 2 → ∀ i, i < 2 ^ k → 0 ≤ (pl i).toInt ∧ (pl i).toInt < ((2 ^ k : Nat) : Int)) (M : Nat) (h5 : (u.1 5).toInt = M) (hM : M ≤ 1000) (hrow : ∀ i, i < M → u.2.1 4 i = row i ∧ 0 ≤ (row i).toInt ∧ (row i).toInt < 32 ∧ 1 ≤ (sh (row i).toNatClampNeg).toInt) (b0 : Int32) (hb0 : ((4 : Int32) * F) + (if u.1 3 = (4 : Int32) then (2 : Int32) else u.1 3 - (1 : Int32)) = b0) (T : SS) (hT : rowS F lg ((1 : Int32) <<< (lg &&& (31 : Int32))) sh pf pl row ln M (s0F F lg) = T) : pc (f_X7_writeForm u F) (fun v => RO (pourF F T.1 (preO F lg (u.1 5) b0 sh ln T.2)) (v.1 15) (v.2.1 14) ∧ v.1 18 = u.1 3 ∧ (∀ i, i < ln → v.2.2.1 17 i = T.2 i) ∧ v.2.2.1 33 = u.2.2.1 33) := by
  unfold f_X7_writeForm
  refine pc_bnd (pc_bnd ?_)
  have i1 : IM g (sF u 15 (0 : Int32)) := IM_15 h (by decide) (by decide)
  have o1 : ((sF u 15 (0 : Int32)).1 15).toInt = 0 := li_0
  have w1 : WF u (sF u 15 (0 : Int32)) := WF.sF (Or.inl rfl)
  have m1 : MO ((0 : Int32), fun _ => 0) (u.1 21) (sF u 15 (0 : Int32)) := by
    refine ⟨⟨rfl, by show 0 ≤ (0 : Int32).toInt; decide, fun i hi => ?_⟩, rfl⟩
    have hi : (i : Int) < (0 : Int32).toInt := hi
    rw [li_0] at hi
    omega
  have ln4 : ln ≤ 4 := by omega
  have key : ∀ x2 : Int32, ((4 : Int32) * F) + x2 = b0 → pc (oC1 (f_X7_putByte (sF u 15 (0 : Int32)) (((4 : Int32) * F) + x2)) fun u4 =>
  oC1 (f_X7_putByte u4 (u4.1 0)) fun u6 =>
  oC1 (f_X7_putWide u6 ((u6.1 5)).toInt64 (2 : Int32)) fun u8 =>
  oC1 (f_X7_writeTable u8) fun u10 =>
  bnd (fun (x14 : Int32) (u15 : OS) =>
  bnd (sF u15 20 (0 : Int32)) fun u17 =>
  bnd ((u17.1 5) - (1 : Int32)) fun x18 =>
  bnd (fun (x21 : Int32) (u22 : OS) =>
  bnd (fun (x26 : Int32) (u27 : OS) =>
  bnd (sF u27 18 (u27.1 3)) fun u29 =>
  bnd (sF u29 21 (0 : Int32)) fun u30 =>
  bnd ((u30.1 20) - (1 : Int32)) fun x31 =>
  bnd (fun (x34 : Int32) (u35 : OS) =>
  some u35) fun K353_36 =>
  f_X7_writeForm_L294 F FU K353_36 x31 u30) fun K274_28 =>
  f_X7_writeForm_L218 F FU K274_28 (0 : Int32) u22) fun K216_23 =>
  f_X7_writeForm_L92 F FU K216_23 x18 u17) fun K80_16 =>
  f_X7_writeForm_L55 F FU K80_16 (0 : Int32) u10) (fun v => RO (pourF F T.1 (preO F lg (u.1 5) b0 sh ln T.2)) (v.1 15) (v.2.1 14) ∧ v.1 18 = u.1 3 ∧ (∀ i, i < ln → v.2.2.1 17 i = T.2 i) ∧ v.2.2.1 33 = u.2.2.1 33) := by
    intro x2 hx2
    rw [hx2]
    refine pc_oC1 (pc_and (pc_of_ok (s_X7_putByte _ b0 i1 (by rw [o1]; decide))) (p_X7_putByte _ b0 m1)) (fun u4 k4 => ?_)
    have w4 : WF u u4 := w1.tr k4.2.2.wf
    have e40 : u4.1 0 = lg := by rw [w4.1 0 (by decide) (by decide) (by decide) (by decide) (by decide) (by decide), hl]
    rw [e40]
    refine pc_oC1 (pc_and (pc_of_ok (s_X7_putByte _ lg k4.1.1 (by rw [k4.1.2.2.1, o1]; decide))) (p_X7_putByte _ lg k4.2.1)) (fun u6 k6 => ?_)
    have w6 : WF u u6 := w4.tr k6.2.2.wf
    have e65 : u6.1 5 = u.1 5 := w6.1 5 (by decide) (by decide) (by decide) (by decide) (by decide) (by decide)
    rw [e65]
    refine pc_oC1 (pc_and (pc_of_ok (s_X7_putWide _ (u.1 5).toInt64 2 k6.1.1 (by decide) (by decide) (by rw [k6.1.2.2.1, k4.1.2.2.1, o1]; decide))) (p_X7_putWide _ (u.1 5).toInt64 2 2 (by decide) (by decide) k6.2.1)) (fun u8 k8 => ?_)
    have o8 : (u8.1 15).toInt ≤ 4 := by
      have q := k8.1.1.2.2.2
      rw [k6.1.2.2.1, k4.1.2.2.1, o1, li_2] at q
      exact q
    have w8 : WF u u8 := w6.tr k8.2.2.wf
    have z8 : u8.1 7 = 1 := by rw [w8.1 7 (by decide) (by decide) (by decide) (by decide) (by decide) (by decide), z]
    have l8 : u8.1 0 = lg := by rw [w8.1 0 (by decide) (by decide) (by decide) (by decide) (by decide) (by decide), hl]
    have s8 : ∀ i, i < 32 → u8.2.1 8 i = sh i := fun i hi => by rw [w8.2 8 (by decide) (by decide), hsh i hi]
    refine pc_oC1 (pc_and (pc_of_ok (s_X7_writeTable u8 k8.1.1.1 z8 (by omega))) (p_X7_writeTable h1 h2 hlg u8 l8 (fun i hi => by rw [s8 i hi]; exact hPF.1 i hi) k8.2.1)) (fun u10 k10 => ?_)
    have w10 : WF u u10 := w8.tr k10.2.2.wf
    have l10 : u10.1 0 = lg := by rw [w10.1 0 (by decide) (by decide) (by decide) (by decide) (by decide) (by decide), hl]
    have et := tab_c s8 32 0 ((1 : Int32) <<< (lg &&& (31 : Int32))) (wid (u.1 5).toInt64 2 (ap (ap ((0 : Int32), fun _ => 0) b0) lg), 0) (by decide)
    have m10 := k10.2.1
    rw [et] at m10
    generalize ht10 : (tab sh 32 0 ((1 : Int32) <<< (lg &&& (31 : Int32))) (wid (u.1 5).toInt64 2 (ap (ap ((0 : Int32), fun _ => 0) b0) lg), 0)).1 = t10 at m10
    have epre : preO F lg (u.1 5) b0 sh ln T.2 = stO (wF F) T.2 ln 0 t10 := by
      unfold preO
      rw [ht10]
    rw [epre]
    clear et epre ht10
    refine pc_bnd (p_X7_writeForm_L55 (F := F) u10 l10 _ ?_ FU 0 (0 : Int32) u10 rfl (by decide) rfl rfl (fun i hi => absurd hi (Nat.not_lt_zero i)) rfl)
    intro x14 u15 e15 a15 s15 t15
    have tt10 : u10.2.2.1 33 = u.2.2.1 33 := by rw [k10.2.2.2.2, k8.2.2.2.2, k6.2.2.2.2, k4.2.2.2.2]; rfl
    have w15 : WF u u15 := by
      unfold WF at *
      rw [e15, a15]
      exact w10
    have i15 : IM g u15 := IM_eq2 k10.1.1.1 e15 a15
    have w17 : WF u (sF u15 20 (0 : Int32)) := w15.tr (WF.sF (Or.inr (Or.inr (Or.inl rfl))))
    have e5 : u15.1 5 = u.1 5 := w15.1 5 (by decide) (by decide) (by decide) (by decide) (by decide) (by decide)
    have e3 : u15.1 3 = u.1 3 := w15.1 3 (by decide) (by decide) (by decide) (by decide) (by decide) (by decide)
    have x18 : ((sF u15 20 (0 : Int32)).1 5 - (1 : Int32)).toInt = (M : Int) - 1 := by
      show (u15.1 5 - (1 : Int32)).toInt = _
      rw [e5, sub32 (by rw [li_1]; omega) (by rw [li_1]; omega), li_1, h5]
    have l15 : u15.1 0 = lg := by rw [e15, l10]
    have m17 : MST lg (s0F F lg) (sF u15 20 (0 : Int32)) := by
      refine ⟨l15, ⟨rfl, by show 0 ≤ (0 : Int32).toInt; decide, fun i hi => ?_⟩, fun i hi => s15 i hi⟩
      have hi : (i : Int) < (0 : Int32).toInt := hi
      rw [li_0] at hi
      omega
    have ar : ∀ j, j ≠ 14 → j ≠ 19 → (sF u15 20 (0 : Int32)).2.1 j = u.2.1 j := fun j a b => w17.2 j a b
    have mo15 : MO t10 0 u15 := by
      unfold MO at *
      rw [e15, a15]
      exact m10
    refine pc_bnd (pc_bnd (pc_bnd (p_X7_writeForm_L92 (g := g) h1 h2 lg hlg hF sh pf pl row ln hln (sF u15 20 (0 : Int32)) (by show (u15.1 3).toInt = ln; rw [e3]; exact h3) (fun i hi => by rw [ar 8 (by decide) (by decide)]; exact hsh i hi) hPF hsum (fun i hi => by rw [ar 9 (by decide) (by decide)]; exact h9 i hi) (fun i hi => by rw [ar 13 (by decide) (by decide)]; exact h13 i hi) hpl M hM (fun i hi => by rw [ar 4 (by decide) (by decide)]; exact hrow i hi) _ T ?_ FU M _ (sF u15 20 (0 : Int32)) (s0F F lg) x18 (Nat.le_refl _) hT m17 (IM_20 i15) WV.rf (by rw [Nat.sub_self]; exact SI0 h1 h2 hlg))))
    intro x21 u22 m22 i22 w22 si
    have cn := si.cnt hM
    have e322 : u22.1 3 = u.1 3 := (w22.1 3 (by decide) (by decide) (by decide)).trans e3
    have mo22 : MO t10 0 u22 := by
      unfold MO at *
      rw [w22.1 15 (by decide) (by decide) (by decide), w22.1 21 (by decide) (by decide) (by decide), w22.2.1 14 (by decide)]
      exact mo15
    have est := stO_c (w := wF F) (st := u22.2.2.1 16) (st2 := T.2) (fun i hi => m22.2.2 i hi) ln 0 t10 (by omega)
    refine pc_bnd (p_X7_writeForm_L218 (F := F) (c := 0) u22 ln (by rw [e322]; exact h3) ln4 _ (stO (wF F) T.2 ln 0 t10) ?_ FU 0 (0 : Int32) u22 t10 rfl (Nat.zero_le _) (by rw [Nat.sub_zero]; exact est) mo22 rfl rfl rfl rfl (fun i hi => absurd hi (Nat.not_lt_zero i)) rfl)
    intro x26 u27 m27 e20 e19 e327 s27 t27
    refine pc_bnd (pc_bnd (pc_bnd (pc_bnd ?_)))
    refine pc_mono (p_X7_pour (F := F) (t := T.1) (o := stO (wF F) T.2 ln 0 t10) (sF (sF u27 18 (u27.1 3)) 21 (0 : Int32)) ?_ (by omega) ⟨m27.1, rfl⟩) (fun v hv => ⟨hv.1, ?_, fun i hi => ?_, ?_⟩)
    · show RO T.1 (u27.1 20) (u27.2.1 19)
      rw [e20, e19]
      exact m22.2.1
    · rw [hv.2.1 18 (by decide) (by decide)]
      show u27.1 3 = _
      rw [e327, e322]
    · rw [hv.2.2.2]
      show u27.2.2.1 17 i = _
      rw [s27 i hi]
      exact m22.2.2 i (by omega)
    · rw [hv.2.2.2]
      show u27.2.2.1 33 = _
      rw [t27, w22.2.2 33 (by decide)]
      show u15.2.2.1 33 = _
      rw [t15, tt10]
  refine pc_ite (fun c => key _ ?_) (fun c => key _ ?_)
  · have c : u.1 3 = (4 : Int32) := c
    rw [if_pos c] at hb0
    exact hb0
  · have c : ¬ u.1 3 = (4 : Int32) := c
    rw [if_neg c] at hb0
    exact hb0

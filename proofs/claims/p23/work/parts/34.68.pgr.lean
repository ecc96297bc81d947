-- ===== the shares step by step: what holds of them =====
theorem i0_le {x : Int32} : x ≤ (0 : Int32) ↔ x.toInt ≤ 0 := by rw [Int32.le_iff_toInt_le, li_0]
theorem GS_b (c : Nat → Int32) : ∀ m : Nat, m ≤ 5000 → (∀ i, 0 ≤ (GS c m i).toInt ∧ (GS c m i).toInt ≤ m + 1) ∧ (∀ i, GS c m i ≤ (0 : Int32) ↔ c i ≤ (0 : Int32)) := by
  intro m
  induction m with
  | zero =>
    intro _
    have key : ∀ i, (0 ≤ (gs0 c i).toInt ∧ (gs0 c i).toInt ≤ ((0 : Nat) : Int) + 1) ∧ (gs0 c i ≤ (0 : Int32) ↔ c i ≤ (0 : Int32)) := by
      intro i
      unfold gs0
      by_cases q : c i ≤ (0 : Int32)
      · rw [if_pos q]
        exact ⟨by decide, fun _ => q, fun _ => by decide⟩
      · rw [if_neg q]
        exact ⟨by decide, fun h => absurd h (by decide), fun h => absurd h q⟩
    exact ⟨fun i => (key i).1, fun i => (key i).2⟩
  | succ m ih =>
    intro hm
    obtain ⟨h1, h2⟩ := ih (by omega)
    have e : GS c (m + 1) = gst c (GS c m) := rfl
    rw [e]
    unfold gst
    cases ea : amf c (GS c m) 32 with
    | none =>
      refine ⟨fun i => ?_, h2⟩
      have := h1 i
      show 0 ≤ (GS c m i).toInt ∧ (GS c m i).toInt ≤ ((m + 1 : Nat) : Int) + 1
      omega
    | some a =>
      have ha := (amf_lt c _ 32 a ea).2
      have b := h1 a
      have ei := inc32 (x := GS c m a) (by omega)
      have hpos := mt i0_le.mpr ha
      refine ⟨fun i => ?_, fun i => ?_⟩
      · show 0 ≤ (upd (GS c m) a (GS c m a + (1 : Int32)) i).toInt ∧ (upd (GS c m) a (GS c m a + (1 : Int32)) i).toInt ≤ ((m + 1 : Nat) : Int) + 1
        unfold upd
        have := h1 i
        by_cases q : i = a
        · rw [if_pos q]; omega
        · rw [if_neg q]; omega
      · show upd (GS c m) a (GS c m a + (1 : Int32)) i ≤ (0 : Int32) ↔ c i ≤ (0 : Int32)
        unfold upd
        by_cases q : i = a
        · rw [if_pos q, q]
          refine ⟨fun h => ?_, fun h => absurd ((h2 a).mpr h) ha⟩
          have := i0_le.mp h
          omega
        · rw [if_neg q]; exact h2 i
theorem gs0_sum (c : Nat → Int32) : ∀ n : Nat, psum (gs0 c) n = cpos c n
  | 0 => rfl
  | n + 1 => by
    unfold psum cpos
    rw [gs0_sum c n]
    unfold gs0
    by_cases q : c n ≤ (0 : Int32)
    · have := i0_le.mp q
      rw [if_pos q, if_neg (by omega), li_0]
    · have := mt i0_le.mpr q
      rw [if_neg q, if_pos (by omega), li_1]
theorem GS_am (c : Nat → Int32) (hc : 0 < cpos c 32) {m : Nat} (hm : m ≤ 5000) : ∃ a, amf c (GS c m) 32 = some a ∧ a < 32 := by
  obtain ⟨i, i1, i2⟩ := cpos_ex c 32 hc
  have q : ¬ GS c m i ≤ (0 : Int32) := fun h => by
    have := i0_le.mp (((GS_b c m hm).2 i).mp h)
    omega
  obtain ⟨a, e⟩ := amf_ex c (GS c m) 32 i i1 q
  exact ⟨a, e, (amf_lt c _ 32 a e).1⟩
theorem GS_sum (c : Nat → Int32) (hc : 0 < cpos c 32) : ∀ m : Nat, m ≤ 5000 → psum (GS c m) 32 = cpos c 32 + m := by
  intro m
  induction m with
  | zero =>
    intro _
    show psum (gs0 c) 32 = _
    rw [gs0_sum]
    omega
  | succ m ih =>
    intro hm
    obtain ⟨a, ea, ha⟩ := GS_am c hc (m := m) (by omega)
    have b := (GS_b c m (by omega)).1 a
    have ei := inc32 (x := GS c m a) (by omega)
    have e : GS c (m + 1) = upd (GS c m) a (GS c m a + (1 : Int32)) := by
      show gst c (GS c m) = _
      unfold gst
      rw [ea]
      rfl
    rw [e, psum_upd (f := GS c m) (k := a) (fun s q => by unfold upd; rw [if_neg q]) 32 ha, ih (by omega)]
    have : upd (GS c m) a (GS c m a + (1 : Int32)) a = GS c m a + (1 : Int32) := by
      unfold upd
      rw [if_pos rfl]
    rw [this, ei]
    omega
theorem gain_pos {c s : Nat → Int32} {i : Nat} (c0 : 1 ≤ (c i).toInt) (c1 : (c i).toInt ≤ 1000000) (s0 : 1 ≤ (s i).toInt) (s1 : (s i).toInt ≤ 4095) : 0 < (gain c s i).toInt := by
  obtain ⟨l1, l2, l3⟩ := lgv_lt s0 s1
  have e1 : (lgv (s i + (1 : Int32)) - lgv (s i)).toInt = (lgv (s i + (1 : Int32))).toInt - (lgv (s i)).toInt := sub64 (by omega) (by omega)
  generalize hd : lgv (s i + (1 : Int32)) - lgv (s i) = d at e1
  have d0 : 0 < d.toInt := by omega
  have d1 : d.toInt ≤ 17179869184 := by omega
  have m1 : 0 < (c i).toInt * d.toInt := Int.mul_pos (by omega) d0
  have m2 : (c i).toInt * d.toInt ≤ 1000000 * 17179869184 := Int.mul_le_mul c1 d1 (by omega) (by decide)
  unfold gain
  rw [hd, mul64 (by rw [tl32]; omega) (by rw [tl32]; omega), tl32]
  exact m1
theorem cpos_congr {f g : Nat → Int32} : ∀ n : Nat, (∀ i, i < n → (0 < (f i).toInt ↔ 0 < (g i).toInt)) → cpos f n = cpos g n
  | 0, _ => rfl
  | n + 1, h => by
    unfold cpos
    rw [cpos_congr n (fun i hi => h i (by omega))]
    have := h n (Nat.lt_succ_self n)
    by_cases q : 0 < (f n).toInt
    · rw [if_pos q, if_pos (this.mp q)]
    · rw [if_neg q, if_neg (fun r => q (this.mpr r))]
theorem GS_cpos (c : Nat → Int32) {m : Nat} (hm : m ≤ 5000) : cpos (GS c m) 32 = cpos c 32 := by
  refine cpos_congr 32 (fun i _ => ?_)
  have := (GS_b c m hm).2 i
  rw [i0_le, i0_le] at this
  omega
def LSS (c s : Nat → Int32) (t : Int64) : Nat → Int64
  | 0 => 0
  | n + 1 => if s n ≤ (0 : Int32) then LSS c s t n else LSS c s t n + (c n).toInt64 * (t - lgv (s n))
theorem LSS_congr {c s r : Nat → Int32} {t : Int64} : ∀ n : Nat, (∀ i, i < n → s i = r i) → LSS c s t n = LSS c r t n
  | 0, _ => rfl
  | n + 1, h => by
    unfold LSS
    rw [LSS_congr n (fun i hi => h i (by omega)), h n (Nat.lt_succ_self n)]
def lt30 (lg : Int32) : Int64 := lg.toInt64 <<< (((30 : Int32)).toInt64 &&& (63 : Int64))
def g_loss (g : GH) : Int64 := if g.2.2.1 = (0 : Int32) then -1 else LSS g.1.2.2 g.2.2.2 (lt30 g.2.1) 32
theorem s_X7_loss_L20 (u : OS) {Q : OS × Int64 → Prop} (K : Int64 → Int32 → Option (OS × Int64)) (hK : ∀ x, ok (K (LSS (u.2.1 6) (u.2.1 8) (lt30 (u.1 0)) 32) x) Q) : ∀ (n : Nat) (x : Int32) (y : Int64) (j : Nat), x = nI j → j ≤ 32 → 32 - j < n → y = LSS (u.2.1 6) (u.2.1 8) (lt30 (u.1 0)) j → ok (f_X7_loss_L20 u n K x y) Q := by
  intro n
  induction n with
  | zero => intro x _ j _ _ hn; omega
  | succ n ih =>
    intro x y j hx hj hn hy
    have ex : x.toInt = j := by rw [hx, nI_toInt (by omega)]
    have exn : x.toNatClampNeg = j := by
      show x.toInt.toNat = j
      omega
    unfold f_X7_loss_L20
    refine ok_ite (fun c => ?_) (fun c => ?_)
    · have c1 := Int32.le_iff_toInt_le.mp c
      rw [li_32, ex] at c1
      have : j = 32 := by omega
      subst this
      rw [hy]
      exact hK _
    have c1 := mt Int32.le_iff_toInt_le.mpr c
    rw [li_32, ex] at c1
    have e1 : x + (1 : Int32) = nI (j + 1) := by rw [hx, nI_1]
    have g0 : 0 ≤ x.toInt := by omega
    have g32 : x.toInt < (32 : Nat) := by omega
    have g64 : x.toInt < (64 : Nat) := by omega
    refine ok_gdi g0 g64 ?_
    rw [exn]
    refine ok_ite (fun q => ok_bnd (ok_bnd (ih _ _ (j + 1) e1 (by omega) (by omega) ?_))) (fun q => ok_gdi g0 g32 (ok_gdi g0 g64 ?_))
    · unfold LSS
      rw [if_pos q, hy, Int64.add_zero]
    · rw [lgv_eq]
      refine ok_oC1 (ok_some (Q := fun r => r = lgv (u.2.1 8 j)) rfl) (fun r15 h15 => ok_bnd (ok_bnd (ih _ _ (j + 1) e1 (by omega) (by omega) ?_)))
      unfold LSS
      rw [if_neg q, h15, hy]
      rfl
theorem s_X7_loss {g : GH} (u : OS) (h : IM g u) : ok (f_X7_loss u) (fun q => IM g q.1 ∧ q.2 = g_loss g) := by
  have h7 := h.2.2.2.2.2.2.1.2
  have hg := IM_g h
  have e0 : u.1 0 = g.2.1 := h.2.2.2.2.2.1.2
  unfold f_X7_loss g_loss
  refine ok_bnd (ok_ite (fun c => ?_) (fun c => ok_bnd ?_))
  · have c : u.1 7 = (0 : Int32) := c
    rw [h7.1] at c
    rw [if_pos c]
    exact ok_some ⟨h, rfl⟩
  · have c : ¬ u.1 7 = (0 : Int32) := c
    rw [h7.1] at c
    rw [if_neg c]
    refine s_X7_loss_L20 (sF u 1 (0 : Int32)) _ (fun x => ok_some ⟨h, ?_⟩) FU _ _ 0 rfl (by decide) (by decide) rfl
    show LSS (u.2.1 6) (u.2.1 8) (lt30 (u.1 0)) 32 = _
    rw [hg.2.2.2.2, e0]
    exact LSS_congr 32 h7.2
theorem bt_0 : ∀ n : Nat, bt n 1073741824 = 0
  | 0 => rfl
  | n + 1 => by
    unfold bt
    rw [if_pos (by decide)]
    have : 1073741824 * 1073741824 / 1073741824 = 1073741824 := by decide
    rw [this]
    exact bt_0 n
theorem lgv_sz {lg : Int32} {k : Nat} (h1 : 5 ≤ k) (h2 : k ≤ 12) (hl : lg = nI k) : lgv ((1 : Int32) <<< (lg &&& (31 : Int32))) = lt30 lg := by
  have sk := sk32 h1 h2 hl
  have p := Nat.two_pow_pos k
  have v := lgv_val (p := (1 : Int32) <<< (lg &&& (31 : Int32))) (m := 2 ^ k) (k := k) sk (by omega) (Nat.le_refl _) (by omega)
  have pw : 2 ^ k * 2 ^ (30 - k) = 1073741824 := by
    rw [← Nat.pow_add, show k + (30 - k) = 30 by omega]
  rw [pw, bt_0] at v
  refine Int64.toInt_inj.mp ?_
  rw [v]
  unfold lt30
  have ek : lg.toInt64.toInt = k := by rw [tl32, hl, nI_toInt (by omega)]
  have e30 : ((2 ^ 30 : Nat) : Int) = 1073741824 := by decide
  rw [shl64 lg.toInt64 _ 30 sh_30 (by rw [ek]; omega) (by rw [ek, e30]; omega), ek, e30]
  omega

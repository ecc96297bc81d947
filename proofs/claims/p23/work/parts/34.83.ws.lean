-- ===== a sign is put: states and what is pushed =====
def apw (t : OT) (b : Int32) : OT := (t.1 + (1 : Int32), upd t.2 t.1.toNatClampNeg b)
theorem RO.apw {t : OT} {n : Int32} {f : Nat → Int32} (h : RO t n f) (b : Int32) (hn : n.toInt < 100000) : RO (apw t b) (n + (1 : Int32)) (upd f n.toNatClampNeg b) := by
  obtain ⟨h1, h2, h3⟩ := h
  subst h1
  have e1 := inc32 (x := t.1) (by omega)
  refine ⟨rfl, by omega, fun i hi => ?_⟩
  show upd f t.1.toNatClampNeg b i = upd t.2 t.1.toNatClampNeg b i
  unfold upd
  by_cases q : i = t.1.toNatClampNeg
  · rw [if_pos q, if_pos q]
  · rw [if_neg q, if_neg q]
    have q : ¬ i = t.1.toInt.toNat := q
    exact h3 i (by omega)
-- the state after a share q that begins at r
def nst (lg q r : Int32) (y : Int64) : Int64 := (((y / q.toInt64) <<< (lg.toInt64 &&& (63 : Int64))) + (y - y / q.toInt64 * q.toInt64)) + r.toInt64
-- octets are pushed while the state is not below B, at most k
def rn8 (B : Int64) : Nat → Int64 × OT → Int64 × OT
  | 0, s => s
  | k + 1, s => if s.1 < B then s else rn8 B k (s.1 >>> (((8 : Int32)).toInt64 &&& (63 : Int64)), ap s.2 s.1.toInt32)
abbrev SS : Type := OT × (Nat → Int64)
def bnd8 (lg q : Int32) : Int64 := ((1 : Int64) <<< ((((31 : Int32) - lg)).toInt64 &&& (63 : Int64))) * q.toInt64
def sgB (lg q r : Int32) (l : Nat) (s : SS) : SS := ((rn8 (bnd8 lg q) 2 (s.2 l, s.1)).2, vp_updL s.2 l (nst lg q r (rn8 (bnd8 lg q) 2 (s.2 l, s.1)).1))
-- the reference holds s
def MST (lg : Int32) (s : SS) (u : OS) : Prop := u.1 0 = lg ∧ RO s.1 (u.1 20) (u.2.1 19) ∧ (∀ i, i < 4 → u.2.2.1 16 i = s.2 i)
theorem rn8_st (B : Int64) : ∀ (k : Nat) (s : Int64 × OT), s.1 < B → rn8 B k s = s := by
  intro k s h
  cases k with
  | zero => rfl
  | succ k =>
    unfold rn8
    rw [if_pos h]
theorem p_X7_writeBytes_L8 (q : Int32) (lg : Int32) {Q : OS → Prop} (K : Int64 → OS → Option OS) (st : Nat → Int64) (F : Int64 × OT) (hF : F.1 < bnd8 lg q) (u0 : OS) (hK : ∀ v, MST lg (F.2, st) v → WS u0 v → pc (K F.1 v) Q) : ∀ (n k : Nat) (y : Int64) (t : OT) (u : OS), rn8 (bnd8 lg q) k (y, t) = F → MST lg (t, st) u → WS u0 u → pc (f_X7_writeBytes_L8 q n K y u) Q := by
  intro n
  induction n with
  | zero => intro k y t u _ _ _; exact pc_none
  | succ n ih =>
    intro k y t u hk h hW
    obtain ⟨h0, h1, h2⟩ := h
    have h1 : RO t (u.1 20) (u.2.1 19) := h1
    unfold f_X7_writeBytes_L8
    rw [h0]
    refine pc_ite (fun c => ?_) (fun c => pc_gdi (fun _ g1 => pc_bnd (pc_bnd (pc_bnd ?_))))
    · have c : y < bnd8 lg q := c
      rw [rn8_st _ k (y, t) c] at hk
      have e : y = F.1 := by rw [← hk]
      have e2 : t = F.2 := by rw [← hk]
      rw [e]
      refine hK u ⟨h0, ?_, h2⟩ hW
      rw [← e2]
      exact h1
    · have c : ¬ y < bnd8 lg q := c
      cases k with
      | zero =>
        exfalso
        apply c
        have hk : (y, t) = F := hk
        have e : y = F.1 := by rw [← hk]
        rw [e]
        exact hF
      | succ k =>
        have hk : (if y < bnd8 lg q then (y, t) else rn8 (bnd8 lg q) k (y >>> (((8 : Int32)).toInt64 &&& (63 : Int64)), ap t y.toInt32)) = F := hk
        rw [if_neg c] at hk
        exact ih k _ _ _ hk ⟨h0, h1.ap y.toInt32 (by omega), h2⟩ hW.push
theorem p_X7_writeBytes {lg : Int32} {s : SS} (u : OS) (p q r : Int32) (l : Nat) (hp : p.toInt = l) (hl : l < 4) (h : MST lg s u) (hB : (rn8 (bnd8 lg q) 2 (s.2 l, s.1)).1 < bnd8 lg q) : pc (f_X7_writeBytes u p q r) (fun v => MST lg (sgB lg q r l s) v ∧ WV u v) := by
  have en : p.toNatClampNeg = l := by
    show p.toInt.toNat = l
    omega
  unfold f_X7_writeBytes
  refine pc_gdi (fun _ _ => pc_bnd (pc_bnd ?_))
  rw [en, h.2.2 l hl]
  refine p_X7_writeBytes_L8 q lg _ s.2 _ hB u (fun v hv hW => pc_gdzl (pc_gdzl (pc_gdi (fun _ _ => pc_bnd (pc_some ⟨⟨hv.1, hv.2.1, fun i hi => ?_⟩, hW.wv.setL⟩))))) FU 2 (s.2 l) s.1 u rfl h WS.rf
  show vp_updL (v.2.2.1 16) p.toNatClampNeg _ i = vp_updL s.2 l _ i
  unfold vp_updL
  rw [en, hv.1]
  by_cases q : i = l
  · rw [if_pos q, if_pos q]
    rfl
  · rw [if_neg q, if_neg q]
    exact hv.2.2 i hi
-- the class holds s: the states, and a pile of whole octets
def XST (s : SS) (W P : OS) : Prop := (∀ i, i < 4 → W.2.2.1 0 i = s.2 i) ∧ 0 ≤ s.1.1.toInt ∧ (P.1 1).toInt = 8 * s.1.1.toInt ∧ (∀ i : Nat, (i : Int) < s.1.1.toInt → P.2.1 0 i = s.1.2 i) ∧ P.2.2.2 0 ≤ 8000
theorem p_X2_pushOctet {t : OT} (P : OS) (b : Int32) (h0 : 0 ≤ t.1.toInt) (hb : (P.1 1).toInt = 8 * t.1.toInt) (hf : ∀ i : Nat, (i : Int) < t.1.toInt → P.2.1 0 i = t.2 i) (hc : t.1.toInt < P.2.2.2 0) (h8 : P.2.2.2 0 ≤ 8000) : pc (f_X2_pushOctet P b) (fun v => (v.1 1).toInt = 8 * (ap t b).1.toInt ∧ (∀ i : Nat, (i : Int) < (ap t b).1.toInt → v.2.1 0 i = (ap t b).2 i) ∧ v.2.2.2 = P.2.2.2) := by
  have e1 : ((P.1 1) / (8 : Int32)).toInt = t.1.toInt := by
    rw [div32 (by omega) (by decide), li_8, hb]
    omega
  have en := nIt (n := P.2.2.2 0) (by omega)
  have ea := ap_n t b (by omega)
  have e8 : ((P.1 1) + (8 : Int32)).toInt = (P.1 1).toInt + 8 := by rw [add32 (by rw [li_8]; omega) (by rw [li_8]; omega), li_8]
  have ex : ((P.1 1) / (8 : Int32)) = t.1 := Int32.toInt_inj.mp e1
  unfold f_X2_pushOctet
  refine pc_bnd (pc_ite (fun c => ?_) (fun _ => pc_gdi (fun _ _ => pc_bnd (pc_bnd (pc_some ⟨?_, fun i hi => ?_, rfl⟩)))))
  · exfalso
    have c1 := Int32.le_iff_toInt_le.mp c
    rw [en, e1] at c1
    omega
  · show ((P.1 1) + (8 : Int32)).toInt = _
    rw [e8, ea, hb]
    omega
  · rw [ea] at hi
    show upd (P.2.1 0) ((P.1 1) / (8 : Int32)).toNatClampNeg (b &&& (255 : Int32)) i = upd t.2 t.1.toNatClampNeg (b &&& (255 : Int32)) i
    rw [ex]
    unfold upd
    by_cases q : i = t.1.toNatClampNeg
    · rw [if_pos q, if_pos q]
    · rw [if_neg q, if_neg q]
      have q : ¬ i = t.1.toInt.toNat := q
      exact hf i (by omega)
-- a pile P that holds the octets t
def PST (t : OT) (P : OS) : Prop := 0 ≤ t.1.toInt ∧ (P.1 1).toInt = 8 * t.1.toInt ∧ (∀ i : Nat, (i : Int) < t.1.toInt → P.2.1 0 i = t.2 i) ∧ P.2.2.2 0 ≤ 8000
theorem p_pushO {t : OT} (P : OS) (b : Int32) (h : PST t P) (hc : t.1.toInt < P.2.2.2 0) : pc (f_X2_pushOctet P b) (fun v => PST (ap t b) v ∧ v.2.2.2 = P.2.2.2) := by
  obtain ⟨h0, h1, h2, h3⟩ := h
  refine pc_mono (p_X2_pushOctet P b h0 h1 h2 hc h3) (fun v hv => ⟨⟨?_, hv.1, hv.2.1, by rw [hv.2.2]; exact h3⟩, hv.2.2⟩)
  rw [ap_n t b (by omega)]
  omega
theorem p_widen77 {t : OT} (y : Int64) (P : OS) (h : PST t P) (hc : t.1.toInt < P.2.2.2 0) {Q : OS × OS → Prop} (K : Int64 → Int32 → OS → Option (OS × OS)) (hK : ∀ x v, PST (ap t y.toInt32) v → v.2.2.2 = P.2.2.2 → pc (K (y >>> (((8 : Int32)).toInt64 &&& (63 : Int64))) x v) Q) : ∀ n : Nat, pc (f_X5_widen_L77 1 n K 0 y P) Q := by
  intro n
  cases n with
  | zero => exact pc_none
  | succ n =>
    unfold f_X5_widen_L77
    refine pc_ite (fun c => absurd c (by decide)) (fun _ => pc_oC1 (p_pushO P _ h hc) (fun v hv => pc_bnd (pc_bnd ?_)))
    cases n with
    | zero => exact pc_none
    | succ n =>
      unfold f_X5_widen_L77
      refine pc_ite (fun _ => hK _ v hv.1 hv.2) (fun c => ?_)
      exfalso
      apply c
      decide
theorem p_widen60 (B : Int64) (F : Int64 × OT) (cap : Nat → Nat) {Q : OS × OS → Prop} (K : Int64 → Int32 → OS → Option (OS × OS)) (hK : ∀ x v, PST F.2 v → v.2.2.2 = cap → pc (K F.1 x v) Q) : ∀ (n k : Nat) (x : Int32) (y : Int64) (t : OT) (P : OS), x.toInt = 2 - (k : Int) → k ≤ 2 → rn8 B k (y, t) = F → PST t P → P.2.2.2 = cap → t.1.toInt + k ≤ cap 0 → pc (f_X5_widen_L60 1 B n K x y P) Q := by
  intro n
  induction n with
  | zero => intro k x y t P _ _ _ _ _ _; exact pc_none
  | succ n ih =>
    intro k x y t P hx hk hF h hcap hc
    unfold f_X5_widen_L60
    have fin : rn8 B k (y, t) = (y, t) → pc (K y x P) Q := by
      intro e
      rw [e] at hF
      have e1 : y = F.1 := by rw [← hF]
      have e2 : t = F.2 := by rw [← hF]
      rw [e1]
      refine hK x P ?_ hcap
      rw [← e2]
      exact h
    refine pc_ite (fun c => fin ?_) (fun c => pc_ite (fun d => fin (rn8_st B k (y, t) d)) (fun d => pc_bnd ?_))
    · have c1 := Int32.le_iff_toInt_le.mp c
      rw [li_2, hx] at c1
      have : k = 0 := by omega
      subst this
      rfl
    · have c1 := mt Int32.le_iff_toInt_le.mpr c
      rw [li_2, hx] at c1
      obtain ⟨k', rfl⟩ : ∃ k', k = k' + 1 := ⟨k - 1, by omega⟩
      have hF : (if y < B then (y, t) else rn8 B k' (y >>> (((8 : Int32)).toInt64 &&& (63 : Int64)), ap t y.toInt32)) = F := hF
      rw [if_neg d] at hF
      have e1 := inc32 (x := x) (by omega)
      have ea := ap_n t y.toInt32 (by have := h.2.2.2; rw [hcap] at this; omega)
      refine p_widen77 y P h (by rw [hcap]; omega) _ (fun x2 v hv hcv => pc_bnd (ih k' _ _ _ v (by rw [e1, hx]; omega) (by omega) hF hv (hcv.trans hcap) (by rw [ea]; omega))) FU
theorem p_X5_widenB {lg q r p f : Int32} {s : SS} (W P : OS) (l : Nat) (hp : p.toInt = l) (hl : l < 4) (hf : ¬ f = 1) (hW : ∀ i, i < 4 → W.2.2.1 0 i = s.2 i) (h : PST s.1 P) (hc : s.1.1.toInt + 2 ≤ P.2.2.2 0) (q0 : ¬ q ≤ (0 : Int32)) (q1 : q < ((1 : Int32) <<< (lg &&& (31 : Int32)))) : pc (f_X5_widen W P p q r lg f) (fun v => (∀ i, i < 4 → v.1.2.2.1 0 i = (sgB lg q r l s).2 i) ∧ PST (sgB lg q r l s).1 v.2 ∧ v.2.2.2.2 = P.2.2.2 ∧ v.1.1 = W.1) := by
  have en : p.toNatClampNeg = l := by
    show p.toInt.toNat = l
    omega
  unfold f_X5_widen
  rw [if_neg q0, if_pos q1]
  refine pc_bnd ?_
  rw [if_neg hf]
  refine pc_bnd ?_
  rw [if_neg hf]
  refine pc_bnd (pc_gdi (fun _ _ => pc_bnd (pc_bnd ?_)))
  rw [en, hW l hl]
  refine p_widen60 (bnd8 lg q) (rn8 (bnd8 lg q) 2 (s.2 l, s.1)) P.2.2.2 _ (fun x v hv hcv => pc_gdzl (pc_gdzl (pc_gdi (fun _ _ => pc_bnd (pc_some ⟨fun i hi => ?_, hv, hcv, rfl⟩))))) FU 2 0 (s.2 l) s.1 P (by rw [li_0]; decide) (by decide) rfl h rfl (by omega)
  show vp_updL (W.2.2.1 0) p.toNatClampNeg _ i = vp_updL s.2 l _ i
  unfold vp_updL
  rw [en]
  by_cases z : i = l
  · rw [if_pos z, if_pos z]
    rfl
  · rw [if_neg z, if_neg z]
    exact hW i hi

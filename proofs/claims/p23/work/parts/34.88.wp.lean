-- ===== what was pushed goes out, the last first =====
def rvB (f : Nat → Int32) : Nat → OT → OT
  | 0, t => t
  | k + 1, t => rvB f k (ap t (f k))
def rvW (f : Nat → Int32) : Nat → OT → OT
  | 0, t => t
  | k + 1, t => rvW f k (wid (f k).toInt64 4 t)
theorem p_X7_out_B (p1 : Int32) (n1 : ¬ p1 = 1) (n2 : ¬ p1 = 2) (f : Nat → Int32) (c : Int32) (N : Nat) (hN : N ≤ 70000) (u0 : OS) {Q : OS → Prop} (K : Int32 → OS → Option OS) (T : OT) (hK : ∀ x v, MO T c v → PO u0 v → pc (K x v) Q) (hf : ∀ i, i < N → u0.2.1 19 i = f i) : ∀ (n m : Nat) (x : Int32) (u : OS) (t : OT), x.toInt = (m : Int) - 1 → m ≤ N → rvB f m t = T → MO t c u → PO u0 u → pc (f_X7_writeForm_L294 p1 n K x u) Q := by
  intro n
  induction n with
  | zero => intro m x u t _ _ _ _ _; exact pc_none
  | succ n ih =>
    intro m x u t hx hm hT h hP
    unfold f_X7_writeForm_L294
    refine pc_ite (fun d => hK _ _ ?_ hP) (fun d => ?_)
    · have d1 := Int32.lt_iff_toInt_lt.mp d
      rw [li_0, hx] at d1
      have : m = 0 := by omega
      subst this
      rw [← hT]
      exact h
    · have d1 := mt Int32.lt_iff_toInt_lt.mpr d
      rw [li_0, hx] at d1
      obtain ⟨k, rfl⟩ : ∃ k, m = k + 1 := ⟨m - 1, by omega⟩
      have en : x.toNatClampNeg = k := by
        show x.toInt.toNat = k
        omega
      have e1 := dec32 (x := x) (by omega)
      have e19 : u.2.1 19 k = f k := by
        rw [hP.2.1 19 (by decide)]
        exact hf k (by omega)
      rw [if_neg n1, if_neg n2]
      refine pc_gdi (fun _ _ => pc_oC1 (p_X7_putByte u _ h) (fun v hv => pc_bnd (ih k _ v _ (by rw [e1, hx]; omega) (by omega) ?_ hv.1 (hP.tr hv.2))))
      rw [en, e19]
      exact hT
theorem p_X7_out_W (f : Nat → Int32) (c : Int32) (N : Nat) (hN : N ≤ 70000) (u0 : OS) {Q : OS → Prop} (K : Int32 → OS → Option OS) (T : OT) (hK : ∀ x v, MO T c v → PO u0 v → pc (K x v) Q) (hf : ∀ i, i < N → u0.2.1 19 i = f i) : ∀ (n m : Nat) (x : Int32) (u : OS) (t : OT), x.toInt = (m : Int) - 1 → m ≤ N → rvW f m t = T → MO t c u → PO u0 u → pc (f_X7_writeForm_L294 1 n K x u) Q := by
  intro n
  induction n with
  | zero => intro m x u t _ _ _ _ _; exact pc_none
  | succ n ih =>
    intro m x u t hx hm hT h hP
    unfold f_X7_writeForm_L294
    refine pc_ite (fun d => hK _ _ ?_ hP) (fun d => ?_)
    · have d1 := Int32.lt_iff_toInt_lt.mp d
      rw [li_0, hx] at d1
      have : m = 0 := by omega
      subst this
      rw [← hT]
      exact h
    · have d1 := mt Int32.lt_iff_toInt_lt.mpr d
      rw [li_0, hx] at d1
      obtain ⟨k, rfl⟩ : ∃ k, m = k + 1 := ⟨m - 1, by omega⟩
      have en : x.toNatClampNeg = k := by
        show x.toInt.toNat = k
        omega
      have e1 := dec32 (x := x) (by omega)
      have e19 : u.2.1 19 k = f k := by
        rw [hP.2.1 19 (by decide)]
        exact hf k (by omega)
      rw [if_pos rfl]
      refine pc_gdi (fun _ _ => pc_oC1 (p_X7_putWide u _ 4 4 (by decide) (by decide) h) (fun v hv => pc_bnd (ih k _ v _ (by rw [e1, hx]; omega) (by omega) ?_ hv.1 (hP.tr hv.2))))
      rw [en, e19]
      exact hT
-- the class pours: whole octets
theorem or_0 (a b : Int32) (h0 : 0 ≤ b.toInt) (h1 : b.toInt ≤ 255) : (a <<< (((8 : Int32) - 8) &&& (31 : Int32))) ||| (b >>> ((8 : Int32) &&& (31 : Int32))) = a := by
  have e1 : (b >>> ((8 : Int32) &&& (31 : Int32))) = 0 := by
    refine Int32.toInt_inj.mp ?_
    have s := shr32 b 8 (by decide)
    have e : nI 8 = (8 : Int32) := rfl
    rw [e] at s
    have p : ((2 ^ 8 : Nat) : Int) = 256 := by decide
    rw [s, li_0, p]
    omega
  have e2 : (a <<< (((8 : Int32) - 8) &&& (31 : Int32))) = a := by
    have e : (((8 : Int32) - 8) &&& (31 : Int32)) = 0 := by decide
    rw [e]
    exact Int32.shiftLeft_zero
  rw [e1, e2, Int32.or_zero]
theorem p_X2_pour_B (uP : OS) (f : Nat → Int32) (N : Nat) (hf : ∀ i, i < N → uP.2.1 0 i = f i ∧ 0 ≤ (f i).toInt ∧ (f i).toInt ≤ 255) {Q : OS → Prop} (K : Int32 → OS → Option (OS × Nat × Nat)) (T : OT) (hK : ∀ x w, XO T w → pcA (K x w) Q) : ∀ (n m : Nat) (x : Int32) (u : OS) (t : OT), x.toInt = (m : Int) - 1 → m ≤ N → m ≤ 8000 → t.1.toInt + m ≤ 8000 → rvB f m t = T → XO t u → pcA (f_X2_pourInto_L28 uP 8 n K x u) Q := by
  intro n
  induction n with
  | zero => intro m x u t _ _ _ _ _ _; exact pcA_none
  | succ n ih =>
    intro m x u t hx hm hm8 hb hT h
    unfold f_X2_pourInto_L28
    refine pcA_ite (fun d => hK _ _ ?_) (fun d => ?_)
    · have d1 := Int32.lt_iff_toInt_lt.mp d
      rw [li_0, hx] at d1
      have : m = 0 := by omega
      subst this
      rw [← hT]
      exact h
    · have d1 := mt Int32.lt_iff_toInt_lt.mpr d
      rw [li_0, hx] at d1
      obtain ⟨k, rfl⟩ : ∃ k, m = k + 1 := ⟨m - 1, by omega⟩
      have en : x.toNatClampNeg = k := by
        show x.toInt.toNat = k
        omega
      have e1 := dec32 (x := x) (by omega)
      have hn := h.n
      have fk := hf k (by omega)
      have key : ∀ x13 : Int32, 0 ≤ x13.toInt → x13.toInt ≤ 255 → pcA (gdi x (uP.2.2.2 0) <|
    oA2 (f_X1_append u (((uP.2.1 0 (x).toNatClampNeg) <<< (((8 : Int32) - 8) &&& (31 : Int32))) ||| (x13 >>> ((8 : Int32) &&& (31 : Int32))))) fun u16 r18 kc20 ks20 =>
    addc kc20 ks20 <|
    bnd (x + (-1 : Int32)) fun x22 =>
    f_X2_pourInto_L28 uP 8 n K x22 u16) Q := by
        intro x13 a0 a1
        rw [or_0 _ x13 a0 a1, en, fk.1]
        exact pcA_gdi (fun _ _ => pcA_oA2 (p_X1_append u _ h (by rw [hn.1]; omega)) (fun w r kc ks hw => pcA_addc (pcA_bnd (ih k _ w _ (by rw [e1, hx]; omega) (by omega) (by omega) (by rw [ap_n _ _ (by omega)]; omega) hT hw.1))))
      refine pcA_bnd (pcA_ite (fun _ => key 0 (by decide) (by decide)) (fun z => pcA_gdi (fun _ _ => ?_)))
      have z1 := mt i0_le.mpr z
      have e3 : (x - (1 : Int32)).toInt = x.toInt - 1 := by rw [sub32 (by rw [li_1]; omega) (by rw [li_1]; omega), li_1]
      have en3 : (x - (1 : Int32)).toNatClampNeg = k - 1 := by
        show (x - (1 : Int32)).toInt.toNat = k - 1
        omega
      have f3 := hf (k - 1) (by omega)
      rw [en3, f3.1]
      exact key _ f3.2.1 f3.2.2
-- four octets of each word, the last first, are the words, the last first
def octs (f : Nat → Int32) (j : Nat) : Int32 := octb (f (j / 4)) (j % 4)
theorem octb_255 (w : Int32) (b : Nat) : octb w b &&& (255 : Int32) = octb w b := by
  refine Int32.toInt_inj.mp ?_
  have h := byte32 (w >>> (nI (8 * b) &&& (31 : Int32)))
  rw [and255]
  unfold octb
  omega
theorem wid_o (w : Int32) (b : Nat) (hb : b < 4) (t : OT) : ap t ((w.toInt64 >>> (((8 : Int32) * nI b).toInt64 &&& (63 : Int64))).toInt32) = ap t (octb w b) := by
  refine ap_c ?_
  have s := shr64 w.toInt64 (((8 : Int32) * nI b).toInt64 &&& (63 : Int64)) (8 * b) (la_6 b (by omega))
  have e := low_oct w.toInt64 b hb _ s
  have ew : w.toInt64.toInt32 = w := Int32.toInt_inj.mp (by rw [ti32 (by rw [tl32]; exact i32_lo w) (by rw [tl32]; exact i32_hi w), tl32])
  rw [ew] at e
  rw [e, octb_255]
theorem rv_BW (f : Nat → Int32) : ∀ (N : Nat) (t : OT), rvB (octs f) (4 * N) t = rvW f N t := by
  intro N
  induction N with
  | zero => intro t; rfl
  | succ N ih =>
    intro t
    have o : ∀ b, b < 4 → octs f (4 * N + b) = octb (f N) b := by
      intro b hb
      unfold octs
      rw [show (4 * N + b) / 4 = N by omega, show (4 * N + b) % 4 = b by omega]
    have e : rvB (octs f) (4 * (N + 1)) t = rvB (octs f) (4 * N) (ap (ap (ap (ap t (octs f (4 * N + 3))) (octs f (4 * N + 2))) (octs f (4 * N + 1))) (octs f (4 * N + 0))) := rfl
    have w : wid (f N).toInt64 4 t = ap (ap (ap (ap t (((f N).toInt64 >>> (((8 : Int32) * nI 3).toInt64 &&& (63 : Int64))).toInt32)) (((f N).toInt64 >>> (((8 : Int32) * nI 2).toInt64 &&& (63 : Int64))).toInt32)) (((f N).toInt64 >>> (((8 : Int32) * nI 1).toInt64 &&& (63 : Int64))).toInt32)) (((f N).toInt64 >>> (((8 : Int32) * nI 0).toInt64 &&& (63 : Int64))).toInt32) := rfl
    have e2 : rvW f (N + 1) t = rvW f N (wid (f N).toInt64 4 t) := rfl
    rw [e, e2, w, ih, wid_o _ 3 (by decide), wid_o _ 2 (by decide), wid_o _ 1 (by decide), wid_o _ 0 (by decide), o 3 (by decide), o 2 (by decide), o 1 (by decide), o 0 (by decide)]

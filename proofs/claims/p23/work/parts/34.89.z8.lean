-- ===== the spread: what both lay =====
def ws (N s : Nat) : Nat → Nat × (Nat → Int32) → Nat × (Nat → Int32)
  | 0, q => q
  | c + 1, q => ws N s c (q.1 + 1, upd q.2 (q.1 * stp N % N) (nI s))
def wl (N : Nat) (sh : Nat → Int32) : Nat → Nat → Nat × (Nat → Int32) → Nat × (Nat → Int32)
  | 0, _, q => q
  | c + 1, s, q => wl N sh c (s + 1) (ws N s (sh s).toInt.toNat q)
theorem wl_c {N : Nat} {f g : Nat → Int32} (h : ∀ i, i < 32 → f i = g i) : ∀ (c s : Nat) (q : Nat × (Nat → Int32)), s + c ≤ 32 → wl N f c s q = wl N g c s q := by
  intro c
  induction c with
  | zero => intro s q _; rfl
  | succ c ih =>
    intro s q hs
    unfold wl
    rw [h s (by omega)]
    exact ih _ _ (by omega)
def AG (N : Nat) (q r : Nat × (Nat → Int32)) : Prop := q.1 = r.1 ∧ ∀ i, i < q.1 → q.2 (i * stp N % N) = r.2 (i * stp N % N)
theorem ws_ag {N s : Nat} : ∀ (c : Nat) (q r : Nat × (Nat → Int32)), AG N q r → AG N (ws N s c q) (ws N s c r) := by
  intro c
  induction c with
  | zero => intro q r h; exact h
  | succ c ih =>
    intro q r h
    refine ih _ _ ⟨by show q.1 + 1 = r.1 + 1; rw [h.1], fun i hi => ?_⟩
    have hi : i < q.1 + 1 := hi
    show upd q.2 (q.1 * stp N % N) (nI s) (i * stp N % N) = upd r.2 (r.1 * stp N % N) (nI s) (i * stp N % N)
    rw [← h.1]
    unfold upd
    by_cases e : i * stp N % N = q.1 * stp N % N
    · rw [if_pos e, if_pos e]
    · rw [if_neg e, if_neg e]
      refine h.2 i ?_
      rcases Nat.lt_or_ge i q.1 with z | z
      · exact z
      · have : i = q.1 := by omega
        rw [this] at e
        exact absurd rfl e
theorem wl_ag {N : Nat} {sh : Nat → Int32} : ∀ (c s : Nat) (q r : Nat × (Nat → Int32)), AG N q r → AG N (wl N sh c s q) (wl N sh c s r) := by
  intro c
  induction c with
  | zero => intro s q r h; exact h
  | succ c ih =>
    intro s q r h
    exact ih _ _ _ (ws_ag _ _ _ h)
theorem ws_1 {N s : Nat} : ∀ (c : Nat) (q : Nat × (Nat → Int32)), (ws N s c q).1 = q.1 + c := by
  intro c
  induction c with
  | zero => intro q; rfl
  | succ c ih =>
    intro q
    have e : ws N s (c + 1) q = ws N s c (q.1 + 1, upd q.2 (q.1 * stp N % N) (nI s)) := rfl
    rw [e, ih]
    show q.1 + 1 + c = q.1 + (c + 1)
    omega
theorem wl_1 {N : Nat} {sh : Nat → Int32} (h : ∀ i, i < 32 → 0 ≤ (sh i).toInt) : ∀ (c s : Nat) (q : Nat × (Nat → Int32)), s + c ≤ 32 → ((wl N sh c s q).1 : Int) = q.1 + (psum sh (s + c) - psum sh s) := by
  intro c
  induction c with
  | zero =>
    intro s q _
    show (q.1 : Int) = q.1 + (psum sh s - psum sh s)
    omega
  | succ c ih =>
    intro s q hs
    have e : wl N sh (c + 1) s q = wl N sh c (s + 1) (ws N s (sh s).toInt.toNat q) := rfl
    have p : psum sh (s + 1) = psum sh s + (sh s).toInt := rfl
    have s0 := h s (by omega)
    rw [e, ih _ _ (by omega), ws_1, show s + 1 + c = s + (c + 1) by omega]
    omega
-- no sign has more places than its share; every place has a sign
def CN (N : Nat) (q : Nat × (Nat → Int32)) (B : Nat → Int) : Prop := (∃ w : Nat → Bool, (∀ j, j < q.1 → w (j * stp N % N) = true) ∧ ∀ t, t < 32 → (cw q.2 w (nI t) N : Int) ≤ B t) ∧ ∀ j, j < q.1 → ∃ t, t < 32 ∧ q.2 (j * stp N % N) = nI t
theorem nI_inj {a b : Nat} (ha : a < 100000) (hb : b < 100000) (h : nI a = nI b) : a = b := by
  have : (nI a).toInt = (nI b).toInt := by rw [h]
  rw [nI_toInt (by omega), nI_toInt (by omega)] at this
  omega
theorem ws_cn {N s : Nat} (hs : s < 32) : ∀ (c : Nat) (q : Nat × (Nat → Int32)) (B : Nat → Int), CN N q B → CN N (ws N s c q) (fun t => if t = s then B t + c else B t) := by
  intro c
  induction c with
  | zero =>
    intro q B h
    obtain ⟨⟨w, h1, h2⟩, h3⟩ := h
    refine ⟨⟨w, h1, fun t ht => ?_⟩, h3⟩
    have := h2 t ht
    show (cw q.2 w (nI t) N : Int) ≤ if t = s then B t + ((0 : Nat) : Int) else B t
    by_cases e : t = s
    · rw [if_pos e]; omega
    · rw [if_neg e]; exact this
  | succ c ih =>
    intro q B h
    obtain ⟨⟨w, h1, h2⟩, h3⟩ := h
    have step : CN N (q.1 + 1, upd q.2 (q.1 * stp N % N) (nI s)) (fun t => if t = s then B t + 1 else B t) := by
      refine ⟨⟨fun j => if j = q.1 * stp N % N then true else w j, fun j hj => ?_, fun t ht => ?_⟩, fun j hj => ?_⟩
      · have hj : j < q.1 + 1 := hj
        show (if j * stp N % N = q.1 * stp N % N then true else w (j * stp N % N)) = true
        by_cases e : j * stp N % N = q.1 * stp N % N
        · rw [if_pos e]
        · rw [if_neg e]
          refine h1 j ?_
          rcases Nat.lt_or_ge j q.1 with z | z
          · exact z
          · have : j = q.1 := by omega
            rw [this] at e
            exact absurd rfl e
      · have c1 := cw_upd (f := q.2) (g := upd q.2 (q.1 * stp N % N) (nI s)) (w := w) (z := fun j => if j = q.1 * stp N % N then true else w j) (i := q.1 * stp N % N) (v := nI s) (s := nI t) (fun j => rfl) (fun j => rfl) N
        have c2 := h2 t ht
        show (cw (upd q.2 (q.1 * stp N % N) (nI s)) (fun j => if j = q.1 * stp N % N then true else w j) (nI t) N : Int) ≤ if t = s then B t + 1 else B t
        by_cases e : t = s
        · rw [if_pos e]
          rw [if_pos (by rw [e])] at c1
          omega
        · rw [if_neg e]
          rw [if_neg (fun z => e (nI_inj (by omega) (by omega) z).symm)] at c1
          omega
      · have hj : j < q.1 + 1 := hj
        show ∃ t, t < 32 ∧ upd q.2 (q.1 * stp N % N) (nI s) (j * stp N % N) = nI t
        unfold upd
        by_cases e : j * stp N % N = q.1 * stp N % N
        · rw [if_pos e]
          exact ⟨s, hs, rfl⟩
        · rw [if_neg e]
          refine h3 j ?_
          rcases Nat.lt_or_ge j q.1 with z | z
          · exact z
          · have : j = q.1 := by omega
            rw [this] at e
            exact absurd rfl e
    have r := ih _ _ step
    obtain ⟨⟨w2, r1, r2⟩, r3⟩ := r
    refine ⟨⟨w2, r1, fun t ht => ?_⟩, r3⟩
    have := r2 t ht
    show (cw (ws N s c (q.1 + 1, upd q.2 (q.1 * stp N % N) (nI s))).2 w2 (nI t) N : Int) ≤ if t = s then B t + ((c + 1 : Nat) : Int) else B t
    have this : (cw (ws N s c (q.1 + 1, upd q.2 (q.1 * stp N % N) (nI s))).2 w2 (nI t) N : Int) ≤ if t = s then (if t = s then B t + 1 else B t) + (c : Int) else (if t = s then B t + 1 else B t) := this
    by_cases e : t = s
    · rw [if_pos e, if_pos e] at this
      rw [if_pos e]
      omega
    · rw [if_neg e, if_neg e] at this
      rw [if_neg e]
      exact this
theorem wl_cn {N : Nat} {sh : Nat → Int32} (h0 : ∀ i, i < 32 → 0 ≤ (sh i).toInt) : ∀ (c s : Nat) (q : Nat × (Nat → Int32)) (B : Nat → Int), s + c ≤ 32 → CN N q B → CN N (wl N sh c s q) (fun t => if s ≤ t ∧ t < s + c then B t + (sh t).toInt else B t) := by
  intro c
  induction c with
  | zero =>
    intro s q B _ h
    obtain ⟨⟨w, h1, h2⟩, h3⟩ := h
    refine ⟨⟨w, h1, fun t ht => ?_⟩, h3⟩
    show (cw q.2 w (nI t) N : Int) ≤ if s ≤ t ∧ t < s + 0 then B t + (sh t).toInt else B t
    rw [if_neg (by omega)]
    exact h2 t ht
  | succ c ih =>
    intro s q B hs h
    have r := ih (s + 1) _ _ (by omega) (ws_cn (s := s) (by omega) (sh s).toInt.toNat q B h)
    obtain ⟨⟨w, r1, r2⟩, r3⟩ := r
    refine ⟨⟨w, r1, fun t ht => ?_⟩, r3⟩
    have this := r2 t ht
    have s0 := h0 s (by omega)
    show (cw (wl N sh c (s + 1) (ws N s (sh s).toInt.toNat q)).2 w (nI t) N : Int) ≤ if s ≤ t ∧ t < s + (c + 1) then B t + (sh t).toInt else B t
    have this : (cw (wl N sh c (s + 1) (ws N s (sh s).toInt.toNat q)).2 w (nI t) N : Int) ≤ if s + 1 ≤ t ∧ t < s + 1 + c then (if t = s then B t + ((sh s).toInt.toNat : Int) else B t) + (sh t).toInt else (if t = s then B t + ((sh s).toInt.toNat : Int) else B t) := this
    by_cases e : t = s
    · rw [if_neg (by omega), if_pos e] at this
      rw [if_pos (by omega)]
      rw [e] at this ⊢
      omega
    · rw [if_neg e] at this
      by_cases z : s ≤ t ∧ t < s + (c + 1)
      · rw [if_pos (by omega)] at this
        rw [if_pos z]
        exact this
      · rw [if_neg (by omega)] at this
        rw [if_neg z]
        exact this
theorem cw_congr {f g : Nat → Int32} {w : Nat → Bool} {s : Int32} : ∀ n : Nat, (∀ i, i < n → f i = g i) → cw f w s n = cw g w s n := by
  intro n
  induction n with
  | zero => intro _; rfl
  | succ n ih =>
    intro h
    unfold cw
    rw [ih (fun i hi => h i (by omega)), h n (by omega)]
def al : Nat → Bool := fun _ => true
theorem cw_s (f : Nat → Int32) (s : Int32) (n : Nat) : cw f al s (n + 1) = cw f al s n + if f n = s then 1 else 0 := by
  have e : cw f al s (n + 1) = cw f al s n + if al n = true ∧ f n = s then 1 else 0 := rfl
  rw [e]
  by_cases q : f n = s
  · rw [if_pos ⟨rfl, q⟩, if_pos q]
  · rw [if_neg (fun z => q z.2), if_neg q]
def csum (f : Nat → Int32) (n : Nat) : Nat → Nat
  | 0 => 0
  | c + 1 => csum f n c + cw f al (nI c) n
theorem csum_s {f : Nat → Int32} {n t0 : Nat} (h0 : t0 < 32) (h : f n = nI t0) : ∀ c : Nat, c ≤ 32 → csum f (n + 1) c = csum f n c + if t0 < c then 1 else 0 := by
  intro c
  induction c with
  | zero => intro _; rfl
  | succ c ih =>
    intro hc
    unfold csum
    rw [ih (by omega), cw_s, h]
    by_cases e : t0 = c
    · rw [if_neg (show ¬ t0 < c by omega), if_pos (show nI t0 = nI c by rw [e]), if_pos (show t0 < c + 1 by omega)]
      omega
    · rw [if_neg (show ¬ nI t0 = nI c from fun z => e (nI_inj (by omega) (by omega) z))]
      by_cases e2 : t0 < c
      · rw [if_pos e2, if_pos (show t0 < c + 1 by omega)]
        omega
      · rw [if_neg e2, if_neg (show ¬ t0 < c + 1 by omega)]
        omega
theorem csum_0 (f : Nat → Int32) : ∀ c : Nat, csum f 0 c = 0 := by
  intro c
  induction c with
  | zero => rfl
  | succ c ih =>
    unfold csum
    rw [ih]
    rfl
theorem csum_n {f : Nat → Int32} : ∀ n : Nat, (∀ i, i < n → ∃ t, t < 32 ∧ f i = nI t) → csum f n 32 = n := by
  intro n
  induction n with
  | zero => intro _; exact csum_0 f 32
  | succ n ih =>
    intro h
    obtain ⟨t0, h0, e⟩ := h n (by omega)
    rw [csum_s h0 e 32 (Nat.le_refl _), ih (fun i hi => h i (by omega)), if_pos h0]
theorem csum_le {f sh : Nat → Int32} {n : Nat} (h : ∀ t, t < 32 → (cw f al (nI t) n : Int) ≤ (sh t).toInt) : ∀ c : Nat, c ≤ 32 → (csum f n c : Int) ≤ psum sh c ∧ ∀ t, t < c → (csum f n c : Int) + ((sh t).toInt - (cw f al (nI t) n : Int)) ≤ psum sh c := by
  intro c
  induction c with
  | zero => intro _; exact ⟨Int.le_refl _, fun t ht => absurd ht (Nat.not_lt_zero t)⟩
  | succ c ih =>
    intro hc
    have r := ih (by omega)
    have q := h c (by omega)
    have e1 : csum f n (c + 1) = csum f n c + cw f al (nI c) n := rfl
    have e2 : psum sh (c + 1) = psum sh c + (sh c).toInt := rfl
    rw [e1, e2]
    refine ⟨by have := r.1; omega, fun t ht => ?_⟩
    rcases Nat.lt_or_ge t c with z | z
    · have := r.2 t z
      omega
    · have : t = c := by omega
      subst this
      have := r.1
      omega
def SPC (sh : Nat → Int32) (N : Nat) (f : Nat → Int32) : Prop := ∃ f0 : Nat → Int32, ∀ i, i < N → f i = (wl N sh 32 0 (0, f0)).2 i
def SHN (sh : Nat → Int32) (N : Nat) : Prop := two N ∧ (∀ i, i < 32 → 0 ≤ (sh i).toInt) ∧ psum sh 32 = (N : Int)
theorem SPC.eq {sh f g : Nat → Int32} {N : Nat} (h : SHN sh N) (hf : SPC sh N f) (hg : SPC sh N g) : ∀ i, i < N → f i = g i := by
  obtain ⟨f0, e1⟩ := hf
  obtain ⟨g0, e2⟩ := hg
  intro i hi
  obtain ⟨j, hj, ej⟩ := stp_all h.1 i hi
  have a := wl_ag (N := N) (sh := sh) 32 0 (0, f0) (0, g0) ⟨rfl, fun i hi => absurd hi (Nat.not_lt_zero i)⟩
  have n := wl_1 (N := N) h.2.1 32 0 (0, f0) (by decide)
  have z : psum sh 0 = 0 := rfl
  rw [show 0 + 32 = 32 by decide, h.2.2, z] at n
  have n : ((wl N sh 32 0 (0, f0)).1 : Int) = ((0 : Nat) : Int) + ((N : Int) - 0) := n
  rw [e1 i hi, e2 i hi, ← ej]
  exact a.2 j (by omega)
theorem SPC.cnt {sh f : Nat → Int32} {N : Nat} (h : SHN sh N) (hf : SPC sh N f) : (∀ i, i < N → ∃ t, t < 32 ∧ f i = nI t) ∧ ∀ t, t < 32 → (cw f al (nI t) N : Int) = (sh t).toInt := by
  obtain ⟨f0, e1⟩ := hf
  have n := wl_1 (N := N) h.2.1 32 0 (0, f0) (by decide)
  have z : psum sh 0 = 0 := rfl
  rw [show 0 + 32 = 32 by decide, h.2.2, z] at n
  have n : ((wl N sh 32 0 (0, f0)).1 : Int) = ((0 : Nat) : Int) + ((N : Int) - 0) := n
  have st : CN N (0, f0) (fun _ => 0) := by
    refine ⟨⟨fun _ => false, fun j hj => absurd hj (Nat.not_lt_zero j), fun t ht => ?_⟩, fun j hj => absurd hj (Nat.not_lt_zero j)⟩
    have : ∀ m : Nat, cw f0 (fun _ => false) (nI t) m = 0 := by
      intro m
      induction m with
      | zero => rfl
      | succ m ih =>
        unfold cw
        rw [ih, if_neg (fun z => absurd z.1 (by decide))]
    show (cw f0 (fun _ => false) (nI t) N : Int) ≤ 0
    rw [this N]
    decide
  obtain ⟨⟨w, r1, r2⟩, r3⟩ := wl_cn (N := N) h.2.1 32 0 (0, f0) (fun _ => 0) (by decide) st
  have rg : ∀ i, i < N → ∃ t, t < 32 ∧ f i = nI t := by
    intro i hi
    obtain ⟨j, hj, ej⟩ := stp_all h.1 i hi
    obtain ⟨t, ht, et⟩ := r3 j (by omega)
    rw [ej] at et
    exact ⟨t, ht, (e1 i hi).trans et⟩
  have le : ∀ t, t < 32 → (cw f al (nI t) N : Int) ≤ (sh t).toInt := by
    intro t ht
    have c := r2 t ht
    have c : (cw (wl N sh 32 0 (0, f0)).2 w (nI t) N : Int) ≤ if 0 ≤ t ∧ t < 0 + 32 then 0 + (sh t).toInt else 0 := c
    rw [if_pos (by omega)] at c
    have a := cw_all (f := (wl N sh 32 0 (0, f0)).2) (w := w) (s := nI t) N (fun i hi => by
      obtain ⟨j, hj, ej⟩ := stp_all h.1 i hi
      rw [← ej]
      exact r1 j (by omega))
    have b := cw_congr (f := f) (g := (wl N sh 32 0 (0, f0)).2) (w := al) (s := nI t) N e1
    have a : cw (wl N sh 32 0 (0, f0)).2 al (nI t) N = cw (wl N sh 32 0 (0, f0)).2 w (nI t) N := a
    rw [b, a]
    omega
  refine ⟨rg, fun t ht => ?_⟩
  have s := (csum_le le 32 (Nat.le_refl _)).2 t ht
  rw [csum_n N rg, h.2.2] at s
  have := le t ht
  omega
theorem cw_le (f : Nat → Int32) (s : Int32) : ∀ (d m : Nat), cw f al s m ≤ cw f al s (m + d) ∧ cw f al s (m + d) ≤ cw f al s m + d := by
  intro d
  induction d with
  | zero => intro m; exact ⟨Nat.le_refl _, Nat.le_refl _⟩
  | succ d ih =>
    intro m
    have r := ih m
    have e := cw_s f s (m + d)
    rw [show m + (d + 1) = m + d + 1 by omega, e]
    by_cases q : f (m + d) = s
    · rw [if_pos q]; omega
    · rw [if_neg q]; omega
theorem cw_lt {f : Nat → Int32} {s : Int32} {p n : Nat} (hp : p < n) (h : f p = s) : cw f al s p < cw f al s n := by
  have e := cw_s f s p
  rw [if_pos h] at e
  have r := (cw_le f s (n - (p + 1)) (p + 1)).1
  rw [show p + 1 + (n - (p + 1)) = n by omega] at r
  omega
theorem cw_find {f : Nat → Int32} {s : Int32} : ∀ (n r : Nat), r < cw f al s n → ∃ p, p < n ∧ f p = s ∧ cw f al s p = r := by
  intro n
  induction n with
  | zero => intro r h; exact absurd h (Nat.not_lt_zero r)
  | succ n ih =>
    intro r h
    rw [cw_s] at h
    rcases Nat.lt_or_ge r (cw f al s n) with z | z
    · obtain ⟨p, h1, h2, h3⟩ := ih r z
      exact ⟨p, by omega, h2, h3⟩
    · by_cases q : f n = s
      · rw [if_pos q] at h
        exact ⟨n, by omega, q, by omega⟩
      · rw [if_neg q] at h
        omega
theorem psum_find {sh : Nat → Int32} {i : Int} (h0 : 0 ≤ i) : ∀ c : Nat, i < psum sh c → ∃ t, t < c ∧ psum sh t ≤ i ∧ i < psum sh (t + 1) := by
  intro c
  induction c with
  | zero =>
    intro h
    have h : i < 0 := h
    omega
  | succ c ih =>
    intro h
    rcases Int.lt_or_le i (psum sh c) with z | z
    · obtain ⟨t, h1, h2⟩ := ih z
      exact ⟨t, by omega, h2⟩
    · exact ⟨c, by omega, z, h⟩
-- the places of a sign, by their number; the numbers of places
def NPL (sh : Nat → Int32) (N : Nat) (f a : Nat → Int32) : Prop := ∀ p t, p < N → t < 32 → f p = nI t → a ((psum sh t).toNat + cw f al (nI t) p) = nI p
def NBL (sh : Nat → Int32) (N : Nat) (f b : Nat → Int32) : Prop := ∀ p t, p < N → t < 32 → f p = nI t → b p = nI ((sh t).toInt.toNat + cw f al (nI t) p)
theorem NPL.at {sh f a : Nat → Int32} {N : Nat} (h : SHN sh N) (hf : SPC sh N f) (ha : NPL sh N f a) {i : Nat} (hi : i < N) : ∃ p t, p < N ∧ t < 32 ∧ f p = nI t ∧ i = (psum sh t).toNat + cw f al (nI t) p ∧ a i = nI p := by
  obtain ⟨t, ht, h1, h2⟩ := psum_find (sh := sh) (i := (i : Int)) (by omega) 32 (by rw [h.2.2]; omega)
  have c := (hf.cnt h).2 t ht
  have e : psum sh (t + 1) = psum sh t + (sh t).toInt := rfl
  have p0 := (psum_el (f := sh) (N := 32) (s := t) h.2.1 ht).2
  obtain ⟨p, q1, q2, q3⟩ := cw_find (f := f) (s := nI t) N (i - (psum sh t).toNat) (by omega)
  have ei : i = (psum sh t).toNat + cw f al (nI t) p := by omega
  refine ⟨p, t, q1, ht, q2, ei, ?_⟩
  have := ha p t q1 ht q2
  rw [← ei] at this
  exact this
theorem NPL.eq {sh f g a b : Nat → Int32} {N : Nat} (h : SHN sh N) (hf : SPC sh N f) (hg : SPC sh N g) (ha : NPL sh N f a) (hb : NPL sh N g b) : ∀ i, i < N → a i = b i := by
  intro i hi
  obtain ⟨p, t, h1, h2, h3, h4, h5⟩ := NPL.at h hf ha hi
  have fg := SPC.eq h hf hg
  have c := cw_congr (f := f) (g := g) (w := al) (s := nI t) p (fun j hj => fg j (by omega))
  have := hb p t h1 h2 (by rw [← fg p h1]; exact h3)
  rw [← c, ← h4] at this
  rw [h5, this]
theorem NPL.rg {sh f a : Nat → Int32} {N : Nat} (h : SHN sh N) (hf : SPC sh N f) (ha : NPL sh N f a) : ∀ i, i < N → 0 ≤ (a i).toInt ∧ (a i).toInt < (N : Int) := by
  intro i hi
  obtain ⟨p, t, h1, h2, h3, h4, h5⟩ := NPL.at h hf ha hi
  have := (two_b h.1).2
  rw [h5, nI_toInt (by omega)]
  omega
theorem NPL.one {sh f a : Nat → Int32} {N t : Nat} (h : SHN sh N) (hf : SPC sh N f) (ha : NPL sh N f a) (ht : t < 32) (hs : (sh t).toInt = (N : Int)) : ∀ i, i < N → a i = nI i := by
  intro i hi
  have c := (hf.cnt h).2 t ht
  have el := psum_el (f := sh) (N := 32) (s := t) h.2.1 ht
  rw [h.2.2] at el
  have l1 := cw_le f (nI t) i 0
  have l2 := cw_le f (nI t) 1 i
  have l3 := cw_le f (nI t) (N - (i + 1)) (i + 1)
  rw [show i + 1 + (N - (i + 1)) = N by omega] at l3
  rw [Nat.zero_add] at l1
  have z : cw f al (nI t) 0 = 0 := rfl
  have ei : cw f al (nI t) i = i := by omega
  have fi : f i = nI t := by
    rcases Classical.em (f i = nI t) with q | q
    · exact q
    · exfalso
      have e := cw_s f (nI t) i
      rw [if_neg q] at e
      omega
  have := ha i t hi ht fi
  rw [ei, show (psum sh t).toNat + i = i by omega] at this
  exact this
def SPD (sh : Nat → Int32) (N : Nat) (f a b : Nat → Int32) : Prop := SPC sh N f ∧ NPL sh N f a ∧ NBL sh N f b
theorem SPD.cg {sh sh2 f a b : Nat → Int32} {N : Nat} (e : ∀ i, i < 32 → sh2 i = sh i) (h : SPD sh N f a b) : SPD sh2 N f a b := by
  obtain ⟨⟨f0, h1⟩, h2, h3⟩ := h
  refine ⟨⟨f0, fun i hi => ?_⟩, fun p t hp ht hf => ?_, fun p t hp ht hf => ?_⟩
  · rw [wl_c e 32 0 _ (by decide)]
    exact h1 i hi
  · rw [psum_congr t (fun s hs => e s (by omega))]
    exact h2 p t hp ht hf
  · rw [e t ht]
    exact h3 p t hp ht hf

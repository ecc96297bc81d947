-- ===== the class's shares: sums from the first on, and the spread that stands =====
def JS (u : OS) : Prop := ¬ u.1 2 = 0 → (∀ t, t ≤ 32 → (u.2.1 4 t).toInt = psum (u.2.1 3) t) ∧ (¬ u.1 7 = 0 → SPS (u.1 0).toInt.toNat u)
theorem JS.z {u : OS} (h : u.1 2 = 0) : JS u := fun q => absurd h q
theorem q_X4_forget (u : OS) : pc (f_X4_forget u) (fun v => v.1 2 = 0 ∧ v.1 7 = 0) := by
  unfold f_X4_forget
  exact pc_bnd (pc_bnd (pc_bnd (pc_some ⟨rfl, rfl⟩)))
theorem q_finish_L4 (u0 : OS) {Q : OS → Prop} (K : Int32 → Int32 → OS → Option OS) (hK : ∀ a b v, v.1 = u0.1 → v.2.1 3 = u0.2.1 3 → pc (K a b v) Q) : ∀ (n : Nat) (x y : Int32) (u : OS), u.1 = u0.1 → u.2.1 3 = u0.2.1 3 → pc (f_X4_finish_L4 n K x y u) Q := by
  intro n
  induction n with
  | zero => intro x y u _ _; exact pc_none
  | succ n ih =>
    intro x y u e h
    unfold f_X4_finish_L4
    exact pc_ite (fun _ => hK _ _ _ e h) (fun _ => pc_gdi (fun _ _ => pc_bnd (pc_gdi (fun _ _ => pc_bnd (pc_bnd (ih _ _ _ e h))))))
theorem q_finish (u : OS) : pc (f_X4_finish u) (fun v => v.1 7 = u.1 7 ∧ v.2.1 3 = u.2.1 3) := by
  unfold f_X4_finish
  refine pc_bnd (q_finish_L4 u _ (fun a b v e h => pc_gdi (fun _ _ => pc_bnd (pc_ite (fun _ => pc_bnd (pc_some ⟨?_, h⟩)) (fun _ => pc_bnd (pc_some ⟨?_, h⟩))))) FU _ _ u rfl rfl)
  · show v.1 7 = u.1 7
    rw [e]
  · show v.1 7 = u.1 7
    rw [e]
def B3 (u : OS) : Prop := ∀ i, i < 32 → 0 ≤ (u.2.1 3 i).toInt ∧ (u.2.1 3 i).toInt < 8192
theorem psum_b3 {u : OS} (h : B3 u) : ∀ n : Nat, n ≤ 32 → 0 ≤ psum (u.2.1 3) n ∧ psum (u.2.1 3) n ≤ 8192 * n := by
  intro n
  induction n with
  | zero => intro _; exact ⟨Int.le_refl _, Int.le_refl _⟩
  | succ n ih =>
    intro hn
    have r := ih (by omega)
    have s := h n (by omega)
    have e : psum (u.2.1 3) (n + 1) = psum (u.2.1 3) n + (u.2.1 3 n).toInt := rfl
    omega
theorem p_finish_L4 (u0 : OS) (hB : B3 u0) {Q : OS → Prop} (K : Int32 → Int32 → OS → Option OS) (hK : ∀ a b v, v.2.1 3 = u0.2.1 3 → a.toInt = psum (u0.2.1 3) 32 → (∀ t, t < 32 → (v.2.1 4 t).toInt = psum (u0.2.1 3) t) → pc (K a b v) Q) : ∀ (n j : Nat) (x y : Int32) (u : OS), x = nI j → j ≤ 32 → u.2.1 3 = u0.2.1 3 → y.toInt = psum (u0.2.1 3) j → (∀ t, t < j → (u.2.1 4 t).toInt = psum (u0.2.1 3) t) → pc (f_X4_finish_L4 n K x y u) Q := by
  intro n
  induction n with
  | zero => intro j x y u _ _ _ _ _; exact pc_none
  | succ n ih =>
    intro j x y u hx hj h3 hy h4
    have ex : x.toInt = j := by rw [hx, nI_toInt (by omega)]
    have exn : x.toNatClampNeg = j := by
      show x.toInt.toNat = j
      omega
    unfold f_X4_finish_L4
    refine pc_ite (fun d => ?_) (fun d => pc_gdi (fun _ _ => pc_bnd (pc_gdi (fun _ _ => pc_bnd (pc_bnd ?_)))))
    · have d1 := Int32.le_iff_toInt_le.mp d
      rw [li_32, ex] at d1
      have : j = 32 := by omega
      subst this
      exact hK _ _ _ h3 hy h4
    · have d1 := mt Int32.le_iff_toInt_le.mpr d
      rw [li_32, ex] at d1
      have pb := psum_b3 hB j hj
      have sb := hB j (by omega)
      have e1 : x + (1 : Int32) = nI (j + 1) := by rw [hx, nI_1]
      refine ih (j + 1) _ _ _ e1 (by omega) h3 ?_ (fun t ht => ?_)
      · show (y + u.2.1 3 x.toNatClampNeg).toInt = psum (u0.2.1 3) j + (u0.2.1 3 j).toInt
        rw [exn, h3, add32 (by omega) (by omega), hy]
      · show (upd (u.2.1 4) x.toNatClampNeg y t).toInt = _
        unfold upd
        rw [exn]
        by_cases z : t = j
        · rw [if_pos z, z, hy]
        · rw [if_neg z]
          exact h4 t (by omega)
theorem p_finish (u : OS) (hB : B3 u) : pc (f_X4_finish u) (fun v => ∀ t, t ≤ 32 → (v.2.1 4 t).toInt = psum (v.2.1 3) t) := by
  unfold f_X4_finish
  refine pc_bnd (p_finish_L4 u hB _ (fun a b v h3 ha h4 => pc_gdi (fun _ _ => pc_bnd ?_)) FU 0 (0 : Int32) (0 : Int32) u rfl (by decide) rfl (by rw [li_0]; rfl) (fun t ht => absurd ht (Nat.not_lt_zero t)))
  have k : ∀ t, t ≤ 32 → (upd (v.2.1 4) ((32 : Int32)).toNatClampNeg a t).toInt = psum (v.2.1 3) t := by
    intro t ht
    have e32 : ((32 : Int32)).toNatClampNeg = 32 := by decide
    unfold upd
    rw [e32, h3]
    by_cases z : t = 32
    · rw [if_pos z, z, ha]
    · rw [if_neg z]
      exact h4 t (by omega)
  exact pc_ite (fun _ => pc_bnd (pc_some k)) (fun _ => pc_bnd (pc_some k))
theorem q_makeOf_L9 (uA : OS) (a0 : Nat → Int32) {Q : OS × OS → Prop} (K : Int32 → Int32 → OS → OS → Option (OS × OS)) (hK : ∀ a b v w, v.1 = a0 → pc (K a b v w) Q) : ∀ (n : Nat) (x y : Int32) (u w : OS), u.1 = a0 → pc (f_X4_makeOf_L9 uA n K x y u w) Q := by
  intro n
  induction n with
  | zero => intro x y u w _; exact pc_none
  | succ n ih =>
    intro x y u w e
    unfold f_X4_makeOf_L9
    refine pc_ite (fun _ => hK _ _ _ _ e) (fun _ => pc_ite (fun _ => hK _ _ _ _ e) (fun _ => pc_gdi (fun _ _ => pc_bnd (pc_ite (fun _ => ?_) (fun _ => ?_)))))
    · exact pc_gdi (fun _ _ => pc_bnd (pc_gdi (fun _ _ => pc_oC2 (R := fun _ => True) (fun _ _ => trivial) (fun z r _ => pc_gdi (fun _ _ => pc_bnd (pc_gdi (fun _ _ => pc_bnd (pc_bnd (ih _ _ _ _ e)))))))))
    · exact pc_gdi (fun _ _ => pc_bnd (pc_gdi (fun _ _ => pc_oC2 (R := fun _ => True) (fun _ _ => trivial) (fun z r _ => pc_gdi (fun _ _ => pc_bnd (pc_gdi (fun _ _ => pc_bnd (pc_bnd (ih _ _ _ _ e)))))))))
theorem q_makeOf_L84 (uA : OS) (a0 : Nat → Int32) {Q : OS × OS → Prop} (K : Int32 → OS → OS → Option (OS × OS)) (hK : ∀ a v w, v.1 = a0 → pc (K a v w) Q) : ∀ (n : Nat) (x : Int32) (u w : OS), u.1 = a0 → pc (f_X4_makeOf_L84 uA n K x u w) Q := by
  intro n
  induction n with
  | zero => intro x u w _; exact pc_none
  | succ n ih =>
    intro x u w e
    unfold f_X4_makeOf_L84
    exact pc_ite (fun _ => hK _ _ _ e) (fun _ => pc_oC1 (R := fun _ => True) (fun _ _ => trivial) (fun r _ => pc_gdi (fun _ _ => pc_gdi (fun _ _ => pc_bnd (pc_ite (fun _ => pc_oC2 (R := fun _ => True) (fun _ _ => trivial) (fun a b _ => pc_gdi (fun _ _ => pc_bnd (pc_bnd (ih _ _ _ e))))) (fun _ => pc_gdi (fun _ _ => pc_oC2 (R := fun _ => True) (fun _ _ => trivial) (fun a b _ => pc_gdi (fun _ _ => pc_bnd (pc_bnd (ih _ _ _ e)))))))))))
theorem q_makeOf (uL u uA : OS) : pc (f_X4_makeOf uL u uA) (fun q => B3 q.2 → JS q.2) := by
  unfold f_X4_makeOf
  refine pc_oC1 (q_X4_forget u) (fun v hv => pc_bnd (q_makeOf_L9 uA v.1 _ (fun a b x y ex => pc_ite (fun _ => pc_some (fun _ => JS.z (by show x.1 2 = 0; rw [ex]; exact hv.1))) (fun _ => pc_bnd (q_makeOf_L84 uA v.1 _ (fun c z w ez => ?_) FU _ x y ex))) FU _ _ v uL rfl))
  refine pc_oC1 (R := fun t => B3 t → JS t) (fun t et hB => ?_) (fun t ht => pc_some ht)
  have q := q_finish z t et
  have hz : B3 z := by
    intro i hi
    rw [← q.2]
    exact hB i hi
  have p := p_finish z hz t et
  intro _
  refine ⟨p, fun n7 => absurd ?_ n7⟩
  rw [q.1, ez]
  exact hv.2
theorem IS.b3 {u : OS} (h : IS u) : B3 u := fun i _ => h.2.2.1 i
theorem q_X6_count (uX uS : OS) (p q : Int32) (h : JS uS) : pc (f_X6_count uX uS p q) (fun o => JS o.2.1) := by
  unfold f_X6_count
  exact pc_oC1 (R := fun _ => True) (fun _ _ => trivial) (fun r _ => pc_ite (fun _ => pc_some h) (fun _ => pc_ite (fun _ => pc_some h) (fun _ => pc_ite (fun _ => pc_gdi (fun _ _ => pc_bnd (pc_gdi (fun _ _ => pc_bnd (pc_oC1 (q_X4_forget uS) (fun v hv => pc_some (JS.z hv.1))))))) (fun _ => pc_some h))))
theorem q_counts_L71 (u : OS) {Q : OS × OS × Int32 → Prop} (K : Int32 → Int32 → Option (OS × OS × Int32)) (hK : ∀ a b, pc (K a b) Q) : ∀ (n : Nat) (x y : Int32), pc (f_X6_counts_L71 u n K x y) Q := by
  intro n
  induction n with
  | zero => intro x y; exact pc_none
  | succ n ih =>
    intro x y
    unfold f_X6_counts_L71
    exact pc_ite (fun _ => hK _ _) (fun _ => pc_gdi (fun _ _ => pc_ite (fun _ => pc_bnd (pc_bnd (ih _ _))) (fun _ => pc_bnd (pc_bnd (ih _ _)))))
theorem q_counts_L10 {Q : OS × OS × Int32 → Prop} (K : Int32 → OS → Option (OS × OS × Int32)) (hK : ∀ a b, pc (K a b) Q) : ∀ (n : Nat) (x : Int32) (u : OS), pc (f_X6_counts_L10 n K x u) Q := by
  intro n
  induction n with
  | zero => intro x u; exact pc_none
  | succ n ih =>
    intro x u
    unfold f_X6_counts_L10
    exact pc_ite (fun _ => hK _ _) (fun _ => pc_ite (fun _ => hK _ _) (fun _ => pc_gdi (fun _ _ => pc_oC1 (R := fun _ => True) (fun _ _ => trivial) (fun r _ => pc_ite (fun _ => pc_bnd (ih _ _)) (fun _ => pc_gdi (fun _ _ => pc_gdi (fun _ _ => pc_gdi (fun _ _ => pc_bnd (pc_bnd (ih _ _))))))))))
theorem q_X6_counts (uX uS : OS) : pc (f_X6_counts uX uS) (fun o => JS o.2.1) := by
  unfold f_X6_counts
  exact pc_bnd (pc_bnd (q_counts_L10 _ (fun a b => pc_oC1 (q_X4_forget uS) (fun v hv => pc_bnd (q_counts_L71 b _ (fun c d => pc_some (JS.z hv.1)) FU _ _))) FU _ _))
theorem q_X6_normal (uX uL uS : OS) (h : JS uS) : pc (f_X6_normal uX uL uS) (fun q => B3 q.2.1 → JS q.2.1) := by
  unfold f_X6_normal
  refine pc_bnd (pc_ite (fun _ => pc_oC2 (q_makeOf uL uS _) (fun a b hab => ?_)) (fun _ => ?_))
  · exact pc_ite (fun _ => pc_some hab) (fun _ => pc_oC1 (R := fun _ => True) (fun _ _ => trivial) (fun r _ => pc_some hab))
  · exact pc_ite (fun _ => pc_some (fun _ => h)) (fun _ => pc_oC1 (R := fun _ => True) (fun _ _ => trivial) (fun r _ => pc_some (fun _ => h)))
-- making the spread keeps it
theorem js_makeSpread {k : Nat} (h1 : 5 ≤ k) (h2 : k ≤ 12) (u : OS) (hIS : IS u) (hlg : u.1 0 = nI k) (hSH : SHN (u.2.1 3) (2 ^ k)) (z : ¬ u.1 2 = 0) (h : JS u) : pcA (f_X4_makeSpread u) (fun v => FK u v ∧ SPS k v ∧ JS v) := by
  have kn : (u.1 0).toInt.toNat = k := by
    rw [hlg, nI_toInt (by omega)]
    omega
  obtain ⟨p1, p2⟩ := h z
  rw [kn] at p2
  intro v m n e
  have r := p_X4_makeSpread h1 h2 u hIS hlg hSH (fun t ht => p1 t (by omega)) p2 v m n e
  refine ⟨r.1, r.2, fun _ => ⟨fun t ht => ?_, fun _ => ?_⟩⟩
  · rw [r.1.2.2.2.2, r.1.2.2.2.1]
    exact p1 t ht
  · rw [r.1.1, kn]
    exact r.2
theorem q_writeRow_L116 (p4 : Int32) (uW : OS) {Q : OS × OS × OS × OS → Prop} (K : Int32 → OS → Option ((OS × OS × OS × OS) × Nat × Nat)) (hK : ∀ x v, pcA (K x v) Q) : ∀ (n : Nat) (x : Int32) (u : OS), pcA (f_X5_writeRow_L116 p4 uW n K x u) Q := by
  intro n
  induction n with
  | zero => intro x u; exact pcA_none
  | succ n ih =>
    intro x u
    unfold f_X5_writeRow_L116
    exact pcA_ite (fun _ => hK _ _) (fun _ => pcA_gdi (fun _ _ => pcA_oC1 (R := fun _ => True) (fun _ _ => trivial) (fun r _ => pcA_oA1 (R := fun _ => True) (fun _ _ _ _ => trivial) (fun z a b _ => pcA_addc (pcA_bnd (ih _ _))))))
theorem q_writeRow_L53 (uA : OS) (p4 : Int32) (uS : OS) {Q : OS × OS × OS × OS → Prop} (K : Int32 → OS → OS → Option ((OS × OS × OS × OS) × Nat × Nat)) (hK : ∀ x w v, pcA (K x w v) Q) : ∀ (n : Nat) (x : Int32) (w u : OS), pcA (f_X5_writeRow_L53 uA p4 uS n K x w u) Q := by
  intro n
  induction n with
  | zero => intro x w u; exact pcA_none
  | succ n ih =>
    intro x w u
    unfold f_X5_writeRow_L53
    exact pcA_ite (fun _ => hK _ _ _) (fun _ => pcA_oA1 (R := fun _ => True) (fun _ _ _ _ => trivial) (fun z a b _ => pcA_addc (pcA_gdi (fun _ _ => pcA_oC2 (R := fun _ => True) (fun _ _ => trivial) (fun s t _ => pcA_bnd (ih _ _ _))))))
theorem q_writeRow {PS : OS → Prop} (uS uW uP uO uA : OS) (p2 p4 p5 : Int32) (h1 : PS uS) (h2 : pcA (f_X4_makeSpread uS) PS) : pcA (f_X5_writeRow uS uW uP uO uA p2 p4 p5) (fun q => PS q.1) := by
  unfold f_X5_writeRow
  refine pcA_bnd (pcA_oC1 (R := fun _ => True) (fun _ _ => trivial) (fun v _ => pcA_oC1 (R := fun _ => True) (fun _ _ => trivial) (fun r _ => pcA_bnd (pcA_bnd (pcA_ite (fun _ => pcA_oA1 h2 (fun s a b hs => pcA_addc (pcA_bnd (pcA_bnd (q_writeRow_L53 uA p4 s _ (fun x w t => ?_) FU _ _ _))))) (fun _ => pcA_bnd (pcA_bnd (q_writeRow_L53 uA p4 uS _ (fun x w t => ?_) FU _ _ _))))))))
  · exact pcA_oC1 (R := fun _ => True) (fun _ _ => trivial) (fun c _ => pcA_oA1 (R := fun _ => True) (fun _ _ _ _ => trivial) (fun d a b _ => pcA_addc (pcA_oA1 (R := fun _ => True) (fun _ _ _ _ => trivial) (fun e a b _ => pcA_addc (pcA_bnd (q_writeRow_L116 p4 w _ (fun y o => pcA_oA1 (R := fun _ => True) (fun _ _ _ _ => trivial) (fun f a b _ => pcA_addc (pcA_bnd (pcA_some hs)))) FU _ _))))))
  · exact pcA_oC1 (R := fun _ => True) (fun _ _ => trivial) (fun c _ => pcA_oA1 (R := fun _ => True) (fun _ _ _ _ => trivial) (fun d a b _ => pcA_addc (pcA_oA1 (R := fun _ => True) (fun _ _ _ _ => trivial) (fun e a b _ => pcA_addc (pcA_bnd (q_writeRow_L116 p4 w _ (fun y o => pcA_oA1 (R := fun _ => True) (fun _ _ _ _ => trivial) (fun f a b _ => pcA_addc (pcA_bnd (pcA_some h1)))) FU _ _))))))
theorem pcA_oA4 {a b c d r : Type} {x : Option ((a × b × c × d) × Nat × Nat)} {k : a → b → c → d → Nat → Nat → Option (r × Nat × Nat)} {R : a × b × c × d → Prop} {Q : r → Prop} (hx : pcA x R) (h : ∀ z y w v m n, R (z, y, w, v) → pcA (k z y w v m n) Q) : pcA (oA4 x k) Q := by
  cases x with
  | none => exact pcA_none
  | some q =>
    obtain ⟨⟨z, y, w, v⟩, m, n⟩ := q
    exact h z y w v m n (hx (z, y, w, v) m n rfl)
theorem pcA_oA3 {a b c r : Type} {x : Option ((a × b × c) × Nat × Nat)} {k : a → b → c → Nat → Nat → Option (r × Nat × Nat)} {R : a × b × c → Prop} {Q : r → Prop} (hx : pcA x R) (h : ∀ z y w m n, R (z, y, w) → pcA (k z y w m n) Q) : pcA (oA3 x k) Q := by
  cases x with
  | none => exact pcA_none
  | some q =>
    obtain ⟨⟨z, y, w⟩, m, n⟩ := q
    exact h z y w m n (hx (z, y, w) m n rfl)
-- what is known of shares that stand in both
def SHB (g : GH) (S : OS) (k : Nat) : Prop := 5 ≤ k ∧ k ≤ 12 ∧ g.2.1 = nI k ∧ SHN (S.2.1 3) (2 ^ k) ∧ SHN g.2.2.2 (2 ^ k) ∧ (∀ i, i < 32 → S.2.1 3 i = g.2.2.2 i) ∧ ¬ S.1 2 = 0
theorem shb {g : GH} {S M : OS} (hG : IG g.2 S) (hM : IM g M) (z : g.2.2.1 = 1) : ∃ k, SHB g S k ∧ S.1 0 = nI k ∧ M.1 0 = nI k := by
  have h0 := hM.1
  have h7 := hM.2.2.2.2.2.2.1
  have eg : M.1 0 = g.2.1 := hM.2.2.2.2.2.1.2
  obtain ⟨k, ek, ek2, _⟩ := nI_ex (x := M.1 0) (by omega)
  have z7 : M.1 7 = 1 := h7.2.1.trans z
  have sm := shn_M hM z7
  rw [show (M.1 0).toInt.toNat = k by omega] at sm
  have e1 : ∀ i, i < 32 → g.2.2.2 i = shr M 0 i := fun i hi => by rw [shr0]; exact (h7.2.2 i hi).symm
  have e2 : ∀ i, i < 32 → S.2.1 3 i = g.2.2.2 i := fun i hi => by rw [hG.2.2 i hi, if_neg (by rw [z]; decide)]
  have s2 : SHN g.2.2.2 (2 ^ k) := ⟨sm.1, fun i hi => by rw [e1 i hi]; exact sm.2.1 i hi, by rw [psum_congr 32 e1]; exact sm.2.2⟩
  refine ⟨k, ⟨by omega, by omega, eg.symm.trans ek, ⟨sm.1, fun i hi => by rw [e2 i hi]; exact s2.2.1 i hi, by rw [psum_congr 32 e2]; exact s2.2.2⟩, s2, e2, ?_⟩, by rw [hG.1]; exact eg.symm.trans ek, ek⟩
  rw [hG.2.1, z]
  decide
theorem q_X6_write {g : GH} (uX uS uW uP uO M : OS) (hX : IX g uX) (hS : IS uS) (hG : IG g.2 uS) (hK : LK g.1.2.2 g.2) (hM : IM g M) (h : JS uS) : pcA (f_X6_write uX uS uW uP uO) (fun q => JS q.1) := by
  unfold f_X6_write
  refine pcA_oC1 (p_X6_isWritable uX uS hX hS hG hK) (fun r hr => pcA_ite (fun _ => pcA_some h) (fun c => ?_))
  have w : WR g := by
    rcases hr with q | q
    · exact absurd q.1 c
    · exact q.2
  obtain ⟨k, ⟨k1, k2, _, sh, _, _, z⟩, ek, _⟩ := shb hG hM w.1
  exact pcA_oA4 (q_writeRow (PS := JS) uS uW uP uO _ _ _ _ h (fun v m n e => (js_makeSpread k1 k2 uS hS ek sh z h v m n e).2.2)) (fun a b c d m n hq => pcA_addc (pcA_some hq))
theorem q_Lspread {g : GH} (uX uS uY M : OS) (p : Int32) (hS : IS uS) (hG : IG g.2 uS) (hK : LK g.1.2.2 g.2) (hM : IM g M) (h : JS uS) : pcA (f_Lspread uX uS uY p) (fun q => JS q.1) := by
  unfold f_Lspread
  refine pcA_ite (fun _ => pcA_some h) (fun c => ?_)
  unfold f_L_spread
  refine pcA_oA2 (R := fun q => JS q.1) ?_ (fun a b m n ha => pcA_addc (pcA_gdi (fun _ _ => pcA_bnd (pcA_some ha))))
  unfold f_X6_spread
  refine pcA_ite (fun _ => pcA_none) (fun _ => pcA_ite (fun _ => pcA_ite (fun _ => pcA_some h) (fun z => ?_)) (fun _ => pcA_none))
  have z1 : g.2.2.1 = 1 := by
    rcases hK.fl with q | q
    · exact absurd (hG.2.1.trans q) z
    · exact q
  obtain ⟨k, ⟨k1, k2, _, sh, _, _, _⟩, ek, _⟩ := shb hG hM z1
  exact pcA_oA1 (js_makeSpread k1 k2 uS hS ek sh z h) (fun v m n hv => pcA_addc (pcA_oC1 (R := fun _ => True) (fun _ _ => trivial) (fun r _ => pcA_some hv.2.2)))
set_option maxHeartbeats 1000000 in
theorem q_agree_L14 {k : Nat} (h1 : 5 ≤ k) (h2 : k ≤ 12) (uX : OS) {Q : OS × OS × OS × OS × OS × OS × Int32 → Prop} (K : Int32 → Int32 → OS → OS → OS → OS → OS → OS → Option ((OS × OS × OS × OS × OS × OS × Int32) × Nat × Nat)) (hK : ∀ a b s w p r z o, JS s → pcA (K a b s w p r z o) Q) : ∀ (n : Nat) (x y : Int32) (s w p r z o : OS), IS s → s.1 0 = nI k → SHN (s.2.1 3) (2 ^ k) → ¬ s.1 2 = 0 → JS s → pcA (f_X6_agree_L14 uX n K x y s w p r z o) Q := by
  intro n
  induction n with
  | zero => intro x y s w p r z o _ _ _ _ _; exact pcA_none
  | succ n ih =>
    intro x y s w p r z o hI hk hS h0 hJ
    unfold f_X6_agree_L14
    refine pcA_ite (fun _ => hK _ _ _ _ _ _ _ _ hJ) (fun _ => pcA_oA4 (q_writeRow (PS := fun v => IS v ∧ v.1 0 = nI k ∧ SHN (v.2.1 3) (2 ^ k) ∧ ¬ v.1 2 = 0 ∧ JS v) s w p o _ _ _ _ ⟨hI, hk, hS, h0, hJ⟩ (fun v m n e => ?_)) (fun a b c d m1 n1 hq => pcA_addc (pcA_oA3 (R := fun _ => True) (fun _ _ _ _ => trivial) (fun e f t m2 n2 _ => pcA_addc ?_))))
    · have q := js_makeSpread h1 h2 s hI hk hS h0 hJ v m n e
      have i := pcA_cq (s_X4_makeSpread s hI) v m n e
      refine ⟨i.1, q.1.1.trans hk, by rw [q.1.2.2.2.1]; exact hS, by rw [q.1.2.2.1]; exact h0, q.2.2⟩
    · have go : ∀ y2 : Int32, pcA (bnd (x + (1 : Int32)) fun x2 => f_X6_agree_L14 uX n K x2 y2 a b c e f d) Q := fun y2 => pcA_bnd (ih _ _ _ _ _ _ _ _ hq.1 hq.2.1 hq.2.2.1 hq.2.2.2.1 hq.2.2.2.2)
      exact pcA_ite (fun _ => pcA_oC1 (R := fun _ => True) (fun _ _ => trivial) (fun r2 _ => pcA_ite (fun _ => go _) (fun _ => go _))) (fun _ => go _)
theorem q_X6_agree {g : GH} (uX uS uW uP uR uZ uO M : OS) (hX : IX g uX) (hS : IS uS) (hG : IG g.2 uS) (hK : LK g.1.2.2 g.2) (hM : IM g M) (h : JS uS) : pcA (f_X6_agree uX uS uW uP uR uZ uO) (fun q => JS q.1) := by
  unfold f_X6_agree
  refine pcA_oC1 (p_X6_isWritable uX uS hX hS hG hK) (fun r hr => pcA_ite (fun _ => pcA_some h) (fun c => pcA_bnd ?_))
  have w : WR g := by
    rcases hr with q | q
    · exact absurd q.1 c
    · exact q.2
  obtain ⟨k, ⟨k1, k2, _, sh, _, _, z⟩, ek, _⟩ := shb hG hM w.1
  exact q_agree_L14 k1 k2 uX _ (fun a b s w p r z o hs => pcA_some hs) FU _ _ uS uW uP uR uZ uO hS ek sh z h

set_option maxHeartbeats 400000 in
theorem p_X7_writeForm_L92 {g : GH} {F : Int32} {k : Nat} (h1 : 5 ≤ k) (h2 : k ≤ 12) (lg : Int32) (hlg : lg = nI k) (hF : F = 0 ∨ F = 1 ∨ F = 2 ∨ F = 3) (sh pf pl row : Nat → Int32) (ln : Nat) (hln : ln = 1 ∨ ln = 2 ∨ ln = 4) (u0 : OS) (h3 : (u0.1 3).toInt = ln) (hsh : ∀ i, i < 32 → u0.2.1 8 i = sh i) (hPF : PFX sh pf) (hsum : psum sh 32 = ((2 ^ k : Nat) : Int)) (h9 : ∀ i, i < 32 → u0.2.1 9 i = pf i) (h13 : ∀ i, i < 2 ^ k → u0.2.1 13 i = pl i) (hpl : F = 2 → ∀ i, i < 2 ^ k → 0 ≤ (pl i).toInt ∧ (pl i).toInt < ((2 ^ k : Nat) : Int)) (M : Nat) (hM : M ≤ 1000) (hrow : ∀ i, i < M → u0.2.1 4 i = row i ∧ 0 ≤ (row i).toInt ∧ (row i).toInt < 32 ∧ 1 ≤ (sh (row i).toNatClampNeg).toInt) {Q : OS → Prop} (K : Int32 → OS → Option OS) (T : SS) (hK : ∀ x v, MST lg T v → IM g v → WV u0 v → SI F k T M → pc (K x v) Q) : ∀ (n m : Nat) (x : Int32) (u : OS) (s : SS), x.toInt = (m : Int) - 1 → m ≤ M → rowS F lg ((1 : Int32) <<< (lg &&& (31 : Int32))) sh pf pl row ln m s = T → MST lg s u → IM g u → WV u0 u → SI F k s (M - m) → pc (f_X7_writeForm_L92 F n K x u) Q := by
  have sk := sk32 h1 h2 hlg
  have ak := (powA k (by omega) h1).2.2.2.2.2
  intro n
  induction n with
  | zero => intro m x u s _ _ _ _ _ _ _; exact pc_none
  | succ n ih =>
    intro m x u s hx hm hT h hI hW hSI
    unfold f_X7_writeForm_L92
    refine pc_ite (fun d => ?_) (fun d => ?_)
    · have := dn0 hx d
      subst this
      have hT : s = T := hT
      rw [← hT] at hK
      exact hK _ _ h hI hW hSI
    · obtain ⟨j, rfl⟩ := dn1 hx d
      have hjM : j < M := hm
      obtain ⟨xj0, en, xj⟩ := pos_j hx
      have m1 := sub_k (j := j + 1) hM
      have m2 := sub_s hjM
      have m5 : M - (j + 1) ≤ 5000 := Nat.le_trans m1 (by decide)
      clear hx d hm
      obtain ⟨r1, r2, r3, r4⟩ := hrow j hjM
      have e4 : u.2.1 4 x.toNatClampNeg = row j := by rw [en, hW.2.1 4 (by decide), r1]
      have l3 : (u.1 3).toInt = ln := by rw [hW.1 3 (by decide) (by decide) (by decide), h3]
      have el : u.1 0 = lg := h.1
      have lr := lnr xj0 l3 hln
      have hT : rowS F lg ((1 : Int32) <<< (lg &&& (31 : Int32))) sh pf pl row ln j (sgn F lg ((1 : Int32) <<< (lg &&& (31 : Int32))) sh pf pl (j % ln) (row j).toNatClampNeg s) = T := hT
      have bk := nI_back r2
      have hp32 : (row j).toNatClampNeg < 32 := sg32 r2 r3
      generalize (row j).toNatClampNeg = p at hT r4 bk hp32
      have sp := hPF.sp hsum hp32
      have s4 := le4096 sp.1 sp.2 ak.2
      have hS2 := SI.st h1 h2 hlg hF hPF hsum hpl lr.2 hp32 r4 m1 hSI
      rw [m2] at hS2
      have e8 : u.2.1 8 p = sh p := by rw [hW.2.1 8 (by decide), hsh p hp32]
      have e9 : u.2.1 9 p = pf p := by rw [hW.2.1 9 (by decide), h9 p hp32]
      have e13 : ∀ i, i < 2 ^ k → u.2.1 13 i = pl i := fun i hi => by rw [hW.2.1 13 (by decide)]; exact h13 i hi
      have enp := nIn (p := p) (lt100k hp32)
      have go : ∀ v, MST lg (sgn F lg ((1 : Int32) <<< (lg &&& (31 : Int32))) sh pf pl (j % ln) p s) v → WV u v → pc (bnd (x + (-1 : Int32)) fun y => f_X7_writeForm_L92 F n K y v) Q := fun v a b => pc_bnd (ih j _ v _ xj (Nat.le_of_lt hjM) hT a (IM_wv hI b) (hW.tr b) hS2)
      clear ih hK hT hS2
      refine pc_gdi (fun _ _ => pc_bnd_eq (fun a ha => pc_gdz (pc_bnd_eq (fun b hb => ?_))))
      have ea : a = nI p := ha.trans (e4.trans bk.symm)
      have eb : b.toInt = ((j % ln : Nat) : Int) := by rw [hb]; exact lr.1
      clear ha hb
      subst ea
      refine pc_ite (fun f3 => ?_) (fun f3 => ?_)
      · have PBs := hSI.2.2 (by rw [f3]; decide) (by rw [f3]; decide)
        have n20 : u.1 20 = s.1.1 := h.2.1.1
        have pn := PBs.n
        have ps := PBs.s
        have eS : sgn F lg ((1 : Int32) <<< (lg &&& (31 : Int32))) sh pf pl (j % ln) p s = lvs lg ((1 : Int32) <<< (lg &&& (31 : Int32))) pf (j % ln) p 5 s := by
          unfold sgn
          rw [if_pos f3]
        rw [eS] at go
        have hST : ST u 0 2147483648 := fun i hi => by rw [h.2.2 i hi]; exact ps i hi
        exact pc_oC1 (p_X7_writeSides (g := g) h1 h2 lg hlg pf u b (j % ln) p eb lr.2 hp32 s h hI hST (hPF.cg (fun i hi => by rw [hW.2.1 8 (by decide), hsh i hi])) (by rw [n20]; exact pn.1) (by rw [n20]; exact cnt70 pn.2 m1)) (fun v hv => go v hv.1 hv.2)
      · refine pc_gdi (fun _ _ => ?_)
        rw [enp, e8, e9, el]
        refine pc_ite (fun c => ?_) (fun c => pc_ite (fun f0 => ?_) (fun f0 => pc_ite (fun f1 => ?_) (fun f1 => ?_)))
        · have eS : sgn F lg ((1 : Int32) <<< (lg &&& (31 : Int32))) sh pf pl (j % ln) p s = s := by
            unfold sgn
            rw [if_neg f3, if_pos c]
          rw [eS] at go
          exact go u h WV.rf
        · have PBs := hSI.2.2 (by rw [f0]; decide) (by rw [f0]; decide)
          have ps := PBs.s _ lr.2
          have eS : sgn F lg ((1 : Int32) <<< (lg &&& (31 : Int32))) sh pf pl (j % ln) p s = sgB lg (sh p) (pf p) (j % ln) s := by
            unfold sgn
            rw [if_neg f3, if_neg c, if_pos f0]
          rw [eS] at go
          exact pc_gdi (fun _ _ => pc_gdi (fun _ _ => pc_oC1 (p_X7_writeBytes u b (sh p) (pf p) (j % ln) eb lr.2 h (rn8_lt h1 h2 hlg r4 s4 ps.1 ps.2)) (fun v hv => go v hv.1 hv.2)))
        · have Ws := hSI.1 f1
          have c1 := mt Int32.le_iff_toInt_le.mpr c
          rw [sk] at c1
          have eS : sgn F lg ((1 : Int32) <<< (lg &&& (31 : Int32))) sh pf pl (j % ln) p s = sgW lg (sh p) (pf p) (j % ln) s := by
            unfold sgn
            rw [if_neg f3, if_neg c, if_neg f0, if_pos f1]
          rw [eS] at go
          exact pc_gdi (fun _ _ => pc_gdi (fun _ _ => pc_oC1 (p_X7_writeWords u b (sh p) (pf p) (j % ln) eb lr.2 h (rnW_all h1 h2 hlg r4 (Int.not_le.mp c1) (Ws.2.2 _ lr.2) Ws.1 (le10k Ws.2.1 m1)).2.2.1) (fun v hv => go v hv.1 hv.2)))
        · have f2 : F = 2 := by
            rcases hF with q | q | q | q
            · exact absurd q f0
            · exact absurd q f1
            · exact q
            · exact absurd q f3
          have Ts := hSI.2.1 f2
          have eS : sgn F lg ((1 : Int32) <<< (lg &&& (31 : Int32))) sh pf pl (j % ln) p s = sgT lg (sh p) (pf p) pl (j % ln) s := by
            unfold sgn
            rw [if_neg f3, if_neg c, if_neg f0, if_neg f1]
          rw [eS, ← sgT_c (lg := lg) (pl := u.2.1 13) (pl2 := pl) h1 r4 h2 sp.1 sp.2 lr.2 m5 Ts e13] at go
          exact pc_gdi (fun _ _ => pc_gdi (fun _ _ => pc_oC1 (p_X7_writeBitsOf u b (sh p) (pf p) (j % ln) eb lr.2 h (Ts.sg (pl := pl) (r := pf p) h1 h2 hlg r4 sp.1 sp.2 (hpl f2) lr.2 m5).2) (fun v hv => go v hv.1 hv.2)))

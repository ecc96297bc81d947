theorem mod4 {j ln : Nat} (hln : ln = 1 ∨ ln = 2 ∨ ln = 4) : j % ln < 4 := by
  rcases hln with q | q | q
  · subst q; omega
  · subst q; omega
  · subst q; omega
theorem lt4c {a : Nat} (h : a < 4) : (a : Int) < 4 := by omega
theorem ln_and {x l : Int32} {j ln : Nat} (hx : x = nI j) (hj : j < 1000) (hl : l = nI ln) (hln : ln = 1 ∨ ln = 2 ∨ ln = 4) : x &&& (l - (1 : Int32)) = nI (j % ln) := by
  have e := ln_eq j hj
  rw [hx, hl]
  rcases hln with q | q | q
  · subst q; exact e.1
  · subst q; exact e.2.1
  · subst q; exact e.2.2
-- how many bits a pile holds
theorem SI.bits {F : Int32} {k m : Nat} {s : SS} {P : OS} (hm : m ≤ 1000) (hS : SI F k s m) (hP : PIL F s.1 P) : (P.1 1).toInt / 8 + 10 < 7600 := by
  by_cases f1 : F = 1
  · obtain ⟨w, PS⟩ := hP.2.1 f1
    have Ws := hS.1 f1
    have a := PS.2.1
    have b := Ws.2.1
    omega
  · by_cases f2 : F = 2
    · have PS := hP.1 f2
      have Ts := hS.2.1 f2
      have a := PS.2.1
      have b := Ts.2.1
      rw [a]
      omega
    · have PS := hP.2.2 f1 f2
      have Bs := (hS.2.2 f1 f2).n
      have a := PS.2.1
      omega
set_option maxHeartbeats 1000000 in
theorem p_X5_writeRow_L53 {F lg : Int32} {k : Nat} {sh pl : Nat → Int32} (h1 : 5 ≤ k) (h2 : k ≤ 12) (hlg : lg = nI k) (hF : F = 0 ∨ F = 1 ∨ F = 2 ∨ F = 3) (uA uS : OS) (hS : SWF F lg k sh pl uS) (row : Nat → Int32) (ln : Nat) (hln : ln = 1 ∨ ln = 2 ∨ ln = 4) (M : Nat) (hM : M ≤ 1000) (hrow : ∀ i, i < M → uA.2.1 0 i = row i ∧ 0 ≤ (row i).toInt ∧ (row i).toInt < 32 ∧ 1 ≤ (sh (row i).toNatClampNeg).toInt) {Q : OS × OS × OS × OS → Prop} (K : Int32 → OS → OS → Option ((OS × OS × OS × OS) × Nat × Nat)) (T : SS) (hK : ∀ x W P, (∀ i, i < 4 → W.2.2.1 0 i = T.2 i) → W.1 2 = nI ln → PIL F T.1 P → I8 F P → SI F k T M → pcA (K x W P) Q) : ∀ (n m : Nat) (x : Int32) (W P : OS) (s : SS), x.toInt = (m : Int) - 1 → m ≤ M → rowS F lg ((1 : Int32) <<< (lg &&& (31 : Int32))) sh (uS.2.1 4) pl row ln m s = T → (∀ i, i < 4 → W.2.2.1 0 i = s.2 i) → W.1 2 = nI ln → PIL F s.1 P → I8 F P → SI F k s (M - m) → pcA (f_X5_writeRow_L53 uA F uS n K x W P) Q := by
  have hS' := hS
  obtain ⟨hIS, e0, hsh, hPF, hsum, hTT⟩ := hS
  intro n
  induction n with
  | zero => intro m x W P s _ _ _ _ _ _ _ _; exact pcA_none
  | succ n ih =>
    intro m x W P s hx hm hT hW hl2 hP hI hSI
    unfold f_X5_writeRow_L53
    refine pcA_ite (fun d => ?_) (fun d => ?_)
    · have := dn0 hx d
      subst this
      have hT : s = T := hT
      rw [← hT] at hK
      exact hK _ _ _ hW hl2 hP hI hSI
    · obtain ⟨j, rfl⟩ := dn1 hx d
      have hjM : j < M := hm
      obtain ⟨xj0, en, xj⟩ := pos_j hx
      have m1 := sub_k (j := j + 1) hM
      have m2 := sub_s hjM
      have hj1000 : j < 1000 := Nat.lt_of_lt_of_le hjM hM
      have ex : x = nI j := Int32.toInt_inj.mp (by rw [xj0, nI_toInt (Nat.lt_trans hj1000 (by decide))])
      clear hx d hm
      obtain ⟨r1, r2, r3, r4⟩ := hrow j hjM
      have hT : rowS F lg ((1 : Int32) <<< (lg &&& (31 : Int32))) sh (uS.2.1 4) pl row ln j (sgn F lg ((1 : Int32) <<< (lg &&& (31 : Int32))) sh (uS.2.1 4) pl (j % ln) (row j).toNatClampNeg s) = T := hT
      have bk := nI_back r2
      have hp32 : (row j).toNatClampNeg < 32 := sg32 r2 r3
      generalize (row j).toNatClampNeg = p at hT r4 bk hp32
      have hln4 : j % ln < 4 := mod4 hln
      have la := ln_and (x := x) (l := W.1 2) ex hj1000 hl2 hln
      have lat : (nI (j % ln)).toInt = ((j % ln : Nat) : Int) := nI_toInt (Nat.lt_trans hln4 (by decide))
      have hS2 := SI.st h1 h2 hlg hF hPF hsum (fun q i hi => ((hTT q).1 i hi).2) hln4 hp32 r4 m1 hSI
      rw [m2] at hS2
      have bt := hSI.bits m1 hP
      refine pcA_oA1 (p_X2_makeRoom P hI hP (Int.lt_trans bt (by decide))) (fun P' kc ks hP' => pcA_addc (pcA_gdi (fun _ _ => ?_)))
      obtain ⟨i8, pil, eP, cp, c8⟩ := hP'
      rw [en, r1, la, ← bk]
      refine pcA_oC2 (pc_and (pc_of_ok (s_X5_putSign uS W P' F (nI (j % ln)) (nI p) hIS i8 (by rw [lat]; exact Int.natCast_nonneg _) (by rw [lat]; exact lt4c hln4))) (p_X5_putSign h1 h2 hlg hF uS W P' hS' (nI (j % ln)) (j % ln) p lat hln4 hp32 r4 s (M - (j + 1)) m1 hSI hW pil (by rw [eP]; exact cp))) (fun a b hab => pcA_bnd ?_)
      obtain ⟨⟨w1, w2, w3⟩, v1, v2⟩ := hab
      exact ih j _ a b _ xj (Nat.le_of_lt hjM) hT v1 (by rw [show a.1 = W.1 from w1]; exact hl2) v2 w2 hS2

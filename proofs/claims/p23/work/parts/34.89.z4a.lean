-- the class's Shares, seen by a writer of form F
def SWF (F lg : Int32) (k : Nat) (sh pl : Nat → Int32) (u : OS) : Prop := IS u ∧ u.1 0 = lg ∧ (∀ i, i < 32 → u.2.1 3 i = sh i) ∧ PFX sh (u.2.1 4) ∧ psum sh 32 = ((2 ^ k : Nat) : Int) ∧ (F = 2 → (∀ i, i < 2 ^ k → u.2.1 10 i = pl i ∧ 0 ≤ (pl i).toInt ∧ (pl i).toInt < ((2 ^ k : Nat) : Int)) ∧ 2 ^ k ≤ u.2.2.2 10 ∧ (∀ p, p < 32 → (sh p).toInt = ((2 ^ k : Nat) : Int) → ∀ i, i < 2 ^ k → pl i = nI i))
set_option maxHeartbeats 1000000 in
theorem p_X5_putSign {F lg : Int32} {k : Nat} {sh pl : Nat → Int32} (h1 : 5 ≤ k) (h2 : k ≤ 12) (hlg : lg = nI k) (hF : F = 0 ∨ F = 1 ∨ F = 2 ∨ F = 3) (uS W P : OS) (hS : SWF F lg k sh pl uS) (p1 : Int32) (l p : Nat) (hp1 : p1.toInt = l) (hl : l < 4) (hp : p < 32) (hpos : 1 ≤ (sh p).toInt) (s : SS) (m : Nat) (hm : m ≤ 1000) (hSI : SI F k s m) (hW : ∀ i, i < 4 → W.2.2.1 0 i = s.2 i) (hP : PIL F s.1 P) (hc : (P.1 1).toInt / 8 + 10 < P.2.2.2 0) : pc (f_X5_putSign uS W P F p1 (nI p)) (fun v => (∀ i, i < 4 → v.1.2.2.1 0 i = (sgn F lg ((1 : Int32) <<< (lg &&& (31 : Int32))) sh (uS.2.1 4) pl l p s).2 i) ∧ PIL F (sgn F lg ((1 : Int32) <<< (lg &&& (31 : Int32))) sh (uS.2.1 4) pl l p s).1 v.2) := by
  obtain ⟨hIS, e0, hsh, hPF, hsum, hT⟩ := hS
  have sk := sk32 h1 h2 hlg
  have ak := (powA k (by omega) h1).2.2.2.2.2
  have sp := hPF.sp hsum hp
  have ep : (nI p).toInt = (p : Int) := nI_toInt (by omega)
  have hsz : uS.1 1 = (1 : Int32) <<< (lg &&& (31 : Int32)) := by rw [hIS.2.1, e0]
  have e3 := hsh p hp
  unfold f_X5_putSign
  refine pc_ite (fun f2 => ?_) (fun f2 => pc_ite (fun f3 => ?_) (fun f3 => ?_))
  · obtain ⟨t1, t2, t3⟩ := hT f2
    have Ts := hSI.2.1 f2
    have yl := Ts.2.2 l hl
    have PS := hP.1 f2
    have n1 : P.1 1 = s.1.1 := PS.2.1
    refine pc_oC2 (p_X5_putByTable h1 h2 lg hlg uS W P pl hsz p1 l p hp1 hl hp s hW PS (by rw [n1] at hc; omega) (by rw [e3]; exact hpos) sp.1 (by rw [e3]; exact sp.2) yl.1 yl.2 t1 t2 (IS_n hIS).2.2) (fun a b hab => pc_some ?_)
    rw [e3] at hab
    have keep : ∀ S : SS, (∀ i, i < 4 → a.2.2.1 0 i = S.2 i) → PSB S.1 b → (∀ i, i < 4 → a.2.2.1 0 i = S.2 i) ∧ PIL F S.1 b := fun S x y => ⟨x, fun _ => y, fun q => absurd (q.symm.trans f2) (by decide), fun _ q => absurd f2 q⟩
    by_cases c : ((1 : Int32) <<< (lg &&& (31 : Int32))) ≤ sh p
    · have eS : sgn F lg ((1 : Int32) <<< (lg &&& (31 : Int32))) sh (uS.2.1 4) pl l p s = s := by
        unfold sgn
        rw [if_neg (by rw [f2]; decide), if_pos c]
      have c1 := Int32.le_iff_toInt_le.mp c
      rw [sk] at c1
      have q0 : (sh p).toInt = ((2 ^ k : Nat) : Int) := by omega
      have al := sgT_all (q := sh p) (r := uS.2.1 4 p) h1 h2 hlg q0 (by omega) yl.1 yl.2 (t3 p hp q0)
      rw [eS]
      refine keep s (fun i hi => by rw [hab.1 i hi]; exact al.2 i) ?_
      rw [← al.1]
      exact hab.2.1
    · have eS : sgn F lg ((1 : Int32) <<< (lg &&& (31 : Int32))) sh (uS.2.1 4) pl l p s = sgT lg (sh p) (uS.2.1 4 p) pl l s := by
        unfold sgn
        rw [if_neg (by rw [f2]; decide), if_neg c, if_neg (by rw [f2]; decide), if_neg (by rw [f2]; decide)]
      rw [eS]
      exact keep _ hab.1 hab.2.1
  · have n1 : ¬ F = 1 := by rw [f3]; decide
    have PS := hP.2.2 n1 f2
    have eS : sgn F lg ((1 : Int32) <<< (lg &&& (31 : Int32))) sh (uS.2.1 4) pl l p s = lvs lg ((1 : Int32) <<< (lg &&& (31 : Int32))) (uS.2.1 4) l p 5 s := by
      unfold sgn
      rw [if_pos f3]
    rw [eS]
    have b8 := PS.2.1
    refine pc_oC2 (p_X5_putTwoSided h1 h2 lg hlg sh uS W P ⟨e0, hsz, hPF⟩ p1 l p hp1 hl hp hpos s hW PS (by omega)) (fun a b hab => pc_some ⟨hab.1, fun q => absurd q f2, fun q => absurd q n1, fun _ _ => hab.2.1⟩)
  · refine pc_oC1 (p_X4_shareOf uS (nI p) p ep hp) (fun r7 h7 => pc_oC1 (p_X4_fromOf uS (nI p) p ep hp) (fun r9 h9 => ?_))
    rw [h7, h9, e3, e0]
    have q0 : ¬ sh p ≤ (0 : Int32) := fun z => by
      have := i0_le.mp z
      omega
    by_cases c : ((1 : Int32) <<< (lg &&& (31 : Int32))) ≤ sh p
    · have eS : sgn F lg ((1 : Int32) <<< (lg &&& (31 : Int32))) sh (uS.2.1 4) pl l p s = s := by
        unfold sgn
        rw [if_neg f3, if_pos c]
      have c1 := Int32.le_iff_toInt_le.mp c
      rw [sk] at c1
      have qe : sh p = (1 : Int32) <<< (lg &&& (31 : Int32)) := Int32.toInt_inj.mp (by rw [sk]; omega)
      rw [eS]
      refine pc_oC2 (p_widen_all W P q0 qe) (fun a b hab => pc_some ?_)
      cases hab
      exact ⟨hW, hP⟩
    · have c2 : sh p < ((1 : Int32) <<< (lg &&& (31 : Int32))) := Int32.not_le.mp c
      have c1 := Int32.lt_iff_toInt_lt.mp c2
      rw [sk] at c1
      by_cases f1 : F = 1
      · have Ws := hSI.1 f1
        obtain ⟨w, PS⟩ := hP.2.1 f1
        have eS : sgn F lg ((1 : Int32) <<< (lg &&& (31 : Int32))) sh (uS.2.1 4) pl l p s = sgW lg (sh p) (uS.2.1 4 p) l s := by
          unfold sgn
          rw [if_neg f3, if_neg c, if_neg (by rw [f1]; decide), if_pos f1]
        have b8 := PS.2.1
        have rw1 := rnW_all (t := s.1) h1 h2 hlg hpos c1 (Ws.2.2 l hl) Ws.1 (by have := Ws.2.1; omega)
        rw [eS, f1]
        refine pc_oC2 (p_X5_widenW W P l w hp1 hl hW PS (by omega) (Ws.2.2 l hl) rw1.2.2.1 q0 c2) (fun a b hab => pc_some ⟨hab.1, fun q => absurd q (by decide), fun _ => hab.2.1, fun q => absurd rfl q⟩)
      · have PS := hP.2.2 f1 f2
        have f0 : F = 0 := by
          rcases hF with q | q | q | q
          · exact q
          · exact absurd q f1
          · exact absurd q f2
          · exact absurd q f3
        have eS : sgn F lg ((1 : Int32) <<< (lg &&& (31 : Int32))) sh (uS.2.1 4) pl l p s = sgB lg (sh p) (uS.2.1 4 p) l s := by
          unfold sgn
          rw [if_neg f3, if_neg c, if_pos f0]
        have b8 := PS.2.1
        rw [eS]
        refine pc_oC2 (p_X5_widenB W P l hp1 hl f1 hW PS (by omega) q0 c2) (fun a b hab => pc_some ⟨hab.1, fun q => absurd q f2, fun q => absurd q f1, fun _ _ => hab.2.1⟩)

set_option maxHeartbeats 1000000 in
theorem p_X5_writeRow {F lg : Int32} {k : Nat} {sh pl pf : Nat → Int32} (h1 : 5 ≤ k) (h2 : k ≤ 12) (hlg : lg = nI k) (hF : F = 0 ∨ F = 1 ∨ F = 2 ∨ F = 3) (uS uW uP uO uA : OS) (hsz : uS.1 1 = (1 : Int32) <<< (lg &&& (31 : Int32))) (hP : IP uP) (hO : IO uO) (hS1 : F ≠ 2 → SWF F lg k sh pl uS ∧ uS.2.1 4 = pf) (hS2 : F = 2 → pcA (f_X4_makeSpread uS) (fun v => SWF F lg k sh pl v ∧ v.2.1 4 = pf)) (row : Nat → Int32) (ln : Nat) (hln : ln = 1 ∨ ln = 2 ∨ ln = 4) (len : Int32) (M : Nat) (hlen : len.toInt = M) (hM : M ≤ 1000) (hcap : M ≤ uA.2.2.2 0) (hcap2 : uA.2.2.2 0 ≤ 1000) (hrow : ∀ i, i < M → uA.2.1 0 i = row i ∧ 0 ≤ (row i).toInt ∧ (row i).toInt < 32 ∧ 1 ≤ (sh (row i).toNatClampNeg).toInt) (b0 : Int32) (hb0 : (F * (4 : Int32)) + ((nI ln) / (2 : Int32)) = b0) (T : SS) (hT : rowS F lg ((1 : Int32) <<< (lg &&& (31 : Int32))) sh pf pl row ln M (s0F F lg) = T) : pcA (f_X5_writeRow uS uW uP uO uA len F (nI ln)) (fun q => XO (pourF F T.1 (preO F lg len b0 sh ln T.2)) q.2.2.2 ∧ q.2.1.1 2 = nI ln ∧ q.2.1.1 3 = 1 ∧ ∀ i, i < 4 → q.2.1.2.2.1 0 i = T.2 i) := by
  have hOC : F ≠ 1 → F ≠ 2 → ∀ i, 0 ≤ (T.1.2 i).toInt ∧ (T.1.2 i).toInt ≤ 255 := by
    intro f1 f2
    rw [← hT]
    exact oct_row f1 f2 hF M (s0F F lg) (fun i => ⟨by show 0 ≤ (0 : Int32).toInt; decide, by show (0 : Int32).toInt ≤ 255; decide⟩)
  have en := nIt (n := uA.2.2.2 0) (by omega)
  have elt : (nI ln).toInt = (ln : Int) := nI_toInt (by omega)
  have e5 : (if (4 : Int32) < nI ln then (4 : Int32) else nI ln) = nI ln := by
    rw [if_neg]
    intro q
    have := Int32.lt_iff_toInt_lt.mp q
    rw [li_4, elt] at this
    omega
  have ex : ((if (nI (uA.2.2.2 0)) < len then (nI (uA.2.2.2 0)) else len) - (1 : Int32)).toInt = (M : Int) - 1 := by
    rw [if_neg]
    · rw [sub32 (by rw [li_1]; omega) (by rw [li_1]; omega), li_1, hlen]
    · intro q
      have := Int32.lt_iff_toInt_lt.mp q
      rw [en] at this
      omega
  unfold f_X5_writeRow
  rw [e5]
  refine pcA_bnd (pcA_oC1 (pc_and (pc_of_ok (s_X2_empty uP F hP)) (p_X2_empty uP)) (fun v hvv => pcA_oC1 (p_X6_firstState h1 h2 hlg hsz) (fun r4 hr4 => pcA_bnd_eq (fun u6 e6 => pcA_bnd ?_))))
  obtain ⟨hv, hv0⟩ := hvv
  have l6 : u6.1 2 = nI ln := by rw [e6]; rfl
  have st6 : ∀ i, i < 4 → u6.2.2.1 0 i = (s0F F lg).2 i := by
    intro i hi
    rw [e6, hr4]
    show flL 4 _ (fsF F lg) i = fsF F lg
    unfold flL
    rw [if_pos hi]
  generalize ((if (nI (uA.2.2.2 0)) < len then (nI (uA.2.2.2 0)) else len) - (1 : Int32)) = x13 at ex
  have key : ∀ s : OS, SWF F lg k sh pl s → s.2.1 4 = pf → pcA (bnd x13 fun x13 =>
  bnd (fun (x23 : Int32) (u24 : OS) (u25 : OS) =>
  oC1 (f_X1_restart uO) fun u27 =>
  oA1 (f_X5_putHead s u24 u27 F len) fun u29 kc32 ks32 =>
  addc kc32 ks32 <|
  oA1 (f_X5_putTable s u29) fun u34 kc37 ks37 =>
  addc kc37 ks37 <|
  bnd (fun (x47 : Int32) (u48 : OS) =>
  oA1 (f_X2_pourInto u25 u48) fun u50 kc53 ks53 =>
  addc kc53 ks53 <|
  bnd (sF u24 3 (1 : Int32)) fun u55 =>
  some ((s, u55, u25, u50), 0, 0)) fun K148_49 =>
  f_X5_writeRow_L116 F u24 FU K148_49 (0 : Int32) u34) fun K91_26 =>
  f_X5_writeRow_L53 uA F s FU K91_26 x13 u6 v) (fun q => XO (pourF F T.1 (preO F lg len b0 sh ln T.2)) q.2.2.2 ∧ q.2.1.1 2 = nI ln ∧ q.2.1.1 3 = 1 ∧ ∀ i, i < 4 → q.2.1.2.2.1 0 i = T.2 i) := by
    intro s hs hpf
    rw [← hpf] at hT
    have hs' := hs
    obtain ⟨hIS, s0, ssh, sPF, ssum, _⟩ := hs'
    have ssz : s.1 1 = (1 : Int32) <<< (lg &&& (31 : Int32)) := by rw [hIS.2.1, s0]
    have sk := sk32 h1 h2 hlg
    have ak := (powA k (by omega) h1).2.2.2.2.2
    have pil0 : PIL F (s0F F lg).1 v := by
      have z0 : (s0F F lg).1.1.toInt = 0 := li_0
      have v0 : (v.1 1).toInt = 0 := by rw [hv0.1, li_0]
      have v8 : v.2.2.2 0 ≤ 8000 := by rw [hv0.2]; exact hP.2.2.2
      refine ⟨fun _ => ⟨by rw [z0]; exact Int.le_refl _, hv0.1, fun i hi => ?_, fun q hq => ?_, v8⟩, fun _ => ⟨0, by rw [z0]; exact Int.le_refl _, by rw [v0, z0]; rfl, fun i b hi _ => ?_, fun b hb => absurd hb (Nat.not_lt_zero b), v8⟩, fun _ _ => ⟨by rw [z0]; exact Int.le_refl _, by rw [v0, z0]; rfl, fun i hi => ?_, v8⟩⟩
      · rw [z0] at hi
        exact absurd hi (Nat.not_lt_zero i)
      · rw [z0] at hq
        exact absurd hq (Nat.not_lt_zero _)
      · rw [z0] at hi
        omega
      · rw [z0] at hi
        omega
    refine pcA_bnd (pcA_bnd (p_X5_writeRow_L53 h1 h2 hlg hF uA s hs row ln hln M hM hrow _ T ?_ FU M x13 u6 v (s0F F lg) ex (Nat.le_refl _) hT st6 l6 pil0 hv.1 (by rw [Nat.sub_self]; exact SI0 h1 h2 hlg)))
    intro x w t hw lw ht it si
    have cn := si.cnt hM
    have oc := ht.oct
    have ob := octF_b hM si
    have pn := preO_n (F := F) (lg := lg) (len := len) (b0 := b0) (sh := sh) (ln := ln) (st := T.2) h1 h2 hlg (fun i hi => sPF.1 i hi) (by omega)
    refine pcA_oC1 (R := fun a => XO ((0 : Int32), fun _ => 0) a ∧ a.1 2 = 0) ?_ (fun a ha => ?_)
    · unfold f_X1_restart
      refine pc_bnd (pc_bnd (pc_some ⟨⟨⟨rfl, by show 0 ≤ (0 : Int32).toInt; decide, fun i hi => ?_⟩, ⟨by show 0 ≤ (0 : Int32).toInt; decide, ?_, hO.2.2⟩⟩, rfl⟩))
      · have hi : (i : Int) < (0 : Int32).toInt := hi
        rw [li_0] at hi
        omega
      · show (0 : Int32).toInt ≤ ((uO.2.2.2 0 : Nat) : Int)
        rw [li_0]
        omega
    · have z100 : (((0 : Int32), fun _ => (0 : Int32)) : OT).1.toInt ≤ 100 := by show (0 : Int32).toInt ≤ 100; decide
      have a1 : (ap ((0 : Int32), fun _ => 0) b0).1.toInt = 1 := ap_n ((0 : Int32), fun _ => 0) b0 (by show (0 : Int32).toInt < 100000; decide)
      have a2 := ap_n (ap ((0 : Int32), fun _ => 0) b0) lg (by omega)
      have a3 := wid_n len.toInt64 2 (ap (ap ((0 : Int32), fun _ => 0) b0) lg) (by omega) (by omega)
      refine pcA_oA1 (p_X5_putHead (t := ((0 : Int32), fun _ => 0)) s w a F len b0 (by rw [lw]; exact hb0) (by omega) ha.1 z100 ha.2) (fun b kc ks hb => pcA_addc ?_)
      rw [s0] at hb
      refine pcA_oA1 (p_X5_putTable s b (fun i hi => by rw [ssh i hi]; exact sPF.1 i hi) (by rw [ssz, sk]; omega) (by omega) hb) (fun d kc2 ks2 hd => pcA_addc (pcA_bnd ?_))
      rw [ssz, tab_c ssh 32 0 _ _ (by decide)] at hd
      have tl : (tab sh 32 0 ((1 : Int32) <<< (lg &&& (31 : Int32))) (wid len.toInt64 2 (ap (ap ((0 : Int32), fun _ => 0) b0) lg), 0)).1.1.toInt ≤ 420 := by
        have a4 := tab_n (f := sh) (fun i hi => sPF.1 i hi) 32 0 ((1 : Int32) <<< (lg &&& (31 : Int32))) (wid len.toInt64 2 (ap (ap ((0 : Int32), fun _ => 0) b0) lg), 0) (by decide) (by rw [sk]; omega) (by show 1 ≤ (wid len.toInt64 2 (ap (ap ((0 : Int32), fun _ => 0) b0) lg)).1.toInt; omega) (by show (wid len.toInt64 2 (ap (ap ((0 : Int32), fun _ => 0) b0) lg)).1.toInt + 13 * ((32 : Nat) : Int) < 50000; omega)
        have a4h : (tab sh 32 0 ((1 : Int32) <<< (lg &&& (31 : Int32))) (wid len.toInt64 2 (ap (ap ((0 : Int32), fun _ => 0) b0) lg), 0)).1.1.toInt ≤ (wid len.toInt64 2 (ap (ap ((0 : Int32), fun _ => 0) b0) lg)).1.toInt + 13 * ((32 : Nat) : Int) := a4.2
        omega
      refine p_X5_writeRow_L116 (F := F) w T.2 hw cn.2.2 ln lw (by omega) _ (preO F lg len b0 sh ln T.2) (fun y o ho => ?_) FU 0 (0 : Int32) d _ rfl (Nat.zero_le _) (by rw [Nat.sub_zero]; rfl) (by rw [Nat.sub_zero]; omega) hd.1
      have on := ho.n
      refine pcA_oA1 (p_X2_pourInto t o ht (fun f1 f2 i _ => hOC f1 f2 i) (by have := it.1.2.1; have := it.1.2.2.2; omega) ho (by omega)) (fun e kc3 ks3 he => pcA_addc (pcA_bnd (pcA_some ⟨he, lw, rfl, hw⟩)))
  refine pcA_ite (fun f2 => ?_) (fun f2 => ?_)
  · exact pcA_oA1 (hS2 f2) (fun s kc ks hs => pcA_addc (key s hs.1 hs.2))
  · exact key uS (hS1 f2).1 (hS1 f2).2

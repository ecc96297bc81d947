-- ===== the law's loop =====
theorem ph_le {lim n : Nat} (h : n ≤ lim) : ph lim n ≤ 3 * lim := by
  unfold ph
  by_cases q : n = lim
  · rw [if_pos q]; omega
  · rw [if_neg q]; omega
def INV (g : GH) (X L S W P R Z O M : OS) : Prop := IX g X ∧ IL g.2.1 L ∧ (IS S ∧ IG g.2 S ∧ LK g.1.2.2 g.2 ∧ JS S) ∧ IW W ∧ IP P ∧ IR R ∧ IS Z ∧ IO O ∧ IM g M ∧ JM M ∧ OQ O M ∧ WVQ W M ∧ RQV R M
def tot (X S P R Z O : OS) : Nat := phX X + phS S + phP P + phR R + phS Z + phO O
theorem tot_le {g : GH} {X L S W P R Z O M : OS} (h : INV g X L S W P R Z O M) : tot X S P R Z O ≤ 300000 := by
  obtain ⟨h1, _, h3, _, h5, h6, h7, h8, _, _, _, _, _⟩ := h
  have a1 : phX X ≤ 3 * 1000 := ph_le h1.2.2.1.2
  have a2 : phP P ≤ 3 * 8000 := ph_le h5.2.2.2
  have a3 : phO O ≤ 3 * 8000 := ph_le h8.2.2.2
  have a4 : phR R ≤ 3 * 65535 := ph_le h6.2.1.2
  have a5 : phS S ≤ 6 * 4096 := Nat.mul_le_mul_left 6 (IS_n h3.1).1
  have a6 : phS Z ≤ 6 * 4096 := Nat.mul_le_mul_left 6 (IS_n h7).1
  unfold tot
  omega
def LQ (b : Nat) : Int32 × Nat × Nat → Prop := CQ (fun r => r = (1 : Int32)) (fun _ => 310000) b
set_option maxHeartbeats 4000000 in
theorem s_law (xs : Nat → Int32) (L : Nat) (hL : L ≤ 1537) : ∀ (n : Nat) (x7 : Int32) (g : GH) (X Lg S W P R Z O M Y : OS), 1 ≤ x7.toInt → x7.toInt ≤ 1600 → (1600 - x7.toInt).toNat < n → INV g X Lg S W P R Z O M → ok (f_L_law_L33 xs L n x7 X Lg S W P R Z O M Y) (LQ (tot X S P R Z O + 6 * x7.toInt.toNat)) := by
  intro n
  have eL : (Int32.ofNat L).toInt = L := nI_toInt (by omega)
  have eL3 : ((Int32.ofNat L) - (3 : Int32)).toInt = L - 3 := by rw [sub32 (by rw [eL, li_3]; omega) (by rw [eL, li_3]; omega), eL, li_3]
  induction n with
  | zero => intro x7 g X Lg S W P R Z O M Y _ _ hn; omega
  | succ n ih =>
    intro x7 g X Lg S W P R Z O M Y x0 x1 hn hI
    unfold f_L_law_L33
    refine ok_ite (fun c => ok_some ⟨rfl, Nat.le_refl _, ?_⟩) (fun c => ?_)
    · have := tot_le hI
      show tot X S P R Z O + 6 * x7.toInt.toNat + 0 ≤ 310000
      omega
    have c1 := mt Int32.lt_iff_toInt_lt.mpr c
    rw [eL3] at c1
    have i0 : x7.toInt < (L : Int) := by omega
    have e1 : (x7 + (1 : Int32)).toInt = x7.toInt + 1 := by rw [add32 (by rw [li_1]; omega) (by rw [li_1]; omega), li_1]
    have e2 : (x7 + (2 : Int32)).toInt = x7.toInt + 2 := by rw [add32 (by rw [li_2]; omega) (by rw [li_2]; omega), li_2]
    have e3 : (x7 + (3 : Int32)).toInt = x7.toInt + 3 := by rw [add32 (by rw [li_3]; omega) (by rw [li_3]; omega), li_3]
    have j0 : 0 ≤ (x7 + (1 : Int32)).toInt := by omega
    have j1 : (x7 + (1 : Int32)).toInt < (L : Int) := by omega
    have k0 : 0 ≤ (x7 + (2 : Int32)).toInt := by omega
    have k1 : (x7 + (2 : Int32)).toInt < (L : Int) := by omega
    have m0 : 1 ≤ (x7 + (3 : Int32)).toInt := by omega
    have m1 : (x7 + (3 : Int32)).toInt ≤ 1600 := by omega
    have m2 : (1600 - (x7 + (3 : Int32)).toInt).toNat < n := by omega
    have m3 : (x7 + (3 : Int32)).toInt.toNat = x7.toInt.toNat + 3 := by omega
    have go : ∀ (b : Nat) (g : GH) (X Lg S W P R Z O M Y : OS), INV g X Lg S W P R Z O M → b ≤ tot X S P R Z O + 6 * x7.toInt.toNat + 18 → ok (bnd (x7 + (3 : Int32)) fun x => f_L_law_L33 xs L n x X Lg S W P R Z O M Y) (LQ b) := by
      intro b g X Lg S W P R Z O M Y hI hb
      refine ok_bnd (CQ_le ?_ (ih _ g X Lg S W P R Z O M Y m0 m1 m2 hI))
      rw [m3]
      omega
    clear ih
    obtain ⟨hX, hLg, hSS, hW, hP, hR, hZ, hO, hM, hJ, hQ, hV, hB⟩ := hI
    obtain ⟨hS, hG, hK, hJS⟩ := hSS
    refine ok_gdi (by omega) i0 (ok_bnd_eq (fun x20 _ => ?_))
    refine ok_ite (fun _ => ?_) (fun _ => ok_ite (fun _ => ?_) (fun _ => ok_ite (fun _ => ?_) (fun _ => ok_ite (fun _ => ?_) (fun _ => ok_ite (fun _ => ?_) (fun _ => ok_ite (fun _ => ?_) (fun _ => ok_ite (fun _ => ?_) (fun _ => ok_ite (fun _ => ?_) (fun _ => ok_ite (fun _ => ?_) (fun _ => ok_ite (fun _ => ?_) (fun _ => ok_ite (fun _ => ?_) (fun _ => ok_ite (fun _ => ?_) (fun _ => ok_ite (fun _ => ?_) (fun _ => ok_ite (fun _ => ?_) (fun _ => ok_ite (fun _ => ?_) (fun _ => ok_ite (fun _ => ?_) (fun _ => ok_ite (fun _ => ?_) (fun _ => ok_ite (fun _ => ?_) (fun _ => ok_ite (fun _ => ?_) (fun _ => ok_ite (fun _ => ?_) (fun _ => ok_ite (fun _ => ?_) (fun _ => ok_ite (fun _ => ?_) (fun _ => go _ g X Lg S W P R Z O M Y ⟨hX, hLg, ⟨hS, hG, hK, hJS⟩, hW, hP, hR, hZ, hO, hM, hJ, hQ, hV, hB⟩ (by omega)))))))))))))))))))))))
    · refine ok_gdi j0 j1 <| ok_oA2 (s_X6_add X _ hX) (fun a r kc ks ha => ?_)
      have ha3 : phX X + ks ≤ phX a := ha.2.2
      refine CQ_add (b' := tot a S P R Z O + 6 * x7.toInt.toNat) ha.2.1 (by unfold tot; omega) (ok_gdi j0 j1 <| ok_oC2 (ok_pc (ok_pc (ok_pc (s_X7_add M _ hM) (k8_add M _)) (k_X7_add M _)) (e28_add M _)) (fun m r2 ⟨⟨⟨hm, hj⟩, he⟩, hb⟩ => ?_))
      exact go _ _ a Lg S W P R Z O m Y ⟨ha.1.1, (by rw [g_add_2]; exact hLg), ⟨hS, by rw [g_add_2]; exact hG, by rw [g_add_c, g_add_2]; exact hK, hJS⟩, hW, hP, hR, hZ, hO, hm.1, hJ.k8 hj, hQ.fr he, hV.fr he, hB.fr hb⟩ (Nat.le_add_right _ _)
    · refine ok_oC2 (s_X6_clear X hX) (fun a r ha => ok_oC2 (ok_pc (ok_pc (ok_pc (s_X7_clear M hM) (k8_clear M)) (k_X7_clear M)) (e28_clear M)) (fun m r2 ⟨⟨⟨hm, hj⟩, he⟩, hb⟩ => ?_))
      have ha3 : phX a = phX X := ha.2.2
      exact go _ _ a Lg S W P R Z O m Y ⟨ha.1, hLg, ⟨hS, hG, hK, hJS⟩, hW, hP, hR, hZ, hO, hm.1, hJ.k8 hj, hQ.fr he, hV.fr he, hB.fr hb⟩ (by unfold tot; omega)
    · refine ok_gdi j0 j1 <| ok_gdi k0 k1 <| ok_oC3 (ok_pc (s_X6_count X S _ _ hX hS hG hK) (q_X6_count X S _ _ hJS)) (fun a s r ⟨ha, hjs⟩ => ?_)
      have ha3 : phX a = phX X := ha.2.2.2.2.1
      have ha4 : phS s = phS S := ha.2.2.2.1
      refine ok_gdi j0 j1 <| ok_gdi k0 k1 <| ok_oC2 (ok_pc (ok_pc (ok_pc (s_X7_count M _ _ hM) (j_X7_count M _ _ hJ)) (k_X7_count M _ _)) (e28_count M _ _)) (fun m r2 ⟨⟨⟨hm, hj⟩, he⟩, hb⟩ => ?_)
      exact go _ _ a Lg s W P R Z O m Y ⟨ha.1, (by rw [g_count_2]; exact hLg), ⟨ha.2.2.1, ha.2.2.2.2.2.1, ha.2.2.2.2.2.2, hjs⟩, hW, hP, hR, hZ, hO, hm.1, hj, hQ.fr he, hV.fr he, hB.fr hb⟩ (by unfold tot; omega)
    · refine ok_oC3 (ok_pc (s_X6_counts X S hX hS hG hK) (q_X6_counts X S)) (fun a s r ⟨ha, hjs⟩ => ok_oC2 (ok_pc (ok_pc (ok_pc (s_X7_counts M hM) (j_X7_counts M)) (k_X7_counts M)) (e28_counts M)) (fun m r2 ⟨⟨⟨hm, hj⟩, he⟩, hb⟩ => ?_))
      have ha3 : phX a = phX X := ha.2.2.2.2.1
      have ha4 : phS s = phS S := ha.2.2.2.1
      exact go _ _ a Lg s W P R Z O m Y ⟨ha.1, hLg, ⟨ha.2.2.1, ha.2.2.2.2.2.1, ha.2.2.2.2.2.2, hjs⟩, hW, hP, hR, hZ, hO, hm.1, hj, hQ.fr he, hV.fr he, hB.fr hb⟩ (by unfold tot; omega)
    · refine ok_oC3 (ok_pc (s_X6_normal X Lg S hX hLg hS hG hK) (q_X6_normal X Lg S hJS)) (fun a s r ⟨ha, hjs⟩ => ok_oC2 (ok_pc (ok_pc (ok_pc (s_X7_normal M hM) (j_X7_normal M hM.2.2.2.2.2.1.1 hM.1.1 hM.1.2)) (k_X7_normal M)) (e28_normal M)) (fun m r2 ⟨⟨⟨hm, hj⟩, he⟩, hb⟩ => ?_))
      have ha4 : phS s = phS S := ha.2.2.1
      exact go _ (g_normal g) X a s W P R Z O m Y ⟨(by unfold g_normal f0; split <;> exact hX), (by unfold g_normal f0; split <;> exact ha.1), ⟨ha.2.1, ha.2.2.2.1, (by rw [show (g_normal g).1.2.2 = g.1.2.2 by unfold g_normal f0; split <;> rfl]; exact ha.2.2.2.2.1), hjs ha.2.1.b3⟩, hW, hP, hR, hZ, hO, hm.1, hj (fun z => shn_M hm.1 z), hQ.fr he, hV.fr he, hB.fr hb⟩ (by unfold tot; omega)
    · exact ok_gdi j0 j1 <| ok_oC1 (s_X6_share (g := g) X S _ hS hG) (fun r ha => ok_gdi j0 j1 <| ok_oC2 (ok_pc (ok_pc (ok_pc (s_X7_share M _ hM) (k8_share M _)) (f15_share M _)) (e28_share M _)) (fun m r2 ⟨⟨⟨hm, hj⟩, he⟩, hb⟩ => go _ g X Lg S W P R Z O m Y ⟨hX, hLg, ⟨hS, hG, hK, hJS⟩, hW, hP, hR, hZ, hO, hm.1, hJ.k8 hj, hQ.fr he, hV.fr he, hB.fr hb⟩ (by unfold tot; omega)))
    · exact ok_oC2 (s_X6_loss X Lg S hX hLg hS hG hK) (fun a r ha => ok_oC2 (ok_pc (ok_pc (ok_pc (s_X7_loss M hM) (k8_loss M)) (f15_loss M)) (e28_loss M)) (fun m r2 ⟨⟨⟨hm, hj⟩, he⟩, hb⟩ => go _ g X a S W P R Z O m Y ⟨hX, ha.1, ⟨hS, hG, hK, hJS⟩, hW, hP, hR, hZ, hO, hm.1, hJ.k8 hj, hQ.fr he, hV.fr he, hB.fr hb⟩ (by unfold tot; omega)))
    · exact ok_gdi j0 j1 <| ok_oC2 (s_X6_lg X Lg _ hLg) (fun a r ha => ok_gdi j0 j1 <| ok_oC2 (ok_pc (ok_pc (ok_pc (s_X7_lg M _ hM) (k8_lg M _)) (f15_lg M _)) (e28_lg M _)) (fun m r2 ⟨⟨⟨hm, hj⟩, he⟩, hb⟩ => go _ g X a S W P R Z O m Y ⟨hX, ha.1, ⟨hS, hG, hK, hJS⟩, hW, hP, hR, hZ, hO, hm.1, hJ.k8 hj, hQ.fr he, hV.fr he, hB.fr hb⟩ (by unfold tot; omega)))
    · refine ok_gdi j0 j1 <| ok_oC2 (s_X6_form X _ hX) (fun a r ha => ok_gdi j0 j1 <| ok_oC2 (ok_pc (ok_pc (ok_pc (s_X7_form M _ hM) (k8_form M _)) (f15_form M _)) (e28_form M _)) (fun m r2 ⟨⟨⟨hm, hj⟩, he⟩, hb⟩ => ?_))
      have ha3 : phX a = phX X := ha.2.2
      exact go _ _ a Lg S W P R Z O m Y ⟨ha.1, (by rw [g_form_2]; exact hLg), ⟨hS, by rw [g_form_2]; exact hG, by rw [g_form_c, g_form_2]; exact hK, hJS⟩, hW, hP, hR, hZ, hO, hm.1, hJ.k8 hj, hQ.fr he, hV.fr he, hB.fr hb⟩ (by unfold tot; omega)
    · refine ok_gdi j0 j1 <| ok_oC2 (s_X6_lanes X _ hX) (fun a r ha => ok_gdi j0 j1 <| ok_oC2 (ok_pc (ok_pc (ok_pc (s_X7_lanes M _ hM) (k8_lanes M _)) (f15_lanes M _)) (e28_lanes M _)) (fun m r2 ⟨⟨⟨hm, hj⟩, he⟩, hb⟩ => ?_))
      have ha3 : phX a = phX X := ha.2.2
      exact go _ _ a Lg S W P R Z O m Y ⟨ha.1, (by rw [g_lanes_2]; exact hLg), ⟨hS, by rw [g_lanes_2]; exact hG, by rw [g_lanes_c, g_lanes_2]; exact hK, hJS⟩, hW, hP, hR, hZ, hO, hm.1, hJ.k8 hj, hQ.fr he, hV.fr he, hB.fr hb⟩ (by unfold tot; omega)
    · refine ok_oA5 (CQ_pc (CQ_pc (s_X6_write X S W P O hX hS hW hP hO) (q_X6_write X S W P O M hX hS hG hK hM hJS)) (p_X6_write (pf := S.2.1 4) (pl := M.2.1 13) X S W P O hX hS hP hO hG hK (gw_of hS hG hJS hM hJ))) (fun s w p o r kc ks ha => ?_)
      have ha3 : phS S + phP P + phO O + ks ≤ phS s + phP p + phO o := ha.2.2
      refine CQ_add (b' := tot X s p R Z o + 6 * x7.toInt.toNat) ha.2.1 (by unfold tot; omega) (ok_oC2 (ok_pc (ok_pc (ok_pc (s_X7_write M hM) (j_X7_write M hM hJ)) (p_X7_write (pf := S.2.1 4) (pl := M.2.1 13) M hM (fun w => (gw_of hS hG hJS hM hJ w).imp (fun _ h => ⟨h.1, fun _ _ => rfl⟩)))) (e28_write M hM)) (fun m r2 ⟨⟨⟨hm, hj⟩, he⟩, hb⟩ => ?_))
      exact go _ g X Lg s w p R Z o m Y ⟨hX, hLg, ⟨ha.1.1.1.1.1, hG.fr ha.1.1.1.2, hK, ha.1.1.2⟩, ha.1.1.1.1.2.1, ha.1.1.1.1.2.2.1, hR, hZ, ha.1.1.1.1.2.2.2, hm, hj, (ow_eq hQ hV ha.1.2 he).1, (ow_eq hQ hV ha.1.2 he).2.1, hB.fr (hb (he.elim (fun h => h.2.2.2) (fun h => h.2.2.2)))⟩ (Nat.le_add_right _ _)
    · refine ok_oA3 (CQ_pc (s_X6_read X R Z O hR hZ hO) (x_read X R Z O hR hZ (tO_x hO) (tO_8 hM hQ) (rdD_s _))) (fun a z r kc ks ha => ?_)
      have ha3 : phR R + phS Z + ks ≤ phR a + phS z := ha.2.2
      have nn := RDS_nn (tO_k hO) (tO_8 hM hQ) (rdD_s (tO O))
      refine CQ_add (b' := tot X S P a z O + 6 * x7.toInt.toNat) ha.2.1 (by unfold tot; omega) (ok_oC2 (ok_pc (ok_pc (ok_pc (s_X7_read M hM) (j_X7_read M hM hJ)) (f15_read M hM)) (r_read M hM (tO_m hO hQ) (tO_8 hM hQ) (rdD_s _) nn.1)) (fun m r2 ⟨⟨⟨hm, hj⟩, he⟩, hb⟩ => ?_))
      exact go _ g X Lg S W P a z O m Y ⟨hX, hLg, ⟨hS, hG, hK, hJS⟩, hW, hP, ha.1.1.1, ha.1.1.2, hO, hm, hj, hQ.fr he, hV.fr he, rqv_of nn.2.2.2 ha.1.2.1 hb.2.1 hb.2.2⟩ (Nat.le_add_right _ _)
    · exact ok_oC1 (ok_some (Q := fun r => r = R.1 4) rfl) (fun r hr => ok_oC2 (ok_pc (ok_pc (ok_pc (ok_pc (s_X7_rule M hM) (k8_rule M)) (f15_rule M)) (e28_rule M)) (rule_m M)) (fun m r2 ⟨⟨⟨⟨hm, hj⟩, he⟩, hb⟩, ho⟩ => go _ g X Lg S W P R Z O m Y ⟨hX, hLg, ⟨hS, hG, hK, hJS⟩, hW, hP, hR, hZ, hO, hm, hJ.k8 hj, hQ.fr he, hV.fr he, hB.fr hb⟩ (by unfold tot; omega)))
    · exact ok_gdi j0 j1 <| ok_oC1 (ok_pc (s_X6_sign X R _ hR) (pc_self _)) (fun r ⟨_, er⟩ => ok_gdi j0 j1 <| ok_oC2 (ok_pc (ok_pc (ok_pc (ok_pc (s_X7_sign M _ hM) (k8_sign M _)) (f15_sign M _)) (e28_sign M _)) (sign_eq X hR hB _)) (fun m r2 ⟨⟨⟨⟨hm, hj⟩, he⟩, hb⟩, ho⟩ => go _ g X Lg S W P R Z O m Y ⟨hX, hLg, ⟨hS, hG, hK, hJS⟩, hW, hP, hR, hZ, hO, hm, hJ.k8 hj, hQ.fr he, hV.fr he, hB.fr hb⟩ (by unfold tot; omega)))
    · refine ok_gdi j0 j1 <| ok_oA3 (CQ_pc (s_Lspread X S Y _ hS) (q_Lspread X S Y M _ hS hG hK hM hJS)) (fun s y r kc ks ha => ?_)
      have ha3 : phS S + ks ≤ phS s + 6 := ha.2.2
      refine CQ_add (b' := tot X s P R Z O + 6 * x7.toInt.toNat + 6) ha.2.1 (by unfold tot; omega) (ok_gdi j0 j1 <| ok_oC2 (ok_pc (ok_pc (ok_pc (s_X7_spread M _ hM) (k8_spread M _)) (f15_spread M _)) (e28_spread M _)) (fun m r2 ⟨⟨⟨hm, hj⟩, he⟩, hb⟩ => ?_))
      exact go _ g X Lg s W P R Z O m y ⟨hX, hLg, ⟨ha.1.1.1, hG.fr ha.1.1.2, hK, ha.1.2⟩, hW, hP, hR, hZ, hO, hm, hJ.k8 hj, hQ.fr he, hV.fr he, hB.fr hb⟩ (by omega)
    · exact ok_gdi j0 j1 <| ok_gdi k0 k1 <| ok_oC1 (ok_pc (s_X6_state X W R _ _ hW hR) (pc_self _)) (fun r ⟨_, er⟩ => ok_gdi j0 j1 <| ok_gdi k0 k1 <| ok_oC2 (ok_pc (ok_pc (ok_pc (ok_pc (s_X7_state M _ _ hM) (k8_state M _ _)) (f15_state M _ _)) (e28_state M _ _)) (state_eq X hB hV _ _)) (fun m r2 ⟨⟨⟨⟨hm, hj⟩, he⟩, hb⟩, ho⟩ => go _ g X Lg S W P R Z O m Y ⟨hX, hLg, ⟨hS, hG, hK, hJS⟩, hW, hP, hR, hZ, hO, hm, hJ.k8 hj, hQ.fr he, hV.fr he, hB.fr hb⟩ (by unfold tot; omega)))
    · exact ok_gdi j0 j1 <| ok_oC1 (ok_pc (s_X6_out X O _ hO) (out_x X O _ hO)) (fun r ⟨_, hr⟩ => ok_gdi j0 j1 <| ok_oC2 (ok_pc (ok_pc (ok_pc (ok_pc (s_X7_out M _ hM) (k8_out M _)) (f15_out M _)) (e28_out M _)) (out_m M _)) (fun m r2 ⟨⟨⟨⟨hm, hj⟩, he⟩, hb⟩, ho⟩ => go _ g X Lg S W P R Z O m Y ⟨hX, hLg, ⟨hS, hG, hK, hJS⟩, hW, hP, hR, hZ, hO, hm, hJ.k8 hj, hQ.fr he, hV.fr he, hB.fr hb⟩ (by unfold tot; omega)))
    · refine ok_gdi j0 j1 <| ok_gdi k0 k1 <| ok_oC2 (ok_pc (s_X6_spoil X O _ _ hO) (spoil_x X O _ _ hO)) (fun o r ⟨ha, hc⟩ => ?_)
      have ha3 : phO o = phO O := ha.2
      exact ok_gdi j0 j1 <| ok_gdi k0 k1 <| ok_oC2 (ok_pc (ok_pc (ok_pc (s_X7_spoil M _ _ hM) (k8_spoil M _ _)) (spoil_m M _ _)) (e28_spoil M _ _)) (fun m r2 ⟨⟨⟨hm, hj⟩, he⟩, hb⟩ => go _ g X Lg S W P R Z o m Y ⟨hX, hLg, ⟨hS, hG, hK, hJS⟩, hW, hP, hR, hZ, ha.1, hm, hJ.k8 hj, (spoil_eq hQ hc he).1, (spoil_eq hQ hc he).2.1 _ hV, hB.fr hb⟩ (by unfold tot; omega))
    · refine ok_gdi j0 j1 <| ok_oC2 (ok_pc (s_X6_cut X O _ hO) (cut_x X O _)) (fun o r ⟨ha, hc⟩ => ?_)
      have ha3 : phO o = phO O := ha.2
      exact ok_gdi j0 j1 <| ok_oC2 (ok_pc (ok_pc (ok_pc (s_X7_cut M _ hM) (k8_cut M _)) (cut_m M _)) (e28_cut M _)) (fun m r2 ⟨⟨⟨hm, hj⟩, he⟩, hb⟩ => go _ g X Lg S W P R Z o m Y ⟨hX, hLg, ⟨hS, hG, hK, hJS⟩, hW, hP, hR, hZ, ha.1, hm, hJ.k8 hj, (cut_eq hQ hO hc he).1, (cut_eq hQ hO hc he).2.1 _ hV, hB.fr hb⟩ (by unfold tot; omega))
    · refine ok_gdi j0 j1 <| ok_oA2 (CQ_pc (s_X6_octet X O _ hO) (oct_x X O _ hO)) (fun o r kc ks ha => ?_)
      have ha3 : phO O + ks ≤ phO o := ha.2.2
      refine CQ_add (b' := tot X S P R Z o + 6 * x7.toInt.toNat) ha.2.1 (by unfold tot; omega) (ok_gdi j0 j1 <| ok_oC2 (ok_pc (ok_pc (ok_pc (s_X7_octet M _ hM) (k8_octet M _)) (oct_m M _)) (e28_octet M _)) (fun m r2 ⟨⟨⟨hm, hj⟩, he⟩, hb⟩ => ?_))
      exact go _ g X Lg S W P R Z o m Y ⟨hX, hLg, ⟨hS, hG, hK, hJS⟩, hW, hP, hR, hZ, ha.1.1, hm, hJ.k8 hj, (oct_eq hQ hO ha.1.2 he).1, (oct_eq hQ hO ha.1.2 he).2.1 _ hV, hB.fr hb⟩ (Nat.le_add_right _ _)
    · refine ok_oA7 (CQ_pc (CQ_pc (s_X6_agree X S W P R Z O hX hS hW hP hR hZ hO) (q_X6_agree X S W P R Z O M hX hS hG hK hM hJS)) (x_X6_agree X S W P R Z O M hX hS hP hR hZ hO hG hK hM hJ hJS)) (fun s w p a z o r kc ks ha => ?_)
      have ha3 : phS S + phP P + phR R + phS Z + phO O + ks ≤ phS s + phP p + phR a + phS z + phO o := ha.2.2
      refine CQ_add (b' := tot X s p a z o + 6 * x7.toInt.toNat) ha.2.1 (by unfold tot; omega) (ok_oC2 (ok_pc (ok_pc (s_X7_agree M hM) (j_X7_agree M hM hJ)) (r_X7_agree (pf := S.2.1 4) (pl := M.2.1 13) M hM (fun w j hj => (gw_ofF (nI_4 hj) hS hG hJS hM hJ w).imp (fun _ h => h.1)) rfl)) (fun m r2 ⟨⟨hm, hj⟩, he⟩ => ?_))
      exact go _ g X Lg s w p a z o m Y ⟨hX, hLg, ⟨ha.1.1.1.1.1, hG.fr ha.1.1.1.2, hK, ha.1.1.2⟩, ha.1.1.1.1.2.1, ha.1.1.1.1.2.2.1, ha.1.1.1.1.2.2.2.1, ha.1.1.1.1.2.2.2.2.1, ha.1.1.1.1.2.2.2.2.2, hm, hj, (ra_eq hQ hV hB ha.1.2 he).1, (ra_eq hQ hV hB ha.1.2 he).2.1, (ra_eq hQ hV hB ha.1.2 he).2.2.1⟩ (Nat.le_add_right _ _)
    · exact ok_gdi j0 j1 <| ok_oC1 (ok_pc (s_X6_told X S R O _) (pc_self _)) (fun r ⟨_, er⟩ => ok_gdi j0 j1 <| ok_oC2 (ok_pc (ok_pc (ok_pc (ok_pc (s_X7_told M _ hM) (k8_told M _)) (f15_told M _)) (e28_told M _)) (told_eq hX hG hM hQ hB _)) (fun m r2 ⟨⟨⟨⟨hm, hj⟩, he⟩, hb⟩, ho⟩ => ok_ite (fun _ => go _ g X Lg S W P R Z O m Y ⟨hX, hLg, ⟨hS, hG, hK, hJS⟩, hW, hP, hR, hZ, hO, hm, hJ.k8 hj, hQ.fr he, hV.fr he, hB.fr hb⟩ (by unfold tot; omega)) (fun q => absurd (ho r er) q)))
theorem c512 {v : Int32} : 5 ≤ (clg v).toInt ∧ (clg v).toInt ≤ 12 := by
  unfold clg
  by_cases a : (5 : Int32) ≤ v
  · rw [if_pos a]
    by_cases b : v ≤ (12 : Int32)
    · rw [if_pos b]
      have a1 := Int32.le_iff_toInt_le.mp a
      have b1 := Int32.le_iff_toInt_le.mp b
      rw [li_5] at a1
      rw [li_12] at b1
      exact ⟨a1, b1⟩
    · rw [if_neg b]; decide
  · rw [if_neg a]; decide
def g0 (c : Int32) : GH := (((0, 1, 0), fun _ => 0, fun _ => 0), c, 0, fun _ => 0)
theorem i0_M (c : Int32) (h : 5 ≤ c.toInt ∧ c.toInt ≤ 12) : IM (g0 c) (i_X7 c) := by
  have a0 : 0 ≤ (0 : Int32).toInt := by decide
  have b0 : ∀ n : Nat, (0 : Int32).toInt ≤ (n : Int) := fun n => by rw [li_0]; omega
  refine ⟨h, ⟨a0, b0 3⟩, Or.inl li_1, fun i => ⟨a0, by show (0 : Int32).toInt < 32; decide⟩, ⟨a0, b0 1000⟩, ⟨rfl, rfl⟩, ⟨Or.inl rfl, rfl, fun _ _ => rfl⟩, ⟨a0, b0 20000⟩, fun i => ⟨a0, b0 255⟩, ⟨a0, b0 4, rfl, rfl, rfl, rfl, rfl⟩, ⟨a0, b0 65535⟩, Or.inl rfl, fun i => ⟨a0, by show (0 : Int32).toInt < 32; decide⟩, fun i => ⟨a0, by show (0 : Int32).toInt < 4096; decide⟩⟩
theorem i0_S (c : Int32) (h : 5 ≤ c.toInt ∧ c.toInt ≤ 12) : IS (i_X4 c) := by
  refine ⟨h, rfl, fun i => ⟨by show 0 ≤ (0 : Int32).toInt; decide, by show (0 : Int32).toInt < 8192; decide⟩, fun i => ⟨by show 0 ≤ (0 : Int32).toInt; decide, by show (0 : Int32).toInt ≤ 300000; decide⟩, fun i => ⟨by show 0 ≤ (0 : Int32).toInt; decide, by show (0 : Int32).toInt < 32; decide⟩, rfl, rfl, Or.inl rfl⟩
theorem i0_L (k : Nat) (h1 : 5 ≤ k) (h2 : k ≤ 12) : IL (nI k) (i_X0 ((1 : Int32) <<< (nI k &&& (31 : Int32)))) := by
  have s := sk32 h1 h2 (rfl : nI k = nI k)
  have a := (powA k (by omega) h1).2.2.2.2.2
  have e := inc32 (x := (1 : Int32) <<< (nI k &&& (31 : Int32))) (by omega)
  have en : (((1 : Int32) <<< (nI k &&& (31 : Int32))) + (1 : Int32)).toNatClampNeg = 2 ^ k + 1 := by
    show (((1 : Int32) <<< (nI k &&& (31 : Int32))) + (1 : Int32)).toInt.toNat = 2 ^ k + 1
    omega
  refine ⟨k, h1, h2, rfl, en, fun i i1 i2 => Or.inl ?_⟩
  show flL (((1 : Int32) <<< (nI k &&& (31 : Int32))) + (1 : Int32)).toNatClampNeg (fun _ => 0) (-1 : Int64) i = -1
  unfold flL
  rw [if_pos (by rw [en]; omega)]
theorem clg_mlog (v : Int32) : clg v = mlog v := by
  unfold clg mlog
  by_cases a : v < (5 : Int32)
  · have a' : ¬ (5 : Int32) ≤ v := Int32.not_le.mpr a
    rw [if_neg a', if_pos a, if_neg (by decide)]
  · have a' : (5 : Int32) ≤ v := Int32.not_lt.mp a
    rw [if_pos a', if_neg a]
    by_cases b : (12 : Int32) < v
    · rw [if_pos b, if_neg (Int32.not_le.mpr b)]
    · rw [if_neg b, if_pos (Int32.not_lt.mp b)]
theorem i0_X (c : Int32) : IX (g0 c) i_X6 := by
  refine ⟨⟨rfl, rfl, rfl⟩, ⟨by decide, by decide⟩, ⟨by decide, by decide⟩, Or.inl (by decide), rfl, fun i hi => ?_⟩
  have hi : (i : Int) < (0 : Int32).toInt := hi
  rw [li_0] at hi
  omega
theorem law_pure (xs : Nat → Int32) (L : Nat) (hL : L ≤ 1537) (v : Int32) : ∃ kc ks, f_law xs L i_X6 (i_X0 ((1 : Int32) <<< ((mlog v) &&& (31 : Int32)))) (i_X4 (mlog v)) i_X5 i_X2 i_X3 (i_X4 (5 : Int32)) i_X1 (i_X7 (clg v)) i_Y (1 : Int32) = some ((1 : Int32), kc, ks) ∧ kc ≤ 600000 ∧ ks ≤ 7000000 := by
  obtain ⟨k, k1, k2, ek⟩ := mlog_k v
  have hk : 5 ≤ (mlog v).toInt ∧ (mlog v).toInt ≤ 12 := by
    rw [ek, nI_toInt (by omega)]
    omega
  have hL0 : IL (clg v) (i_X0 ((1 : Int32) <<< ((mlog v) &&& (31 : Int32)))) := by
    rw [clg_mlog, ek]
    exact i0_L k k1 k2
  obtain ⟨⟨o, kc, ks⟩, e, h1, h2, h3⟩ := s_law xs L hL FU 1 (g0 (clg v)) i_X6 (i_X0 ((1 : Int32) <<< ((mlog v) &&& (31 : Int32)))) (i_X4 (mlog v)) i_X5 i_X2 i_X3 (i_X4 (5 : Int32)) i_X1 (i_X7 (clg v)) i_Y (by decide) (by decide) (by decide) ⟨i0_X _, hL0, ⟨i0_S _ hk, ⟨by show mlog v = clg v; rw [clg_mlog], rfl, fun i _ => rfl⟩, ⟨fun i => ⟨by show 0 ≤ (0 : Int32).toInt; decide, by show (0 : Int32).toInt ≤ 1000000; decide⟩, Or.inl rfl⟩, JS.z rfl⟩, ⟨by decide, by decide⟩, ⟨by decide, by decide, by decide, by decide⟩, ⟨⟨by decide, by decide⟩, ⟨by decide, by decide⟩, ⟨by decide, by decide⟩, ⟨by decide, by decide⟩⟩, i0_S 5 (by decide), ⟨by decide, by decide, by decide, by decide⟩, i0_M _ c512, JM.z rfl, ⟨rfl, fun i _ => rfl⟩, Or.inl ⟨rfl, rfl⟩, ⟨rfl, rfl, fun _ _ => rfl, rfl, fun q => absurd rfl q⟩⟩
  have h1 : o = 1 := h1
  have h2 : kc ≤ ks := h2
  have h3 : _ + ks ≤ 310000 := h3
  subst h1
  exact ⟨kc, ks, e, by omega, by omega⟩

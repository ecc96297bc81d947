theorem inE : ∀ w ∈ wsJx000600, w ∈ lw_good := fun w h => lg_mem ((by decide +kernel : ∀ w ∈ wsJx000600, w ∈ lw_tbl) w h) (List.all_eq_true.mp (by decide +kernel : wsJx000600.all goodWord = true) w h)
theorem mlog_sz (p1 : Int32) : (((1 : Int32) <<< ((mlog p1) &&& (31 : Int32))) + (1 : Int32)).toNatClampNeg ≤ 4097 := by
  obtain ⟨k, h1, h2, e⟩ := mlog_k p1
  rw [e]
  rcases (show k = 5 ∨ k = 6 ∨ k = 7 ∨ k = 8 ∨ k = 9 ∨ k = 10 ∨ k = 11 ∨ k = 12 by omega) with rfl | rfl | rfl | rfl | rfl | rfl | rfl | rfl <;> decide
set_option maxHeartbeats 40000000 in
set_option maxRecDepth 100000 in
theorem whole_start {p : Program} {e : Env} {s : State} {m : MethodId} {below : List Frame} {meth : Method} {c : Code} (l : Launch) (hfl : l.flags = pinnedFlags ++ [noTraceFlag]) {b L : Nat} {xs : Nat → Int32} (hL : L ≤ 1537) (C0 : lw_At p s m meth c b L xs) : W p l e room_1 s m #[Value.ref b] below meth c s.heap [] 0 0 (lw_Z below #[Value.ref b] s) (entryFrame m ([Value.ref b] : List Value).toArray 7) := by
  obtain ⟨hx, hb, hr, hml, hown, hts, hX, hbl, hlocks, hgv⟩ := id C0
  have ht : ∀ w ∈ lw_good, w.before _ s = true := fun w h => hts w (List.mem_filter.mp h).1
  have hA : ∀ q : Nat, s.heap.size ≤ q → (fun q : Nat => s.heap.size ≤ q) q := fun _ h => h
  have hbA : ¬ (fun q : Nat => s.heap.size ≤ q) b := Nat.not_le.mpr hbl
  obtain ⟨c0, iS0, hKn0⟩ := u_known (C := RJx00060) (T := TJx00060) (N := 6) (n := 6) ht inE (ht _ kw_inE)
  obtain ⟨c1, iS1, hKn1⟩ := u_known (C := RX0) (T := TX0) (N := 1) (n := 1) ht inX0 (ht _ kw_iRX0)
  obtain ⟨c2, iS2, hKn2⟩ := u_known (C := RX1) (T := TX1) (N := 3) (n := 3) ht inX1 (ht _ kw_iRX1)
  obtain ⟨c3, iS3, hKn3⟩ := u_known (C := RX2) (T := TX2) (N := 2) (n := 2) ht inX2 (ht _ kw_iRX2)
  obtain ⟨c4, iS4, hKn4⟩ := u_known (C := RX3) (T := TX3) (N := 12) (n := 12) ht inX3 (ht _ kw_iRX3)
  obtain ⟨c5, iS5, hKn5⟩ := u_known (C := RX4) (T := TX4) (N := 11) (n := 11) ht inX4 (ht _ kw_iRX4)
  obtain ⟨c6, iS6, hKn6⟩ := u_known (C := RX5) (T := TX5) (N := 4) (n := 4) ht inX5 (ht _ kw_iRX5)
  obtain ⟨c7, iS7, hKn7⟩ := u_known (C := RX6) (T := TX6) (N := 10) (n := 10) ht inX6 (ht _ kw_iRX6)
  obtain ⟨c8, iS8, hKn8⟩ := u_known (C := RX7) (T := TX7) (N := 34) (n := 34) ht inX7 (ht _ kw_iRX7)
  obtain ⟨dC, dI, hKc⟩ : ∃ (dC : Nat → ClassId) (dI : Nat → Nat → Nat), ∀ (k : Nat) (q : vw_C), vwCl[k]? = some q → u_Kn s q.1 q.2.1 q.2.2 (dC k) (dI k) := by
    refine ⟨fun k => if k = 0 then c0 else if k = 1 then c1 else if k = 2 then c2 else if k = 3 then c3 else if k = 4 then c4 else if k = 5 then c5 else if k = 6 then c6 else if k = 7 then c7 else c8, fun k => if k = 0 then iS0 else if k = 1 then iS1 else if k = 2 then iS2 else if k = 3 then iS3 else if k = 4 then iS4 else if k = 5 then iS5 else if k = 6 then iS6 else if k = 7 then iS7 else iS8, ?_⟩
    intro k q hq
    match k, hq with
    | 0, hq => cases hq; exact hKn0
    | 1, hq => cases hq; exact hKn1
    | 2, hq => cases hq; exact hKn2
    | 3, hq => cases hq; exact hKn3
    | 4, hq => cases hq; exact hKn4
    | 5, hq => cases hq; exact hKn5
    | 6, hq => cases hq; exact hKn6
    | 7, hq => cases hq; exact hKn7
    | 8, hq => cases hq; exact hKn8
    | k + 9, hq => simp [vwCl] at hq
  obtain ⟨cI, kI, compI, hI1, hI2, hI3⟩ := Cond.arrayClass_spec (ht _ kw_aI)
  obtain ⟨cJ, kJ, compJ, hJ1, hJ2, hJ3⟩ := Cond.arrayClass_spec (ht _ kw_aJ)
  have hK : va_K (dC, dI) vwCl [(cI, .int), (cJ, .long)] s := by
    refine ⟨hKc, fun k q hq => ?_⟩
    match k, hq with
    | 0, hq => cases hq; exact ⟨fun n z => ⟨fun k h => (by cases h), kI, hI2, compI, hI3⟩, hI1⟩
    | 1, hq => cases hq; exact ⟨fun n z => ⟨fun k h => (by cases h), kJ, hJ2, compJ, hJ3⟩, hJ1⟩
    | k + 2, hq => simp at hq
  have hN : NW s := fun w hw => va_Nw.of (A := #[Value.ref b]) (by have h1 := List.all_eq_true.mp nwL_ok w hw; simp only [Bool.and_eq_true] at h1; exact h1.2) (hts w (nw_tbl w hw))
  have hTH : TH s := by
    refine ⟨fun w hw A => th_any (List.all_eq_true.mp thW_ok w hw) (hts w (th_tbl w hw)), va_Zqof (hts _ th_s1) (ht _ kw_iniT) (flat_of_before _ hgv _ (by decide +kernel)) (fun _ _ h => h), va_Zqof (hts _ th_s2) (ht _ kw_iniT) (flat_of_before _ hgv _ (by decide +kernel)) (fun _ _ h => h), ?_⟩
    have h1 : (Cond.stringRef RX6 138 "no such place").before #[Value.ref b] s = true := hts _ th_str
    have h2 : (Cond.exactly (.string RX6 138) "java/lang/String").before #[Value.ref b] s = true := flat_of_before _ hgv _ (by decide +kernel)
    obtain ⟨q, hq⟩ : ∃ q, (Term.string RX6 138).eval #[Value.ref b] s none [] s = some (.ref q) := exact_ref h2
    exact ⟨q, vk_R.of h1 hq⟩
  have hS : va_S (fun q : Nat => s.heap.size ≤ q) s.heap s.heap [] := va_S.rf
  have hP : va_P (dC, dI) vwCl [] s.heap := fun k q h => by simp at h
  have hD : va_D (fun q : Nat => s.heap.size ≤ q) [] := ⟨fun i j p q h => by simp at h, fun k q h => by simp at h⟩
  have hl := lv_entry ([.ref b]) (n := 7) (Nat.le_of_ble_eq_true rfl)
  rw [lg_entry_eq]
  generalize (lg_sl ([.ref b]) ++ List.replicate (7 - (lg_sl ([.ref b])).length) Slot.unset).toArray = ls at hl ⊢
  have hl : lv_has ls 7 [(0, .ref b)] := hl
  refine va_new (ci := 7) (fs := [.null, .null, .null, .null, .null, .null, .null, .int (0 : Int32), .int (0 : Int32), .int (0 : Int32)]) (C := RX6) (T := TX6) (N := 10) hx hb ht inX6 tyX6 tyX6_ok hown (ht _ kw_L8) (ht _ kw_iRX6) (ht _ kw_inX6) hK hP hD hS hA rfl (fun j hj => by rcases (show j = 0 ∨ j = 1 ∨ j = 2 ∨ j = 3 ∨ j = 4 ∨ j = 5 ∨ j = 6 ∨ j = 7 ∨ j = 8 ∨ j = 9 by omega) with rfl | rfl | rfl | rfl | rfl | rfl | rfl | rfl | rfl | rfl <;> rfl) (by show _ ≤ 601024; omega) (by show _ ≤ 7293000; omega) dL_law_0 (fun q0 H hP hD hS => ?_)
  refine lv_dup hx hb dL_law_3 rfl ?_
  refine lv_aload_n hx hb dL_law_4 rfl (lv_at hl 0 rfl) ?_
  refine lv_iconst (v := (0 : Int32)) hx hb dL_law_5 (by decide) ?_
  obtain ⟨v0, ev0⟩ := ex_eq (f_cell L xs 0)
  refine va_calli (va_runS (As := [.ref b, .int (0 : Int32)]) (rest := [.ref q0, .ref q0]) ⟨hx, hb, hml, hown, ht⟩ (c_cell l b L xs H.size (0 : Int32) (by decide) (by omega)) (va_cwS 2 ht (gdS kw_L15 kw_ceS kw_iniL kw_ceC) rfl rfl rfl nd_L_cell ⟨Nat.le_of_ble_eq_true rfl, Nat.le_of_ble_eq_true rfl⟩) ⟨pcX_blind, fun U hU hW => ⟨rfl, by rw [hU], Nat.lt_of_lt_of_le hbl hS.1, (hX.moved hW.alike).kept (by rw [hU]; exact hS.2.1 b hbl hbA)⟩⟩ rfl rfl hl.1 rfl (lv_room (Nat.le_of_ble_eq_true rfl)) dL_law_6 ⟨by show _ ≤ 601024; omega, by show _ ≤ 7293000; omega⟩) hS (fun q h1 h2 => absurd h2 (Nat.not_le.mpr h1)) (fun q h => Nat.le_trans hS.1 h) (fun r uu t H1 locs ht1 hvm hw hB hz1 hk1 hS1 => ?_)
  rw [← ev0] at hw
  subst hw
  have hP := hP.kept (H1 := H1) (fun k q hq => hk1 q.1 (hP k q hq).lt (Nat.not_le.mpr (hP k q hq).lt))
  have hS := hS1
  clear hS1
  generalize H1 = H at hP hS ⊢
  obtain ⟨hlgn, hlgb⟩ := mlog_lg r
  have hsz9 := mlog_sz r
  have hFc := va_free (wc := [(q0, .inr (7, [.null, .null, .null, .null, .null, .null, .null, .int (0 : Int32), .int (0 : Int32), .int (0 : Int32)]))]) hD hS hA [0] rfl
  refine va_callv (va_runI (As := [.int r]) (rest := [.ref q0]) ⟨hx, hb, hml, hown, ht⟩ (c_X6_init l dC dI cI cJ q0 H.size r) (cwI 1 ht (gdC kw_xiC) rfl rfl rfl (ht _ kw_inX6) (ht _ kw_L21) (ht _ kw_xiI) rfl nd_X6_init ⟨Nat.le_of_ble_eq_true rfl, Nat.le_of_ble_eq_true rfl⟩) ⟨pcW_blind, pcW_pre hP hK hD hN⟩ rfl rfl hl.1 rfl (lv_room (Nat.le_of_ble_eq_true rfl)) dL_law_9 ⟨by show _ ≤ 601024; omega, by show _ ≤ 7293000; omega⟩) hS (fun q _ z => hFc q z) hFc (fun uu t H1 locs ht1 hvm hw hB hz1 hk1 hS => ?_)
  obtain ⟨hX0, aL, hL0, aS, hS0, aW, hW0, aP, hP0, aR, hR, aZ, hZ, aO, hO, hP1, hD1⟩ := hB
  rw [ht1] at hP1
  have hP : va_P (dC, dI) vwCl ([wX cI cJ q0 hX0 aL aS aW aR aO i_X6, wL cI cJ aL hL0 (i_X0 ((1 : Int32) <<< ((mlog r) &&& (31 : Int32)))), wS cI cJ aS hS0 (i_X4 (mlog r)), wW cI cJ aW hW0 aP i_X5, wP cI cJ aP hP0 i_X2, wR cI cJ aR hR aZ i_X3, wS cI cJ aZ hZ (i_X4 (5 : Int32)), wO cI cJ aO hO i_X1] : List va_W).flatten H1 := hP1
  have hD : va_D (fun q : Nat => s.heap.size ≤ q) ([wX cI cJ q0 hX0 aL aS aW aR aO i_X6, wL cI cJ aL hL0 (i_X0 ((1 : Int32) <<< ((mlog r) &&& (31 : Int32)))), wS cI cJ aS hS0 (i_X4 (mlog r)), wW cI cJ aW hW0 aP i_X5, wP cI cJ aP hP0 i_X2, wR cI cJ aR hR aZ i_X3, wS cI cJ aZ hZ (i_X4 (5 : Int32)), wO cI cJ aO hO i_X1] : List va_W).flatten := hD1.weaken (fun _ q _ z => hFc q.1 z)
  generalize H1 = H at hP hS ⊢
  refine lv_astore_n (lv' := [(1, .ref q0), (0, .ref b)]) hx hb dL_law_12 rfl hl (by decide) rfl (fun ls hl => ?_)
  refine va_new (ci := 8) (fs := [.int (0 : Int32), .int (0 : Int32), .int (0 : Int32), .int (0 : Int32), .null, .int (0 : Int32), .null, .int (0 : Int32), .null, .null, .null, .null, .null, .null, .null, .int (0 : Int32), .null, .null, .int (0 : Int32), .null, .int (0 : Int32), .int (0 : Int32), .int (0 : Int32), .int (0 : Int32), .null, .int (0 : Int32), .int (0 : Int32), .int (0 : Int32), .int (0 : Int32), .int (0 : Int32), .int (0 : Int32), .int (0 : Int32), .int (0 : Int32), .null]) (C := RX7) (T := TX7) (N := 34) hx hb ht inX7 tyX7 tyX7_ok hown (ht _ kw_L24) (ht _ kw_iRX7) (ht _ kw_inX7) hK hP hD hS hA rfl (fun j hj => by rcases (show j = 0 ∨ j = 1 ∨ j = 2 ∨ j = 3 ∨ j = 4 ∨ j = 5 ∨ j = 6 ∨ j = 7 ∨ j = 8 ∨ j = 9 ∨ j = 10 ∨ j = 11 ∨ j = 12 ∨ j = 13 ∨ j = 14 ∨ j = 15 ∨ j = 16 ∨ j = 17 ∨ j = 18 ∨ j = 19 ∨ j = 20 ∨ j = 21 ∨ j = 22 ∨ j = 23 ∨ j = 24 ∨ j = 25 ∨ j = 26 ∨ j = 27 ∨ j = 28 ∨ j = 29 ∨ j = 30 ∨ j = 31 ∨ j = 32 ∨ j = 33 by omega) with rfl | rfl | rfl | rfl | rfl | rfl | rfl | rfl | rfl | rfl | rfl | rfl | rfl | rfl | rfl | rfl | rfl | rfl | rfl | rfl | rfl | rfl | rfl | rfl | rfl | rfl | rfl | rfl | rfl | rfl | rfl | rfl | rfl | rfl <;> rfl) (by show _ ≤ 601024; omega) (by show _ ≤ 7293000; omega) dL_law_13 (fun q1 H hP hD hS => ?_)
  have hP : va_P (dC, dI) vwCl ([wX cI cJ q0 hX0 aL aS aW aR aO i_X6, wL cI cJ aL hL0 (i_X0 ((1 : Int32) <<< ((mlog r) &&& (31 : Int32)))), wS cI cJ aS hS0 (i_X4 (mlog r)), wW cI cJ aW hW0 aP i_X5, wP cI cJ aP hP0 i_X2, wR cI cJ aR hR aZ i_X3, wS cI cJ aZ hZ (i_X4 (5 : Int32)), wO cI cJ aO hO i_X1, [(q1, .inr (8, [.int (0 : Int32), .int (0 : Int32), .int (0 : Int32), .int (0 : Int32), .null, .int (0 : Int32), .null, .int (0 : Int32), .null, .null, .null, .null, .null, .null, .null, .int (0 : Int32), .null, .null, .int (0 : Int32), .null, .int (0 : Int32), .int (0 : Int32), .int (0 : Int32), .int (0 : Int32), .null, .int (0 : Int32), .int (0 : Int32), .int (0 : Int32), .int (0 : Int32), .int (0 : Int32), .int (0 : Int32), .int (0 : Int32), .int (0 : Int32), .null]))]] : List va_W).flatten H := hP
  have hD : va_D (fun q : Nat => s.heap.size ≤ q) ([wX cI cJ q0 hX0 aL aS aW aR aO i_X6, wL cI cJ aL hL0 (i_X0 ((1 : Int32) <<< ((mlog r) &&& (31 : Int32)))), wS cI cJ aS hS0 (i_X4 (mlog r)), wW cI cJ aW hW0 aP i_X5, wP cI cJ aP hP0 i_X2, wR cI cJ aR hR aZ i_X3, wS cI cJ aZ hZ (i_X4 (5 : Int32)), wO cI cJ aO hO i_X1, [(q1, .inr (8, [.int (0 : Int32), .int (0 : Int32), .int (0 : Int32), .int (0 : Int32), .null, .int (0 : Int32), .null, .int (0 : Int32), .null, .null, .null, .null, .null, .null, .null, .int (0 : Int32), .null, .null, .int (0 : Int32), .null, .int (0 : Int32), .int (0 : Int32), .int (0 : Int32), .int (0 : Int32), .null, .int (0 : Int32), .int (0 : Int32), .int (0 : Int32), .int (0 : Int32), .int (0 : Int32), .int (0 : Int32), .int (0 : Int32), .int (0 : Int32), .null]))]] : List va_W).flatten := hD
  refine lv_dup hx hb dL_law_16 rfl ?_
  refine lv_aload_n hx hb dL_law_17 rfl (lv_at hl 1 rfl) ?_
  refine lv_iconst (v := (0 : Int32)) hx hb dL_law_18 (by decide) ?_
  refine va_calli (va_runS (As := [.ref b, .int (0 : Int32)]) (rest := [.ref q1, .ref q1]) ⟨hx, hb, hml, hown, ht⟩ (c_cell l b L xs H.size (0 : Int32) (by decide) (by omega)) (va_cwS 2 ht (gdS kw_L15 kw_ceS kw_iniL kw_ceC) rfl rfl rfl nd_L_cell ⟨Nat.le_of_ble_eq_true rfl, Nat.le_of_ble_eq_true rfl⟩) ⟨pcX_blind, fun U hU hW => ⟨rfl, by rw [hU], Nat.lt_of_lt_of_le hbl hS.1, (hX.moved hW.alike).kept (by rw [hU]; exact hS.2.1 b hbl hbA)⟩⟩ rfl rfl hl.1 rfl (lv_room (Nat.le_of_ble_eq_true rfl)) dL_law_19 ⟨by show _ ≤ 601024; omega, by show _ ≤ 7293000; omega⟩) hS (fun q h1 h2 => absurd h2 (Nat.not_le.mpr h1)) (fun q h => Nat.le_trans hS.1 h) (fun r2 uu t H1 locs ht1 hvm hw hB hz1 hk1 hS1 => ?_)
  have hr2 : r2 = r := hw.trans ev0.symm
  subst hr2
  have hP := hP.kept (H1 := H1) (fun k q hq => hk1 q.1 (hP k q hq).lt (Nat.not_le.mpr (hP k q hq).lt))
  have hS := hS1
  clear hS1
  generalize H1 = H at hP hS ⊢
  have hPc : va_P (dC, dI) vwCl ([[(q1, .inr (8, [.int (0 : Int32), .int (0 : Int32), .int (0 : Int32), .int (0 : Int32), .null, .int (0 : Int32), .null, .int (0 : Int32), .null, .null, .null, .null, .null, .null, .null, .int (0 : Int32), .null, .null, .int (0 : Int32), .null, .int (0 : Int32), .int (0 : Int32), .int (0 : Int32), .int (0 : Int32), .null, .int (0 : Int32), .int (0 : Int32), .int (0 : Int32), .int (0 : Int32), .int (0 : Int32), .int (0 : Int32), .int (0 : Int32), .int (0 : Int32), .null]))]] : List va_W).flatten H := hP.subF [8] rfl
  have hDc : va_D (fun q : Nat => s.heap.size ≤ q) ([[(q1, .inr (8, [.int (0 : Int32), .int (0 : Int32), .int (0 : Int32), .int (0 : Int32), .null, .int (0 : Int32), .null, .int (0 : Int32), .null, .null, .null, .null, .null, .null, .null, .int (0 : Int32), .null, .null, .int (0 : Int32), .null, .int (0 : Int32), .int (0 : Int32), .int (0 : Int32), .int (0 : Int32), .null, .int (0 : Int32), .int (0 : Int32), .int (0 : Int32), .int (0 : Int32), .int (0 : Int32), .int (0 : Int32), .int (0 : Int32), .int (0 : Int32), .null]))]] : List va_W).flatten := hD.subF [8] (by decide) rfl
  have hFc := va_freeF (fc := ([[(q1, .inr (8, [.int (0 : Int32), .int (0 : Int32), .int (0 : Int32), .int (0 : Int32), .null, .int (0 : Int32), .null, .int (0 : Int32), .null, .null, .null, .null, .null, .null, .null, .int (0 : Int32), .null, .null, .int (0 : Int32), .null, .int (0 : Int32), .int (0 : Int32), .int (0 : Int32), .int (0 : Int32), .null, .int (0 : Int32), .int (0 : Int32), .int (0 : Int32), .int (0 : Int32), .int (0 : Int32), .int (0 : Int32), .int (0 : Int32), .int (0 : Int32), .null]))]] : List va_W)) hD hS hA [8] rfl
  refine va_callv (va_runI (As := [.int r2]) (rest := [.ref q1]) ⟨hx, hb, hml, hown, ht⟩ (c_X7_init l dC dI cI cJ q1 H.size r2) (cwI 1 ht (gdC kw_miC) rfl rfl rfl (ht _ kw_inX7) (ht _ kw_L26) (ht _ kw_miI) rfl nd_X7_init ⟨Nat.le_of_ble_eq_true rfl, Nat.le_of_ble_eq_true rfl⟩) ⟨pcW_blind, pcW_pre hPc hK hDc hN⟩ rfl rfl hl.1 rfl (lv_room (Nat.le_of_ble_eq_true rfl)) dL_law_22 ⟨by show _ ≤ 601024; omega, by show _ ≤ 7293000; omega⟩) hS (fun q _ z => hFc q z) hFc (fun uu t H1 locs ht1 hvm hw hB hz1 hk1 hS => ?_)
  obtain ⟨hM, hP1, hD1⟩ := hB
  rw [ht1] at hP1
  have hP1 : va_P (dC, dI) vwCl ([wM cI cJ q1 hM (i_X7 (clg r2))] : List va_W).flatten H1 := hP1
  have hD1 : va_D (va_A ([[(q1, .inr (8, [.int (0 : Int32), .int (0 : Int32), .int (0 : Int32), .int (0 : Int32), .null, .int (0 : Int32), .null, .int (0 : Int32), .null, .null, .null, .null, .null, .null, .null, .int (0 : Int32), .null, .null, .int (0 : Int32), .null, .int (0 : Int32), .int (0 : Int32), .int (0 : Int32), .int (0 : Int32), .null, .int (0 : Int32), .int (0 : Int32), .int (0 : Int32), .int (0 : Int32), .int (0 : Int32), .int (0 : Int32), .int (0 : Int32), .int (0 : Int32), .null]))]] : List va_W).flatten H.size) ([wM cI cJ q1 hM (i_X7 (clg r2))] : List va_W).flatten := hD1
  obtain ⟨hP, hD⟩ := va_joinF (fc := ([[(q1, .inr (8, [.int (0 : Int32), .int (0 : Int32), .int (0 : Int32), .int (0 : Int32), .null, .int (0 : Int32), .null, .int (0 : Int32), .null, .null, .null, .null, .null, .null, .null, .int (0 : Int32), .null, .null, .int (0 : Int32), .null, .int (0 : Int32), .int (0 : Int32), .int (0 : Int32), .int (0 : Int32), .null, .int (0 : Int32), .int (0 : Int32), .int (0 : Int32), .int (0 : Int32), .int (0 : Int32), .int (0 : Int32), .int (0 : Int32), .int (0 : Int32), .null]))]] : List va_W)) (fr := ([wX cI cJ q0 hX0 aL aS aW aR aO i_X6, wL cI cJ aL hL0 (i_X0 ((1 : Int32) <<< ((mlog r2) &&& (31 : Int32)))), wS cI cJ aS hS0 (i_X4 (mlog r2)), wW cI cJ aW hW0 aP i_X5, wP cI cJ aP hP0 i_X2, wR cI cJ aR hR aZ i_X3, wS cI cJ aZ hZ (i_X4 (5 : Int32)), wO cI cJ aO hO i_X1] : List va_W)) (f1 := ([wM cI cJ q1 hM (i_X7 (clg r2))] : List va_W)) hP hD [8] [0, 1, 2, 3, 4, 5, 6, 7] rfl rfl (by decide) (by decide) hk1 hFc hP1 hD1
  have hP : va_P (dC, dI) vwCl ([wX cI cJ q0 hX0 aL aS aW aR aO i_X6, wL cI cJ aL hL0 (i_X0 ((1 : Int32) <<< ((mlog r2) &&& (31 : Int32)))), wS cI cJ aS hS0 (i_X4 (mlog r2)), wW cI cJ aW hW0 aP i_X5, wP cI cJ aP hP0 i_X2, wR cI cJ aR hR aZ i_X3, wS cI cJ aZ hZ (i_X4 (5 : Int32)), wO cI cJ aO hO i_X1, wM cI cJ q1 hM (i_X7 (clg r2))] : List va_W).flatten H1 := hP
  have hD : va_D (fun q : Nat => s.heap.size ≤ q) ([wX cI cJ q0 hX0 aL aS aW aR aO i_X6, wL cI cJ aL hL0 (i_X0 ((1 : Int32) <<< ((mlog r2) &&& (31 : Int32)))), wS cI cJ aS hS0 (i_X4 (mlog r2)), wW cI cJ aW hW0 aP i_X5, wP cI cJ aP hP0 i_X2, wR cI cJ aR hR aZ i_X3, wS cI cJ aZ hZ (i_X4 (5 : Int32)), wO cI cJ aO hO i_X1, wM cI cJ q1 hM (i_X7 (clg r2))] : List va_W).flatten := hD
  generalize H1 = H at hP hS ⊢
  refine lv_astore_n (lv' := [(2, .ref q1), (1, .ref q0), (0, .ref b)]) hx hb dL_law_25 rfl hl (by decide) rfl (fun ls hl => ?_)
  refine lv_iconst (v := (1 : Int32)) hx hb dL_law_26 (by decide) ?_
  refine va_newa (atype := .long) (a0 := (1, .inr (.inl (fun _ => 0)))) hx hb (ht _ kw_aJ) rfl hK hP hD hS hA (vpc_l 1) (by decide) (by decide) (by decide) (by show _ ≤ 601024; omega) (by show _ ≤ 7293000; omega) dL_law_27 (fun q2 cA H hKn hP hD hS => ?_)
  obtain rfl := cA_eqL hK hKn
  have hP : va_P (dC, dI) vwCl ([wX cI cJ q0 hX0 aL aS aW aR aO i_X6, wL cI cJ aL hL0 (i_X0 ((1 : Int32) <<< ((mlog r2) &&& (31 : Int32)))), wS cI cJ aS hS0 (i_X4 (mlog r2)), wW cI cJ aW hW0 aP i_X5, wP cI cJ aP hP0 i_X2, wR cI cJ aR hR aZ i_X3, wS cI cJ aZ hZ (i_X4 (5 : Int32)), wO cI cJ aO hO i_X1, wM cI cJ q1 hM (i_X7 (clg r2)), wY cI cJ (fun _ => q2) i_Y] : List va_W).flatten H := hP
  have hD : va_D (fun q : Nat => s.heap.size ≤ q) ([wX cI cJ q0 hX0 aL aS aW aR aO i_X6, wL cI cJ aL hL0 (i_X0 ((1 : Int32) <<< ((mlog r2) &&& (31 : Int32)))), wS cI cJ aS hS0 (i_X4 (mlog r2)), wW cI cJ aW hW0 aP i_X5, wP cI cJ aP hP0 i_X2, wR cI cJ aR hR aZ i_X3, wS cI cJ aZ hZ (i_X4 (5 : Int32)), wO cI cJ aO hO i_X1, wM cI cJ q1 hM (i_X7 (clg r2)), wY cI cJ (fun _ => q2) i_Y] : List va_W).flatten := hD
  refine lv_astore_n (lv' := [(3, .ref q2), (2, .ref q1), (1, .ref q0), (0, .ref b)]) hx hb dL_law_29 rfl hl (by decide) rfl (fun ls hl => ?_)
  refine lv_iconst (v := (1 : Int32)) hx hb dL_law_30 (by decide) ?_
  refine lv_istore (lv' := [(4, .int (1 : Int32)), (3, .ref q2), (2, .ref q1), (1, .ref q0), (0, .ref b)]) hx hb dL_law_31 hl (by decide) rfl (fun ls hl => ?_)
  obtain ⟨kc, ks, hm, hkc, hks⟩ := law_pure xs L hL r2
  exact law_loop hfl C0 dC dI cI cJ q0 hX0 aL hL0 aS hS0 aW hW0 aP hP0 aR hR aZ hZ aO hO q1 hM (fun _ => q2) i_X6 (i_X0 ((1 : Int32) <<< ((mlog r2) &&& (31 : Int32)))) (i_X4 (mlog r2)) i_X5 i_X2 i_X3 (i_X4 (5 : Int32)) i_X1 (i_X7 (clg r2)) i_Y (1 : Int32) _ _ (by show _ ≤ 601024; omega) (by show _ ≤ 7293000; omega) _ _ kc ks hm rfl rfl hK hN hTH _ _ _ hP hD hS (lv_sub hl [4, 3, 2, 1, 0] rfl)

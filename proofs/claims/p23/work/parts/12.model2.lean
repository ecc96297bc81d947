def f_X7_writeBytes_L8 (p2 : Int32) : Nat → (Int64 → OS → Option (OS)) → Int64 → OS → Option (OS)
  | 0, _, _, _ => none
  | n8 + 1, K62_7, y3, u4 =>
    if y3 < (((1 : Int64) <<< ((((31 : Int32) - (u4.1 0))).toInt64 &&& (63 : Int64))) * (p2).toInt64) then (
    K62_7 y3 u4) else (
    gdi (u4.1 20) 70000 <|
    bnd (sA u4 19 (u4.1 20) ((y3).toInt32 &&& (255 : Int32))) fun u14 =>
    bnd (sF u14 20 ((u14.1 20) + (1 : Int32))) fun u15 =>
    bnd (y3 >>> (((8 : Int32)).toInt64 &&& (63 : Int64))) fun y16 =>
    f_X7_writeBytes_L8 p2 n8 K62_7 y16 u15)

def f_X7_writeBytes (uM : OS) (p1 : Int32) (p2 : Int32) (p3 : Int32) : Option (OS) :=
  gdi p1 4 <|
  bnd (uM.2.2.1 16 (p1).toNatClampNeg) fun y2 =>
  bnd (fun (y5 : Int64) (u6 : OS) =>
  gdzl (p2).toInt64 <|
  gdzl (p2).toInt64 <|
  gdi p1 4 <|
  bnd (sL u6 16 p1 ((((y5 / (p2).toInt64) <<< (((u6.1 0)).toInt64 &&& (63 : Int64))) + (y5 - y5 / (p2).toInt64 * (p2).toInt64)) + (p3).toInt64)) fun u11 =>
  some u11) fun K62_7 =>
  f_X7_writeBytes_L8 p2 FU K62_7 y2 uM

set_option maxHeartbeats 4000000 in
set_option maxRecDepth 100000 in
theorem c_X7_writeBytes (l : Launch) (dC : Nat → ClassId) (dI : Nat → Nat → Nat) (cI cJ : ClassId) (aM : Nat) (jM : Nat → Nat) (sz : Nat) (uM : OS) (p1 : Int32) (p2 : Int32) (p3 : Int32) (o : OS) (hm : f_X7_writeBytes uM p1 p2 p3 = some o) : Met l yX7_writeBytes (wq yX7_writeBytes cX7_writeBytes 6 none) ({ frames := 0, cells := 0, slots := 0, locals := 0 } : Room) (va_Pc [.ref aM, .int p1, .int p2, .int p3] (pcW dC dI cI cJ sz ([wM cI cJ aM jM uM] : List va_W).flatten)) (va_Qv (S := OS) (fun u => some u = some o) (fun (u : OS) t => va_P (dC, dI) vwCl ([wM cI cJ aM jM u] : List va_W).flatten t.heap ∧ va_D (va_A ([wM cI cJ aM jM uM] : List va_W).flatten sz) ([wM cI cJ aM jM u] : List va_W).flatten) (va_A ([wM cI cJ aM jM uM] : List va_W).flatten sz)) 0 0 (va_A ([wM cI cJ aM jM uM] : List va_W).flatten sz) := by
  refine Met.ofW (cc := cX7_writeBytes) (maxL := 6) (ret := none) (by decide) rfl ?_
  intro p e s m args below meth c s₁ B hml hv
  obtain ⟨rfl, hsz, hP, hK, hD0, hN⟩ := hv
  have hx := B.exec
  have hb := B.bytes
  have hr := B.returns
  have ht : ∀ w ∈ lw_good, w.before _ s = true := fun w h => atoms_spec (ws := wq yX7_writeBytes cX7_writeBytes 6 none) B.pre w (wq_mem h)
  have hown : s.vm.findClass RX7 = some m.cls := findClass_of_methodNamed B.named
  have hlocks := B.notSynchronized
  subst hsz
  have hD := hD0.self (sz := s.heap.size)
  generalize hAe : va_A ([wM cI cJ aM jM uM] : List va_W).flatten s.heap.size = A at hD ⊢
  have hA : ∀ q : Nat, s.heap.size ≤ q → A q := fun q h => by rw [← hAe]; exact Or.inr h
  have hS : va_S A s.heap s.heap [] := va_S.rf
  have hl := lv_entry ([.ref aM, .int p1, .int p2, .int p3]) (n := 6) (Nat.le_of_ble_eq_true rfl)
  rw [lg_entry_eq]
  generalize (lg_sl ([.ref aM, .int p1, .int p2, .int p3]) ++ List.replicate (6 - (lg_sl ([.ref aM, .int p1, .int p2, .int p3])).length) Slot.unset).toArray = ls at hl ⊢
  have hl : lv_has ls 6 [(0, .ref aM), (1, .int p1), (2, .int p2), (3, .int p3)] := hl
  generalize hQ : MQ below _ _ s _ _ _ = Q
  generalize hH : s.heap = H at hP ⊢
  have hS : va_S A s.heap H [] := by rw [← hH]; exact va_S.rf
  show W p l e ({ frames := 0, cells := 0, slots := 0, locals := 0 } : Room) s m ([.ref aM, .int p1, .int p2, .int p3] : List Value).toArray below meth c H [] 0 0 Q (F0 m 0 ls [])
  unfold f_X7_writeBytes at hm
  refine lv_aload_n hx hb dX7_writeBytes_0 rfl (lv_at hl 0 rfl) ?_
  refine va_get (D := (dC, dI)) (ci := 8) (v := .ref (jM 16)) (C := RX7) (T := TX7) (N := 34) hx hb ht inX7 hown hK hP 0 rfl rfl 16 (by decide) (ht _ kw_45) (fun _ h9 => h9) rfl dX7_writeBytes_1 ?_
  refine lv_iload_n hx hb dX7_writeBytes_4 rfl (lv_at hl 1 rfl) ?_
  obtain ⟨g1, hm⟩ := gdi_of hm
  refine va_lald hx hb hK hP 10 1 rfl rfl g1 dX7_writeBytes_5 ?_
  refine lv_topl (fun y2 ey2 => ?_)
  have hm := bnd_nm ey2 hm
  refine lv_lstore (lv' := [(4, .long y2), (0, .ref aM), (1, .int p1), (2, .int p2), (3, .int p3)]) hx hb dX7_writeBytes_6 hl (by decide) rfl (fun ls hl => ?_)
  obtain ⟨K62_7, eK62_7, hm⟩ := bnd_ex hm
  have X62_7 : ∀ (y5 : Int64) (u6 : OS) (H : Heap) (locs : List Loc) (ls : Array Slot), K62_7 y5 u6 = some o → va_P (dC, dI) vwCl ([wM cI cJ aM jM u6] : List va_W).flatten H → va_D A ([wM cI cJ aM jM u6] : List va_W).flatten → va_S A s.heap H locs → lv_has ls 6 [(0, .ref aM), (1, .int p1), (2, .int p2), (3, .int p3), (4, .long y5)] → W p l e ({ frames := 0, cells := 0, slots := 0, locals := 0 } : Room) s m ([.ref aM, .int p1, .int p2, .int p3] : List Value).toArray below meth c H locs 0 0 Q (F0 m 62 ls []) := by
    intro y5 u6 H locs ls hm hP hD hS hl
    have hm := ap2 eK62_7 hm
    refine lv_aload_n hx hb dX7_writeBytes_62 rfl (lv_at hl 0 rfl) ?_
    refine va_get (D := (dC, dI)) (ci := 8) (v := .ref (jM 16)) (C := RX7) (T := TX7) (N := 34) hx hb ht inX7 hown hK hP 0 rfl rfl 16 (by decide) (ht _ kw_45) (fun _ h9 => h9) rfl dX7_writeBytes_63 ?_
    refine lv_iload_n hx hb dX7_writeBytes_66 rfl (lv_at hl 1 rfl) ?_
    refine lv_lload hx hb dX7_writeBytes_67 (lv_at hl 4 rfl) ?_
    refine lv_iload_n hx hb dX7_writeBytes_69 rfl (lv_at hl 2 rfl) ?_
    refine lv_i2l hx hb dX7_writeBytes_70 rfl ?_
    obtain ⟨g8, hm⟩ := gdzl_of hm
    refine lv_ldiv hx hb dX7_writeBytes_71 g8 ?_
    refine lv_aload_n hx hb dX7_writeBytes_72 rfl (lv_at hl 0 rfl) ?_
    refine va_get (D := (dC, dI)) (ci := 8) (v := .int (u6.1 0)) (C := RX7) (T := TX7) (N := 34) hx hb ht inX7 hown hK hP 0 rfl rfl 0 (by decide) (ht _ kw_14) (fun _ h9 => h9) rfl dX7_writeBytes_73 ?_
    refine lv_lshl hx hb dX7_writeBytes_76 rfl ?_
    refine lv_lload hx hb dX7_writeBytes_77 (lv_at hl 4 rfl) ?_
    refine lv_iload_n hx hb dX7_writeBytes_79 rfl (lv_at hl 2 rfl) ?_
    refine lv_i2l hx hb dX7_writeBytes_80 rfl ?_
    obtain ⟨g9, hm⟩ := gdzl_of hm
    refine lv_lrem hx hb dX7_writeBytes_81 g9 ?_
    refine lv_ladd hx hb dX7_writeBytes_82 ?_
    refine lv_iload_n hx hb dX7_writeBytes_83 rfl (lv_at hl 3 rfl) ?_
    refine lv_i2l hx hb dX7_writeBytes_84 rfl ?_
    refine lv_ladd hx hb dX7_writeBytes_85 ?_
    obtain ⟨g10, hm⟩ := gdi_of hm
    refine va_last hx hb hK hP hD hS 10 1 rfl rfl g10 dX7_writeBytes_86 (fun H locs hP hD hS => ?_)
    obtain ⟨u11, eu11, hm⟩ := bnd_ex hm
    have hP : va_P (dC, dI) vwCl ([wM cI cJ aM jM u11] : List va_W).flatten H := by rw [eu11]; exact hP
    have hD : va_D A ([wM cI cJ aM jM u11] : List va_W).flatten := by rw [eu11]; exact hD
    rw [← hQ]
    exact W.vret hx hb hr (fun t ht1 hW => ⟨⟨u11, rfl, hm, by rw [ht1]; exact hP, hD⟩, hS.F ht1⟩) hS.2.2 dX7_writeBytes_87
  have LP8 : ∀ (n8 : Nat) (y3 : Int64) (u4 : OS) (H : Heap) (locs : List Loc) (ls : Array Slot), f_X7_writeBytes_L8 p2 n8 K62_7 y3 u4 = some o → va_P (dC, dI) vwCl ([wM cI cJ aM jM u4] : List va_W).flatten H → va_D A ([wM cI cJ aM jM u4] : List va_W).flatten → va_S A s.heap H locs → lv_has ls 6 [(0, .ref aM), (1, .int p1), (2, .int p2), (3, .int p3), (4, .long y3)] → W p l e ({ frames := 0, cells := 0, slots := 0, locals := 0 } : Room) s m ([.ref aM, .int p1, .int p2, .int p3] : List Value).toArray below meth c H locs 0 0 Q (F0 m 8 ls []) := by
    intro n8
    induction n8 with
    | zero => intro y3 u4 H locs ls hm; exact nomatch (show (none : Option _) = some _ from hm)
    | succ n8 ih8 =>
      intro y3 u4 H locs ls hm hP hD hS hl
      unfold f_X7_writeBytes_L8 at hm
      refine lv_lload hx hb dX7_writeBytes_8 (lv_at hl 4 rfl) ?_
      refine lv_lconst (v := (1 : Int64)) hx hb dX7_writeBytes_10 (by decide) ?_
      refine lv_bipush (v := (31 : Int32)) hx hb dX7_writeBytes_11 (by decide) ?_
      refine lv_aload_n hx hb dX7_writeBytes_13 rfl (lv_at hl 0 rfl) ?_
      refine va_get (D := (dC, dI)) (ci := 8) (v := .int (u4.1 0)) (C := RX7) (T := TX7) (N := 34) hx hb ht inX7 hown hK hP 0 rfl rfl 0 (by decide) (ht _ kw_14) (fun _ h9 => h9) rfl dX7_writeBytes_14 ?_
      refine lv_isub hx hb dX7_writeBytes_17 ?_
      refine lv_lshl hx hb dX7_writeBytes_18 rfl ?_
      refine lv_iload_n hx hb dX7_writeBytes_19 rfl (lv_at hl 2 rfl) ?_
      refine lv_i2l hx hb dX7_writeBytes_20 rfl ?_
      refine lv_lmul hx hb dX7_writeBytes_21 ?_
      refine W.lcmp hx hb dX7_writeBytes_22 ?_
      refine lv_if_lt (tgt := 62) hx hb dX7_writeBytes_23 (by decide) (fun c12 => ?_) (fun c12 => ?_)
      · have c12 := lgc_lt.mp c12
        have hm := ite_t c12 hm
        exact X62_7 y3 u4 _ _ _ hm hP hD hS (lv_sub hl [0, 1, 2, 3, 4] rfl)
      · have c12 := mt lgc_lt.mpr c12
        have hm := ite_f c12 hm
        refine lv_aload_n hx hb dX7_writeBytes_26 rfl (lv_at hl 0 rfl) ?_
        refine va_get (D := (dC, dI)) (ci := 8) (v := .ref (jM 19)) (C := RX7) (T := TX7) (N := 34) hx hb ht inX7 hown hK hP 0 rfl rfl 19 (by decide) (ht _ kw_46) (fun _ h9 => h9) rfl dX7_writeBytes_27 ?_
        refine lv_aload_n hx hb dX7_writeBytes_30 rfl (lv_at hl 0 rfl) ?_
        refine va_get (D := (dC, dI)) (ci := 8) (v := .int (u4.1 20)) (C := RX7) (T := TX7) (N := 34) hx hb ht inX7 hown hK hP 0 rfl rfl 20 (by decide) (ht _ kw_47) (fun _ h9 => h9) rfl dX7_writeBytes_31 ?_
        refine lv_lload hx hb dX7_writeBytes_34 (lv_at hl 4 rfl) ?_
        refine lv_l2i hx hb dX7_writeBytes_36 rfl ?_
        refine lv_sipush (v := (255 : Int32)) hx hb dX7_writeBytes_37 (by decide) ?_
        refine lv_iand hx hb dX7_writeBytes_40 ?_
        obtain ⟨g13, hm⟩ := gdi_of hm
        refine va_iast hx hb hK hP hD hS 12 0 rfl rfl g13 dX7_writeBytes_41 (fun H locs hP hD hS => ?_)
        obtain ⟨u14, eu14, hm⟩ := bnd_ex hm
        have hP : va_P (dC, dI) vwCl ([wM cI cJ aM jM u14] : List va_W).flatten H := by rw [eu14]; exact hP
        have hD : va_D A ([wM cI cJ aM jM u14] : List va_W).flatten := by rw [eu14]; exact hD
        refine lv_aload_n hx hb dX7_writeBytes_42 rfl (lv_at hl 0 rfl) ?_
        refine lv_dup hx hb dX7_writeBytes_43 rfl ?_
        refine va_get (D := (dC, dI)) (ci := 8) (v := .int (u14.1 20)) (C := RX7) (T := TX7) (N := 34) hx hb ht inX7 hown hK hP 0 rfl rfl 20 (by decide) (ht _ kw_47) (fun _ h9 => h9) rfl dX7_writeBytes_44 ?_
        refine lv_iconst (v := (1 : Int32)) hx hb dX7_writeBytes_47 (by decide) ?_
        refine lv_iadd hx hb dX7_writeBytes_48 ?_
        refine va_put (D := (dC, dI)) (ci := 8) (v := .int ((u14.1 20) + (1 : Int32))) (ty := .int) (C := RX7) (T := TX7) (N := 34) hx hb ht inX7 tyX7 tyX7_ok nmX7 hown hK hP hD hS 0 rfl rfl 20 (by decide) (ht _ kw_47) (fun _ h9 => h9) rfl (by decide +kernel) rfl rfl (Nat.le_of_ble_eq_true rfl) dX7_writeBytes_49 (fun H locs hP hD hS => ?_)
        obtain ⟨u15, eu15, hm⟩ := bnd_ex hm
        have hP : va_P (dC, dI) vwCl ([wM cI cJ aM jM u15] : List va_W).flatten H := by rw [eu15]; exact hP
        have hD : va_D A ([wM cI cJ aM jM u15] : List va_W).flatten := by rw [eu15]; exact hD
        refine lv_lload hx hb dX7_writeBytes_52 (lv_at hl 4 rfl) ?_
        refine lv_bipush (v := (8 : Int32)) hx hb dX7_writeBytes_54 (by decide) ?_
        refine lv_lshr hx hb dX7_writeBytes_56 rfl ?_
        refine lv_topl (fun y16 ey16 => ?_)
        have hm := bnd_nm ey16 hm
        refine lv_lstore (lv' := [(4, .long y16), (0, .ref aM), (1, .int p1), (2, .int p2), (3, .int p3)]) hx hb dX7_writeBytes_57 hl (by decide) rfl (fun ls hl => ?_)
        refine lv_goto (tgt := 8) hx hb dX7_writeBytes_59 (by decide) ?_
        exact ih8 y16 u15 _ _ _ hm hP hD hS (lv_sub hl [1, 2, 3, 4, 0] rfl)
  exact LP8 FU y2 uM _ _ _ hm hP hD hS (lv_sub hl [1, 2, 3, 4, 0] rfl)

def f_X7_writeWords_L8 (p2 : Int32) : Nat → (Int64 → OS → Option (OS)) → Int64 → OS → Option (OS)
  | 0, _, _, _ => none
  | n8 + 1, K58_7, y3, u4 =>
    if y3 < (((1 : Int64) <<< ((((63 : Int32) - (u4.1 0))).toInt64 &&& (63 : Int64))) * (p2).toInt64) then (
    K58_7 y3 u4) else (
    gdi (u4.1 20) 70000 <|
    bnd (sA u4 19 (u4.1 20) (y3).toInt32) fun u14 =>
    bnd (sF u14 20 ((u14.1 20) + (1 : Int32))) fun u15 =>
    bnd (((y3).toUInt64 >>> (((32 : Int32)).toInt64.toUInt64 &&& Int64.toUInt64 63)).toInt64) fun y16 =>
    f_X7_writeWords_L8 p2 n8 K58_7 y16 u15)

def f_X7_writeWords (uM : OS) (p1 : Int32) (p2 : Int32) (p3 : Int32) : Option (OS) :=
  gdi p1 4 <|
  bnd (uM.2.2.1 16 (p1).toNatClampNeg) fun y2 =>
  bnd (fun (y5 : Int64) (u6 : OS) =>
  gdzl (p2).toInt64 <|
  gdzl (p2).toInt64 <|
  gdi p1 4 <|
  bnd (sL u6 16 p1 ((((y5 / (p2).toInt64) <<< (((u6.1 0)).toInt64 &&& (63 : Int64))) + (y5 - y5 / (p2).toInt64 * (p2).toInt64)) + (p3).toInt64)) fun u11 =>
  some u11) fun K58_7 =>
  f_X7_writeWords_L8 p2 FU K58_7 y2 uM

set_option maxHeartbeats 4000000 in
set_option maxRecDepth 100000 in
theorem c_X7_writeWords (l : Launch) (dC : Nat → ClassId) (dI : Nat → Nat → Nat) (cI cJ : ClassId) (aM : Nat) (jM : Nat → Nat) (sz : Nat) (uM : OS) (p1 : Int32) (p2 : Int32) (p3 : Int32) (o : OS) (hm : f_X7_writeWords uM p1 p2 p3 = some o) : Met l yX7_writeWords (wq yX7_writeWords cX7_writeWords 6 none) ({ frames := 0, cells := 0, slots := 0, locals := 0 } : Room) (va_Pc [.ref aM, .int p1, .int p2, .int p3] (pcW dC dI cI cJ sz ([wM cI cJ aM jM uM] : List va_W).flatten)) (va_Qv (S := OS) (fun u => some u = some o) (fun (u : OS) t => va_P (dC, dI) vwCl ([wM cI cJ aM jM u] : List va_W).flatten t.heap ∧ va_D (va_A ([wM cI cJ aM jM uM] : List va_W).flatten sz) ([wM cI cJ aM jM u] : List va_W).flatten) (va_A ([wM cI cJ aM jM uM] : List va_W).flatten sz)) 0 0 (va_A ([wM cI cJ aM jM uM] : List va_W).flatten sz) := by
  refine Met.ofW (cc := cX7_writeWords) (maxL := 6) (ret := none) (by decide) rfl ?_
  intro p e s m args below meth c s₁ B hml hv
  obtain ⟨rfl, hsz, hP, hK, hD0, hN⟩ := hv
  have hx := B.exec
  have hb := B.bytes
  have hr := B.returns
  have ht : ∀ w ∈ lw_good, w.before _ s = true := fun w h => atoms_spec (ws := wq yX7_writeWords cX7_writeWords 6 none) B.pre w (wq_mem h)
  have hown : s.vm.findClass RX7 = some m.cls := findClass_of_methodNamed B.named
  have hlocks := B.notSynchronized
  subst hsz
  have hD := hD0.self (sz := s.heap.size)
  generalize hAe : va_A ([wM cI cJ aM jM uM] : List va_W).flatten s.heap.size = A at hD ⊢
  have hA : ∀ q : Nat, s.heap.size ≤ q → A q := fun q h => by rw [← hAe]; exact Or.inr h
  have hS : va_S A s.heap s.heap [] := va_S.rf
  have hl := lv_entry ([.ref aM, .int p1, .int p2, .int p3]) (n := 6) (Nat.le_of_ble_eq_true rfl)
  rw [lg_entry_eq]
  generalize (lg_sl ([.ref aM, .int p1, .int p2, .int p3]) ++ List.replicate (6 - (lg_sl ([.ref aM, .int p1, .int p2, .int p3])).length) Slot.unset).toArray = ls at hl ⊢
  have hl : lv_has ls 6 [(0, .ref aM), (1, .int p1), (2, .int p2), (3, .int p3)] := hl
  generalize hQ : MQ below _ _ s _ _ _ = Q
  generalize hH : s.heap = H at hP ⊢
  have hS : va_S A s.heap H [] := by rw [← hH]; exact va_S.rf
  show W p l e ({ frames := 0, cells := 0, slots := 0, locals := 0 } : Room) s m ([.ref aM, .int p1, .int p2, .int p3] : List Value).toArray below meth c H [] 0 0 Q (F0 m 0 ls [])
  unfold f_X7_writeWords at hm
  refine lv_aload_n hx hb dX7_writeWords_0 rfl (lv_at hl 0 rfl) ?_
  refine va_get (D := (dC, dI)) (ci := 8) (v := .ref (jM 16)) (C := RX7) (T := TX7) (N := 34) hx hb ht inX7 hown hK hP 0 rfl rfl 16 (by decide) (ht _ kw_45) (fun _ h9 => h9) rfl dX7_writeWords_1 ?_
  refine lv_iload_n hx hb dX7_writeWords_4 rfl (lv_at hl 1 rfl) ?_
  obtain ⟨g1, hm⟩ := gdi_of hm
  refine va_lald hx hb hK hP 10 1 rfl rfl g1 dX7_writeWords_5 ?_
  refine lv_topl (fun y2 ey2 => ?_)
  have hm := bnd_nm ey2 hm
  refine lv_lstore (lv' := [(4, .long y2), (0, .ref aM), (1, .int p1), (2, .int p2), (3, .int p3)]) hx hb dX7_writeWords_6 hl (by decide) rfl (fun ls hl => ?_)
  obtain ⟨K58_7, eK58_7, hm⟩ := bnd_ex hm
  have X58_7 : ∀ (y5 : Int64) (u6 : OS) (H : Heap) (locs : List Loc) (ls : Array Slot), K58_7 y5 u6 = some o → va_P (dC, dI) vwCl ([wM cI cJ aM jM u6] : List va_W).flatten H → va_D A ([wM cI cJ aM jM u6] : List va_W).flatten → va_S A s.heap H locs → lv_has ls 6 [(0, .ref aM), (1, .int p1), (2, .int p2), (3, .int p3), (4, .long y5)] → W p l e ({ frames := 0, cells := 0, slots := 0, locals := 0 } : Room) s m ([.ref aM, .int p1, .int p2, .int p3] : List Value).toArray below meth c H locs 0 0 Q (F0 m 58 ls []) := by
    intro y5 u6 H locs ls hm hP hD hS hl
    have hm := ap2 eK58_7 hm
    refine lv_aload_n hx hb dX7_writeWords_58 rfl (lv_at hl 0 rfl) ?_
    refine va_get (D := (dC, dI)) (ci := 8) (v := .ref (jM 16)) (C := RX7) (T := TX7) (N := 34) hx hb ht inX7 hown hK hP 0 rfl rfl 16 (by decide) (ht _ kw_45) (fun _ h9 => h9) rfl dX7_writeWords_59 ?_
    refine lv_iload_n hx hb dX7_writeWords_62 rfl (lv_at hl 1 rfl) ?_
    refine lv_lload hx hb dX7_writeWords_63 (lv_at hl 4 rfl) ?_
    refine lv_iload_n hx hb dX7_writeWords_65 rfl (lv_at hl 2 rfl) ?_
    refine lv_i2l hx hb dX7_writeWords_66 rfl ?_
    obtain ⟨g8, hm⟩ := gdzl_of hm
    refine lv_ldiv hx hb dX7_writeWords_67 g8 ?_
    refine lv_aload_n hx hb dX7_writeWords_68 rfl (lv_at hl 0 rfl) ?_
    refine va_get (D := (dC, dI)) (ci := 8) (v := .int (u6.1 0)) (C := RX7) (T := TX7) (N := 34) hx hb ht inX7 hown hK hP 0 rfl rfl 0 (by decide) (ht _ kw_14) (fun _ h9 => h9) rfl dX7_writeWords_69 ?_
    refine lv_lshl hx hb dX7_writeWords_72 rfl ?_
    refine lv_lload hx hb dX7_writeWords_73 (lv_at hl 4 rfl) ?_
    refine lv_iload_n hx hb dX7_writeWords_75 rfl (lv_at hl 2 rfl) ?_
    refine lv_i2l hx hb dX7_writeWords_76 rfl ?_
    obtain ⟨g9, hm⟩ := gdzl_of hm
    refine lv_lrem hx hb dX7_writeWords_77 g9 ?_
    refine lv_ladd hx hb dX7_writeWords_78 ?_
    refine lv_iload_n hx hb dX7_writeWords_79 rfl (lv_at hl 3 rfl) ?_
    refine lv_i2l hx hb dX7_writeWords_80 rfl ?_
    refine lv_ladd hx hb dX7_writeWords_81 ?_
    obtain ⟨g10, hm⟩ := gdi_of hm
    refine va_last hx hb hK hP hD hS 10 1 rfl rfl g10 dX7_writeWords_82 (fun H locs hP hD hS => ?_)
    obtain ⟨u11, eu11, hm⟩ := bnd_ex hm
    have hP : va_P (dC, dI) vwCl ([wM cI cJ aM jM u11] : List va_W).flatten H := by rw [eu11]; exact hP
    have hD : va_D A ([wM cI cJ aM jM u11] : List va_W).flatten := by rw [eu11]; exact hD
    rw [← hQ]
    exact W.vret hx hb hr (fun t ht1 hW => ⟨⟨u11, rfl, hm, by rw [ht1]; exact hP, hD⟩, hS.F ht1⟩) hS.2.2 dX7_writeWords_83
  have LP8 : ∀ (n8 : Nat) (y3 : Int64) (u4 : OS) (H : Heap) (locs : List Loc) (ls : Array Slot), f_X7_writeWords_L8 p2 n8 K58_7 y3 u4 = some o → va_P (dC, dI) vwCl ([wM cI cJ aM jM u4] : List va_W).flatten H → va_D A ([wM cI cJ aM jM u4] : List va_W).flatten → va_S A s.heap H locs → lv_has ls 6 [(0, .ref aM), (1, .int p1), (2, .int p2), (3, .int p3), (4, .long y3)] → W p l e ({ frames := 0, cells := 0, slots := 0, locals := 0 } : Room) s m ([.ref aM, .int p1, .int p2, .int p3] : List Value).toArray below meth c H locs 0 0 Q (F0 m 8 ls []) := by
    intro n8
    induction n8 with
    | zero => intro y3 u4 H locs ls hm; exact nomatch (show (none : Option _) = some _ from hm)
    | succ n8 ih8 =>
      intro y3 u4 H locs ls hm hP hD hS hl
      unfold f_X7_writeWords_L8 at hm
      refine lv_lload hx hb dX7_writeWords_8 (lv_at hl 4 rfl) ?_
      refine lv_lconst (v := (1 : Int64)) hx hb dX7_writeWords_10 (by decide) ?_
      refine lv_bipush (v := (63 : Int32)) hx hb dX7_writeWords_11 (by decide) ?_
      refine lv_aload_n hx hb dX7_writeWords_13 rfl (lv_at hl 0 rfl) ?_
      refine va_get (D := (dC, dI)) (ci := 8) (v := .int (u4.1 0)) (C := RX7) (T := TX7) (N := 34) hx hb ht inX7 hown hK hP 0 rfl rfl 0 (by decide) (ht _ kw_14) (fun _ h9 => h9) rfl dX7_writeWords_14 ?_
      refine lv_isub hx hb dX7_writeWords_17 ?_
      refine lv_lshl hx hb dX7_writeWords_18 rfl ?_
      refine lv_iload_n hx hb dX7_writeWords_19 rfl (lv_at hl 2 rfl) ?_
      refine lv_i2l hx hb dX7_writeWords_20 rfl ?_
      refine lv_lmul hx hb dX7_writeWords_21 ?_
      refine W.lcmp hx hb dX7_writeWords_22 ?_
      refine lv_if_lt (tgt := 58) hx hb dX7_writeWords_23 (by decide) (fun c12 => ?_) (fun c12 => ?_)
      · have c12 := lgc_lt.mp c12
        have hm := ite_t c12 hm
        exact X58_7 y3 u4 _ _ _ hm hP hD hS (lv_sub hl [0, 1, 2, 3, 4] rfl)
      · have c12 := mt lgc_lt.mpr c12
        have hm := ite_f c12 hm
        refine lv_aload_n hx hb dX7_writeWords_26 rfl (lv_at hl 0 rfl) ?_
        refine va_get (D := (dC, dI)) (ci := 8) (v := .ref (jM 19)) (C := RX7) (T := TX7) (N := 34) hx hb ht inX7 hown hK hP 0 rfl rfl 19 (by decide) (ht _ kw_46) (fun _ h9 => h9) rfl dX7_writeWords_27 ?_
        refine lv_aload_n hx hb dX7_writeWords_30 rfl (lv_at hl 0 rfl) ?_
        refine va_get (D := (dC, dI)) (ci := 8) (v := .int (u4.1 20)) (C := RX7) (T := TX7) (N := 34) hx hb ht inX7 hown hK hP 0 rfl rfl 20 (by decide) (ht _ kw_47) (fun _ h9 => h9) rfl dX7_writeWords_31 ?_
        refine lv_lload hx hb dX7_writeWords_34 (lv_at hl 4 rfl) ?_
        refine lv_l2i hx hb dX7_writeWords_36 rfl ?_
        obtain ⟨g13, hm⟩ := gdi_of hm
        refine va_iast hx hb hK hP hD hS 12 0 rfl rfl g13 dX7_writeWords_37 (fun H locs hP hD hS => ?_)
        obtain ⟨u14, eu14, hm⟩ := bnd_ex hm
        have hP : va_P (dC, dI) vwCl ([wM cI cJ aM jM u14] : List va_W).flatten H := by rw [eu14]; exact hP
        have hD : va_D A ([wM cI cJ aM jM u14] : List va_W).flatten := by rw [eu14]; exact hD
        refine lv_aload_n hx hb dX7_writeWords_38 rfl (lv_at hl 0 rfl) ?_
        refine lv_dup hx hb dX7_writeWords_39 rfl ?_
        refine va_get (D := (dC, dI)) (ci := 8) (v := .int (u14.1 20)) (C := RX7) (T := TX7) (N := 34) hx hb ht inX7 hown hK hP 0 rfl rfl 20 (by decide) (ht _ kw_47) (fun _ h9 => h9) rfl dX7_writeWords_40 ?_
        refine lv_iconst (v := (1 : Int32)) hx hb dX7_writeWords_43 (by decide) ?_
        refine lv_iadd hx hb dX7_writeWords_44 ?_
        refine va_put (D := (dC, dI)) (ci := 8) (v := .int ((u14.1 20) + (1 : Int32))) (ty := .int) (C := RX7) (T := TX7) (N := 34) hx hb ht inX7 tyX7 tyX7_ok nmX7 hown hK hP hD hS 0 rfl rfl 20 (by decide) (ht _ kw_47) (fun _ h9 => h9) rfl (by decide +kernel) rfl rfl (Nat.le_of_ble_eq_true rfl) dX7_writeWords_45 (fun H locs hP hD hS => ?_)
        obtain ⟨u15, eu15, hm⟩ := bnd_ex hm
        have hP : va_P (dC, dI) vwCl ([wM cI cJ aM jM u15] : List va_W).flatten H := by rw [eu15]; exact hP
        have hD : va_D A ([wM cI cJ aM jM u15] : List va_W).flatten := by rw [eu15]; exact hD
        refine lv_lload hx hb dX7_writeWords_48 (lv_at hl 4 rfl) ?_
        refine lv_bipush (v := (32 : Int32)) hx hb dX7_writeWords_50 (by decide) ?_
        refine lv_lushr hx hb dX7_writeWords_52 rfl ?_
        refine lv_topl (fun y16 ey16 => ?_)
        have hm := bnd_nm ey16 hm
        refine lv_lstore (lv' := [(4, .long y16), (0, .ref aM), (1, .int p1), (2, .int p2), (3, .int p3)]) hx hb dX7_writeWords_53 hl (by decide) rfl (fun ls hl => ?_)
        refine lv_goto (tgt := 8) hx hb dX7_writeWords_55 (by decide) ?_
        exact ih8 y16 u15 _ _ _ hm hP hD hS (lv_sub hl [1, 2, 3, 4, 0] rfl)
  exact LP8 FU y2 uM _ _ _ hm hP hD hS (lv_sub hl [1, 2, 3, 4, 0] rfl)

def f_X7_writeBitsOf_L8 (p2 : Int32) : Nat → (Int64 → OS → Option (OS)) → Int64 → OS → Option (OS)
  | 0, _, _, _ => none
  | n8 + 1, K53_7, y3, u4 =>
    if y3 < ((2 : Int64) * (p2).toInt64) then (
    K53_7 y3 u4) else (
    gdi (u4.1 20) 70000 <|
    bnd (sA u4 19 (u4.1 20) ((y3).toInt32 &&& (1 : Int32))) fun u13 =>
    bnd (sF u13 20 ((u13.1 20) + (1 : Int32))) fun u14 =>
    bnd (y3 >>> (((1 : Int32)).toInt64 &&& (63 : Int64))) fun y15 =>
    f_X7_writeBitsOf_L8 p2 n8 K53_7 y15 u14)

def f_X7_writeBitsOf (uM : OS) (p1 : Int32) (p2 : Int32) (p3 : Int32) : Option (OS) :=
  gdi p1 4 <|
  bnd (uM.2.2.1 16 (p1).toNatClampNeg) fun y2 =>
  bnd (fun (y5 : Int64) (u6 : OS) =>
  gdi ((p3 + (y5).toInt32) - p2) 8192 <|
  gdi p1 4 <|
  bnd (sL u6 16 p1 (((1 : Int64) <<< (((u6.1 0)).toInt64 &&& (63 : Int64))) + ((u6.2.1 13 (((p3 + (y5).toInt32) - p2)).toNatClampNeg)).toInt64)) fun u10 =>
  some u10) fun K53_7 =>
  f_X7_writeBitsOf_L8 p2 FU K53_7 y2 uM

set_option maxHeartbeats 4000000 in
set_option maxRecDepth 100000 in
theorem c_X7_writeBitsOf (l : Launch) (dC : Nat → ClassId) (dI : Nat → Nat → Nat) (cI cJ : ClassId) (aM : Nat) (jM : Nat → Nat) (sz : Nat) (uM : OS) (p1 : Int32) (p2 : Int32) (p3 : Int32) (o : OS) (hm : f_X7_writeBitsOf uM p1 p2 p3 = some o) : Met l yX7_writeBitsOf (wq yX7_writeBitsOf cX7_writeBitsOf 6 none) ({ frames := 0, cells := 0, slots := 0, locals := 0 } : Room) (va_Pc [.ref aM, .int p1, .int p2, .int p3] (pcW dC dI cI cJ sz ([wM cI cJ aM jM uM] : List va_W).flatten)) (va_Qv (S := OS) (fun u => some u = some o) (fun (u : OS) t => va_P (dC, dI) vwCl ([wM cI cJ aM jM u] : List va_W).flatten t.heap ∧ va_D (va_A ([wM cI cJ aM jM uM] : List va_W).flatten sz) ([wM cI cJ aM jM u] : List va_W).flatten) (va_A ([wM cI cJ aM jM uM] : List va_W).flatten sz)) 0 0 (va_A ([wM cI cJ aM jM uM] : List va_W).flatten sz) := by
  refine Met.ofW (cc := cX7_writeBitsOf) (maxL := 6) (ret := none) (by decide) rfl ?_
  intro p e s m args below meth c s₁ B hml hv
  obtain ⟨rfl, hsz, hP, hK, hD0, hN⟩ := hv
  have hx := B.exec
  have hb := B.bytes
  have hr := B.returns
  have ht : ∀ w ∈ lw_good, w.before _ s = true := fun w h => atoms_spec (ws := wq yX7_writeBitsOf cX7_writeBitsOf 6 none) B.pre w (wq_mem h)
  have hown : s.vm.findClass RX7 = some m.cls := findClass_of_methodNamed B.named
  have hlocks := B.notSynchronized
  subst hsz
  have hD := hD0.self (sz := s.heap.size)
  generalize hAe : va_A ([wM cI cJ aM jM uM] : List va_W).flatten s.heap.size = A at hD ⊢
  have hA : ∀ q : Nat, s.heap.size ≤ q → A q := fun q h => by rw [← hAe]; exact Or.inr h
  have hS : va_S A s.heap s.heap [] := va_S.rf
  have hl := lv_entry ([.ref aM, .int p1, .int p2, .int p3]) (n := 6) (Nat.le_of_ble_eq_true rfl)
  rw [lg_entry_eq]
  generalize (lg_sl ([.ref aM, .int p1, .int p2, .int p3]) ++ List.replicate (6 - (lg_sl ([.ref aM, .int p1, .int p2, .int p3])).length) Slot.unset).toArray = ls at hl ⊢
  have hl : lv_has ls 6 [(0, .ref aM), (1, .int p1), (2, .int p2), (3, .int p3)] := hl
  generalize hQ : MQ below _ _ s _ _ _ = Q
  generalize hH : s.heap = H at hP ⊢
  have hS : va_S A s.heap H [] := by rw [← hH]; exact va_S.rf
  show W p l e ({ frames := 0, cells := 0, slots := 0, locals := 0 } : Room) s m ([.ref aM, .int p1, .int p2, .int p3] : List Value).toArray below meth c H [] 0 0 Q (F0 m 0 ls [])
  unfold f_X7_writeBitsOf at hm
  refine lv_aload_n hx hb dX7_writeBitsOf_0 rfl (lv_at hl 0 rfl) ?_
  refine va_get (D := (dC, dI)) (ci := 8) (v := .ref (jM 16)) (C := RX7) (T := TX7) (N := 34) hx hb ht inX7 hown hK hP 0 rfl rfl 16 (by decide) (ht _ kw_45) (fun _ h9 => h9) rfl dX7_writeBitsOf_1 ?_
  refine lv_iload_n hx hb dX7_writeBitsOf_4 rfl (lv_at hl 1 rfl) ?_
  obtain ⟨g1, hm⟩ := gdi_of hm
  refine va_lald hx hb hK hP 10 1 rfl rfl g1 dX7_writeBitsOf_5 ?_
  refine lv_topl (fun y2 ey2 => ?_)
  have hm := bnd_nm ey2 hm
  refine lv_lstore (lv' := [(4, .long y2), (0, .ref aM), (1, .int p1), (2, .int p2), (3, .int p3)]) hx hb dX7_writeBitsOf_6 hl (by decide) rfl (fun ls hl => ?_)
  obtain ⟨K53_7, eK53_7, hm⟩ := bnd_ex hm
  have X53_7 : ∀ (y5 : Int64) (u6 : OS) (H : Heap) (locs : List Loc) (ls : Array Slot), K53_7 y5 u6 = some o → va_P (dC, dI) vwCl ([wM cI cJ aM jM u6] : List va_W).flatten H → va_D A ([wM cI cJ aM jM u6] : List va_W).flatten → va_S A s.heap H locs → lv_has ls 6 [(0, .ref aM), (1, .int p1), (2, .int p2), (3, .int p3), (4, .long y5)] → W p l e ({ frames := 0, cells := 0, slots := 0, locals := 0 } : Room) s m ([.ref aM, .int p1, .int p2, .int p3] : List Value).toArray below meth c H locs 0 0 Q (F0 m 53 ls []) := by
    intro y5 u6 H locs ls hm hP hD hS hl
    have hm := ap2 eK53_7 hm
    refine lv_aload_n hx hb dX7_writeBitsOf_53 rfl (lv_at hl 0 rfl) ?_
    refine va_get (D := (dC, dI)) (ci := 8) (v := .ref (jM 16)) (C := RX7) (T := TX7) (N := 34) hx hb ht inX7 hown hK hP 0 rfl rfl 16 (by decide) (ht _ kw_45) (fun _ h9 => h9) rfl dX7_writeBitsOf_54 ?_
    refine lv_iload_n hx hb dX7_writeBitsOf_57 rfl (lv_at hl 1 rfl) ?_
    refine lv_lconst (v := (1 : Int64)) hx hb dX7_writeBitsOf_58 (by decide) ?_
    refine lv_aload_n hx hb dX7_writeBitsOf_59 rfl (lv_at hl 0 rfl) ?_
    refine va_get (D := (dC, dI)) (ci := 8) (v := .int (u6.1 0)) (C := RX7) (T := TX7) (N := 34) hx hb ht inX7 hown hK hP 0 rfl rfl 0 (by decide) (ht _ kw_14) (fun _ h9 => h9) rfl dX7_writeBitsOf_60 ?_
    refine lv_lshl hx hb dX7_writeBitsOf_63 rfl ?_
    refine lv_aload_n hx hb dX7_writeBitsOf_64 rfl (lv_at hl 0 rfl) ?_
    refine va_get (D := (dC, dI)) (ci := 8) (v := .ref (jM 13)) (C := RX7) (T := TX7) (N := 34) hx hb ht inX7 hown hK hP 0 rfl rfl 13 (by decide) (ht _ kw_23) (fun _ h9 => h9) rfl dX7_writeBitsOf_65 ?_
    refine lv_iload_n hx hb dX7_writeBitsOf_68 rfl (lv_at hl 3 rfl) ?_
    refine lv_lload hx hb dX7_writeBitsOf_69 (lv_at hl 4 rfl) ?_
    refine lv_l2i hx hb dX7_writeBitsOf_71 rfl ?_
    refine lv_iadd hx hb dX7_writeBitsOf_72 ?_
    refine lv_iload_n hx hb dX7_writeBitsOf_73 rfl (lv_at hl 2 rfl) ?_
    refine lv_isub hx hb dX7_writeBitsOf_74 ?_
    obtain ⟨g8, hm⟩ := gdi_of hm
    refine va_iald hx hb hK hP 8 0 rfl rfl g8 dX7_writeBitsOf_75 ?_
    refine lv_i2l hx hb dX7_writeBitsOf_76 rfl ?_
    refine lv_ladd hx hb dX7_writeBitsOf_77 ?_
    obtain ⟨g9, hm⟩ := gdi_of hm
    refine va_last hx hb hK hP hD hS 10 1 rfl rfl g9 dX7_writeBitsOf_78 (fun H locs hP hD hS => ?_)
    obtain ⟨u10, eu10, hm⟩ := bnd_ex hm
    have hP : va_P (dC, dI) vwCl ([wM cI cJ aM jM u10] : List va_W).flatten H := by rw [eu10]; exact hP
    have hD : va_D A ([wM cI cJ aM jM u10] : List va_W).flatten := by rw [eu10]; exact hD
    rw [← hQ]
    exact W.vret hx hb hr (fun t ht1 hW => ⟨⟨u10, rfl, hm, by rw [ht1]; exact hP, hD⟩, hS.F ht1⟩) hS.2.2 dX7_writeBitsOf_79
  have LP8 : ∀ (n8 : Nat) (y3 : Int64) (u4 : OS) (H : Heap) (locs : List Loc) (ls : Array Slot), f_X7_writeBitsOf_L8 p2 n8 K53_7 y3 u4 = some o → va_P (dC, dI) vwCl ([wM cI cJ aM jM u4] : List va_W).flatten H → va_D A ([wM cI cJ aM jM u4] : List va_W).flatten → va_S A s.heap H locs → lv_has ls 6 [(0, .ref aM), (1, .int p1), (2, .int p2), (3, .int p3), (4, .long y3)] → W p l e ({ frames := 0, cells := 0, slots := 0, locals := 0 } : Room) s m ([.ref aM, .int p1, .int p2, .int p3] : List Value).toArray below meth c H locs 0 0 Q (F0 m 8 ls []) := by
    intro n8
    induction n8 with
    | zero => intro y3 u4 H locs ls hm; exact nomatch (show (none : Option _) = some _ from hm)
    | succ n8 ih8 =>
      intro y3 u4 H locs ls hm hP hD hS hl
      unfold f_X7_writeBitsOf_L8 at hm
      refine lv_lload hx hb dX7_writeBitsOf_8 (lv_at hl 4 rfl) ?_
      refine lv_ldc2 (v := (2 : Int64)) hx hb hown (ht _ kw_12) dX7_writeBitsOf_10 ?_
      refine lv_iload_n hx hb dX7_writeBitsOf_13 rfl (lv_at hl 2 rfl) ?_
      refine lv_i2l hx hb dX7_writeBitsOf_14 rfl ?_
      refine lv_lmul hx hb dX7_writeBitsOf_15 ?_
      refine W.lcmp hx hb dX7_writeBitsOf_16 ?_
      refine lv_if_lt (tgt := 53) hx hb dX7_writeBitsOf_17 (by decide) (fun c11 => ?_) (fun c11 => ?_)
      · have c11 := lgc_lt.mp c11
        have hm := ite_t c11 hm
        exact X53_7 y3 u4 _ _ _ hm hP hD hS (lv_sub hl [0, 1, 2, 3, 4] rfl)
      · have c11 := mt lgc_lt.mpr c11
        have hm := ite_f c11 hm
        refine lv_aload_n hx hb dX7_writeBitsOf_20 rfl (lv_at hl 0 rfl) ?_
        refine va_get (D := (dC, dI)) (ci := 8) (v := .ref (jM 19)) (C := RX7) (T := TX7) (N := 34) hx hb ht inX7 hown hK hP 0 rfl rfl 19 (by decide) (ht _ kw_46) (fun _ h9 => h9) rfl dX7_writeBitsOf_21 ?_
        refine lv_aload_n hx hb dX7_writeBitsOf_24 rfl (lv_at hl 0 rfl) ?_
        refine va_get (D := (dC, dI)) (ci := 8) (v := .int (u4.1 20)) (C := RX7) (T := TX7) (N := 34) hx hb ht inX7 hown hK hP 0 rfl rfl 20 (by decide) (ht _ kw_47) (fun _ h9 => h9) rfl dX7_writeBitsOf_25 ?_
        refine lv_lload hx hb dX7_writeBitsOf_28 (lv_at hl 4 rfl) ?_
        refine lv_l2i hx hb dX7_writeBitsOf_30 rfl ?_
        refine lv_iconst (v := (1 : Int32)) hx hb dX7_writeBitsOf_31 (by decide) ?_
        refine lv_iand hx hb dX7_writeBitsOf_32 ?_
        obtain ⟨g12, hm⟩ := gdi_of hm
        refine va_iast hx hb hK hP hD hS 12 0 rfl rfl g12 dX7_writeBitsOf_33 (fun H locs hP hD hS => ?_)
        obtain ⟨u13, eu13, hm⟩ := bnd_ex hm
        have hP : va_P (dC, dI) vwCl ([wM cI cJ aM jM u13] : List va_W).flatten H := by rw [eu13]; exact hP
        have hD : va_D A ([wM cI cJ aM jM u13] : List va_W).flatten := by rw [eu13]; exact hD
        refine lv_aload_n hx hb dX7_writeBitsOf_34 rfl (lv_at hl 0 rfl) ?_
        refine lv_dup hx hb dX7_writeBitsOf_35 rfl ?_
        refine va_get (D := (dC, dI)) (ci := 8) (v := .int (u13.1 20)) (C := RX7) (T := TX7) (N := 34) hx hb ht inX7 hown hK hP 0 rfl rfl 20 (by decide) (ht _ kw_47) (fun _ h9 => h9) rfl dX7_writeBitsOf_36 ?_
        refine lv_iconst (v := (1 : Int32)) hx hb dX7_writeBitsOf_39 (by decide) ?_
        refine lv_iadd hx hb dX7_writeBitsOf_40 ?_
        refine va_put (D := (dC, dI)) (ci := 8) (v := .int ((u13.1 20) + (1 : Int32))) (ty := .int) (C := RX7) (T := TX7) (N := 34) hx hb ht inX7 tyX7 tyX7_ok nmX7 hown hK hP hD hS 0 rfl rfl 20 (by decide) (ht _ kw_47) (fun _ h9 => h9) rfl (by decide +kernel) rfl rfl (Nat.le_of_ble_eq_true rfl) dX7_writeBitsOf_41 (fun H locs hP hD hS => ?_)
        obtain ⟨u14, eu14, hm⟩ := bnd_ex hm
        have hP : va_P (dC, dI) vwCl ([wM cI cJ aM jM u14] : List va_W).flatten H := by rw [eu14]; exact hP
        have hD : va_D A ([wM cI cJ aM jM u14] : List va_W).flatten := by rw [eu14]; exact hD
        refine lv_lload hx hb dX7_writeBitsOf_44 (lv_at hl 4 rfl) ?_
        refine lv_iconst (v := (1 : Int32)) hx hb dX7_writeBitsOf_46 (by decide) ?_
        refine lv_lshr hx hb dX7_writeBitsOf_47 rfl ?_
        refine lv_topl (fun y15 ey15 => ?_)
        have hm := bnd_nm ey15 hm
        refine lv_lstore (lv' := [(4, .long y15), (0, .ref aM), (1, .int p1), (2, .int p2), (3, .int p3)]) hx hb dX7_writeBitsOf_48 hl (by decide) rfl (fun ls hl => ?_)
        refine lv_goto (tgt := 8) hx hb dX7_writeBitsOf_50 (by decide) ?_
        exact ih8 y15 u14 _ _ _ hm hP hD hS (lv_sub hl [1, 2, 3, 4, 0] rfl)
  exact LP8 FU y2 uM _ _ _ hm hP hD hS (lv_sub hl [1, 2, 3, 4, 0] rfl)

def f_X7_laySides_L13 (p1 : Int32) (p2 : Int32) (p3 : Int32) : Nat → (Int32 → OS → Option (OS)) → Int32 → OS → Option (OS)
  | 0, _, _, _ => none
  | n13 + 1, K93_7, x3, u4 =>
    if (32 : Int32) ≤ x3 then (
    K93_7 x3 u4) else (
    if (x3 >>> (((5 : Int32) - p3) &&& (31 : Int32))) = p2 then (
    gdi (((32 : Int32) * p1) + x3) 64 <|
    bnd (sF u4 22 ((u4.1 22) + (u4.2.1 8 ((((32 : Int32) * p1) + x3)).toNatClampNeg))) fun u12 =>
    if ((x3 >>> (((4 : Int32) - p3) &&& (31 : Int32))) &&& (1 : Int32)) = (0 : Int32) then (
    gdi (((32 : Int32) * p1) + x3) 64 <|
    bnd (sF u12 23 ((u12.1 23) + (u12.2.1 8 ((((32 : Int32) * p1) + x3)).toNatClampNeg))) fun u17 =>
    bnd (x3 + (1 : Int32)) fun x18 =>
    f_X7_laySides_L13 p1 p2 p3 n13 K93_7 x18 u17) else (
    bnd (sF u12 23 ((u12.1 23) + (0 : Int32))) fun u14 =>
    bnd (x3 + (1 : Int32)) fun x15 =>
    f_X7_laySides_L13 p1 p2 p3 n13 K93_7 x15 u14)) else (
    bnd (x3 + (1 : Int32)) fun x10 =>
    f_X7_laySides_L13 p1 p2 p3 n13 K93_7 x10 u4))

def f_X7_laySides (uM : OS) (p1 : Int32) (p2 : Int32) (p3 : Int32) : Option (OS) :=
  bnd (sF uM 22 (0 : Int32)) fun u1 =>
  bnd (sF u1 23 (0 : Int32)) fun u2 =>
  bnd (fun (x5 : Int32) (u6 : OS) =>
  some u6) fun K93_7 =>
  f_X7_laySides_L13 p1 p2 p3 FU K93_7 (0 : Int32) u2

set_option maxHeartbeats 4000000 in
set_option maxRecDepth 100000 in
theorem c_X7_laySides (l : Launch) (dC : Nat → ClassId) (dI : Nat → Nat → Nat) (cI cJ : ClassId) (aM : Nat) (jM : Nat → Nat) (sz : Nat) (uM : OS) (p1 : Int32) (p2 : Int32) (p3 : Int32) (o : OS) (hm : f_X7_laySides uM p1 p2 p3 = some o) : Met l yX7_laySides (wq yX7_laySides cX7_laySides 5 none) ({ frames := 0, cells := 0, slots := 0, locals := 0 } : Room) (va_Pc [.ref aM, .int p1, .int p2, .int p3] (pcW dC dI cI cJ sz ([wM cI cJ aM jM uM] : List va_W).flatten)) (va_Qv (S := OS) (fun u => some u = some o) (fun (u : OS) t => va_P (dC, dI) vwCl ([wM cI cJ aM jM u] : List va_W).flatten t.heap ∧ va_D (va_A ([wM cI cJ aM jM uM] : List va_W).flatten sz) ([wM cI cJ aM jM u] : List va_W).flatten) (va_A ([wM cI cJ aM jM uM] : List va_W).flatten sz)) 0 0 (va_A ([wM cI cJ aM jM uM] : List va_W).flatten sz) := by
  refine Met.ofW (cc := cX7_laySides) (maxL := 5) (ret := none) (by decide) rfl ?_
  intro p e s m args below meth c s₁ B hml hv
  obtain ⟨rfl, hsz, hP, hK, hD0, hN⟩ := hv
  have hx := B.exec
  have hb := B.bytes
  have hr := B.returns
  have ht : ∀ w ∈ lw_good, w.before _ s = true := fun w h => atoms_spec (ws := wq yX7_laySides cX7_laySides 5 none) B.pre w (wq_mem h)
  have hown : s.vm.findClass RX7 = some m.cls := findClass_of_methodNamed B.named
  have hlocks := B.notSynchronized
  subst hsz
  have hD := hD0.self (sz := s.heap.size)
  generalize hAe : va_A ([wM cI cJ aM jM uM] : List va_W).flatten s.heap.size = A at hD ⊢
  have hA : ∀ q : Nat, s.heap.size ≤ q → A q := fun q h => by rw [← hAe]; exact Or.inr h
  have hS : va_S A s.heap s.heap [] := va_S.rf
  have hl := lv_entry ([.ref aM, .int p1, .int p2, .int p3]) (n := 5) (Nat.le_of_ble_eq_true rfl)
  rw [lg_entry_eq]
  generalize (lg_sl ([.ref aM, .int p1, .int p2, .int p3]) ++ List.replicate (5 - (lg_sl ([.ref aM, .int p1, .int p2, .int p3])).length) Slot.unset).toArray = ls at hl ⊢
  have hl : lv_has ls 5 [(0, .ref aM), (1, .int p1), (2, .int p2), (3, .int p3)] := hl
  generalize hQ : MQ below _ _ s _ _ _ = Q
  generalize hH : s.heap = H at hP ⊢
  have hS : va_S A s.heap H [] := by rw [← hH]; exact va_S.rf
  show W p l e ({ frames := 0, cells := 0, slots := 0, locals := 0 } : Room) s m ([.ref aM, .int p1, .int p2, .int p3] : List Value).toArray below meth c H [] 0 0 Q (F0 m 0 ls [])
  unfold f_X7_laySides at hm
  refine lv_aload_n hx hb dX7_laySides_0 rfl (lv_at hl 0 rfl) ?_
  refine lv_iconst (v := (0 : Int32)) hx hb dX7_laySides_1 (by decide) ?_
  refine va_put (D := (dC, dI)) (ci := 8) (v := .int (0 : Int32)) (ty := .int) (C := RX7) (T := TX7) (N := 34) hx hb ht inX7 tyX7 tyX7_ok nmX7 hown hK hP hD hS 0 rfl rfl 22 (by decide) (ht _ kw_48) (fun _ h9 => h9) rfl (by decide +kernel) rfl rfl (Nat.le_of_ble_eq_true rfl) dX7_laySides_2 (fun H locs hP hD hS => ?_)
  obtain ⟨u1, eu1, hm⟩ := bnd_ex hm
  have hP : va_P (dC, dI) vwCl ([wM cI cJ aM jM u1] : List va_W).flatten H := by rw [eu1]; exact hP
  have hD : va_D A ([wM cI cJ aM jM u1] : List va_W).flatten := by rw [eu1]; exact hD
  refine lv_aload_n hx hb dX7_laySides_5 rfl (lv_at hl 0 rfl) ?_
  refine lv_iconst (v := (0 : Int32)) hx hb dX7_laySides_6 (by decide) ?_
  refine va_put (D := (dC, dI)) (ci := 8) (v := .int (0 : Int32)) (ty := .int) (C := RX7) (T := TX7) (N := 34) hx hb ht inX7 tyX7 tyX7_ok nmX7 hown hK hP hD hS 0 rfl rfl 23 (by decide) (ht _ kw_49) (fun _ h9 => h9) rfl (by decide +kernel) rfl rfl (Nat.le_of_ble_eq_true rfl) dX7_laySides_7 (fun H locs hP hD hS => ?_)
  obtain ⟨u2, eu2, hm⟩ := bnd_ex hm
  have hP : va_P (dC, dI) vwCl ([wM cI cJ aM jM u2] : List va_W).flatten H := by rw [eu2]; exact hP
  have hD : va_D A ([wM cI cJ aM jM u2] : List va_W).flatten := by rw [eu2]; exact hD
  refine lv_iconst (v := (0 : Int32)) hx hb dX7_laySides_10 (by decide) ?_
  refine lv_istore (lv' := [(4, .int (0 : Int32)), (0, .ref aM), (1, .int p1), (2, .int p2), (3, .int p3)]) hx hb dX7_laySides_11 hl (by decide) rfl (fun ls hl => ?_)
  obtain ⟨K93_7, eK93_7, hm⟩ := bnd_ex hm
  have X93_7 : ∀ (x5 : Int32) (u6 : OS) (H : Heap) (locs : List Loc) (ls : Array Slot), K93_7 x5 u6 = some o → va_P (dC, dI) vwCl ([wM cI cJ aM jM u6] : List va_W).flatten H → va_D A ([wM cI cJ aM jM u6] : List va_W).flatten → va_S A s.heap H locs → lv_has ls 5 [(0, .ref aM), (1, .int p1), (2, .int p2), (3, .int p3), (4, .int x5)] → W p l e ({ frames := 0, cells := 0, slots := 0, locals := 0 } : Room) s m ([.ref aM, .int p1, .int p2, .int p3] : List Value).toArray below meth c H locs 0 0 Q (F0 m 93 ls []) := by
    intro x5 u6 H locs ls hm hP hD hS hl
    have hm := ap2 eK93_7 hm
    rw [← hQ]
    exact W.vret hx hb hr (fun t ht1 hW => ⟨⟨u6, rfl, hm, by rw [ht1]; exact hP, hD⟩, hS.F ht1⟩) hS.2.2 dX7_laySides_93
  have LP13 : ∀ (n13 : Nat) (x3 : Int32) (u4 : OS) (H : Heap) (locs : List Loc) (ls : Array Slot), f_X7_laySides_L13 p1 p2 p3 n13 K93_7 x3 u4 = some o → va_P (dC, dI) vwCl ([wM cI cJ aM jM u4] : List va_W).flatten H → va_D A ([wM cI cJ aM jM u4] : List va_W).flatten → va_S A s.heap H locs → lv_has ls 5 [(0, .ref aM), (1, .int p1), (2, .int p2), (3, .int p3), (4, .int x3)] → W p l e ({ frames := 0, cells := 0, slots := 0, locals := 0 } : Room) s m ([.ref aM, .int p1, .int p2, .int p3] : List Value).toArray below meth c H locs 0 0 Q (F0 m 13 ls []) := by
    intro n13
    induction n13 with
    | zero => intro x3 u4 H locs ls hm; exact nomatch (show (none : Option _) = some _ from hm)
    | succ n13 ih13 =>
      intro x3 u4 H locs ls hm hP hD hS hl
      unfold f_X7_laySides_L13 at hm
      refine lv_iload hx hb dX7_laySides_13 (lv_at hl 4 rfl) ?_
      refine lv_bipush (v := (32 : Int32)) hx hb dX7_laySides_15 (by decide) ?_
      refine lv_icmp_ge (tgt := 93) hx hb dX7_laySides_17 (by decide) (fun c8 => ?_) (fun c8 => ?_)
      · have hm := ite_t c8 hm
        exact X93_7 x3 u4 _ _ _ hm hP hD hS (lv_sub hl [0, 1, 2, 3, 4] rfl)
      · have hm := ite_f c8 hm
        refine lv_iload hx hb dX7_laySides_20 (lv_at hl 4 rfl) ?_
        refine lv_iconst (v := (5 : Int32)) hx hb dX7_laySides_22 (by decide) ?_
        refine lv_iload_n hx hb dX7_laySides_23 rfl (lv_at hl 3 rfl) ?_
        refine lv_isub hx hb dX7_laySides_24 ?_
        refine lv_ishr hx hb dX7_laySides_25 ?_
        refine lv_iload_n hx hb dX7_laySides_26 rfl (lv_at hl 2 rfl) ?_
        refine lv_icmp_ne (tgt := 87) hx hb dX7_laySides_27 (by decide) (fun c9 => ?_) (fun c9 => ?_)
        · have hm := ite_f c9 hm
          obtain ⟨x10, ex10, hm⟩ := bnd_ex hm
          refine lv_iinc (v := x10) (lv' := [(4, .int x10), (0, .ref aM), (1, .int p1), (2, .int p2), (3, .int p3)]) hx hb dX7_laySides_87 hl (k := 4) rfl (by rw [ex10]; exact congrArg _ (by decide)) (by decide) rfl (fun ls hl => ?_)
          refine lv_goto (tgt := 13) hx hb dX7_laySides_90 (by decide) ?_
          exact ih13 x10 u4 _ _ _ hm hP hD hS (lv_sub hl [1, 2, 3, 4, 0] rfl)
        · have hm := ite_t c9 hm
          refine lv_aload_n hx hb dX7_laySides_30 rfl (lv_at hl 0 rfl) ?_
          refine lv_dup hx hb dX7_laySides_31 rfl ?_
          refine va_get (D := (dC, dI)) (ci := 8) (v := .int (u4.1 22)) (C := RX7) (T := TX7) (N := 34) hx hb ht inX7 hown hK hP 0 rfl rfl 22 (by decide) (ht _ kw_48) (fun _ h9 => h9) rfl dX7_laySides_32 ?_
          refine lv_aload_n hx hb dX7_laySides_35 rfl (lv_at hl 0 rfl) ?_
          refine va_get (D := (dC, dI)) (ci := 8) (v := .ref (jM 8)) (C := RX7) (T := TX7) (N := 34) hx hb ht inX7 hown hK hP 0 rfl rfl 8 (by decide) (ht _ kw_18) (fun _ h9 => h9) rfl dX7_laySides_36 ?_
          refine lv_bipush (v := (32 : Int32)) hx hb dX7_laySides_39 (by decide) ?_
          refine lv_iload_n hx hb dX7_laySides_41 rfl (lv_at hl 1 rfl) ?_
          refine lv_imul hx hb dX7_laySides_42 ?_
          refine lv_iload hx hb dX7_laySides_43 (lv_at hl 4 rfl) ?_
          refine lv_iadd hx hb dX7_laySides_45 ?_
          obtain ⟨g11, hm⟩ := gdi_of hm
          refine va_iald hx hb hK hP 3 0 rfl rfl g11 dX7_laySides_46 ?_
          refine lv_iadd hx hb dX7_laySides_47 ?_
          refine va_put (D := (dC, dI)) (ci := 8) (v := .int ((u4.1 22) + (u4.2.1 8 ((((32 : Int32) * p1) + x3)).toNatClampNeg))) (ty := .int) (C := RX7) (T := TX7) (N := 34) hx hb ht inX7 tyX7 tyX7_ok nmX7 hown hK hP hD hS 0 rfl rfl 22 (by decide) (ht _ kw_48) (fun _ h9 => h9) rfl (by decide +kernel) rfl rfl (Nat.le_of_ble_eq_true rfl) dX7_laySides_48 (fun H locs hP hD hS => ?_)
          obtain ⟨u12, eu12, hm⟩ := bnd_ex hm
          have hP : va_P (dC, dI) vwCl ([wM cI cJ aM jM u12] : List va_W).flatten H := by rw [eu12]; exact hP
          have hD : va_D A ([wM cI cJ aM jM u12] : List va_W).flatten := by rw [eu12]; exact hD
          refine lv_aload_n hx hb dX7_laySides_51 rfl (lv_at hl 0 rfl) ?_
          refine lv_dup hx hb dX7_laySides_52 rfl ?_
          refine va_get (D := (dC, dI)) (ci := 8) (v := .int (u12.1 23)) (C := RX7) (T := TX7) (N := 34) hx hb ht inX7 hown hK hP 0 rfl rfl 23 (by decide) (ht _ kw_49) (fun _ h9 => h9) rfl dX7_laySides_53 ?_
          refine lv_iload hx hb dX7_laySides_56 (lv_at hl 4 rfl) ?_
          refine lv_iconst (v := (4 : Int32)) hx hb dX7_laySides_58 (by decide) ?_
          refine lv_iload_n hx hb dX7_laySides_59 rfl (lv_at hl 3 rfl) ?_
          refine lv_isub hx hb dX7_laySides_60 ?_
          refine lv_ishr hx hb dX7_laySides_61 ?_
          refine lv_iconst (v := (1 : Int32)) hx hb dX7_laySides_62 (by decide) ?_
          refine lv_iand hx hb dX7_laySides_63 ?_
          refine lv_if_ne (tgt := 82) hx hb dX7_laySides_64 (by decide) (fun c13 => ?_) (fun c13 => ?_)
          · have hm := ite_f c13 hm
            refine lv_iconst (v := (0 : Int32)) hx hb dX7_laySides_82 (by decide) ?_
            refine lv_iadd hx hb dX7_laySides_83 ?_
            refine va_put (D := (dC, dI)) (ci := 8) (v := .int ((u12.1 23) + (0 : Int32))) (ty := .int) (C := RX7) (T := TX7) (N := 34) hx hb ht inX7 tyX7 tyX7_ok nmX7 hown hK hP hD hS 0 rfl rfl 23 (by decide) (ht _ kw_49) (fun _ h9 => h9) rfl (by decide +kernel) rfl rfl (Nat.le_of_ble_eq_true rfl) dX7_laySides_84 (fun H locs hP hD hS => ?_)
            obtain ⟨u14, eu14, hm⟩ := bnd_ex hm
            have hP : va_P (dC, dI) vwCl ([wM cI cJ aM jM u14] : List va_W).flatten H := by rw [eu14]; exact hP
            have hD : va_D A ([wM cI cJ aM jM u14] : List va_W).flatten := by rw [eu14]; exact hD
            obtain ⟨x15, ex15, hm⟩ := bnd_ex hm
            refine lv_iinc (v := x15) (lv' := [(4, .int x15), (0, .ref aM), (1, .int p1), (2, .int p2), (3, .int p3)]) hx hb dX7_laySides_87 hl (k := 4) rfl (by rw [ex15]; exact congrArg _ (by decide)) (by decide) rfl (fun ls hl => ?_)
            refine lv_goto (tgt := 13) hx hb dX7_laySides_90 (by decide) ?_
            exact ih13 x15 u14 _ _ _ hm hP hD hS (lv_sub hl [1, 2, 3, 4, 0] rfl)
          · have hm := ite_t c13 hm
            refine lv_aload_n hx hb dX7_laySides_67 rfl (lv_at hl 0 rfl) ?_
            refine va_get (D := (dC, dI)) (ci := 8) (v := .ref (jM 8)) (C := RX7) (T := TX7) (N := 34) hx hb ht inX7 hown hK hP 0 rfl rfl 8 (by decide) (ht _ kw_18) (fun _ h9 => h9) rfl dX7_laySides_68 ?_
            refine lv_bipush (v := (32 : Int32)) hx hb dX7_laySides_71 (by decide) ?_
            refine lv_iload_n hx hb dX7_laySides_73 rfl (lv_at hl 1 rfl) ?_
            refine lv_imul hx hb dX7_laySides_74 ?_
            refine lv_iload hx hb dX7_laySides_75 (lv_at hl 4 rfl) ?_
            refine lv_iadd hx hb dX7_laySides_77 ?_
            obtain ⟨g16, hm⟩ := gdi_of hm
            refine va_iald hx hb hK hP 3 0 rfl rfl g16 dX7_laySides_78 ?_
            refine lv_goto (tgt := 83) hx hb dX7_laySides_79 (by decide) ?_
            refine lv_iadd hx hb dX7_laySides_83 ?_
            refine va_put (D := (dC, dI)) (ci := 8) (v := .int ((u12.1 23) + (u12.2.1 8 ((((32 : Int32) * p1) + x3)).toNatClampNeg))) (ty := .int) (C := RX7) (T := TX7) (N := 34) hx hb ht inX7 tyX7 tyX7_ok nmX7 hown hK hP hD hS 0 rfl rfl 23 (by decide) (ht _ kw_49) (fun _ h9 => h9) rfl (by decide +kernel) rfl rfl (Nat.le_of_ble_eq_true rfl) dX7_laySides_84 (fun H locs hP hD hS => ?_)
            obtain ⟨u17, eu17, hm⟩ := bnd_ex hm
            have hP : va_P (dC, dI) vwCl ([wM cI cJ aM jM u17] : List va_W).flatten H := by rw [eu17]; exact hP
            have hD : va_D A ([wM cI cJ aM jM u17] : List va_W).flatten := by rw [eu17]; exact hD
            obtain ⟨x18, ex18, hm⟩ := bnd_ex hm
            refine lv_iinc (v := x18) (lv' := [(4, .int x18), (0, .ref aM), (1, .int p1), (2, .int p2), (3, .int p3)]) hx hb dX7_laySides_87 hl (k := 4) rfl (by rw [ex18]; exact congrArg _ (by decide)) (by decide) rfl (fun ls hl => ?_)
            refine lv_goto (tgt := 13) hx hb dX7_laySides_90 (by decide) ?_
            exact ih13 x18 u17 _ _ _ hm hP hD hS (lv_sub hl [1, 2, 3, 4, 0] rfl)
  exact LP13 FU (0 : Int32) u2 _ _ _ hm hP hD hS (lv_sub hl [1, 2, 3, 4, 0] rfl)

def f_X7_sideChance (uM : OS) (p1 : Int32) : Option (Int32) :=
  gdz (uM.1 22) <|
  bnd ((((uM.1 23) * p1) + ((uM.1 22) / (2 : Int32))) / (uM.1 22)) fun x2 =>
  if (1 : Int32) ≤ x2 then (
  if x2 ≤ (p1 - (1 : Int32)) then (
  some x2) else (
  some ((p1 - (1 : Int32))))) else (
  some (1 : Int32))

set_option maxHeartbeats 4000000 in
set_option maxRecDepth 100000 in
theorem c_X7_sideChance (l : Launch) (dC : Nat → ClassId) (dI : Nat → Nat → Nat) (cI cJ : ClassId) (aM : Nat) (jM : Nat → Nat) (sz : Nat) (uM : OS) (p1 : Int32) (o : Int32) (hm : f_X7_sideChance uM p1 = some o) : Met l yX7_sideChance (wq yX7_sideChance cX7_sideChance 3 (some .int)) ({ frames := 0, cells := 0, slots := 0, locals := 0 } : Room) (va_Pc [.ref aM, .int p1] (pcW dC dI cI cJ sz ([wM cI cJ aM jM uM] : List va_W).flatten)) (va_Qi (S := Unit) (fun r u => some r = some o) (fun (u : Unit) t => va_P (dC, dI) vwCl ([wM cI cJ aM jM uM] : List va_W).flatten t.heap ∧ va_D (va_A ([wM cI cJ aM jM uM] : List va_W).flatten sz) ([wM cI cJ aM jM uM] : List va_W).flatten) (va_A ([wM cI cJ aM jM uM] : List va_W).flatten sz)) 0 0 (va_A ([wM cI cJ aM jM uM] : List va_W).flatten sz) := by
  refine Met.ofW (cc := cX7_sideChance) (maxL := 3) (ret := (some .int)) (by decide) rfl ?_
  intro p e s m args below meth c s₁ B hml hv
  obtain ⟨rfl, hsz, hP, hK, hD0, hN⟩ := hv
  have hx := B.exec
  have hb := B.bytes
  have hr := B.returns
  have ht : ∀ w ∈ lw_good, w.before _ s = true := fun w h => atoms_spec (ws := wq yX7_sideChance cX7_sideChance 3 (some .int)) B.pre w (wq_mem h)
  have hown : s.vm.findClass RX7 = some m.cls := findClass_of_methodNamed B.named
  have hlocks := B.notSynchronized
  subst hsz
  have hD := hD0.self (sz := s.heap.size)
  generalize hAe : va_A ([wM cI cJ aM jM uM] : List va_W).flatten s.heap.size = A at hD ⊢
  have hA : ∀ q : Nat, s.heap.size ≤ q → A q := fun q h => by rw [← hAe]; exact Or.inr h
  have hS : va_S A s.heap s.heap [] := va_S.rf
  have hl := lv_entry ([.ref aM, .int p1]) (n := 3) (Nat.le_of_ble_eq_true rfl)
  rw [lg_entry_eq]
  generalize (lg_sl ([.ref aM, .int p1]) ++ List.replicate (3 - (lg_sl ([.ref aM, .int p1])).length) Slot.unset).toArray = ls at hl ⊢
  have hl : lv_has ls 3 [(0, .ref aM), (1, .int p1)] := hl
  generalize hQ : MQ below _ _ s _ _ _ = Q
  generalize hH : s.heap = H at hP ⊢
  have hS : va_S A s.heap H [] := by rw [← hH]; exact va_S.rf
  show W p l e ({ frames := 0, cells := 0, slots := 0, locals := 0 } : Room) s m ([.ref aM, .int p1] : List Value).toArray below meth c H [] 0 0 Q (F0 m 0 ls [])
  unfold f_X7_sideChance at hm
  refine lv_aload_n hx hb dX7_sideChance_0 rfl (lv_at hl 0 rfl) ?_
  refine va_get (D := (dC, dI)) (ci := 8) (v := .int (uM.1 23)) (C := RX7) (T := TX7) (N := 34) hx hb ht inX7 hown hK hP 0 rfl rfl 23 (by decide) (ht _ kw_49) (fun _ h9 => h9) rfl dX7_sideChance_1 ?_
  refine lv_iload_n hx hb dX7_sideChance_4 rfl (lv_at hl 1 rfl) ?_
  refine lv_imul hx hb dX7_sideChance_5 ?_
  refine lv_aload_n hx hb dX7_sideChance_6 rfl (lv_at hl 0 rfl) ?_
  refine va_get (D := (dC, dI)) (ci := 8) (v := .int (uM.1 22)) (C := RX7) (T := TX7) (N := 34) hx hb ht inX7 hown hK hP 0 rfl rfl 22 (by decide) (ht _ kw_48) (fun _ h9 => h9) rfl dX7_sideChance_7 ?_
  refine lv_iconst (v := (2 : Int32)) hx hb dX7_sideChance_10 (by decide) ?_
  refine lv_idiv hx hb dX7_sideChance_11 (by decide) ?_
  refine lv_iadd hx hb dX7_sideChance_12 ?_
  refine lv_aload_n hx hb dX7_sideChance_13 rfl (lv_at hl 0 rfl) ?_
  refine va_get (D := (dC, dI)) (ci := 8) (v := .int (uM.1 22)) (C := RX7) (T := TX7) (N := 34) hx hb ht inX7 hown hK hP 0 rfl rfl 22 (by decide) (ht _ kw_48) (fun _ h9 => h9) rfl dX7_sideChance_14 ?_
  obtain ⟨g1, hm⟩ := gdz_of hm
  refine lv_idiv hx hb dX7_sideChance_17 g1 ?_
  refine lv_topi (fun x2 ex2 => ?_)
  have hm := bnd_nm ex2 hm
  refine lv_istore_n (lv' := [(2, .int x2), (0, .ref aM), (1, .int p1)]) hx hb dX7_sideChance_18 rfl hl (by decide) rfl (fun ls hl => ?_)
  refine lv_iload_n hx hb dX7_sideChance_19 rfl (lv_at hl 0 rfl) ?_
  refine lv_iconst (v := (1 : Int32)) hx hb dX7_sideChance_20 (by decide) ?_
  refine lv_icmp_ge (tgt := 28) hx hb dX7_sideChance_21 (by decide) (fun c3 => ?_) (fun c3 => ?_)
  · have hm := ite_t c3 hm
    refine lv_iload_n hx hb dX7_sideChance_28 rfl (lv_at hl 0 rfl) ?_
    refine lv_iload_n hx hb dX7_sideChance_29 rfl (lv_at hl 2 rfl) ?_
    refine lv_iconst (v := (1 : Int32)) hx hb dX7_sideChance_30 (by decide) ?_
    refine lv_isub hx hb dX7_sideChance_31 ?_
    refine lv_icmp_le (tgt := 41) hx hb dX7_sideChance_32 (by decide) (fun c4 => ?_) (fun c4 => ?_)
    · have hm := ite_t c4 hm
      refine lv_iload_n hx hb dX7_sideChance_41 rfl (lv_at hl 0 rfl) ?_
      rw [← hQ]
      exact W.iret (v := x2) hx hb hr (fun t ht1 hW => ⟨⟨_, (), rfl, hm, by rw [ht1]; exact hP, hD⟩, hS.F ht1⟩) hS.2.2 dX7_sideChance_42
    · have hm := ite_f c4 hm
      refine lv_iload_n hx hb dX7_sideChance_35 rfl (lv_at hl 2 rfl) ?_
      refine lv_iconst (v := (1 : Int32)) hx hb dX7_sideChance_36 (by decide) ?_
      refine lv_isub hx hb dX7_sideChance_37 ?_
      refine lv_goto (tgt := 42) hx hb dX7_sideChance_38 (by decide) ?_
      rw [← hQ]
      exact W.iret (v := (p1 - (1 : Int32))) hx hb hr (fun t ht1 hW => ⟨⟨_, (), rfl, hm, by rw [ht1]; exact hP, hD⟩, hS.F ht1⟩) hS.2.2 dX7_sideChance_42
  · have hm := ite_f c3 hm
    refine lv_iconst (v := (1 : Int32)) hx hb dX7_sideChance_24 (by decide) ?_
    refine lv_goto (tgt := 42) hx hb dX7_sideChance_25 (by decide) ?_
    rw [← hQ]
    exact W.iret (v := (1 : Int32)) hx hb hr (fun t ht1 hW => ⟨⟨_, (), rfl, hm, by rw [ht1]; exact hP, hD⟩, hS.F ht1⟩) hS.2.2 dX7_sideChance_42

def f_X7_writeSides_L2 (p1 : Int32) (p2 : Int32) : Nat → (Int32 → OS → Option (OS)) → Int32 → OS → Option (OS)
  | 0, _, _, _ => none
  | n2 + 1, K90_5, x1, u2 =>
    if x1 < (0 : Int32) then (
    K90_5 x1 u2) else (
    oC1 (f_X7_laySides u2 (0 : Int32) (p2 >>> (((5 : Int32) - x1) &&& (31 : Int32))) x1) fun u7 =>
    if (u7.1 23) ≤ (0 : Int32) then (
    bnd (x1 + (-1 : Int32)) fun x10 =>
    f_X7_writeSides_L2 p1 p2 n2 K90_5 x10 u7) else (
    if (u7.1 22) ≤ (u7.1 23) then (
    bnd (x1 + (-1 : Int32)) fun x12 =>
    f_X7_writeSides_L2 p1 p2 n2 K90_5 x12 u7) else (
    oC1 (f_X7_sideChance u7 ((1 : Int32) <<< ((u7.1 0) &&& (31 : Int32)))) fun r13 =>
    if ((p2 >>> (((4 : Int32) - x1) &&& (31 : Int32))) &&& (1 : Int32)) = (0 : Int32) then (
    oC1 (f_X7_writeBytes u7 p1 r13 (0 : Int32)) fun u19 =>
    bnd (x1 + (-1 : Int32)) fun x21 =>
    f_X7_writeSides_L2 p1 p2 n2 K90_5 x21 u19) else (
    oC1 (f_X7_writeBytes u7 p1 (((1 : Int32) <<< ((u7.1 0) &&& (31 : Int32))) - r13) r13) fun u16 =>
    bnd (x1 + (-1 : Int32)) fun x18 =>
    f_X7_writeSides_L2 p1 p2 n2 K90_5 x18 u16))))

def f_X7_writeSides (uM : OS) (p1 : Int32) (p2 : Int32) : Option (OS) :=
  bnd (fun (x3 : Int32) (u4 : OS) =>
  some u4) fun K90_5 =>
  f_X7_writeSides_L2 p1 p2 FU K90_5 (4 : Int32) uM

set_option maxHeartbeats 4000000 in
set_option maxRecDepth 100000 in
theorem c_X7_writeSides (l : Launch) (dC : Nat → ClassId) (dI : Nat → Nat → Nat) (cI cJ : ClassId) (aM : Nat) (jM : Nat → Nat) (sz : Nat) (uM : OS) (p1 : Int32) (p2 : Int32) (o : OS) (hm : f_X7_writeSides uM p1 p2 = some o) : Met l yX7_writeSides (wq yX7_writeSides cX7_writeSides 5 none) ({ frames := 1, cells := 0, slots := 0, locals := 25 } : Room) (va_Pc [.ref aM, .int p1, .int p2] (pcW dC dI cI cJ sz ([wM cI cJ aM jM uM] : List va_W).flatten)) (va_Qv (S := OS) (fun u => some u = some o) (fun (u : OS) t => va_P (dC, dI) vwCl ([wM cI cJ aM jM u] : List va_W).flatten t.heap ∧ va_D (va_A ([wM cI cJ aM jM uM] : List va_W).flatten sz) ([wM cI cJ aM jM u] : List va_W).flatten) (va_A ([wM cI cJ aM jM uM] : List va_W).flatten sz)) 0 0 (va_A ([wM cI cJ aM jM uM] : List va_W).flatten sz) := by
  refine Met.ofW (cc := cX7_writeSides) (maxL := 5) (ret := none) (by decide) rfl ?_
  intro p e s m args below meth c s₁ B hml hv
  obtain ⟨rfl, hsz, hP, hK, hD0, hN⟩ := hv
  have hx := B.exec
  have hb := B.bytes
  have hr := B.returns
  have ht : ∀ w ∈ lw_good, w.before _ s = true := fun w h => atoms_spec (ws := wq yX7_writeSides cX7_writeSides 5 none) B.pre w (wq_mem h)
  have hown : s.vm.findClass RX7 = some m.cls := findClass_of_methodNamed B.named
  have hlocks := B.notSynchronized
  subst hsz
  have hD := hD0.self (sz := s.heap.size)
  generalize hAe : va_A ([wM cI cJ aM jM uM] : List va_W).flatten s.heap.size = A at hD ⊢
  have hA : ∀ q : Nat, s.heap.size ≤ q → A q := fun q h => by rw [← hAe]; exact Or.inr h
  have hS : va_S A s.heap s.heap [] := va_S.rf
  have hl := lv_entry ([.ref aM, .int p1, .int p2]) (n := 5) (Nat.le_of_ble_eq_true rfl)
  rw [lg_entry_eq]
  generalize (lg_sl ([.ref aM, .int p1, .int p2]) ++ List.replicate (5 - (lg_sl ([.ref aM, .int p1, .int p2])).length) Slot.unset).toArray = ls at hl ⊢
  have hl : lv_has ls 5 [(0, .ref aM), (1, .int p1), (2, .int p2)] := hl
  generalize hQ : MQ below _ _ s _ _ _ = Q
  generalize hH : s.heap = H at hP ⊢
  have hS : va_S A s.heap H [] := by rw [← hH]; exact va_S.rf
  show W p l e ({ frames := 1, cells := 0, slots := 0, locals := 25 } : Room) s m ([.ref aM, .int p1, .int p2] : List Value).toArray below meth c H [] 0 0 Q (F0 m 0 ls [])
  unfold f_X7_writeSides at hm
  refine lv_iconst (v := (4 : Int32)) hx hb dX7_writeSides_0 (by decide) ?_
  refine lv_istore_n (lv' := [(3, .int (4 : Int32)), (0, .ref aM), (1, .int p1), (2, .int p2)]) hx hb dX7_writeSides_1 rfl hl (by decide) rfl (fun ls hl => ?_)
  obtain ⟨K90_5, eK90_5, hm⟩ := bnd_ex hm
  have X90_5 : ∀ (x3 : Int32) (u4 : OS) (H : Heap) (locs : List Loc) (ls : Array Slot), K90_5 x3 u4 = some o → va_P (dC, dI) vwCl ([wM cI cJ aM jM u4] : List va_W).flatten H → va_D A ([wM cI cJ aM jM u4] : List va_W).flatten → va_S A s.heap H locs → lv_has ls 5 [(0, .ref aM), (1, .int p1), (2, .int p2), (3, .int x3)] → W p l e ({ frames := 1, cells := 0, slots := 0, locals := 25 } : Room) s m ([.ref aM, .int p1, .int p2] : List Value).toArray below meth c H locs 0 0 Q (F0 m 90 ls []) := by
    intro x3 u4 H locs ls hm hP hD hS hl
    have hm := ap2 eK90_5 hm
    rw [← hQ]
    exact W.vret hx hb hr (fun t ht1 hW => ⟨⟨u4, rfl, hm, by rw [ht1]; exact hP, hD⟩, hS.F ht1⟩) hS.2.2 dX7_writeSides_90
  have LP2 : ∀ (n2 : Nat) (x1 : Int32) (u2 : OS) (H : Heap) (locs : List Loc) (ls : Array Slot), f_X7_writeSides_L2 p1 p2 n2 K90_5 x1 u2 = some o → va_P (dC, dI) vwCl ([wM cI cJ aM jM u2] : List va_W).flatten H → va_D A ([wM cI cJ aM jM u2] : List va_W).flatten → va_S A s.heap H locs → lv_has ls 5 [(0, .ref aM), (1, .int p1), (2, .int p2), (3, .int x1)] → W p l e ({ frames := 1, cells := 0, slots := 0, locals := 25 } : Room) s m ([.ref aM, .int p1, .int p2] : List Value).toArray below meth c H locs 0 0 Q (F0 m 2 ls []) := by
    intro n2
    induction n2 with
    | zero => intro x1 u2 H locs ls hm; exact nomatch (show (none : Option _) = some _ from hm)
    | succ n2 ih2 =>
      intro x1 u2 H locs ls hm hP hD hS hl
      unfold f_X7_writeSides_L2 at hm
      refine lv_iload_n hx hb dX7_writeSides_2 rfl (lv_at hl 3 rfl) ?_
      refine lv_if_lt (tgt := 90) hx hb dX7_writeSides_3 (by decide) (fun c6 => ?_) (fun c6 => ?_)
      · have hm := ite_t c6 hm
        exact X90_5 x1 u2 _ _ _ hm hP hD hS (lv_sub hl [0, 1, 2, 3] rfl)
      · have hm := ite_f c6 hm
        refine lv_aload_n hx hb dX7_writeSides_6 rfl (lv_at hl 0 rfl) ?_
        refine lv_iconst (v := (0 : Int32)) hx hb dX7_writeSides_7 (by decide) ?_
        refine lv_iload_n hx hb dX7_writeSides_8 rfl (lv_at hl 2 rfl) ?_
        refine lv_iconst (v := (5 : Int32)) hx hb dX7_writeSides_9 (by decide) ?_
        refine lv_iload_n hx hb dX7_writeSides_10 rfl (lv_at hl 3 rfl) ?_
        refine lv_isub hx hb dX7_writeSides_11 ?_
        refine lv_ishr hx hb dX7_writeSides_12 ?_
        refine lv_iload_n hx hb dX7_writeSides_13 rfl (lv_at hl 3 rfl) ?_
        have hPc : va_P (dC, dI) vwCl ([wM cI cJ aM jM u2] : List va_W).flatten _ := hP
        have hDc : va_D A ([wM cI cJ aM jM u2] : List va_W).flatten := hD
        have hFc := va_freeF (fc := ([wM cI cJ aM jM u2] : List va_W)) hD hS hA [0] rfl
        obtain ⟨u7o, e8, hm⟩ := oC1_of hm
        refine va_callv (va_runV (As := [.int (0 : Int32), .int (p2 >>> (((5 : Int32) - x1) &&& (31 : Int32))), .int x1]) (rest := []) ⟨hx, hb, hml, hown, ht⟩ (c_X7_laySides l dC dI cI cJ aM jM H.size u2 (0 : Int32) (p2 >>> (((5 : Int32) - x1) &&& (31 : Int32))) x1 u7o e8) (cwV 3 ht (gdV kw_53 kw_51 kw_52 kw_7 kw_50) rfl rfl rfl ⟨rfl, nd_X7_laySides⟩ ⟨Nat.le_of_ble_eq_true rfl, Nat.le_of_ble_eq_true rfl⟩) ⟨pcW_blind, va_recv hK hPc (ci := 8) (q0 := 0) rfl rfl, pcW_pre hPc hK hDc hN⟩ rfl rfl hl.1 rfl (lv_room (Nat.le_of_ble_eq_true rfl)) dX7_writeSides_14 ⟨Nat.zero_le _, Nat.zero_le _⟩) hS (fun q _ z => hFc q z) hFc (fun uu t H1 locs ht1 hvm hw hB hz1 hk1 hS => ?_)
        obtain ⟨u7, rfl⟩ : ∃ z, z = uu := ⟨_, rfl⟩
        obtain ⟨hP1, hD1⟩ := hB
        rw [ht1] at hP1
        obtain rfl : u7 = u7o := Option.some.inj hw
        have hP : va_P (dC, dI) vwCl ([wM cI cJ aM jM u7] : List va_W).flatten H1 := hP1
        have hD : va_D A ([wM cI cJ aM jM u7] : List va_W).flatten := hD1.weaken (fun _ q _ z => hFc q.1 z)
        generalize H1 = H at hP hS ⊢
        refine lv_aload_n hx hb dX7_writeSides_17 rfl (lv_at hl 0 rfl) ?_
        refine va_get (D := (dC, dI)) (ci := 8) (v := .int (u7.1 23)) (C := RX7) (T := TX7) (N := 34) hx hb ht inX7 hown hK hP 0 rfl rfl 23 (by decide) (ht _ kw_49) (fun _ h9 => h9) rfl dX7_writeSides_18 ?_
        refine lv_if_le (tgt := 84) hx hb dX7_writeSides_21 (by decide) (fun c9 => ?_) (fun c9 => ?_)
        · have hm := ite_t c9 hm
          obtain ⟨x10, ex10, hm⟩ := bnd_ex hm
          refine lv_iinc (v := x10) (lv' := [(3, .int x10), (0, .ref aM), (1, .int p1), (2, .int p2)]) hx hb dX7_writeSides_84 hl (k := 3) rfl (by rw [ex10]; exact congrArg _ (by decide)) (by decide) rfl (fun ls hl => ?_)
          refine lv_goto (tgt := 2) hx hb dX7_writeSides_87 (by decide) ?_
          exact ih2 x10 u7 _ _ _ hm hP hD hS (lv_sub hl [1, 2, 3, 0] rfl)
        · have hm := ite_f c9 hm
          refine lv_aload_n hx hb dX7_writeSides_24 rfl (lv_at hl 0 rfl) ?_
          refine va_get (D := (dC, dI)) (ci := 8) (v := .int (u7.1 23)) (C := RX7) (T := TX7) (N := 34) hx hb ht inX7 hown hK hP 0 rfl rfl 23 (by decide) (ht _ kw_49) (fun _ h9 => h9) rfl dX7_writeSides_25 ?_
          refine lv_aload_n hx hb dX7_writeSides_28 rfl (lv_at hl 0 rfl) ?_
          refine va_get (D := (dC, dI)) (ci := 8) (v := .int (u7.1 22)) (C := RX7) (T := TX7) (N := 34) hx hb ht inX7 hown hK hP 0 rfl rfl 22 (by decide) (ht _ kw_48) (fun _ h9 => h9) rfl dX7_writeSides_29 ?_
          refine lv_icmp_ge (tgt := 84) hx hb dX7_writeSides_32 (by decide) (fun c11 => ?_) (fun c11 => ?_)
          · have hm := ite_t c11 hm
            obtain ⟨x12, ex12, hm⟩ := bnd_ex hm
            refine lv_iinc (v := x12) (lv' := [(3, .int x12), (0, .ref aM), (1, .int p1), (2, .int p2)]) hx hb dX7_writeSides_84 hl (k := 3) rfl (by rw [ex12]; exact congrArg _ (by decide)) (by decide) rfl (fun ls hl => ?_)
            refine lv_goto (tgt := 2) hx hb dX7_writeSides_87 (by decide) ?_
            exact ih2 x12 u7 _ _ _ hm hP hD hS (lv_sub hl [1, 2, 3, 0] rfl)
          · have hm := ite_f c11 hm
            refine lv_aload_n hx hb dX7_writeSides_35 rfl (lv_at hl 0 rfl) ?_
            refine lv_iconst (v := (1 : Int32)) hx hb dX7_writeSides_36 (by decide) ?_
            refine lv_aload_n hx hb dX7_writeSides_37 rfl (lv_at hl 0 rfl) ?_
            refine va_get (D := (dC, dI)) (ci := 8) (v := .int (u7.1 0)) (C := RX7) (T := TX7) (N := 34) hx hb ht inX7 hown hK hP 0 rfl rfl 0 (by decide) (ht _ kw_14) (fun _ h9 => h9) rfl dX7_writeSides_38 ?_
            refine lv_ishl hx hb dX7_writeSides_41 ?_
            have hPc : va_P (dC, dI) vwCl ([wM cI cJ aM jM u7] : List va_W).flatten _ := hP
            have hDc : va_D A ([wM cI cJ aM jM u7] : List va_W).flatten := hD
            have hFc := va_freeF (fc := ([wM cI cJ aM jM u7] : List va_W)) hD hS hA [0] rfl
            obtain ⟨r13o, e14, hm⟩ := oC1_of hm
            refine va_calli (va_runV (As := [.int ((1 : Int32) <<< ((u7.1 0) &&& (31 : Int32)))]) (rest := []) ⟨hx, hb, hml, hown, ht⟩ (c_X7_sideChance l dC dI cI cJ aM jM H.size u7 ((1 : Int32) <<< ((u7.1 0) &&& (31 : Int32))) r13o e14) (cwV 1 ht (gdV kw_57 kw_55 kw_56 kw_7 kw_54) rfl rfl rfl ⟨rfl, nd_X7_sideChance⟩ ⟨Nat.le_of_ble_eq_true rfl, Nat.le_of_ble_eq_true rfl⟩) ⟨pcW_blind, va_recv hK hPc (ci := 8) (q0 := 0) rfl rfl, pcW_pre hPc hK hDc hN⟩ rfl rfl hl.1 rfl (lv_room (Nat.le_of_ble_eq_true rfl)) dX7_writeSides_42 ⟨Nat.zero_le _, Nat.zero_le _⟩) hS (fun q _ z => hFc q z) hFc (fun r13 uu t H1 locs ht1 hvm hw hB hz1 hk1 hS => ?_)
            obtain ⟨⟩ := uu
            obtain ⟨hP1, hD1⟩ := hB
            rw [ht1] at hP1
            obtain rfl : r13 = r13o := Option.some.inj hw
            have hP : va_P (dC, dI) vwCl ([wM cI cJ aM jM u7] : List va_W).flatten H1 := hP1
            have hD : va_D A ([wM cI cJ aM jM u7] : List va_W).flatten := hD1.weaken (fun _ q _ z => hFc q.1 z)
            generalize H1 = H at hP hS ⊢
            refine lv_istore (lv' := [(4, .int r13), (0, .ref aM), (1, .int p1), (2, .int p2), (3, .int x1)]) hx hb dX7_writeSides_45 hl (by decide) rfl (fun ls hl => ?_)
            refine lv_iload_n hx hb dX7_writeSides_47 rfl (lv_at hl 3 rfl) ?_
            refine lv_iconst (v := (4 : Int32)) hx hb dX7_writeSides_48 (by decide) ?_
            refine lv_iload_n hx hb dX7_writeSides_49 rfl (lv_at hl 4 rfl) ?_
            refine lv_isub hx hb dX7_writeSides_50 ?_
            refine lv_ishr hx hb dX7_writeSides_51 ?_
            refine lv_iconst (v := (1 : Int32)) hx hb dX7_writeSides_52 (by decide) ?_
            refine lv_iand hx hb dX7_writeSides_53 ?_
            refine lv_if_ne (tgt := 68) hx hb dX7_writeSides_54 (by decide) (fun c15 => ?_) (fun c15 => ?_)
            · have hm := ite_f c15 hm
              refine lv_aload_n hx hb dX7_writeSides_68 rfl (lv_at hl 1 rfl) ?_
              refine lv_iload_n hx hb dX7_writeSides_69 rfl (lv_at hl 2 rfl) ?_
              refine lv_iconst (v := (1 : Int32)) hx hb dX7_writeSides_70 (by decide) ?_
              refine lv_aload_n hx hb dX7_writeSides_71 rfl (lv_at hl 1 rfl) ?_
              refine va_get (D := (dC, dI)) (ci := 8) (v := .int (u7.1 0)) (C := RX7) (T := TX7) (N := 34) hx hb ht inX7 hown hK hP 0 rfl rfl 0 (by decide) (ht _ kw_14) (fun _ h9 => h9) rfl dX7_writeSides_72 ?_
              refine lv_ishl hx hb dX7_writeSides_75 ?_
              refine lv_iload hx hb dX7_writeSides_76 (lv_at hl 0 rfl) ?_
              refine lv_isub hx hb dX7_writeSides_78 ?_
              refine lv_iload hx hb dX7_writeSides_79 (lv_at hl 0 rfl) ?_
              have hPc : va_P (dC, dI) vwCl ([wM cI cJ aM jM u7] : List va_W).flatten _ := hP
              have hDc : va_D A ([wM cI cJ aM jM u7] : List va_W).flatten := hD
              have hFc := va_freeF (fc := ([wM cI cJ aM jM u7] : List va_W)) hD hS hA [0] rfl
              obtain ⟨u16o, e17, hm⟩ := oC1_of hm
              refine va_callv (va_runV (As := [.int p1, .int (((1 : Int32) <<< ((u7.1 0) &&& (31 : Int32))) - r13), .int r13]) (rest := []) ⟨hx, hb, hml, hown, ht⟩ (c_X7_writeBytes l dC dI cI cJ aM jM H.size u7 p1 (((1 : Int32) <<< ((u7.1 0) &&& (31 : Int32))) - r13) r13 u16o e17) (cwV 3 ht (gdV kw_61 kw_59 kw_60 kw_7 kw_58) rfl rfl rfl ⟨rfl, nd_X7_writeBytes⟩ ⟨Nat.le_of_ble_eq_true rfl, Nat.le_of_ble_eq_true rfl⟩) ⟨pcW_blind, va_recv hK hPc (ci := 8) (q0 := 0) rfl rfl, pcW_pre hPc hK hDc hN⟩ rfl rfl hl.1 rfl (lv_room (Nat.le_of_ble_eq_true rfl)) dX7_writeSides_81 ⟨Nat.zero_le _, Nat.zero_le _⟩) hS (fun q _ z => hFc q z) hFc (fun uu t H1 locs ht1 hvm hw hB hz1 hk1 hS => ?_)
              obtain ⟨u16, rfl⟩ : ∃ z, z = uu := ⟨_, rfl⟩
              obtain ⟨hP1, hD1⟩ := hB
              rw [ht1] at hP1
              obtain rfl : u16 = u16o := Option.some.inj hw
              have hP : va_P (dC, dI) vwCl ([wM cI cJ aM jM u16] : List va_W).flatten H1 := hP1
              have hD : va_D A ([wM cI cJ aM jM u16] : List va_W).flatten := hD1.weaken (fun _ q _ z => hFc q.1 z)
              generalize H1 = H at hP hS ⊢
              obtain ⟨x18, ex18, hm⟩ := bnd_ex hm
              refine lv_iinc (v := x18) (lv' := [(3, .int x18), (4, .int r13), (0, .ref aM), (1, .int p1), (2, .int p2)]) hx hb dX7_writeSides_84 hl (k := 4) rfl (by rw [ex18]; exact congrArg _ (by decide)) (by decide) rfl (fun ls hl => ?_)
              refine lv_goto (tgt := 2) hx hb dX7_writeSides_87 (by decide) ?_
              exact ih2 x18 u16 _ _ _ hm hP hD hS (lv_sub hl [2, 3, 4, 0] rfl)
            · have hm := ite_t c15 hm
              refine lv_aload_n hx hb dX7_writeSides_57 rfl (lv_at hl 1 rfl) ?_
              refine lv_iload_n hx hb dX7_writeSides_58 rfl (lv_at hl 2 rfl) ?_
              refine lv_iload hx hb dX7_writeSides_59 (lv_at hl 0 rfl) ?_
              refine lv_iconst (v := (0 : Int32)) hx hb dX7_writeSides_61 (by decide) ?_
              have hPc : va_P (dC, dI) vwCl ([wM cI cJ aM jM u7] : List va_W).flatten _ := hP
              have hDc : va_D A ([wM cI cJ aM jM u7] : List va_W).flatten := hD
              have hFc := va_freeF (fc := ([wM cI cJ aM jM u7] : List va_W)) hD hS hA [0] rfl
              obtain ⟨u19o, e20, hm⟩ := oC1_of hm
              refine va_callv (va_runV (As := [.int p1, .int r13, .int (0 : Int32)]) (rest := []) ⟨hx, hb, hml, hown, ht⟩ (c_X7_writeBytes l dC dI cI cJ aM jM H.size u7 p1 r13 (0 : Int32) u19o e20) (cwV 3 ht (gdV kw_61 kw_59 kw_60 kw_7 kw_58) rfl rfl rfl ⟨rfl, nd_X7_writeBytes⟩ ⟨Nat.le_of_ble_eq_true rfl, Nat.le_of_ble_eq_true rfl⟩) ⟨pcW_blind, va_recv hK hPc (ci := 8) (q0 := 0) rfl rfl, pcW_pre hPc hK hDc hN⟩ rfl rfl hl.1 rfl (lv_room (Nat.le_of_ble_eq_true rfl)) dX7_writeSides_62 ⟨Nat.zero_le _, Nat.zero_le _⟩) hS (fun q _ z => hFc q z) hFc (fun uu t H1 locs ht1 hvm hw hB hz1 hk1 hS => ?_)
              obtain ⟨u19, rfl⟩ : ∃ z, z = uu := ⟨_, rfl⟩
              obtain ⟨hP1, hD1⟩ := hB
              rw [ht1] at hP1
              obtain rfl : u19 = u19o := Option.some.inj hw
              have hP : va_P (dC, dI) vwCl ([wM cI cJ aM jM u19] : List va_W).flatten H1 := hP1
              have hD : va_D A ([wM cI cJ aM jM u19] : List va_W).flatten := hD1.weaken (fun _ q _ z => hFc q.1 z)
              generalize H1 = H at hP hS ⊢
              refine lv_goto (tgt := 84) hx hb dX7_writeSides_65 (by decide) ?_
              obtain ⟨x21, ex21, hm⟩ := bnd_ex hm
              refine lv_iinc (v := x21) (lv' := [(3, .int x21), (4, .int r13), (0, .ref aM), (1, .int p1), (2, .int p2)]) hx hb dX7_writeSides_84 hl (k := 4) rfl (by rw [ex21]; exact congrArg _ (by decide)) (by decide) rfl (fun ls hl => ?_)
              refine lv_goto (tgt := 2) hx hb dX7_writeSides_87 (by decide) ?_
              exact ih2 x21 u19 _ _ _ hm hP hD hS (lv_sub hl [2, 3, 4, 0] rfl)
  exact LP2 FU (4 : Int32) uM _ _ _ hm hP hD hS (lv_sub hl [1, 2, 3, 0] rfl)

def f_X7_mayWrite_L7 (uM : OS) : Nat → (Int32 → Int32 → Option (Int32)) → Int32 → Int32 → Option (Int32)
  | 0, _, _, _ => none
  | n7 + 1, K45_6, x2, x3 =>
    if (uM.1 5) ≤ x2 then (
    K45_6 x3 x2) else (
    if x3 = (0 : Int32) then (
    K45_6 x3 x2) else (
    gdi x2 1000 <|
    gdi (uM.2.1 4 (x2).toNatClampNeg) 64 <|
    if (uM.2.1 8 ((uM.2.1 4 (x2).toNatClampNeg)).toNatClampNeg) ≤ (0 : Int32) then (
    bnd (x2 + (1 : Int32)) fun x13 =>
    f_X7_mayWrite_L7 uM n7 K45_6 x13 (0 : Int32)) else (
    bnd (x2 + (1 : Int32)) fun x14 =>
    f_X7_mayWrite_L7 uM n7 K45_6 x14 (1 : Int32))))

def f_X7_mayWrite (uM : OS) : Option (Int32) :=
  bnd (uM.1 7) fun x1 =>
  bnd (fun (x4 : Int32) (x5 : Int32) =>
  gdb x4 <|
  some x4) fun K45_6 =>
  f_X7_mayWrite_L7 uM FU K45_6 (0 : Int32) x1

set_option maxHeartbeats 4000000 in
set_option maxRecDepth 100000 in
theorem c_X7_mayWrite (l : Launch) (dC : Nat → ClassId) (dI : Nat → Nat → Nat) (cI cJ : ClassId) (aM : Nat) (jM : Nat → Nat) (sz : Nat) (uM : OS) (o : Int32) (hm : f_X7_mayWrite uM = some o) : Met l yX7_mayWrite (wq yX7_mayWrite cX7_mayWrite 3 (some .boolean)) ({ frames := 0, cells := 0, slots := 0, locals := 0 } : Room) (va_Pc [.ref aM] (pcW dC dI cI cJ sz ([wM cI cJ aM jM uM] : List va_W).flatten)) (va_Qi (S := Unit) (fun r u => some r = some o) (fun (u : Unit) t => va_P (dC, dI) vwCl ([wM cI cJ aM jM uM] : List va_W).flatten t.heap ∧ va_D (va_A ([wM cI cJ aM jM uM] : List va_W).flatten sz) ([wM cI cJ aM jM uM] : List va_W).flatten) (va_A ([wM cI cJ aM jM uM] : List va_W).flatten sz)) 0 0 (va_A ([wM cI cJ aM jM uM] : List va_W).flatten sz) := by
  refine Met.ofW (cc := cX7_mayWrite) (maxL := 3) (ret := (some .boolean)) (by decide) rfl ?_
  intro p e s m args below meth c s₁ B hml hv
  obtain ⟨rfl, hsz, hP, hK, hD0, hN⟩ := hv
  have hx := B.exec
  have hb := B.bytes
  have hr := B.returns
  have ht : ∀ w ∈ lw_good, w.before _ s = true := fun w h => atoms_spec (ws := wq yX7_mayWrite cX7_mayWrite 3 (some .boolean)) B.pre w (wq_mem h)
  have hown : s.vm.findClass RX7 = some m.cls := findClass_of_methodNamed B.named
  have hlocks := B.notSynchronized
  subst hsz
  have hD := hD0.self (sz := s.heap.size)
  generalize hAe : va_A ([wM cI cJ aM jM uM] : List va_W).flatten s.heap.size = A at hD ⊢
  have hA : ∀ q : Nat, s.heap.size ≤ q → A q := fun q h => by rw [← hAe]; exact Or.inr h
  have hS : va_S A s.heap s.heap [] := va_S.rf
  have hl := lv_entry ([.ref aM]) (n := 3) (Nat.le_of_ble_eq_true rfl)
  rw [lg_entry_eq]
  generalize (lg_sl ([.ref aM]) ++ List.replicate (3 - (lg_sl ([.ref aM])).length) Slot.unset).toArray = ls at hl ⊢
  have hl : lv_has ls 3 [(0, .ref aM)] := hl
  generalize hQ : MQ below _ _ s _ _ _ = Q
  generalize hH : s.heap = H at hP ⊢
  have hS : va_S A s.heap H [] := by rw [← hH]; exact va_S.rf
  show W p l e ({ frames := 0, cells := 0, slots := 0, locals := 0 } : Room) s m ([.ref aM] : List Value).toArray below meth c H [] 0 0 Q (F0 m 0 ls [])
  unfold f_X7_mayWrite at hm
  refine lv_aload_n hx hb dX7_mayWrite_0 rfl (lv_at hl 0 rfl) ?_
  refine va_get (D := (dC, dI)) (ci := 8) (v := .int (uM.1 7)) (C := RX7) (T := TX7) (N := 34) hx hb ht inX7 hown hK hP 0 rfl rfl 7 (by decide) (ht _ kw_5) (fun _ h9 => h9) rfl dX7_mayWrite_1 ?_
  refine lv_topi (fun x1 ex1 => ?_)
  have hm := bnd_nm ex1 hm
  refine lv_istore_n (lv' := [(1, .int x1), (0, .ref aM)]) hx hb dX7_mayWrite_4 rfl hl (by decide) rfl (fun ls hl => ?_)
  refine lv_iconst (v := (0 : Int32)) hx hb dX7_mayWrite_5 (by decide) ?_
  refine lv_istore_n (lv' := [(2, .int (0 : Int32)), (1, .int x1), (0, .ref aM)]) hx hb dX7_mayWrite_6 rfl hl (by decide) rfl (fun ls hl => ?_)
  obtain ⟨K45_6, eK45_6, hm⟩ := bnd_ex hm
  have X45_6 : ∀ (x4 : Int32) (x5 : Int32) (H : Heap) (locs : List Loc) (ls : Array Slot), K45_6 x4 x5 = some o → va_P (dC, dI) vwCl ([wM cI cJ aM jM uM] : List va_W).flatten H → va_D A ([wM cI cJ aM jM uM] : List va_W).flatten → va_S A s.heap H locs → lv_has ls 3 [(0, .ref aM), (1, .int x4), (2, .int x5)] → W p l e ({ frames := 0, cells := 0, slots := 0, locals := 0 } : Room) s m ([.ref aM] : List Value).toArray below meth c H locs 0 0 Q (F0 m 45 ls []) := by
    intro x4 x5 H locs ls hm hP hD hS hl
    have hm := ap2 eK45_6 hm
    refine lv_iload_n hx hb dX7_mayWrite_45 rfl (lv_at hl 1 rfl) ?_
    obtain ⟨g7, hm⟩ := gdb_of hm
    rw [← hQ]
    exact W.zret (v := x4) hx hb hr (nb_of g7) (fun t ht1 hW => ⟨⟨_, (), rfl, hm, by rw [ht1]; exact hP, hD⟩, hS.F ht1⟩) hS.2.2 dX7_mayWrite_46
  have LP7 : ∀ (n7 : Nat) (x2 : Int32) (x3 : Int32) (H : Heap) (locs : List Loc) (ls : Array Slot), f_X7_mayWrite_L7 uM n7 K45_6 x2 x3 = some o → va_P (dC, dI) vwCl ([wM cI cJ aM jM uM] : List va_W).flatten H → va_D A ([wM cI cJ aM jM uM] : List va_W).flatten → va_S A s.heap H locs → lv_has ls 3 [(0, .ref aM), (1, .int x3), (2, .int x2)] → W p l e ({ frames := 0, cells := 0, slots := 0, locals := 0 } : Room) s m ([.ref aM] : List Value).toArray below meth c H locs 0 0 Q (F0 m 7 ls []) := by
    intro n7
    induction n7 with
    | zero => intro x2 x3 H locs ls hm; exact nomatch (show (none : Option _) = some _ from hm)
    | succ n7 ih7 =>
      intro x2 x3 H locs ls hm hP hD hS hl
      unfold f_X7_mayWrite_L7 at hm
      refine lv_iload_n hx hb dX7_mayWrite_7 rfl (lv_at hl 2 rfl) ?_
      refine lv_aload_n hx hb dX7_mayWrite_8 rfl (lv_at hl 0 rfl) ?_
      refine va_get (D := (dC, dI)) (ci := 8) (v := .int (uM.1 5)) (C := RX7) (T := TX7) (N := 34) hx hb ht inX7 hown hK hP 0 rfl rfl 5 (by decide) (ht _ kw_1) (fun _ h9 => h9) rfl dX7_mayWrite_9 ?_
      refine lv_icmp_ge (tgt := 45) hx hb dX7_mayWrite_12 (by decide) (fun c8 => ?_) (fun c8 => ?_)
      · have hm := ite_t c8 hm
        exact X45_6 x3 x2 _ _ _ hm hP hD hS (lv_sub hl [0, 1, 2] rfl)
      · have hm := ite_f c8 hm
        refine lv_iload_n hx hb dX7_mayWrite_15 rfl (lv_at hl 1 rfl) ?_
        refine lv_if_eq (tgt := 45) hx hb dX7_mayWrite_16 (by decide) (fun c9 => ?_) (fun c9 => ?_)
        · have hm := ite_t c9 hm
          exact X45_6 x3 x2 _ _ _ hm hP hD hS (lv_sub hl [0, 1, 2] rfl)
        · have hm := ite_f c9 hm
          refine lv_aload_n hx hb dX7_mayWrite_19 rfl (lv_at hl 0 rfl) ?_
          refine va_get (D := (dC, dI)) (ci := 8) (v := .ref (jM 8)) (C := RX7) (T := TX7) (N := 34) hx hb ht inX7 hown hK hP 0 rfl rfl 8 (by decide) (ht _ kw_18) (fun _ h9 => h9) rfl dX7_mayWrite_20 ?_
          refine lv_aload_n hx hb dX7_mayWrite_23 rfl (lv_at hl 0 rfl) ?_
          refine va_get (D := (dC, dI)) (ci := 8) (v := .ref (jM 4)) (C := RX7) (T := TX7) (N := 34) hx hb ht inX7 hown hK hP 0 rfl rfl 4 (by decide) (ht _ kw_2) (fun _ h9 => h9) rfl dX7_mayWrite_24 ?_
          refine lv_iload_n hx hb dX7_mayWrite_27 rfl (lv_at hl 2 rfl) ?_
          obtain ⟨g10, hm⟩ := gdi_of hm
          refine va_iald hx hb hK hP 1 0 rfl rfl g10 dX7_mayWrite_28 ?_
          obtain ⟨g11, hm⟩ := gdi_of hm
          refine va_iald hx hb hK hP 3 0 rfl rfl g11 dX7_mayWrite_29 ?_
          refine lv_if_le (tgt := 37) hx hb dX7_mayWrite_30 (by decide) (fun c12 => ?_) (fun c12 => ?_)
          · have hm := ite_t c12 hm
            refine lv_iconst (v := (0 : Int32)) hx hb dX7_mayWrite_37 (by decide) ?_
            refine lv_istore_n (lv' := [(1, .int (0 : Int32)), (0, .ref aM), (2, .int x2)]) hx hb dX7_mayWrite_38 rfl hl (by decide) rfl (fun ls hl => ?_)
            obtain ⟨x13, ex13, hm⟩ := bnd_ex hm
            refine lv_iinc (v := x13) (lv' := [(2, .int x13), (1, .int (0 : Int32)), (0, .ref aM)]) hx hb dX7_mayWrite_39 hl (k := 2) rfl (by rw [ex13]; exact congrArg _ (by decide)) (by decide) rfl (fun ls hl => ?_)
            refine lv_goto (tgt := 7) hx hb dX7_mayWrite_42 (by decide) ?_
            exact ih7 x13 (0 : Int32) _ _ _ hm hP hD hS (lv_sub hl [2, 1, 0] rfl)
          · have hm := ite_f c12 hm
            refine lv_iconst (v := (1 : Int32)) hx hb dX7_mayWrite_33 (by decide) ?_
            refine lv_goto (tgt := 38) hx hb dX7_mayWrite_34 (by decide) ?_
            refine lv_istore_n (lv' := [(1, .int (1 : Int32)), (0, .ref aM), (2, .int x2)]) hx hb dX7_mayWrite_38 rfl hl (by decide) rfl (fun ls hl => ?_)
            obtain ⟨x14, ex14, hm⟩ := bnd_ex hm
            refine lv_iinc (v := x14) (lv' := [(2, .int x14), (1, .int (1 : Int32)), (0, .ref aM)]) hx hb dX7_mayWrite_39 hl (k := 2) rfl (by rw [ex14]; exact congrArg _ (by decide)) (by decide) rfl (fun ls hl => ?_)
            refine lv_goto (tgt := 7) hx hb dX7_mayWrite_42 (by decide) ?_
            exact ih7 x14 (1 : Int32) _ _ _ hm hP hD hS (lv_sub hl [2, 1, 0] rfl)
  exact LP7 FU (0 : Int32) x1 _ _ _ hm hP hD hS (lv_sub hl [2, 1, 0] rfl)

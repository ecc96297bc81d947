def f_X7_writeForm_L294 (p1 : Int32) : Nat → (Int32 → OS → Option (OS)) → Int32 → OS → Option (OS)
  | 0, _, _, _ => none
  | n294 + 1, K353_36, x32, u33 =>
    if x32 < (0 : Int32) then (
    K353_36 x32 u33) else (
    if p1 = (1 : Int32) then (
    gdi x32 70000 <|
    oC1 (f_X7_putWide u33 ((u33.2.1 19 (x32).toNatClampNeg)).toInt64 (4 : Int32)) fun u49 =>
    bnd (x32 + (-1 : Int32)) fun x51 =>
    f_X7_writeForm_L294 p1 n294 K353_36 x51 u49) else (
    if p1 = (2 : Int32) then (
    gdi x32 70000 <|
    oC1 (f_X7_putBits u33 (u33.2.1 19 (x32).toNatClampNeg) (1 : Int32)) fun u45 =>
    bnd (x32 + (-1 : Int32)) fun x47 =>
    f_X7_writeForm_L294 p1 n294 K353_36 x47 u45) else (
    gdi x32 70000 <|
    oC1 (f_X7_putByte u33 (u33.2.1 19 (x32).toNatClampNeg)) fun u41 =>
    bnd (x32 + (-1 : Int32)) fun x43 =>
    f_X7_writeForm_L294 p1 n294 K353_36 x43 u41)))

def f_X7_writeForm_L218 (p1 : Int32) : Nat → (Int32 → OS → Option (OS)) → Int32 → OS → Option (OS)
  | 0, _, _, _ => none
  | n218 + 1, K274_28, x24, u25 =>
    if (u25.1 3) ≤ x24 then (
    K274_28 x24 u25) else (
    gdi x24 4 <|
    bnd (fun (x54 : Int32) =>
    oC1 (f_X7_putWide u25 (u25.2.2.1 16 (x24).toNatClampNeg) x54) fun u56 =>
    gdi x24 4 <|
    gdi x24 4 <|
    bnd (sL u56 17 x24 (u56.2.2.1 16 (x24).toNatClampNeg)) fun u60 =>
    bnd (x24 + (1 : Int32)) fun x61 =>
    f_X7_writeForm_L218 p1 n218 K274_28 x61 u60) fun K253_55 =>
    if p1 = (1 : Int32) then (
    K253_55 (8 : Int32)) else (
    if p1 = (2 : Int32) then (
    K253_55 (2 : Int32)) else (
    K253_55 (4 : Int32))))

def f_X7_writeForm_L92 (p1 : Int32) : Nat → (Int32 → OS → Option (OS)) → Int32 → OS → Option (OS)
  | 0, _, _, _ => none
  | n92 + 1, K216_23, x19, u20 =>
    if x19 < (0 : Int32) then (
    K216_23 x19 u20) else (
    gdi x19 1000 <|
    bnd (u20.2.1 4 (x19).toNatClampNeg) fun x66 =>
    gdz (u20.1 3) <|
    bnd (x19 - x19 / (u20.1 3) * (u20.1 3)) fun x68 =>
    if p1 = (3 : Int32) then (
    oC1 (f_X7_writeSides u20 x68 x66) fun u90 =>
    bnd (x19 + (-1 : Int32)) fun x92 =>
    f_X7_writeForm_L92 p1 n92 K216_23 x92 u90) else (
    gdi x66 64 <|
    if ((1 : Int32) <<< ((u20.1 0) &&& (31 : Int32))) ≤ (u20.2.1 8 (x66).toNatClampNeg) then (
    bnd (x19 + (-1 : Int32)) fun x72 =>
    f_X7_writeForm_L92 p1 n92 K216_23 x72 u20) else (
    if p1 = (0 : Int32) then (
    gdi x66 64 <|
    gdi x66 64 <|
    oC1 (f_X7_writeBytes u20 x68 (u20.2.1 8 (x66).toNatClampNeg) (u20.2.1 9 (x66).toNatClampNeg)) fun u87 =>
    bnd (x19 + (-1 : Int32)) fun x89 =>
    f_X7_writeForm_L92 p1 n92 K216_23 x89 u87) else (
    if p1 = (1 : Int32) then (
    gdi x66 64 <|
    gdi x66 64 <|
    oC1 (f_X7_writeWords u20 x68 (u20.2.1 8 (x66).toNatClampNeg) (u20.2.1 9 (x66).toNatClampNeg)) fun u82 =>
    bnd (x19 + (-1 : Int32)) fun x84 =>
    f_X7_writeForm_L92 p1 n92 K216_23 x84 u82) else (
    gdi x66 64 <|
    gdi x66 64 <|
    oC1 (f_X7_writeBitsOf u20 x68 (u20.2.1 8 (x66).toNatClampNeg) (u20.2.1 9 (x66).toNatClampNeg)) fun u77 =>
    bnd (x19 + (-1 : Int32)) fun x79 =>
    f_X7_writeForm_L92 p1 n92 K216_23 x79 u77)))))

def f_X7_writeForm_L55 (p1 : Int32) : Nat → (Int32 → OS → Option (OS)) → Int32 → OS → Option (OS)
  | 0, _, _, _ => none
  | n55 + 1, K80_16, x12, u13 =>
    if (4 : Int32) ≤ x12 then (
    K80_16 x12 u13) else (
    oC1 (f_X7_firstState p1 (u13.1 0)) fun r94 =>
    gdi x12 4 <|
    bnd (sL u13 16 x12 r94) fun u97 =>
    bnd (x12 + (1 : Int32)) fun x98 =>
    f_X7_writeForm_L55 p1 n55 K80_16 x98 u97)

def f_X7_writeForm (uM : OS) (p1 : Int32) : Option (OS) :=
  bnd (sF uM 15 (0 : Int32)) fun u1 =>
  bnd (fun (x2 : Int32) =>
  oC1 (f_X7_putByte u1 (((4 : Int32) * p1) + x2)) fun u4 =>
  oC1 (f_X7_putByte u4 (u4.1 0)) fun u6 =>
  oC1 (f_X7_putWide u6 ((u6.1 5)).toInt64 (2 : Int32)) fun u8 =>
  oC1 (f_X7_writeTable u8) fun u10 =>
  bnd (fun (x14 : Int32) (u15 : OS) =>
  bnd (sF u15 20 (0 : Int32)) fun u17 =>
  bnd ((u17.1 5) - (1 : Int32)) fun x18 =>
  bnd (fun (x21 : Int32) (u22 : OS) =>
  bnd (fun (x26 : Int32) (u27 : OS) =>
  bnd (sF u27 18 (u27.1 3)) fun u29 =>
  bnd (sF u29 21 (0 : Int32)) fun u30 =>
  bnd ((u30.1 20) - (1 : Int32)) fun x31 =>
  bnd (fun (x34 : Int32) (u35 : OS) =>
  some u35) fun K353_36 =>
  f_X7_writeForm_L294 p1 FU K353_36 x31 u30) fun K274_28 =>
  f_X7_writeForm_L218 p1 FU K274_28 (0 : Int32) u22) fun K216_23 =>
  f_X7_writeForm_L92 p1 FU K216_23 x18 u17) fun K80_16 =>
  f_X7_writeForm_L55 p1 FU K80_16 (0 : Int32) u10) fun K27_3 =>
  if (u1.1 3) = (4 : Int32) then (
  K27_3 (2 : Int32)) else (
  K27_3 ((u1.1 3) - (1 : Int32)))

set_option maxHeartbeats 4000000 in
set_option maxRecDepth 100000 in
theorem c_X7_writeForm (l : Launch) (dC : Nat → ClassId) (dI : Nat → Nat → Nat) (cI cJ : ClassId) (aM : Nat) (jM : Nat → Nat) (sz : Nat) (uM : OS) (p1 : Int32) (o : OS) (hm : f_X7_writeForm uM p1 = some o) : Met l yX7_writeForm (wq yX7_writeForm cX7_writeForm 5 none) ({ frames := 3, cells := 0, slots := 0, locals := 66 } : Room) (va_Pc [.ref aM, .int p1] (pcW dC dI cI cJ sz ([wM cI cJ aM jM uM] : List va_W).flatten)) (va_Qv (S := OS) (fun u => some u = some o) (fun (u : OS) t => va_P (dC, dI) vwCl ([wM cI cJ aM jM u] : List va_W).flatten t.heap ∧ va_D (va_A ([wM cI cJ aM jM uM] : List va_W).flatten sz) ([wM cI cJ aM jM u] : List va_W).flatten) (va_A ([wM cI cJ aM jM uM] : List va_W).flatten sz)) 0 0 (va_A ([wM cI cJ aM jM uM] : List va_W).flatten sz) := by
  refine Met.ofW (cc := cX7_writeForm) (maxL := 5) (ret := none) (by decide) rfl ?_
  intro p e s m args below meth c s₁ B hml hv
  obtain ⟨rfl, hsz, hP, hK, hD0, hN⟩ := hv
  have hx := B.exec
  have hb := B.bytes
  have hr := B.returns
  have ht : ∀ w ∈ lw_good, w.before _ s = true := fun w h => atoms_spec (ws := wq yX7_writeForm cX7_writeForm 5 none) B.pre w (wq_mem h)
  have hown : s.vm.findClass RX7 = some m.cls := findClass_of_methodNamed B.named
  have hlocks := B.notSynchronized
  subst hsz
  have hD := hD0.self (sz := s.heap.size)
  generalize hAe : va_A ([wM cI cJ aM jM uM] : List va_W).flatten s.heap.size = A at hD ⊢
  have hA : ∀ q : Nat, s.heap.size ≤ q → A q := fun q h => by rw [← hAe]; exact Or.inr h
  have hS : va_S A s.heap s.heap [] := va_S.rf
  have hl := lv_entry ([.ref aM, .int p1]) (n := 5) (Nat.le_of_ble_eq_true rfl)
  rw [lg_entry_eq]
  generalize (lg_sl ([.ref aM, .int p1]) ++ List.replicate (5 - (lg_sl ([.ref aM, .int p1])).length) Slot.unset).toArray = ls at hl ⊢
  have hl : lv_has ls 5 [(0, .ref aM), (1, .int p1)] := hl
  generalize hQ : MQ below _ _ s _ _ _ = Q
  generalize hH : s.heap = H at hP ⊢
  have hS : va_S A s.heap H [] := by rw [← hH]; exact va_S.rf
  show W p l e ({ frames := 3, cells := 0, slots := 0, locals := 66 } : Room) s m ([.ref aM, .int p1] : List Value).toArray below meth c H [] 0 0 Q (F0 m 0 ls [])
  unfold f_X7_writeForm at hm
  refine lv_aload_n hx hb dX7_writeForm_0 rfl (lv_at hl 0 rfl) ?_
  refine lv_iconst (v := (0 : Int32)) hx hb dX7_writeForm_1 (by decide) ?_
  refine va_put (D := (dC, dI)) (ci := 8) (v := .int (0 : Int32)) (ty := .int) (C := RX7) (T := TX7) (N := 34) hx hb ht inX7 tyX7 tyX7_ok nmX7 hown hK hP hD hS 0 rfl rfl 15 (by decide) (ht _ kw_32) (fun _ h9 => h9) rfl (by decide +kernel) rfl rfl (Nat.le_of_ble_eq_true rfl) dX7_writeForm_2 (fun H locs hP hD hS => ?_)
  obtain ⟨u1, eu1, hm⟩ := bnd_ex hm
  have hP : va_P (dC, dI) vwCl ([wM cI cJ aM jM u1] : List va_W).flatten H := by rw [eu1]; exact hP
  have hD : va_D A ([wM cI cJ aM jM u1] : List va_W).flatten := by rw [eu1]; exact hD
  refine lv_aload_n hx hb dX7_writeForm_5 rfl (lv_at hl 0 rfl) ?_
  refine lv_iconst (v := (4 : Int32)) hx hb dX7_writeForm_6 (by decide) ?_
  refine lv_iload_n hx hb dX7_writeForm_7 rfl (lv_at hl 1 rfl) ?_
  refine lv_imul hx hb dX7_writeForm_8 ?_
  refine lv_aload_n hx hb dX7_writeForm_9 rfl (lv_at hl 0 rfl) ?_
  refine va_get (D := (dC, dI)) (ci := 8) (v := .int (u1.1 3)) (C := RX7) (T := TX7) (N := 34) hx hb ht inX7 hown hK hP 0 rfl rfl 3 (by decide) (ht _ kw_29) (fun _ h9 => h9) rfl dX7_writeForm_10 ?_
  refine lv_iconst (v := (4 : Int32)) hx hb dX7_writeForm_13 (by decide) ?_
  obtain ⟨K27_3, eK27_3, hm⟩ := bnd_ex hm
  have J27_3 : ∀ (x2 : Int32) (H : Heap) (locs : List Loc) (ls : Array Slot), K27_3 x2 = some o → va_P (dC, dI) vwCl ([wM cI cJ aM jM u1] : List va_W).flatten H → va_D A ([wM cI cJ aM jM u1] : List va_W).flatten → va_S A s.heap H locs → lv_has ls 5 [(0, .ref aM), (1, .int p1)] → W p l e ({ frames := 3, cells := 0, slots := 0, locals := 66 } : Room) s m ([.ref aM, .int p1] : List Value).toArray below meth c H locs 0 0 Q (F0 m 27 ls [.int x2, .int ((4 : Int32) * p1), .ref aM]) := by
    intro x2 H locs ls hm hP hD hS hl
    have hm := ap1 eK27_3 hm
    refine lv_iadd hx hb dX7_writeForm_27 ?_
    have hPc : va_P (dC, dI) vwCl ([wM cI cJ aM jM u1] : List va_W).flatten _ := hP
    have hDc : va_D A ([wM cI cJ aM jM u1] : List va_W).flatten := hD
    have hFc := va_freeF (fc := ([wM cI cJ aM jM u1] : List va_W)) hD hS hA [0] rfl
    obtain ⟨u4o, e5, hm⟩ := oC1_of hm
    refine va_callv (va_runV (As := [.int (((4 : Int32) * p1) + x2)]) (rest := []) ⟨hx, hb, hml, hown, ht⟩ (c_X7_putByte l dC dI cI cJ aM jM H.size u1 (((4 : Int32) * p1) + x2) u4o e5) (cwV 1 ht (gdV kw_36 kw_34 kw_35 kw_7 kw_33) rfl rfl rfl ⟨rfl, nd_X7_putByte⟩ ⟨Nat.le_of_ble_eq_true rfl, Nat.le_of_ble_eq_true rfl⟩) ⟨pcW_blind, va_recv hK hPc (ci := 8) (q0 := 0) rfl rfl, pcW_pre hPc hK hDc hN⟩ rfl rfl hl.1 rfl (lv_room (Nat.le_of_ble_eq_true rfl)) dX7_writeForm_28 ⟨Nat.zero_le _, Nat.zero_le _⟩) hS (fun q _ z => hFc q z) hFc (fun uu t H1 locs ht1 hvm hw hB hz1 hk1 hS => ?_)
    obtain ⟨u4, rfl⟩ : ∃ z, z = uu := ⟨_, rfl⟩
    obtain ⟨hP1, hD1⟩ := hB
    rw [ht1] at hP1
    obtain rfl : u4 = u4o := Option.some.inj hw
    have hP : va_P (dC, dI) vwCl ([wM cI cJ aM jM u4] : List va_W).flatten H1 := hP1
    have hD : va_D A ([wM cI cJ aM jM u4] : List va_W).flatten := hD1.weaken (fun _ q _ z => hFc q.1 z)
    generalize H1 = H at hP hS ⊢
    refine lv_aload_n hx hb dX7_writeForm_31 rfl (lv_at hl 0 rfl) ?_
    refine lv_aload_n hx hb dX7_writeForm_32 rfl (lv_at hl 0 rfl) ?_
    refine va_get (D := (dC, dI)) (ci := 8) (v := .int (u4.1 0)) (C := RX7) (T := TX7) (N := 34) hx hb ht inX7 hown hK hP 0 rfl rfl 0 (by decide) (ht _ kw_14) (fun _ h9 => h9) rfl dX7_writeForm_33 ?_
    have hPc : va_P (dC, dI) vwCl ([wM cI cJ aM jM u4] : List va_W).flatten _ := hP
    have hDc : va_D A ([wM cI cJ aM jM u4] : List va_W).flatten := hD
    have hFc := va_freeF (fc := ([wM cI cJ aM jM u4] : List va_W)) hD hS hA [0] rfl
    obtain ⟨u6o, e7, hm⟩ := oC1_of hm
    refine va_callv (va_runV (As := [.int (u4.1 0)]) (rest := []) ⟨hx, hb, hml, hown, ht⟩ (c_X7_putByte l dC dI cI cJ aM jM H.size u4 (u4.1 0) u6o e7) (cwV 1 ht (gdV kw_36 kw_34 kw_35 kw_7 kw_33) rfl rfl rfl ⟨rfl, nd_X7_putByte⟩ ⟨Nat.le_of_ble_eq_true rfl, Nat.le_of_ble_eq_true rfl⟩) ⟨pcW_blind, va_recv hK hPc (ci := 8) (q0 := 0) rfl rfl, pcW_pre hPc hK hDc hN⟩ rfl rfl hl.1 rfl (lv_room (Nat.le_of_ble_eq_true rfl)) dX7_writeForm_36 ⟨Nat.zero_le _, Nat.zero_le _⟩) hS (fun q _ z => hFc q z) hFc (fun uu t H1 locs ht1 hvm hw hB hz1 hk1 hS => ?_)
    obtain ⟨u6, rfl⟩ : ∃ z, z = uu := ⟨_, rfl⟩
    obtain ⟨hP1, hD1⟩ := hB
    rw [ht1] at hP1
    obtain rfl : u6 = u6o := Option.some.inj hw
    have hP : va_P (dC, dI) vwCl ([wM cI cJ aM jM u6] : List va_W).flatten H1 := hP1
    have hD : va_D A ([wM cI cJ aM jM u6] : List va_W).flatten := hD1.weaken (fun _ q _ z => hFc q.1 z)
    generalize H1 = H at hP hS ⊢
    refine lv_aload_n hx hb dX7_writeForm_39 rfl (lv_at hl 0 rfl) ?_
    refine lv_aload_n hx hb dX7_writeForm_40 rfl (lv_at hl 0 rfl) ?_
    refine va_get (D := (dC, dI)) (ci := 8) (v := .int (u6.1 5)) (C := RX7) (T := TX7) (N := 34) hx hb ht inX7 hown hK hP 0 rfl rfl 5 (by decide) (ht _ kw_1) (fun _ h9 => h9) rfl dX7_writeForm_41 ?_
    refine lv_i2l hx hb dX7_writeForm_44 rfl ?_
    refine lv_iconst (v := (2 : Int32)) hx hb dX7_writeForm_45 (by decide) ?_
    have hPc : va_P (dC, dI) vwCl ([wM cI cJ aM jM u6] : List va_W).flatten _ := hP
    have hDc : va_D A ([wM cI cJ aM jM u6] : List va_W).flatten := hD
    have hFc := va_freeF (fc := ([wM cI cJ aM jM u6] : List va_W)) hD hS hA [0] rfl
    obtain ⟨u8o, e9, hm⟩ := oC1_of hm
    refine va_callv (va_runV (As := [.long ((u6.1 5)).toInt64, .int (2 : Int32)]) (rest := []) ⟨hx, hb, hml, hown, ht⟩ (c_X7_putWide l dC dI cI cJ aM jM H.size u6 ((u6.1 5)).toInt64 (2 : Int32) u8o e9) (cwV 2 ht (gdV kw_67 kw_65 kw_66 kw_7 kw_64) rfl rfl rfl ⟨rfl, nd_X7_putWide⟩ ⟨Nat.le_of_ble_eq_true rfl, Nat.le_of_ble_eq_true rfl⟩) ⟨pcW_blind, va_recv hK hPc (ci := 8) (q0 := 0) rfl rfl, pcW_pre hPc hK hDc hN⟩ rfl rfl hl.1 rfl (lv_room (Nat.le_of_ble_eq_true rfl)) dX7_writeForm_46 ⟨Nat.zero_le _, Nat.zero_le _⟩) hS (fun q _ z => hFc q z) hFc (fun uu t H1 locs ht1 hvm hw hB hz1 hk1 hS => ?_)
    obtain ⟨u8, rfl⟩ : ∃ z, z = uu := ⟨_, rfl⟩
    obtain ⟨hP1, hD1⟩ := hB
    rw [ht1] at hP1
    obtain rfl : u8 = u8o := Option.some.inj hw
    have hP : va_P (dC, dI) vwCl ([wM cI cJ aM jM u8] : List va_W).flatten H1 := hP1
    have hD : va_D A ([wM cI cJ aM jM u8] : List va_W).flatten := hD1.weaken (fun _ q _ z => hFc q.1 z)
    generalize H1 = H at hP hS ⊢
    refine lv_aload_n hx hb dX7_writeForm_49 rfl (lv_at hl 0 rfl) ?_
    have hPc : va_P (dC, dI) vwCl ([wM cI cJ aM jM u8] : List va_W).flatten _ := hP
    have hDc : va_D A ([wM cI cJ aM jM u8] : List va_W).flatten := hD
    have hFc := va_freeF (fc := ([wM cI cJ aM jM u8] : List va_W)) hD hS hA [0] rfl
    obtain ⟨u10o, e11, hm⟩ := oC1_of hm
    refine va_callv (va_runV (As := []) (rest := []) ⟨hx, hb, hml, hown, ht⟩ (c_X7_writeTable l dC dI cI cJ aM jM H.size u8 u10o e11) (cwV 0 ht (gdV kw_71 kw_69 kw_70 kw_7 kw_68) rfl rfl rfl ⟨rfl, nd_X7_writeTable⟩ ⟨Nat.le_of_ble_eq_true rfl, Nat.le_of_ble_eq_true rfl⟩) ⟨pcW_blind, va_recv hK hPc (ci := 8) (q0 := 0) rfl rfl, pcW_pre hPc hK hDc hN⟩ rfl rfl hl.1 rfl (lv_room (Nat.le_of_ble_eq_true rfl)) dX7_writeForm_50 ⟨Nat.zero_le _, Nat.zero_le _⟩) hS (fun q _ z => hFc q z) hFc (fun uu t H1 locs ht1 hvm hw hB hz1 hk1 hS => ?_)
    obtain ⟨u10, rfl⟩ : ∃ z, z = uu := ⟨_, rfl⟩
    obtain ⟨hP1, hD1⟩ := hB
    rw [ht1] at hP1
    obtain rfl : u10 = u10o := Option.some.inj hw
    have hP : va_P (dC, dI) vwCl ([wM cI cJ aM jM u10] : List va_W).flatten H1 := hP1
    have hD : va_D A ([wM cI cJ aM jM u10] : List va_W).flatten := hD1.weaken (fun _ q _ z => hFc q.1 z)
    generalize H1 = H at hP hS ⊢
    refine lv_iconst (v := (0 : Int32)) hx hb dX7_writeForm_53 (by decide) ?_
    refine lv_istore_n (lv' := [(2, .int (0 : Int32)), (0, .ref aM), (1, .int p1)]) hx hb dX7_writeForm_54 rfl hl (by decide) rfl (fun ls hl => ?_)
    obtain ⟨K80_16, eK80_16, hm⟩ := bnd_ex hm
    have X80_16 : ∀ (x14 : Int32) (u15 : OS) (H : Heap) (locs : List Loc) (ls : Array Slot), K80_16 x14 u15 = some o → va_P (dC, dI) vwCl ([wM cI cJ aM jM u15] : List va_W).flatten H → va_D A ([wM cI cJ aM jM u15] : List va_W).flatten → va_S A s.heap H locs → lv_has ls 5 [(0, .ref aM), (1, .int p1), (2, .int x14)] → W p l e ({ frames := 3, cells := 0, slots := 0, locals := 66 } : Room) s m ([.ref aM, .int p1] : List Value).toArray below meth c H locs 0 0 Q (F0 m 80 ls []) := by
      intro x14 u15 H locs ls hm hP hD hS hl
      have hm := ap2 eK80_16 hm
      refine lv_aload_n hx hb dX7_writeForm_80 rfl (lv_at hl 0 rfl) ?_
      refine lv_iconst (v := (0 : Int32)) hx hb dX7_writeForm_81 (by decide) ?_
      refine va_put (D := (dC, dI)) (ci := 8) (v := .int (0 : Int32)) (ty := .int) (C := RX7) (T := TX7) (N := 34) hx hb ht inX7 tyX7 tyX7_ok nmX7 hown hK hP hD hS 0 rfl rfl 20 (by decide) (ht _ kw_47) (fun _ h9 => h9) rfl (by decide +kernel) rfl rfl (Nat.le_of_ble_eq_true rfl) dX7_writeForm_82 (fun H locs hP hD hS => ?_)
      obtain ⟨u17, eu17, hm⟩ := bnd_ex hm
      have hP : va_P (dC, dI) vwCl ([wM cI cJ aM jM u17] : List va_W).flatten H := by rw [eu17]; exact hP
      have hD : va_D A ([wM cI cJ aM jM u17] : List va_W).flatten := by rw [eu17]; exact hD
      refine lv_aload_n hx hb dX7_writeForm_85 rfl (lv_at hl 0 rfl) ?_
      refine va_get (D := (dC, dI)) (ci := 8) (v := .int (u17.1 5)) (C := RX7) (T := TX7) (N := 34) hx hb ht inX7 hown hK hP 0 rfl rfl 5 (by decide) (ht _ kw_1) (fun _ h9 => h9) rfl dX7_writeForm_86 ?_
      refine lv_iconst (v := (1 : Int32)) hx hb dX7_writeForm_89 (by decide) ?_
      refine lv_isub hx hb dX7_writeForm_90 ?_
      refine lv_topi (fun x18 ex18 => ?_)
      have hm := bnd_nm ex18 hm
      refine lv_istore_n (lv' := [(2, .int x18), (0, .ref aM), (1, .int p1)]) hx hb dX7_writeForm_91 rfl hl (by decide) rfl (fun ls hl => ?_)
      obtain ⟨K216_23, eK216_23, hm⟩ := bnd_ex hm
      have X216_23 : ∀ (x21 : Int32) (u22 : OS) (H : Heap) (locs : List Loc) (ls : Array Slot), K216_23 x21 u22 = some o → va_P (dC, dI) vwCl ([wM cI cJ aM jM u22] : List va_W).flatten H → va_D A ([wM cI cJ aM jM u22] : List va_W).flatten → va_S A s.heap H locs → lv_has ls 5 [(0, .ref aM), (1, .int p1), (2, .int x21)] → W p l e ({ frames := 3, cells := 0, slots := 0, locals := 66 } : Room) s m ([.ref aM, .int p1] : List Value).toArray below meth c H locs 0 0 Q (F0 m 216 ls []) := by
        intro x21 u22 H locs ls hm hP hD hS hl
        have hm := ap2 eK216_23 hm
        refine lv_iconst (v := (0 : Int32)) hx hb dX7_writeForm_216 (by decide) ?_
        refine lv_istore_n (lv' := [(2, .int (0 : Int32)), (0, .ref aM), (1, .int p1)]) hx hb dX7_writeForm_217 rfl hl (by decide) rfl (fun ls hl => ?_)
        obtain ⟨K274_28, eK274_28, hm⟩ := bnd_ex hm
        have X274_28 : ∀ (x26 : Int32) (u27 : OS) (H : Heap) (locs : List Loc) (ls : Array Slot), K274_28 x26 u27 = some o → va_P (dC, dI) vwCl ([wM cI cJ aM jM u27] : List va_W).flatten H → va_D A ([wM cI cJ aM jM u27] : List va_W).flatten → va_S A s.heap H locs → lv_has ls 5 [(0, .ref aM), (1, .int p1), (2, .int x26)] → W p l e ({ frames := 3, cells := 0, slots := 0, locals := 66 } : Room) s m ([.ref aM, .int p1] : List Value).toArray below meth c H locs 0 0 Q (F0 m 274 ls []) := by
          intro x26 u27 H locs ls hm hP hD hS hl
          have hm := ap2 eK274_28 hm
          refine lv_aload_n hx hb dX7_writeForm_274 rfl (lv_at hl 0 rfl) ?_
          refine lv_aload_n hx hb dX7_writeForm_275 rfl (lv_at hl 0 rfl) ?_
          refine va_get (D := (dC, dI)) (ci := 8) (v := .int (u27.1 3)) (C := RX7) (T := TX7) (N := 34) hx hb ht inX7 hown hK hP 0 rfl rfl 3 (by decide) (ht _ kw_29) (fun _ h9 => h9) rfl dX7_writeForm_276 ?_
          refine va_put (D := (dC, dI)) (ci := 8) (v := .int (u27.1 3)) (ty := .int) (C := RX7) (T := TX7) (N := 34) hx hb ht inX7 tyX7 tyX7_ok nmX7 hown hK hP hD hS 0 rfl rfl 18 (by decide) (ht _ kw_63) (fun _ h9 => h9) rfl (by decide +kernel) rfl rfl (Nat.le_of_ble_eq_true rfl) dX7_writeForm_279 (fun H locs hP hD hS => ?_)
          obtain ⟨u29, eu29, hm⟩ := bnd_ex hm
          have hP : va_P (dC, dI) vwCl ([wM cI cJ aM jM u29] : List va_W).flatten H := by rw [eu29]; exact hP
          have hD : va_D A ([wM cI cJ aM jM u29] : List va_W).flatten := by rw [eu29]; exact hD
          refine lv_aload_n hx hb dX7_writeForm_282 rfl (lv_at hl 0 rfl) ?_
          refine lv_iconst (v := (0 : Int32)) hx hb dX7_writeForm_283 (by decide) ?_
          refine va_put (D := (dC, dI)) (ci := 8) (v := .int (0 : Int32)) (ty := .int) (C := RX7) (T := TX7) (N := 34) hx hb ht inX7 tyX7 tyX7_ok nmX7 hown hK hP hD hS 0 rfl rfl 21 (by decide) (ht _ kw_37) (fun _ h9 => h9) rfl (by decide +kernel) rfl rfl (Nat.le_of_ble_eq_true rfl) dX7_writeForm_284 (fun H locs hP hD hS => ?_)
          obtain ⟨u30, eu30, hm⟩ := bnd_ex hm
          have hP : va_P (dC, dI) vwCl ([wM cI cJ aM jM u30] : List va_W).flatten H := by rw [eu30]; exact hP
          have hD : va_D A ([wM cI cJ aM jM u30] : List va_W).flatten := by rw [eu30]; exact hD
          refine lv_aload_n hx hb dX7_writeForm_287 rfl (lv_at hl 0 rfl) ?_
          refine va_get (D := (dC, dI)) (ci := 8) (v := .int (u30.1 20)) (C := RX7) (T := TX7) (N := 34) hx hb ht inX7 hown hK hP 0 rfl rfl 20 (by decide) (ht _ kw_47) (fun _ h9 => h9) rfl dX7_writeForm_288 ?_
          refine lv_iconst (v := (1 : Int32)) hx hb dX7_writeForm_291 (by decide) ?_
          refine lv_isub hx hb dX7_writeForm_292 ?_
          refine lv_topi (fun x31 ex31 => ?_)
          have hm := bnd_nm ex31 hm
          refine lv_istore_n (lv' := [(2, .int x31), (0, .ref aM), (1, .int p1)]) hx hb dX7_writeForm_293 rfl hl (by decide) rfl (fun ls hl => ?_)
          obtain ⟨K353_36, eK353_36, hm⟩ := bnd_ex hm
          have X353_36 : ∀ (x34 : Int32) (u35 : OS) (H : Heap) (locs : List Loc) (ls : Array Slot), K353_36 x34 u35 = some o → va_P (dC, dI) vwCl ([wM cI cJ aM jM u35] : List va_W).flatten H → va_D A ([wM cI cJ aM jM u35] : List va_W).flatten → va_S A s.heap H locs → lv_has ls 5 [(0, .ref aM), (1, .int p1), (2, .int x34)] → W p l e ({ frames := 3, cells := 0, slots := 0, locals := 66 } : Room) s m ([.ref aM, .int p1] : List Value).toArray below meth c H locs 0 0 Q (F0 m 353 ls []) := by
            intro x34 u35 H locs ls hm hP hD hS hl
            have hm := ap2 eK353_36 hm
            rw [← hQ]
            exact W.vret hx hb hr (fun t ht1 hW => ⟨⟨u35, rfl, hm, by rw [ht1]; exact hP, hD⟩, hS.F ht1⟩) hS.2.2 dX7_writeForm_353
          have LP294 : ∀ (n294 : Nat) (x32 : Int32) (u33 : OS) (H : Heap) (locs : List Loc) (ls : Array Slot), f_X7_writeForm_L294 p1 n294 K353_36 x32 u33 = some o → va_P (dC, dI) vwCl ([wM cI cJ aM jM u33] : List va_W).flatten H → va_D A ([wM cI cJ aM jM u33] : List va_W).flatten → va_S A s.heap H locs → lv_has ls 5 [(0, .ref aM), (1, .int p1), (2, .int x32)] → W p l e ({ frames := 3, cells := 0, slots := 0, locals := 66 } : Room) s m ([.ref aM, .int p1] : List Value).toArray below meth c H locs 0 0 Q (F0 m 294 ls []) := by
            intro n294
            induction n294 with
            | zero => intro x32 u33 H locs ls hm; exact nomatch (show (none : Option _) = some _ from hm)
            | succ n294 ih294 =>
              intro x32 u33 H locs ls hm hP hD hS hl
              unfold f_X7_writeForm_L294 at hm
              refine lv_iload_n hx hb dX7_writeForm_294 rfl (lv_at hl 2 rfl) ?_
              refine lv_if_lt (tgt := 353) hx hb dX7_writeForm_295 (by decide) (fun c37 => ?_) (fun c37 => ?_)
              · have hm := ite_t c37 hm
                exact X353_36 x32 u33 _ _ _ hm hP hD hS (lv_sub hl [0, 1, 2] rfl)
              · have hm := ite_f c37 hm
                refine lv_iload_n hx hb dX7_writeForm_298 rfl (lv_at hl 1 rfl) ?_
                refine lv_iconst (v := (1 : Int32)) hx hb dX7_writeForm_299 (by decide) ?_
                refine lv_icmp_ne (tgt := 318) hx hb dX7_writeForm_300 (by decide) (fun c38 => ?_) (fun c38 => ?_)
                · have hm := ite_f c38 hm
                  refine lv_iload_n hx hb dX7_writeForm_318 rfl (lv_at hl 1 rfl) ?_
                  refine lv_iconst (v := (2 : Int32)) hx hb dX7_writeForm_319 (by decide) ?_
                  refine lv_icmp_ne (tgt := 337) hx hb dX7_writeForm_320 (by decide) (fun c39 => ?_) (fun c39 => ?_)
                  · have hm := ite_f c39 hm
                    refine lv_aload_n hx hb dX7_writeForm_337 rfl (lv_at hl 0 rfl) ?_
                    refine lv_aload_n hx hb dX7_writeForm_338 rfl (lv_at hl 0 rfl) ?_
                    refine va_get (D := (dC, dI)) (ci := 8) (v := .ref (jM 19)) (C := RX7) (T := TX7) (N := 34) hx hb ht inX7 hown hK hP 0 rfl rfl 19 (by decide) (ht _ kw_46) (fun _ h9 => h9) rfl dX7_writeForm_339 ?_
                    refine lv_iload_n hx hb dX7_writeForm_342 rfl (lv_at hl 2 rfl) ?_
                    obtain ⟨g40, hm⟩ := gdi_of hm
                    refine va_iald hx hb hK hP 12 0 rfl rfl g40 dX7_writeForm_343 ?_
                    have hPc : va_P (dC, dI) vwCl ([wM cI cJ aM jM u33] : List va_W).flatten _ := hP
                    have hDc : va_D A ([wM cI cJ aM jM u33] : List va_W).flatten := hD
                    have hFc := va_freeF (fc := ([wM cI cJ aM jM u33] : List va_W)) hD hS hA [0] rfl
                    obtain ⟨u41o, e42, hm⟩ := oC1_of hm
                    refine va_callv (va_runV (As := [.int (u33.2.1 19 (x32).toNatClampNeg)]) (rest := []) ⟨hx, hb, hml, hown, ht⟩ (c_X7_putByte l dC dI cI cJ aM jM H.size u33 (u33.2.1 19 (x32).toNatClampNeg) u41o e42) (cwV 1 ht (gdV kw_36 kw_34 kw_35 kw_7 kw_33) rfl rfl rfl ⟨rfl, nd_X7_putByte⟩ ⟨Nat.le_of_ble_eq_true rfl, Nat.le_of_ble_eq_true rfl⟩) ⟨pcW_blind, va_recv hK hPc (ci := 8) (q0 := 0) rfl rfl, pcW_pre hPc hK hDc hN⟩ rfl rfl hl.1 rfl (lv_room (Nat.le_of_ble_eq_true rfl)) dX7_writeForm_344 ⟨Nat.zero_le _, Nat.zero_le _⟩) hS (fun q _ z => hFc q z) hFc (fun uu t H1 locs ht1 hvm hw hB hz1 hk1 hS => ?_)
                    obtain ⟨u41, rfl⟩ : ∃ z, z = uu := ⟨_, rfl⟩
                    obtain ⟨hP1, hD1⟩ := hB
                    rw [ht1] at hP1
                    obtain rfl : u41 = u41o := Option.some.inj hw
                    have hP : va_P (dC, dI) vwCl ([wM cI cJ aM jM u41] : List va_W).flatten H1 := hP1
                    have hD : va_D A ([wM cI cJ aM jM u41] : List va_W).flatten := hD1.weaken (fun _ q _ z => hFc q.1 z)
                    generalize H1 = H at hP hS ⊢
                    obtain ⟨x43, ex43, hm⟩ := bnd_ex hm
                    refine lv_iinc (v := x43) (lv' := [(2, .int x43), (0, .ref aM), (1, .int p1)]) hx hb dX7_writeForm_347 hl (k := 2) rfl (by rw [ex43]; exact congrArg _ (by decide)) (by decide) rfl (fun ls hl => ?_)
                    refine lv_goto (tgt := 294) hx hb dX7_writeForm_350 (by decide) ?_
                    exact ih294 x43 u41 _ _ _ hm hP hD hS (lv_sub hl [1, 2, 0] rfl)
                  · have hm := ite_t c39 hm
                    refine lv_aload_n hx hb dX7_writeForm_323 rfl (lv_at hl 0 rfl) ?_
                    refine lv_aload_n hx hb dX7_writeForm_324 rfl (lv_at hl 0 rfl) ?_
                    refine va_get (D := (dC, dI)) (ci := 8) (v := .ref (jM 19)) (C := RX7) (T := TX7) (N := 34) hx hb ht inX7 hown hK hP 0 rfl rfl 19 (by decide) (ht _ kw_46) (fun _ h9 => h9) rfl dX7_writeForm_325 ?_
                    refine lv_iload_n hx hb dX7_writeForm_328 rfl (lv_at hl 2 rfl) ?_
                    obtain ⟨g44, hm⟩ := gdi_of hm
                    refine va_iald hx hb hK hP 12 0 rfl rfl g44 dX7_writeForm_329 ?_
                    refine lv_iconst (v := (1 : Int32)) hx hb dX7_writeForm_330 (by decide) ?_
                    have hPc : va_P (dC, dI) vwCl ([wM cI cJ aM jM u33] : List va_W).flatten _ := hP
                    have hDc : va_D A ([wM cI cJ aM jM u33] : List va_W).flatten := hD
                    have hFc := va_freeF (fc := ([wM cI cJ aM jM u33] : List va_W)) hD hS hA [0] rfl
                    obtain ⟨u45o, e46, hm⟩ := oC1_of hm
                    refine va_callv (va_runV (As := [.int (u33.2.1 19 (x32).toNatClampNeg), .int (1 : Int32)]) (rest := []) ⟨hx, hb, hml, hown, ht⟩ (c_X7_putBits l dC dI cI cJ aM jM H.size u33 (u33.2.1 19 (x32).toNatClampNeg) (1 : Int32) u45o e46) (cwV 2 ht (gdV kw_44 kw_42 kw_43 kw_7 kw_41) rfl rfl rfl ⟨rfl, nd_X7_putBits⟩ ⟨Nat.le_of_ble_eq_true rfl, Nat.le_of_ble_eq_true rfl⟩) ⟨pcW_blind, va_recv hK hPc (ci := 8) (q0 := 0) rfl rfl, pcW_pre hPc hK hDc hN⟩ rfl rfl hl.1 rfl (lv_room (Nat.le_of_ble_eq_true rfl)) dX7_writeForm_331 ⟨Nat.zero_le _, Nat.zero_le _⟩) hS (fun q _ z => hFc q z) hFc (fun uu t H1 locs ht1 hvm hw hB hz1 hk1 hS => ?_)
                    obtain ⟨u45, rfl⟩ : ∃ z, z = uu := ⟨_, rfl⟩
                    obtain ⟨hP1, hD1⟩ := hB
                    rw [ht1] at hP1
                    obtain rfl : u45 = u45o := Option.some.inj hw
                    have hP : va_P (dC, dI) vwCl ([wM cI cJ aM jM u45] : List va_W).flatten H1 := hP1
                    have hD : va_D A ([wM cI cJ aM jM u45] : List va_W).flatten := hD1.weaken (fun _ q _ z => hFc q.1 z)
                    generalize H1 = H at hP hS ⊢
                    refine lv_goto (tgt := 347) hx hb dX7_writeForm_334 (by decide) ?_
                    obtain ⟨x47, ex47, hm⟩ := bnd_ex hm
                    refine lv_iinc (v := x47) (lv' := [(2, .int x47), (0, .ref aM), (1, .int p1)]) hx hb dX7_writeForm_347 hl (k := 2) rfl (by rw [ex47]; exact congrArg _ (by decide)) (by decide) rfl (fun ls hl => ?_)
                    refine lv_goto (tgt := 294) hx hb dX7_writeForm_350 (by decide) ?_
                    exact ih294 x47 u45 _ _ _ hm hP hD hS (lv_sub hl [1, 2, 0] rfl)
                · have hm := ite_t c38 hm
                  refine lv_aload_n hx hb dX7_writeForm_303 rfl (lv_at hl 0 rfl) ?_
                  refine lv_aload_n hx hb dX7_writeForm_304 rfl (lv_at hl 0 rfl) ?_
                  refine va_get (D := (dC, dI)) (ci := 8) (v := .ref (jM 19)) (C := RX7) (T := TX7) (N := 34) hx hb ht inX7 hown hK hP 0 rfl rfl 19 (by decide) (ht _ kw_46) (fun _ h9 => h9) rfl dX7_writeForm_305 ?_
                  refine lv_iload_n hx hb dX7_writeForm_308 rfl (lv_at hl 2 rfl) ?_
                  obtain ⟨g48, hm⟩ := gdi_of hm
                  refine va_iald hx hb hK hP 12 0 rfl rfl g48 dX7_writeForm_309 ?_
                  refine lv_i2l hx hb dX7_writeForm_310 rfl ?_
                  refine lv_iconst (v := (4 : Int32)) hx hb dX7_writeForm_311 (by decide) ?_
                  have hPc : va_P (dC, dI) vwCl ([wM cI cJ aM jM u33] : List va_W).flatten _ := hP
                  have hDc : va_D A ([wM cI cJ aM jM u33] : List va_W).flatten := hD
                  have hFc := va_freeF (fc := ([wM cI cJ aM jM u33] : List va_W)) hD hS hA [0] rfl
                  obtain ⟨u49o, e50, hm⟩ := oC1_of hm
                  refine va_callv (va_runV (As := [.long ((u33.2.1 19 (x32).toNatClampNeg)).toInt64, .int (4 : Int32)]) (rest := []) ⟨hx, hb, hml, hown, ht⟩ (c_X7_putWide l dC dI cI cJ aM jM H.size u33 ((u33.2.1 19 (x32).toNatClampNeg)).toInt64 (4 : Int32) u49o e50) (cwV 2 ht (gdV kw_67 kw_65 kw_66 kw_7 kw_64) rfl rfl rfl ⟨rfl, nd_X7_putWide⟩ ⟨Nat.le_of_ble_eq_true rfl, Nat.le_of_ble_eq_true rfl⟩) ⟨pcW_blind, va_recv hK hPc (ci := 8) (q0 := 0) rfl rfl, pcW_pre hPc hK hDc hN⟩ rfl rfl hl.1 rfl (lv_room (Nat.le_of_ble_eq_true rfl)) dX7_writeForm_312 ⟨Nat.zero_le _, Nat.zero_le _⟩) hS (fun q _ z => hFc q z) hFc (fun uu t H1 locs ht1 hvm hw hB hz1 hk1 hS => ?_)
                  obtain ⟨u49, rfl⟩ : ∃ z, z = uu := ⟨_, rfl⟩
                  obtain ⟨hP1, hD1⟩ := hB
                  rw [ht1] at hP1
                  obtain rfl : u49 = u49o := Option.some.inj hw
                  have hP : va_P (dC, dI) vwCl ([wM cI cJ aM jM u49] : List va_W).flatten H1 := hP1
                  have hD : va_D A ([wM cI cJ aM jM u49] : List va_W).flatten := hD1.weaken (fun _ q _ z => hFc q.1 z)
                  generalize H1 = H at hP hS ⊢
                  refine lv_goto (tgt := 347) hx hb dX7_writeForm_315 (by decide) ?_
                  obtain ⟨x51, ex51, hm⟩ := bnd_ex hm
                  refine lv_iinc (v := x51) (lv' := [(2, .int x51), (0, .ref aM), (1, .int p1)]) hx hb dX7_writeForm_347 hl (k := 2) rfl (by rw [ex51]; exact congrArg _ (by decide)) (by decide) rfl (fun ls hl => ?_)
                  refine lv_goto (tgt := 294) hx hb dX7_writeForm_350 (by decide) ?_
                  exact ih294 x51 u49 _ _ _ hm hP hD hS (lv_sub hl [1, 2, 0] rfl)
          exact LP294 FU x31 u30 _ _ _ hm hP hD hS (lv_sub hl [1, 2, 0] rfl)
        have LP218 : ∀ (n218 : Nat) (x24 : Int32) (u25 : OS) (H : Heap) (locs : List Loc) (ls : Array Slot), f_X7_writeForm_L218 p1 n218 K274_28 x24 u25 = some o → va_P (dC, dI) vwCl ([wM cI cJ aM jM u25] : List va_W).flatten H → va_D A ([wM cI cJ aM jM u25] : List va_W).flatten → va_S A s.heap H locs → lv_has ls 5 [(0, .ref aM), (1, .int p1), (2, .int x24)] → W p l e ({ frames := 3, cells := 0, slots := 0, locals := 66 } : Room) s m ([.ref aM, .int p1] : List Value).toArray below meth c H locs 0 0 Q (F0 m 218 ls []) := by
          intro n218
          induction n218 with
          | zero => intro x24 u25 H locs ls hm; exact nomatch (show (none : Option _) = some _ from hm)
          | succ n218 ih218 =>
            intro x24 u25 H locs ls hm hP hD hS hl
            unfold f_X7_writeForm_L218 at hm
            refine lv_iload_n hx hb dX7_writeForm_218 rfl (lv_at hl 2 rfl) ?_
            refine lv_aload_n hx hb dX7_writeForm_219 rfl (lv_at hl 0 rfl) ?_
            refine va_get (D := (dC, dI)) (ci := 8) (v := .int (u25.1 3)) (C := RX7) (T := TX7) (N := 34) hx hb ht inX7 hown hK hP 0 rfl rfl 3 (by decide) (ht _ kw_29) (fun _ h9 => h9) rfl dX7_writeForm_220 ?_
            refine lv_icmp_ge (tgt := 274) hx hb dX7_writeForm_223 (by decide) (fun c52 => ?_) (fun c52 => ?_)
            · have hm := ite_t c52 hm
              exact X274_28 x24 u25 _ _ _ hm hP hD hS (lv_sub hl [0, 1, 2] rfl)
            · have hm := ite_f c52 hm
              refine lv_aload_n hx hb dX7_writeForm_226 rfl (lv_at hl 0 rfl) ?_
              refine lv_aload_n hx hb dX7_writeForm_227 rfl (lv_at hl 0 rfl) ?_
              refine va_get (D := (dC, dI)) (ci := 8) (v := .ref (jM 16)) (C := RX7) (T := TX7) (N := 34) hx hb ht inX7 hown hK hP 0 rfl rfl 16 (by decide) (ht _ kw_45) (fun _ h9 => h9) rfl dX7_writeForm_228 ?_
              refine lv_iload_n hx hb dX7_writeForm_231 rfl (lv_at hl 2 rfl) ?_
              obtain ⟨g53, hm⟩ := gdi_of hm
              refine va_lald hx hb hK hP 10 1 rfl rfl g53 dX7_writeForm_232 ?_
              refine lv_iload_n hx hb dX7_writeForm_233 rfl (lv_at hl 1 rfl) ?_
              refine lv_iconst (v := (1 : Int32)) hx hb dX7_writeForm_234 (by decide) ?_
              obtain ⟨K253_55, eK253_55, hm⟩ := bnd_ex hm
              have J253_55 : ∀ (x54 : Int32) (H : Heap) (locs : List Loc) (ls : Array Slot), K253_55 x54 = some o → va_P (dC, dI) vwCl ([wM cI cJ aM jM u25] : List va_W).flatten H → va_D A ([wM cI cJ aM jM u25] : List va_W).flatten → va_S A s.heap H locs → lv_has ls 5 [(0, .ref aM), (1, .int p1), (2, .int x24)] → W p l e ({ frames := 3, cells := 0, slots := 0, locals := 66 } : Room) s m ([.ref aM, .int p1] : List Value).toArray below meth c H locs 0 0 Q (F0 m 253 ls [.int x54, .long (u25.2.2.1 16 (x24).toNatClampNeg), .ref aM]) := by
                intro x54 H locs ls hm hP hD hS hl
                have hm := ap1 eK253_55 hm
                have hPc : va_P (dC, dI) vwCl ([wM cI cJ aM jM u25] : List va_W).flatten _ := hP
                have hDc : va_D A ([wM cI cJ aM jM u25] : List va_W).flatten := hD
                have hFc := va_freeF (fc := ([wM cI cJ aM jM u25] : List va_W)) hD hS hA [0] rfl
                obtain ⟨u56o, e57, hm⟩ := oC1_of hm
                refine va_callv (va_runV (As := [.long (u25.2.2.1 16 (x24).toNatClampNeg), .int x54]) (rest := []) ⟨hx, hb, hml, hown, ht⟩ (c_X7_putWide l dC dI cI cJ aM jM H.size u25 (u25.2.2.1 16 (x24).toNatClampNeg) x54 u56o e57) (cwV 2 ht (gdV kw_67 kw_65 kw_66 kw_7 kw_64) rfl rfl rfl ⟨rfl, nd_X7_putWide⟩ ⟨Nat.le_of_ble_eq_true rfl, Nat.le_of_ble_eq_true rfl⟩) ⟨pcW_blind, va_recv hK hPc (ci := 8) (q0 := 0) rfl rfl, pcW_pre hPc hK hDc hN⟩ rfl rfl hl.1 rfl (lv_room (Nat.le_of_ble_eq_true rfl)) dX7_writeForm_253 ⟨Nat.zero_le _, Nat.zero_le _⟩) hS (fun q _ z => hFc q z) hFc (fun uu t H1 locs ht1 hvm hw hB hz1 hk1 hS => ?_)
                obtain ⟨u56, rfl⟩ : ∃ z, z = uu := ⟨_, rfl⟩
                obtain ⟨hP1, hD1⟩ := hB
                rw [ht1] at hP1
                obtain rfl : u56 = u56o := Option.some.inj hw
                have hP : va_P (dC, dI) vwCl ([wM cI cJ aM jM u56] : List va_W).flatten H1 := hP1
                have hD : va_D A ([wM cI cJ aM jM u56] : List va_W).flatten := hD1.weaken (fun _ q _ z => hFc q.1 z)
                generalize H1 = H at hP hS ⊢
                refine lv_aload_n hx hb dX7_writeForm_256 rfl (lv_at hl 0 rfl) ?_
                refine va_get (D := (dC, dI)) (ci := 8) (v := .ref (jM 17)) (C := RX7) (T := TX7) (N := 34) hx hb ht inX7 hown hK hP 0 rfl rfl 17 (by decide) (ht _ kw_62) (fun _ h9 => h9) rfl dX7_writeForm_257 ?_
                refine lv_iload_n hx hb dX7_writeForm_260 rfl (lv_at hl 2 rfl) ?_
                refine lv_aload_n hx hb dX7_writeForm_261 rfl (lv_at hl 0 rfl) ?_
                refine va_get (D := (dC, dI)) (ci := 8) (v := .ref (jM 16)) (C := RX7) (T := TX7) (N := 34) hx hb ht inX7 hown hK hP 0 rfl rfl 16 (by decide) (ht _ kw_45) (fun _ h9 => h9) rfl dX7_writeForm_262 ?_
                refine lv_iload_n hx hb dX7_writeForm_265 rfl (lv_at hl 2 rfl) ?_
                obtain ⟨g58, hm⟩ := gdi_of hm
                refine va_lald hx hb hK hP 10 1 rfl rfl g58 dX7_writeForm_266 ?_
                obtain ⟨g59, hm⟩ := gdi_of hm
                refine va_last hx hb hK hP hD hS 11 1 rfl rfl g59 dX7_writeForm_267 (fun H locs hP hD hS => ?_)
                obtain ⟨u60, eu60, hm⟩ := bnd_ex hm
                have hP : va_P (dC, dI) vwCl ([wM cI cJ aM jM u60] : List va_W).flatten H := by rw [eu60]; exact hP
                have hD : va_D A ([wM cI cJ aM jM u60] : List va_W).flatten := by rw [eu60]; exact hD
                obtain ⟨x61, ex61, hm⟩ := bnd_ex hm
                refine lv_iinc (v := x61) (lv' := [(2, .int x61), (0, .ref aM), (1, .int p1)]) hx hb dX7_writeForm_268 hl (k := 2) rfl (by rw [ex61]; exact congrArg _ (by decide)) (by decide) rfl (fun ls hl => ?_)
                refine lv_goto (tgt := 218) hx hb dX7_writeForm_271 (by decide) ?_
                exact ih218 x61 u60 _ _ _ hm hP hD hS (lv_sub hl [1, 2, 0] rfl)
              refine lv_icmp_ne (tgt := 243) hx hb dX7_writeForm_235 (by decide) (fun c62 => ?_) (fun c62 => ?_)
              · have hm := ite_f c62 hm
                refine lv_iload_n hx hb dX7_writeForm_243 rfl (lv_at hl 1 rfl) ?_
                refine lv_iconst (v := (2 : Int32)) hx hb dX7_writeForm_244 (by decide) ?_
                refine lv_icmp_ne (tgt := 252) hx hb dX7_writeForm_245 (by decide) (fun c63 => ?_) (fun c63 => ?_)
                · have hm := ite_f c63 hm
                  refine lv_iconst (v := (4 : Int32)) hx hb dX7_writeForm_252 (by decide) ?_
                  exact J253_55 (4 : Int32) _ _ _ hm hP hD hS (lv_sub hl [0, 1, 2] rfl)
                · have hm := ite_t c63 hm
                  refine lv_iconst (v := (2 : Int32)) hx hb dX7_writeForm_248 (by decide) ?_
                  refine lv_goto (tgt := 253) hx hb dX7_writeForm_249 (by decide) ?_
                  exact J253_55 (2 : Int32) _ _ _ hm hP hD hS (lv_sub hl [0, 1, 2] rfl)
              · have hm := ite_t c62 hm
                refine lv_bipush (v := (8 : Int32)) hx hb dX7_writeForm_238 (by decide) ?_
                refine lv_goto (tgt := 253) hx hb dX7_writeForm_240 (by decide) ?_
                exact J253_55 (8 : Int32) _ _ _ hm hP hD hS (lv_sub hl [0, 1, 2] rfl)
        exact LP218 FU (0 : Int32) u22 _ _ _ hm hP hD hS (lv_sub hl [1, 2, 0] rfl)
      have LP92 : ∀ (n92 : Nat) (x19 : Int32) (u20 : OS) (H : Heap) (locs : List Loc) (ls : Array Slot), f_X7_writeForm_L92 p1 n92 K216_23 x19 u20 = some o → va_P (dC, dI) vwCl ([wM cI cJ aM jM u20] : List va_W).flatten H → va_D A ([wM cI cJ aM jM u20] : List va_W).flatten → va_S A s.heap H locs → lv_has ls 5 [(0, .ref aM), (1, .int p1), (2, .int x19)] → W p l e ({ frames := 3, cells := 0, slots := 0, locals := 66 } : Room) s m ([.ref aM, .int p1] : List Value).toArray below meth c H locs 0 0 Q (F0 m 92 ls []) := by
        intro n92
        induction n92 with
        | zero => intro x19 u20 H locs ls hm; exact nomatch (show (none : Option _) = some _ from hm)
        | succ n92 ih92 =>
          intro x19 u20 H locs ls hm hP hD hS hl
          unfold f_X7_writeForm_L92 at hm
          refine lv_iload_n hx hb dX7_writeForm_92 rfl (lv_at hl 2 rfl) ?_
          refine lv_if_lt (tgt := 216) hx hb dX7_writeForm_93 (by decide) (fun c64 => ?_) (fun c64 => ?_)
          · have hm := ite_t c64 hm
            exact X216_23 x19 u20 _ _ _ hm hP hD hS (lv_sub hl [0, 1, 2] rfl)
          · have hm := ite_f c64 hm
            refine lv_aload_n hx hb dX7_writeForm_96 rfl (lv_at hl 0 rfl) ?_
            refine va_get (D := (dC, dI)) (ci := 8) (v := .ref (jM 4)) (C := RX7) (T := TX7) (N := 34) hx hb ht inX7 hown hK hP 0 rfl rfl 4 (by decide) (ht _ kw_2) (fun _ h9 => h9) rfl dX7_writeForm_97 ?_
            refine lv_iload_n hx hb dX7_writeForm_100 rfl (lv_at hl 2 rfl) ?_
            obtain ⟨g65, hm⟩ := gdi_of hm
            refine va_iald hx hb hK hP 1 0 rfl rfl g65 dX7_writeForm_101 ?_
            refine lv_topi (fun x66 ex66 => ?_)
            have hm := bnd_nm ex66 hm
            refine lv_istore_n (lv' := [(3, .int x66), (0, .ref aM), (1, .int p1), (2, .int x19)]) hx hb dX7_writeForm_102 rfl hl (by decide) rfl (fun ls hl => ?_)
            refine lv_iload_n hx hb dX7_writeForm_103 rfl (lv_at hl 3 rfl) ?_
            refine lv_aload_n hx hb dX7_writeForm_104 rfl (lv_at hl 1 rfl) ?_
            refine va_get (D := (dC, dI)) (ci := 8) (v := .int (u20.1 3)) (C := RX7) (T := TX7) (N := 34) hx hb ht inX7 hown hK hP 0 rfl rfl 3 (by decide) (ht _ kw_29) (fun _ h9 => h9) rfl dX7_writeForm_105 ?_
            obtain ⟨g67, hm⟩ := gdz_of hm
            refine lv_irem hx hb dX7_writeForm_108 g67 ?_
            refine lv_topi (fun x68 ex68 => ?_)
            have hm := bnd_nm ex68 hm
            refine lv_istore (lv' := [(4, .int x68), (3, .int x66), (0, .ref aM), (1, .int p1), (2, .int x19)]) hx hb dX7_writeForm_109 hl (by decide) rfl (fun ls hl => ?_)
            refine lv_iload_n hx hb dX7_writeForm_111 rfl (lv_at hl 3 rfl) ?_
            refine lv_iconst (v := (3 : Int32)) hx hb dX7_writeForm_112 (by decide) ?_
            refine lv_icmp_ne (tgt := 126) hx hb dX7_writeForm_113 (by decide) (fun c69 => ?_) (fun c69 => ?_)
            · have hm := ite_f c69 hm
              refine lv_aload_n hx hb dX7_writeForm_126 rfl (lv_at hl 2 rfl) ?_
              refine va_get (D := (dC, dI)) (ci := 8) (v := .ref (jM 8)) (C := RX7) (T := TX7) (N := 34) hx hb ht inX7 hown hK hP 0 rfl rfl 8 (by decide) (ht _ kw_18) (fun _ h9 => h9) rfl dX7_writeForm_127 ?_
              refine lv_iload_n hx hb dX7_writeForm_130 rfl (lv_at hl 1 rfl) ?_
              obtain ⟨g70, hm⟩ := gdi_of hm
              refine va_iald hx hb hK hP 3 0 rfl rfl g70 dX7_writeForm_131 ?_
              refine lv_iconst (v := (1 : Int32)) hx hb dX7_writeForm_132 (by decide) ?_
              refine lv_aload_n hx hb dX7_writeForm_133 rfl (lv_at hl 2 rfl) ?_
              refine va_get (D := (dC, dI)) (ci := 8) (v := .int (u20.1 0)) (C := RX7) (T := TX7) (N := 34) hx hb ht inX7 hown hK hP 0 rfl rfl 0 (by decide) (ht _ kw_14) (fun _ h9 => h9) rfl dX7_writeForm_134 ?_
              refine lv_ishl hx hb dX7_writeForm_137 ?_
              refine lv_icmp_ge (tgt := 210) hx hb dX7_writeForm_138 (by decide) (fun c71 => ?_) (fun c71 => ?_)
              · have hm := ite_t c71 hm
                obtain ⟨x72, ex72, hm⟩ := bnd_ex hm
                refine lv_iinc (v := x72) (lv' := [(2, .int x72), (4, .int x68), (3, .int x66), (0, .ref aM), (1, .int p1)]) hx hb dX7_writeForm_210 hl (k := 4) rfl (by rw [ex72]; exact congrArg _ (by decide)) (by decide) rfl (fun ls hl => ?_)
                refine lv_goto (tgt := 92) hx hb dX7_writeForm_213 (by decide) ?_
                exact ih92 x72 u20 _ _ _ hm hP hD hS (lv_sub hl [3, 4, 0] rfl)
              · have hm := ite_f c71 hm
                refine lv_iload_n hx hb dX7_writeForm_141 rfl (lv_at hl 3 rfl) ?_
                refine lv_if_ne (tgt := 166) hx hb dX7_writeForm_142 (by decide) (fun c73 => ?_) (fun c73 => ?_)
                · have hm := ite_f c73 hm
                  refine lv_iload_n hx hb dX7_writeForm_166 rfl (lv_at hl 3 rfl) ?_
                  refine lv_iconst (v := (1 : Int32)) hx hb dX7_writeForm_167 (by decide) ?_
                  refine lv_icmp_ne (tgt := 192) hx hb dX7_writeForm_168 (by decide) (fun c74 => ?_) (fun c74 => ?_)
                  · have hm := ite_f c74 hm
                    refine lv_aload_n hx hb dX7_writeForm_192 rfl (lv_at hl 2 rfl) ?_
                    refine lv_iload hx hb dX7_writeForm_193 (lv_at hl 0 rfl) ?_
                    refine lv_aload_n hx hb dX7_writeForm_195 rfl (lv_at hl 2 rfl) ?_
                    refine va_get (D := (dC, dI)) (ci := 8) (v := .ref (jM 8)) (C := RX7) (T := TX7) (N := 34) hx hb ht inX7 hown hK hP 0 rfl rfl 8 (by decide) (ht _ kw_18) (fun _ h9 => h9) rfl dX7_writeForm_196 ?_
                    refine lv_iload_n hx hb dX7_writeForm_199 rfl (lv_at hl 1 rfl) ?_
                    obtain ⟨g75, hm⟩ := gdi_of hm
                    refine va_iald hx hb hK hP 3 0 rfl rfl g75 dX7_writeForm_200 ?_
                    refine lv_aload_n hx hb dX7_writeForm_201 rfl (lv_at hl 2 rfl) ?_
                    refine va_get (D := (dC, dI)) (ci := 8) (v := .ref (jM 9)) (C := RX7) (T := TX7) (N := 34) hx hb ht inX7 hown hK hP 0 rfl rfl 9 (by decide) (ht _ kw_20) (fun _ h9 => h9) rfl dX7_writeForm_202 ?_
                    refine lv_iload_n hx hb dX7_writeForm_205 rfl (lv_at hl 1 rfl) ?_
                    obtain ⟨g76, hm⟩ := gdi_of hm
                    refine va_iald hx hb hK hP 4 0 rfl rfl g76 dX7_writeForm_206 ?_
                    have hPc : va_P (dC, dI) vwCl ([wM cI cJ aM jM u20] : List va_W).flatten _ := hP
                    have hDc : va_D A ([wM cI cJ aM jM u20] : List va_W).flatten := hD
                    have hFc := va_freeF (fc := ([wM cI cJ aM jM u20] : List va_W)) hD hS hA [0] rfl
                    obtain ⟨u77o, e78, hm⟩ := oC1_of hm
                    refine va_callv (va_runV (As := [.int x68, .int (u20.2.1 8 (x66).toNatClampNeg), .int (u20.2.1 9 (x66).toNatClampNeg)]) (rest := []) ⟨hx, hb, hml, hown, ht⟩ (c_X7_writeBitsOf l dC dI cI cJ aM jM H.size u20 x68 (u20.2.1 8 (x66).toNatClampNeg) (u20.2.1 9 (x66).toNatClampNeg) u77o e78) (cwV 3 ht (gdV kw_75 kw_73 kw_74 kw_7 kw_72) rfl rfl rfl ⟨rfl, nd_X7_writeBitsOf⟩ ⟨Nat.le_of_ble_eq_true rfl, Nat.le_of_ble_eq_true rfl⟩) ⟨pcW_blind, va_recv hK hPc (ci := 8) (q0 := 0) rfl rfl, pcW_pre hPc hK hDc hN⟩ rfl rfl hl.1 rfl (lv_room (Nat.le_of_ble_eq_true rfl)) dX7_writeForm_207 ⟨Nat.zero_le _, Nat.zero_le _⟩) hS (fun q _ z => hFc q z) hFc (fun uu t H1 locs ht1 hvm hw hB hz1 hk1 hS => ?_)
                    obtain ⟨u77, rfl⟩ : ∃ z, z = uu := ⟨_, rfl⟩
                    obtain ⟨hP1, hD1⟩ := hB
                    rw [ht1] at hP1
                    obtain rfl : u77 = u77o := Option.some.inj hw
                    have hP : va_P (dC, dI) vwCl ([wM cI cJ aM jM u77] : List va_W).flatten H1 := hP1
                    have hD : va_D A ([wM cI cJ aM jM u77] : List va_W).flatten := hD1.weaken (fun _ q _ z => hFc q.1 z)
                    generalize H1 = H at hP hS ⊢
                    obtain ⟨x79, ex79, hm⟩ := bnd_ex hm
                    refine lv_iinc (v := x79) (lv' := [(2, .int x79), (4, .int x68), (3, .int x66), (0, .ref aM), (1, .int p1)]) hx hb dX7_writeForm_210 hl (k := 4) rfl (by rw [ex79]; exact congrArg _ (by decide)) (by decide) rfl (fun ls hl => ?_)
                    refine lv_goto (tgt := 92) hx hb dX7_writeForm_213 (by decide) ?_
                    exact ih92 x79 u77 _ _ _ hm hP hD hS (lv_sub hl [3, 4, 0] rfl)
                  · have hm := ite_t c74 hm
                    refine lv_aload_n hx hb dX7_writeForm_171 rfl (lv_at hl 2 rfl) ?_
                    refine lv_iload hx hb dX7_writeForm_172 (lv_at hl 0 rfl) ?_
                    refine lv_aload_n hx hb dX7_writeForm_174 rfl (lv_at hl 2 rfl) ?_
                    refine va_get (D := (dC, dI)) (ci := 8) (v := .ref (jM 8)) (C := RX7) (T := TX7) (N := 34) hx hb ht inX7 hown hK hP 0 rfl rfl 8 (by decide) (ht _ kw_18) (fun _ h9 => h9) rfl dX7_writeForm_175 ?_
                    refine lv_iload_n hx hb dX7_writeForm_178 rfl (lv_at hl 1 rfl) ?_
                    obtain ⟨g80, hm⟩ := gdi_of hm
                    refine va_iald hx hb hK hP 3 0 rfl rfl g80 dX7_writeForm_179 ?_
                    refine lv_aload_n hx hb dX7_writeForm_180 rfl (lv_at hl 2 rfl) ?_
                    refine va_get (D := (dC, dI)) (ci := 8) (v := .ref (jM 9)) (C := RX7) (T := TX7) (N := 34) hx hb ht inX7 hown hK hP 0 rfl rfl 9 (by decide) (ht _ kw_20) (fun _ h9 => h9) rfl dX7_writeForm_181 ?_
                    refine lv_iload_n hx hb dX7_writeForm_184 rfl (lv_at hl 1 rfl) ?_
                    obtain ⟨g81, hm⟩ := gdi_of hm
                    refine va_iald hx hb hK hP 4 0 rfl rfl g81 dX7_writeForm_185 ?_
                    have hPc : va_P (dC, dI) vwCl ([wM cI cJ aM jM u20] : List va_W).flatten _ := hP
                    have hDc : va_D A ([wM cI cJ aM jM u20] : List va_W).flatten := hD
                    have hFc := va_freeF (fc := ([wM cI cJ aM jM u20] : List va_W)) hD hS hA [0] rfl
                    obtain ⟨u82o, e83, hm⟩ := oC1_of hm
                    refine va_callv (va_runV (As := [.int x68, .int (u20.2.1 8 (x66).toNatClampNeg), .int (u20.2.1 9 (x66).toNatClampNeg)]) (rest := []) ⟨hx, hb, hml, hown, ht⟩ (c_X7_writeWords l dC dI cI cJ aM jM H.size u20 x68 (u20.2.1 8 (x66).toNatClampNeg) (u20.2.1 9 (x66).toNatClampNeg) u82o e83) (cwV 3 ht (gdV kw_79 kw_77 kw_78 kw_7 kw_76) rfl rfl rfl ⟨rfl, nd_X7_writeWords⟩ ⟨Nat.le_of_ble_eq_true rfl, Nat.le_of_ble_eq_true rfl⟩) ⟨pcW_blind, va_recv hK hPc (ci := 8) (q0 := 0) rfl rfl, pcW_pre hPc hK hDc hN⟩ rfl rfl hl.1 rfl (lv_room (Nat.le_of_ble_eq_true rfl)) dX7_writeForm_186 ⟨Nat.zero_le _, Nat.zero_le _⟩) hS (fun q _ z => hFc q z) hFc (fun uu t H1 locs ht1 hvm hw hB hz1 hk1 hS => ?_)
                    obtain ⟨u82, rfl⟩ : ∃ z, z = uu := ⟨_, rfl⟩
                    obtain ⟨hP1, hD1⟩ := hB
                    rw [ht1] at hP1
                    obtain rfl : u82 = u82o := Option.some.inj hw
                    have hP : va_P (dC, dI) vwCl ([wM cI cJ aM jM u82] : List va_W).flatten H1 := hP1
                    have hD : va_D A ([wM cI cJ aM jM u82] : List va_W).flatten := hD1.weaken (fun _ q _ z => hFc q.1 z)
                    generalize H1 = H at hP hS ⊢
                    refine lv_goto (tgt := 210) hx hb dX7_writeForm_189 (by decide) ?_
                    obtain ⟨x84, ex84, hm⟩ := bnd_ex hm
                    refine lv_iinc (v := x84) (lv' := [(2, .int x84), (4, .int x68), (3, .int x66), (0, .ref aM), (1, .int p1)]) hx hb dX7_writeForm_210 hl (k := 4) rfl (by rw [ex84]; exact congrArg _ (by decide)) (by decide) rfl (fun ls hl => ?_)
                    refine lv_goto (tgt := 92) hx hb dX7_writeForm_213 (by decide) ?_
                    exact ih92 x84 u82 _ _ _ hm hP hD hS (lv_sub hl [3, 4, 0] rfl)
                · have hm := ite_t c73 hm
                  refine lv_aload_n hx hb dX7_writeForm_145 rfl (lv_at hl 2 rfl) ?_
                  refine lv_iload hx hb dX7_writeForm_146 (lv_at hl 0 rfl) ?_
                  refine lv_aload_n hx hb dX7_writeForm_148 rfl (lv_at hl 2 rfl) ?_
                  refine va_get (D := (dC, dI)) (ci := 8) (v := .ref (jM 8)) (C := RX7) (T := TX7) (N := 34) hx hb ht inX7 hown hK hP 0 rfl rfl 8 (by decide) (ht _ kw_18) (fun _ h9 => h9) rfl dX7_writeForm_149 ?_
                  refine lv_iload_n hx hb dX7_writeForm_152 rfl (lv_at hl 1 rfl) ?_
                  obtain ⟨g85, hm⟩ := gdi_of hm
                  refine va_iald hx hb hK hP 3 0 rfl rfl g85 dX7_writeForm_153 ?_
                  refine lv_aload_n hx hb dX7_writeForm_154 rfl (lv_at hl 2 rfl) ?_
                  refine va_get (D := (dC, dI)) (ci := 8) (v := .ref (jM 9)) (C := RX7) (T := TX7) (N := 34) hx hb ht inX7 hown hK hP 0 rfl rfl 9 (by decide) (ht _ kw_20) (fun _ h9 => h9) rfl dX7_writeForm_155 ?_
                  refine lv_iload_n hx hb dX7_writeForm_158 rfl (lv_at hl 1 rfl) ?_
                  obtain ⟨g86, hm⟩ := gdi_of hm
                  refine va_iald hx hb hK hP 4 0 rfl rfl g86 dX7_writeForm_159 ?_
                  have hPc : va_P (dC, dI) vwCl ([wM cI cJ aM jM u20] : List va_W).flatten _ := hP
                  have hDc : va_D A ([wM cI cJ aM jM u20] : List va_W).flatten := hD
                  have hFc := va_freeF (fc := ([wM cI cJ aM jM u20] : List va_W)) hD hS hA [0] rfl
                  obtain ⟨u87o, e88, hm⟩ := oC1_of hm
                  refine va_callv (va_runV (As := [.int x68, .int (u20.2.1 8 (x66).toNatClampNeg), .int (u20.2.1 9 (x66).toNatClampNeg)]) (rest := []) ⟨hx, hb, hml, hown, ht⟩ (c_X7_writeBytes l dC dI cI cJ aM jM H.size u20 x68 (u20.2.1 8 (x66).toNatClampNeg) (u20.2.1 9 (x66).toNatClampNeg) u87o e88) (cwV 3 ht (gdV kw_61 kw_59 kw_60 kw_7 kw_58) rfl rfl rfl ⟨rfl, nd_X7_writeBytes⟩ ⟨Nat.le_of_ble_eq_true rfl, Nat.le_of_ble_eq_true rfl⟩) ⟨pcW_blind, va_recv hK hPc (ci := 8) (q0 := 0) rfl rfl, pcW_pre hPc hK hDc hN⟩ rfl rfl hl.1 rfl (lv_room (Nat.le_of_ble_eq_true rfl)) dX7_writeForm_160 ⟨Nat.zero_le _, Nat.zero_le _⟩) hS (fun q _ z => hFc q z) hFc (fun uu t H1 locs ht1 hvm hw hB hz1 hk1 hS => ?_)
                  obtain ⟨u87, rfl⟩ : ∃ z, z = uu := ⟨_, rfl⟩
                  obtain ⟨hP1, hD1⟩ := hB
                  rw [ht1] at hP1
                  obtain rfl : u87 = u87o := Option.some.inj hw
                  have hP : va_P (dC, dI) vwCl ([wM cI cJ aM jM u87] : List va_W).flatten H1 := hP1
                  have hD : va_D A ([wM cI cJ aM jM u87] : List va_W).flatten := hD1.weaken (fun _ q _ z => hFc q.1 z)
                  generalize H1 = H at hP hS ⊢
                  refine lv_goto (tgt := 210) hx hb dX7_writeForm_163 (by decide) ?_
                  obtain ⟨x89, ex89, hm⟩ := bnd_ex hm
                  refine lv_iinc (v := x89) (lv' := [(2, .int x89), (4, .int x68), (3, .int x66), (0, .ref aM), (1, .int p1)]) hx hb dX7_writeForm_210 hl (k := 4) rfl (by rw [ex89]; exact congrArg _ (by decide)) (by decide) rfl (fun ls hl => ?_)
                  refine lv_goto (tgt := 92) hx hb dX7_writeForm_213 (by decide) ?_
                  exact ih92 x89 u87 _ _ _ hm hP hD hS (lv_sub hl [3, 4, 0] rfl)
            · have hm := ite_t c69 hm
              refine lv_aload_n hx hb dX7_writeForm_116 rfl (lv_at hl 2 rfl) ?_
              refine lv_iload hx hb dX7_writeForm_117 (lv_at hl 0 rfl) ?_
              refine lv_iload_n hx hb dX7_writeForm_119 rfl (lv_at hl 1 rfl) ?_
              have hPc : va_P (dC, dI) vwCl ([wM cI cJ aM jM u20] : List va_W).flatten _ := hP
              have hDc : va_D A ([wM cI cJ aM jM u20] : List va_W).flatten := hD
              have hFc := va_freeF (fc := ([wM cI cJ aM jM u20] : List va_W)) hD hS hA [0] rfl
              obtain ⟨u90o, e91, hm⟩ := oC1_of hm
              refine va_callv (va_runV (As := [.int x68, .int x66]) (rest := []) ⟨hx, hb, hml, hown, ht⟩ (c_X7_writeSides l dC dI cI cJ aM jM H.size u20 x68 x66 u90o e91) (cwV 2 ht (gdV kw_83 kw_81 kw_82 kw_7 kw_80) rfl rfl rfl ⟨rfl, nd_X7_writeSides⟩ ⟨Nat.le_of_ble_eq_true rfl, Nat.le_of_ble_eq_true rfl⟩) ⟨pcW_blind, va_recv hK hPc (ci := 8) (q0 := 0) rfl rfl, pcW_pre hPc hK hDc hN⟩ rfl rfl hl.1 rfl (lv_room (Nat.le_of_ble_eq_true rfl)) dX7_writeForm_120 ⟨Nat.zero_le _, Nat.zero_le _⟩) hS (fun q _ z => hFc q z) hFc (fun uu t H1 locs ht1 hvm hw hB hz1 hk1 hS => ?_)
              obtain ⟨u90, rfl⟩ : ∃ z, z = uu := ⟨_, rfl⟩
              obtain ⟨hP1, hD1⟩ := hB
              rw [ht1] at hP1
              obtain rfl : u90 = u90o := Option.some.inj hw
              have hP : va_P (dC, dI) vwCl ([wM cI cJ aM jM u90] : List va_W).flatten H1 := hP1
              have hD : va_D A ([wM cI cJ aM jM u90] : List va_W).flatten := hD1.weaken (fun _ q _ z => hFc q.1 z)
              generalize H1 = H at hP hS ⊢
              refine lv_goto (tgt := 210) hx hb dX7_writeForm_123 (by decide) ?_
              obtain ⟨x92, ex92, hm⟩ := bnd_ex hm
              refine lv_iinc (v := x92) (lv' := [(2, .int x92), (4, .int x68), (3, .int x66), (0, .ref aM), (1, .int p1)]) hx hb dX7_writeForm_210 hl (k := 4) rfl (by rw [ex92]; exact congrArg _ (by decide)) (by decide) rfl (fun ls hl => ?_)
              refine lv_goto (tgt := 92) hx hb dX7_writeForm_213 (by decide) ?_
              exact ih92 x92 u90 _ _ _ hm hP hD hS (lv_sub hl [3, 4, 0] rfl)
      exact LP92 FU x18 u17 _ _ _ hm hP hD hS (lv_sub hl [1, 2, 0] rfl)
    have LP55 : ∀ (n55 : Nat) (x12 : Int32) (u13 : OS) (H : Heap) (locs : List Loc) (ls : Array Slot), f_X7_writeForm_L55 p1 n55 K80_16 x12 u13 = some o → va_P (dC, dI) vwCl ([wM cI cJ aM jM u13] : List va_W).flatten H → va_D A ([wM cI cJ aM jM u13] : List va_W).flatten → va_S A s.heap H locs → lv_has ls 5 [(0, .ref aM), (1, .int p1), (2, .int x12)] → W p l e ({ frames := 3, cells := 0, slots := 0, locals := 66 } : Room) s m ([.ref aM, .int p1] : List Value).toArray below meth c H locs 0 0 Q (F0 m 55 ls []) := by
      intro n55
      induction n55 with
      | zero => intro x12 u13 H locs ls hm; exact nomatch (show (none : Option _) = some _ from hm)
      | succ n55 ih55 =>
        intro x12 u13 H locs ls hm hP hD hS hl
        unfold f_X7_writeForm_L55 at hm
        refine lv_iload_n hx hb dX7_writeForm_55 rfl (lv_at hl 2 rfl) ?_
        refine lv_iconst (v := (4 : Int32)) hx hb dX7_writeForm_56 (by decide) ?_
        refine lv_icmp_ge (tgt := 80) hx hb dX7_writeForm_57 (by decide) (fun c93 => ?_) (fun c93 => ?_)
        · have hm := ite_t c93 hm
          exact X80_16 x12 u13 _ _ _ hm hP hD hS (lv_sub hl [0, 1, 2] rfl)
        · have hm := ite_f c93 hm
          refine lv_aload_n hx hb dX7_writeForm_60 rfl (lv_at hl 0 rfl) ?_
          refine va_get (D := (dC, dI)) (ci := 8) (v := .ref (jM 16)) (C := RX7) (T := TX7) (N := 34) hx hb ht inX7 hown hK hP 0 rfl rfl 16 (by decide) (ht _ kw_45) (fun _ h9 => h9) rfl dX7_writeForm_61 ?_
          refine lv_iload_n hx hb dX7_writeForm_64 rfl (lv_at hl 2 rfl) ?_
          refine lv_iload_n hx hb dX7_writeForm_65 rfl (lv_at hl 1 rfl) ?_
          refine lv_aload_n hx hb dX7_writeForm_66 rfl (lv_at hl 0 rfl) ?_
          refine va_get (D := (dC, dI)) (ci := 8) (v := .int (u13.1 0)) (C := RX7) (T := TX7) (N := 34) hx hb ht inX7 hown hK hP 0 rfl rfl 0 (by decide) (ht _ kw_14) (fun _ h9 => h9) rfl dX7_writeForm_67 ?_
          have hPc : va_P (dC, dI) vwCl ([] : List va_W).flatten _ := hP.subF [] rfl
          have hDc : va_D A ([] : List va_W).flatten := hD.subF [] (by decide) rfl
          have hFc := va_freeF (fc := ([] : List va_W)) hD hS hA [] rfl
          obtain ⟨r94o, e95, hm⟩ := oC1_of hm
          refine va_calll (va_runS (As := [.int p1, .int (u13.1 0)]) (rest := [.int x12, .ref (jM 16)]) ⟨hx, hb, hml, hown, ht⟩ (c_X7_firstState l dC dI cI cJ H.size p1 (u13.1 0) r94o e95) (va_cwS 2 ht (gdS kw_86 kw_85 kw_7 kw_84) rfl rfl rfl nd_X7_firstState ⟨Nat.le_of_ble_eq_true rfl, Nat.le_of_ble_eq_true rfl⟩) ⟨pcW_blind, pcW_pre hPc hK hDc hN⟩ rfl rfl hl.1 rfl (lv_room (Nat.le_of_ble_eq_true rfl)) dX7_writeForm_70 ⟨Nat.zero_le _, Nat.zero_le _⟩) hS (fun q _ z => hFc q z) hFc (fun r94 uu t H1 locs ht1 hvm hw hB hz1 hk1 hS => ?_)
          obtain ⟨⟩ := uu
          obtain ⟨hP1, hD1⟩ := hB
          rw [ht1] at hP1
          obtain rfl : r94 = r94o := Option.some.inj hw
          obtain ⟨hP, hD⟩ := va_joinF (fr := ([wM cI cJ aM jM u13] : List va_W)) (f1 := ([] : List va_W)) hP hD [] [0] rfl rfl (by decide) (by decide) hk1 hFc hP1 hD1
          have hP : va_P (dC, dI) vwCl ([wM cI cJ aM jM u13] : List va_W).flatten H1 := hP
          have hD : va_D A ([wM cI cJ aM jM u13] : List va_W).flatten := hD
          generalize H1 = H at hP hS ⊢
          obtain ⟨g96, hm⟩ := gdi_of hm
          refine va_last hx hb hK hP hD hS 10 1 rfl rfl g96 dX7_writeForm_73 (fun H locs hP hD hS => ?_)
          obtain ⟨u97, eu97, hm⟩ := bnd_ex hm
          have hP : va_P (dC, dI) vwCl ([wM cI cJ aM jM u97] : List va_W).flatten H := by rw [eu97]; exact hP
          have hD : va_D A ([wM cI cJ aM jM u97] : List va_W).flatten := by rw [eu97]; exact hD
          obtain ⟨x98, ex98, hm⟩ := bnd_ex hm
          refine lv_iinc (v := x98) (lv' := [(2, .int x98), (0, .ref aM), (1, .int p1)]) hx hb dX7_writeForm_74 hl (k := 2) rfl (by rw [ex98]; exact congrArg _ (by decide)) (by decide) rfl (fun ls hl => ?_)
          refine lv_goto (tgt := 55) hx hb dX7_writeForm_77 (by decide) ?_
          exact ih55 x98 u97 _ _ _ hm hP hD hS (lv_sub hl [1, 2, 0] rfl)
    exact LP55 FU (0 : Int32) u10 _ _ _ hm hP hD hS (lv_sub hl [1, 2, 0] rfl)
  refine lv_icmp_ne (tgt := 21) hx hb dX7_writeForm_14 (by decide) (fun c99 => ?_) (fun c99 => ?_)
  · have hm := ite_f c99 hm
    refine lv_aload_n hx hb dX7_writeForm_21 rfl (lv_at hl 0 rfl) ?_
    refine va_get (D := (dC, dI)) (ci := 8) (v := .int (u1.1 3)) (C := RX7) (T := TX7) (N := 34) hx hb ht inX7 hown hK hP 0 rfl rfl 3 (by decide) (ht _ kw_29) (fun _ h9 => h9) rfl dX7_writeForm_22 ?_
    refine lv_iconst (v := (1 : Int32)) hx hb dX7_writeForm_25 (by decide) ?_
    refine lv_isub hx hb dX7_writeForm_26 ?_
    exact J27_3 ((u1.1 3) - (1 : Int32)) _ _ _ hm hP hD hS (lv_sub hl [0, 1] rfl)
  · have hm := ite_t c99 hm
    refine lv_iconst (v := (2 : Int32)) hx hb dX7_writeForm_17 (by decide) ?_
    refine lv_goto (tgt := 27) hx hb dX7_writeForm_18 (by decide) ?_
    exact J27_3 (2 : Int32) _ _ _ hm hP hD hS (lv_sub hl [0, 1] rfl)

def f_X7_write (uM : OS) : Option (OS × Int32) :=
  bnd (sF uM 1 (0 : Int32)) fun u1 =>
  oC1 (f_X7_mayWrite u1) fun r2 =>
  if r2 = (0 : Int32) then (
  some (u1, (-2 : Int32))) else (
  oC1 (f_X7_writeForm u1 (u1.1 2)) fun u5 =>
  some (u5, (u5.1 15)))

set_option maxHeartbeats 4000000 in
set_option maxRecDepth 100000 in
theorem c_X7_write (l : Launch) (dC : Nat → ClassId) (dI : Nat → Nat → Nat) (cI cJ : ClassId) (aM : Nat) (jM : Nat → Nat) (sz : Nat) (uM : OS) (o : OS × Int32) (hm : f_X7_write uM = some o) : Met l yX7_write (wq yX7_write cX7_write 1 (some .int)) ({ frames := 4, cells := 0, slots := 0, locals := 90 } : Room) (va_Pc [.ref aM] (pcW dC dI cI cJ sz ([wM cI cJ aM jM uM] : List va_W).flatten)) (va_Qi (S := OS) (fun r u => some (u, r) = some o) (fun (u : OS) t => va_P (dC, dI) vwCl ([wM cI cJ aM jM u] : List va_W).flatten t.heap ∧ va_D (va_A ([wM cI cJ aM jM uM] : List va_W).flatten sz) ([wM cI cJ aM jM u] : List va_W).flatten) (va_A ([wM cI cJ aM jM uM] : List va_W).flatten sz)) 0 0 (va_A ([wM cI cJ aM jM uM] : List va_W).flatten sz) := by
  refine Met.ofW (cc := cX7_write) (maxL := 1) (ret := (some .int)) (by decide) rfl ?_
  intro p e s m args below meth c s₁ B hml hv
  obtain ⟨rfl, hsz, hP, hK, hD0, hN⟩ := hv
  have hx := B.exec
  have hb := B.bytes
  have hr := B.returns
  have ht : ∀ w ∈ lw_good, w.before _ s = true := fun w h => atoms_spec (ws := wq yX7_write cX7_write 1 (some .int)) B.pre w (wq_mem h)
  have hown : s.vm.findClass RX7 = some m.cls := findClass_of_methodNamed B.named
  have hlocks := B.notSynchronized
  subst hsz
  have hD := hD0.self (sz := s.heap.size)
  generalize hAe : va_A ([wM cI cJ aM jM uM] : List va_W).flatten s.heap.size = A at hD ⊢
  have hA : ∀ q : Nat, s.heap.size ≤ q → A q := fun q h => by rw [← hAe]; exact Or.inr h
  have hS : va_S A s.heap s.heap [] := va_S.rf
  have hl := lv_entry ([.ref aM]) (n := 1) (Nat.le_of_ble_eq_true rfl)
  rw [lg_entry_eq]
  generalize (lg_sl ([.ref aM]) ++ List.replicate (1 - (lg_sl ([.ref aM])).length) Slot.unset).toArray = ls at hl ⊢
  have hl : lv_has ls 1 [(0, .ref aM)] := hl
  generalize hQ : MQ below _ _ s _ _ _ = Q
  generalize hH : s.heap = H at hP ⊢
  have hS : va_S A s.heap H [] := by rw [← hH]; exact va_S.rf
  show W p l e ({ frames := 4, cells := 0, slots := 0, locals := 90 } : Room) s m ([.ref aM] : List Value).toArray below meth c H [] 0 0 Q (F0 m 0 ls [])
  unfold f_X7_write at hm
  refine lv_aload_n hx hb dX7_write_0 rfl (lv_at hl 0 rfl) ?_
  refine lv_iconst (v := (0 : Int32)) hx hb dX7_write_1 (by decide) ?_
  refine va_put (D := (dC, dI)) (ci := 8) (v := .int (0 : Int32)) (ty := .int) (C := RX7) (T := TX7) (N := 34) hx hb ht inX7 tyX7 tyX7_ok nmX7 hown hK hP hD hS 0 rfl rfl 1 (by decide) (ht _ kw_0) (fun _ h9 => h9) rfl (by decide +kernel) rfl rfl (Nat.le_of_ble_eq_true rfl) dX7_write_2 (fun H locs hP hD hS => ?_)
  obtain ⟨u1, eu1, hm⟩ := bnd_ex hm
  have hP : va_P (dC, dI) vwCl ([wM cI cJ aM jM u1] : List va_W).flatten H := by rw [eu1]; exact hP
  have hD : va_D A ([wM cI cJ aM jM u1] : List va_W).flatten := by rw [eu1]; exact hD
  refine lv_aload_n hx hb dX7_write_5 rfl (lv_at hl 0 rfl) ?_
  have hPc : va_P (dC, dI) vwCl ([wM cI cJ aM jM u1] : List va_W).flatten _ := hP
  have hDc : va_D A ([wM cI cJ aM jM u1] : List va_W).flatten := hD
  have hFc := va_freeF (fc := ([wM cI cJ aM jM u1] : List va_W)) hD hS hA [0] rfl
  obtain ⟨r2o, e3, hm⟩ := oC1_of hm
  refine va_calli (va_runV (As := []) (rest := []) ⟨hx, hb, hml, hown, ht⟩ (c_X7_mayWrite l dC dI cI cJ aM jM H.size u1 r2o e3) (cwV 0 ht (gdV kw_90 kw_88 kw_89 kw_7 kw_87) rfl rfl rfl ⟨rfl, nd_X7_mayWrite⟩ ⟨Nat.le_of_ble_eq_true rfl, Nat.le_of_ble_eq_true rfl⟩) ⟨pcW_blind, va_recv hK hPc (ci := 8) (q0 := 0) rfl rfl, pcW_pre hPc hK hDc hN⟩ rfl rfl hl.1 rfl (lv_room (Nat.le_of_ble_eq_true rfl)) dX7_write_6 ⟨Nat.zero_le _, Nat.zero_le _⟩) hS (fun q _ z => hFc q z) hFc (fun r2 uu t H1 locs ht1 hvm hw hB hz1 hk1 hS => ?_)
  obtain ⟨⟩ := uu
  obtain ⟨hP1, hD1⟩ := hB
  rw [ht1] at hP1
  obtain rfl : r2 = r2o := Option.some.inj hw
  have hP : va_P (dC, dI) vwCl ([wM cI cJ aM jM u1] : List va_W).flatten H1 := hP1
  have hD : va_D A ([wM cI cJ aM jM u1] : List va_W).flatten := hD1.weaken (fun _ q _ z => hFc q.1 z)
  generalize H1 = H at hP hS ⊢
  refine lv_if_ne (tgt := 15) hx hb dX7_write_9 (by decide) (fun c4 => ?_) (fun c4 => ?_)
  · have hm := ite_f c4 hm
    refine lv_aload_n hx hb dX7_write_15 rfl (lv_at hl 0 rfl) ?_
    refine lv_aload_n hx hb dX7_write_16 rfl (lv_at hl 0 rfl) ?_
    refine va_get (D := (dC, dI)) (ci := 8) (v := .int (u1.1 2)) (C := RX7) (T := TX7) (N := 34) hx hb ht inX7 hown hK hP 0 rfl rfl 2 (by decide) (ht _ kw_28) (fun _ h9 => h9) rfl dX7_write_17 ?_
    have hPc : va_P (dC, dI) vwCl ([wM cI cJ aM jM u1] : List va_W).flatten _ := hP
    have hDc : va_D A ([wM cI cJ aM jM u1] : List va_W).flatten := hD
    have hFc := va_freeF (fc := ([wM cI cJ aM jM u1] : List va_W)) hD hS hA [0] rfl
    obtain ⟨u5o, e6, hm⟩ := oC1_of hm
    refine va_callv (va_runV (As := [.int (u1.1 2)]) (rest := []) ⟨hx, hb, hml, hown, ht⟩ (c_X7_writeForm l dC dI cI cJ aM jM H.size u1 (u1.1 2) u5o e6) (cwV 1 ht (gdV kw_94 kw_92 kw_93 kw_7 kw_91) rfl rfl rfl ⟨rfl, nd_X7_writeForm⟩ ⟨Nat.le_of_ble_eq_true rfl, Nat.le_of_ble_eq_true rfl⟩) ⟨pcW_blind, va_recv hK hPc (ci := 8) (q0 := 0) rfl rfl, pcW_pre hPc hK hDc hN⟩ rfl rfl hl.1 rfl (lv_room (Nat.le_of_ble_eq_true rfl)) dX7_write_20 ⟨Nat.zero_le _, Nat.zero_le _⟩) hS (fun q _ z => hFc q z) hFc (fun uu t H1 locs ht1 hvm hw hB hz1 hk1 hS => ?_)
    obtain ⟨u5, rfl⟩ : ∃ z, z = uu := ⟨_, rfl⟩
    obtain ⟨hP1, hD1⟩ := hB
    rw [ht1] at hP1
    obtain rfl : u5 = u5o := Option.some.inj hw
    have hP : va_P (dC, dI) vwCl ([wM cI cJ aM jM u5] : List va_W).flatten H1 := hP1
    have hD : va_D A ([wM cI cJ aM jM u5] : List va_W).flatten := hD1.weaken (fun _ q _ z => hFc q.1 z)
    generalize H1 = H at hP hS ⊢
    refine lv_aload_n hx hb dX7_write_23 rfl (lv_at hl 0 rfl) ?_
    refine va_get (D := (dC, dI)) (ci := 8) (v := .int (u5.1 15)) (C := RX7) (T := TX7) (N := 34) hx hb ht inX7 hown hK hP 0 rfl rfl 15 (by decide) (ht _ kw_32) (fun _ h9 => h9) rfl dX7_write_24 ?_
    rw [← hQ]
    exact W.iret (v := (u5.1 15)) hx hb hr (fun t ht1 hW => ⟨⟨_, u5, rfl, hm, by rw [ht1]; exact hP, hD⟩, hS.F ht1⟩) hS.2.2 dX7_write_27
  · have hm := ite_t c4 hm
    refine lv_bipush (v := (-2 : Int32)) hx hb dX7_write_12 (by decide) ?_
    rw [← hQ]
    exact W.iret (v := (-2 : Int32)) hx hb hr (fun t ht1 hW => ⟨⟨_, u1, rfl, hm, by rw [ht1]; exact hP, hD⟩, hS.F ht1⟩) hS.2.2 dX7_write_14

def f_X7_fail (uM : OS) (p1 : Int32) : Option (OS) :=
  if (uM.1 27) = (0 : Int32) then (
  bnd (sF uM 27 p1) fun u2 =>
  some u2) else (
  some uM)

set_option maxHeartbeats 4000000 in
set_option maxRecDepth 100000 in
theorem c_X7_fail (l : Launch) (dC : Nat → ClassId) (dI : Nat → Nat → Nat) (cI cJ : ClassId) (aM : Nat) (jM : Nat → Nat) (sz : Nat) (uM : OS) (p1 : Int32) (o : OS) (hm : f_X7_fail uM p1 = some o) : Met l yX7_fail (wq yX7_fail cX7_fail 2 none) ({ frames := 0, cells := 0, slots := 0, locals := 0 } : Room) (va_Pc [.ref aM, .int p1] (pcW dC dI cI cJ sz ([wM cI cJ aM jM uM] : List va_W).flatten)) (va_Qv (S := OS) (fun u => some u = some o) (fun (u : OS) t => va_P (dC, dI) vwCl ([wM cI cJ aM jM u] : List va_W).flatten t.heap ∧ va_D (va_A ([wM cI cJ aM jM uM] : List va_W).flatten sz) ([wM cI cJ aM jM u] : List va_W).flatten) (va_A ([wM cI cJ aM jM uM] : List va_W).flatten sz)) 0 0 (va_A ([wM cI cJ aM jM uM] : List va_W).flatten sz) := by
  refine Met.ofW (cc := cX7_fail) (maxL := 2) (ret := none) (by decide) rfl ?_
  intro p e s m args below meth c s₁ B hml hv
  obtain ⟨rfl, hsz, hP, hK, hD0, hN⟩ := hv
  have hx := B.exec
  have hb := B.bytes
  have hr := B.returns
  have ht : ∀ w ∈ lw_good, w.before _ s = true := fun w h => atoms_spec (ws := wq yX7_fail cX7_fail 2 none) B.pre w (wq_mem h)
  have hown : s.vm.findClass RX7 = some m.cls := findClass_of_methodNamed B.named
  have hlocks := B.notSynchronized
  subst hsz
  have hD := hD0.self (sz := s.heap.size)
  generalize hAe : va_A ([wM cI cJ aM jM uM] : List va_W).flatten s.heap.size = A at hD ⊢
  have hA : ∀ q : Nat, s.heap.size ≤ q → A q := fun q h => by rw [← hAe]; exact Or.inr h
  have hS : va_S A s.heap s.heap [] := va_S.rf
  have hl := lv_entry ([.ref aM, .int p1]) (n := 2) (Nat.le_of_ble_eq_true rfl)
  rw [lg_entry_eq]
  generalize (lg_sl ([.ref aM, .int p1]) ++ List.replicate (2 - (lg_sl ([.ref aM, .int p1])).length) Slot.unset).toArray = ls at hl ⊢
  have hl : lv_has ls 2 [(0, .ref aM), (1, .int p1)] := hl
  generalize hQ : MQ below _ _ s _ _ _ = Q
  generalize hH : s.heap = H at hP ⊢
  have hS : va_S A s.heap H [] := by rw [← hH]; exact va_S.rf
  show W p l e ({ frames := 0, cells := 0, slots := 0, locals := 0 } : Room) s m ([.ref aM, .int p1] : List Value).toArray below meth c H [] 0 0 Q (F0 m 0 ls [])
  unfold f_X7_fail at hm
  refine lv_aload_n hx hb dX7_fail_0 rfl (lv_at hl 0 rfl) ?_
  refine va_get (D := (dC, dI)) (ci := 8) (v := .int (uM.1 27)) (C := RX7) (T := TX7) (N := 34) hx hb ht inX7 hown hK hP 0 rfl rfl 27 (by decide) (ht _ kw_95) (fun _ h9 => h9) rfl dX7_fail_1 ?_
  refine lv_if_ne (tgt := 12) hx hb dX7_fail_4 (by decide) (fun c1 => ?_) (fun c1 => ?_)
  · have hm := ite_f c1 hm
    rw [← hQ]
    exact W.vret hx hb hr (fun t ht1 hW => ⟨⟨uM, rfl, hm, by rw [ht1]; exact hP, hD⟩, hS.F ht1⟩) hS.2.2 dX7_fail_12
  · have hm := ite_t c1 hm
    refine lv_aload_n hx hb dX7_fail_7 rfl (lv_at hl 0 rfl) ?_
    refine lv_iload_n hx hb dX7_fail_8 rfl (lv_at hl 1 rfl) ?_
    refine va_put (D := (dC, dI)) (ci := 8) (v := .int p1) (ty := .int) (C := RX7) (T := TX7) (N := 34) hx hb ht inX7 tyX7 tyX7_ok nmX7 hown hK hP hD hS 0 rfl rfl 27 (by decide) (ht _ kw_95) (fun _ h9 => h9) rfl (by decide +kernel) rfl rfl (Nat.le_of_ble_eq_true rfl) dX7_fail_9 (fun H locs hP hD hS => ?_)
    obtain ⟨u2, eu2, hm⟩ := bnd_ex hm
    have hP : va_P (dC, dI) vwCl ([wM cI cJ aM jM u2] : List va_W).flatten H := by rw [eu2]; exact hP
    have hD : va_D A ([wM cI cJ aM jM u2] : List va_W).flatten := by rw [eu2]; exact hD
    rw [← hQ]
    exact W.vret hx hb hr (fun t ht1 hW => ⟨⟨u2, rfl, hm, by rw [ht1]; exact hP, hD⟩, hS.F ht1⟩) hS.2.2 dX7_fail_12

def f_X7_next (uM : OS) : Option (OS × Int32) :=
  if (uM.1 27) ≤ (0 : Int32) then (
  if (uM.1 26) < (uM.1 15) then (
  bnd (sF uM 26 ((uM.1 26) + (1 : Int32))) fun u3 =>
  gdi ((u3.1 26) - (1 : Int32)) 20000 <|
  some (u3, (u3.2.1 14 (((u3.1 26) - (1 : Int32))).toNatClampNeg))) else (
  oC1 (f_X7_fail uM (1 : Int32)) fun u5 =>
  some (u5, (0 : Int32)))) else (
  some (uM, (0 : Int32)))

set_option maxHeartbeats 4000000 in
set_option maxRecDepth 100000 in
theorem c_X7_next (l : Launch) (dC : Nat → ClassId) (dI : Nat → Nat → Nat) (cI cJ : ClassId) (aM : Nat) (jM : Nat → Nat) (sz : Nat) (uM : OS) (o : OS × Int32) (hm : f_X7_next uM = some o) : Met l yX7_next (wq yX7_next cX7_next 1 (some .int)) ({ frames := 1, cells := 0, slots := 0, locals := 21 } : Room) (va_Pc [.ref aM] (pcW dC dI cI cJ sz ([wM cI cJ aM jM uM] : List va_W).flatten)) (va_Qi (S := OS) (fun r u => some (u, r) = some o) (fun (u : OS) t => va_P (dC, dI) vwCl ([wM cI cJ aM jM u] : List va_W).flatten t.heap ∧ va_D (va_A ([wM cI cJ aM jM uM] : List va_W).flatten sz) ([wM cI cJ aM jM u] : List va_W).flatten) (va_A ([wM cI cJ aM jM uM] : List va_W).flatten sz)) 0 0 (va_A ([wM cI cJ aM jM uM] : List va_W).flatten sz) := by
  refine Met.ofW (cc := cX7_next) (maxL := 1) (ret := (some .int)) (by decide) rfl ?_
  intro p e s m args below meth c s₁ B hml hv
  obtain ⟨rfl, hsz, hP, hK, hD0, hN⟩ := hv
  have hx := B.exec
  have hb := B.bytes
  have hr := B.returns
  have ht : ∀ w ∈ lw_good, w.before _ s = true := fun w h => atoms_spec (ws := wq yX7_next cX7_next 1 (some .int)) B.pre w (wq_mem h)
  have hown : s.vm.findClass RX7 = some m.cls := findClass_of_methodNamed B.named
  have hlocks := B.notSynchronized
  subst hsz
  have hD := hD0.self (sz := s.heap.size)
  generalize hAe : va_A ([wM cI cJ aM jM uM] : List va_W).flatten s.heap.size = A at hD ⊢
  have hA : ∀ q : Nat, s.heap.size ≤ q → A q := fun q h => by rw [← hAe]; exact Or.inr h
  have hS : va_S A s.heap s.heap [] := va_S.rf
  have hl := lv_entry ([.ref aM]) (n := 1) (Nat.le_of_ble_eq_true rfl)
  rw [lg_entry_eq]
  generalize (lg_sl ([.ref aM]) ++ List.replicate (1 - (lg_sl ([.ref aM])).length) Slot.unset).toArray = ls at hl ⊢
  have hl : lv_has ls 1 [(0, .ref aM)] := hl
  generalize hQ : MQ below _ _ s _ _ _ = Q
  generalize hH : s.heap = H at hP ⊢
  have hS : va_S A s.heap H [] := by rw [← hH]; exact va_S.rf
  show W p l e ({ frames := 1, cells := 0, slots := 0, locals := 21 } : Room) s m ([.ref aM] : List Value).toArray below meth c H [] 0 0 Q (F0 m 0 ls [])
  unfold f_X7_next at hm
  refine lv_aload_n hx hb dX7_next_0 rfl (lv_at hl 0 rfl) ?_
  refine va_get (D := (dC, dI)) (ci := 8) (v := .int (uM.1 27)) (C := RX7) (T := TX7) (N := 34) hx hb ht inX7 hown hK hP 0 rfl rfl 27 (by decide) (ht _ kw_95) (fun _ h9 => h9) rfl dX7_next_1 ?_
  refine lv_if_le (tgt := 9) hx hb dX7_next_4 (by decide) (fun c1 => ?_) (fun c1 => ?_)
  · have hm := ite_t c1 hm
    refine lv_aload_n hx hb dX7_next_9 rfl (lv_at hl 0 rfl) ?_
    refine va_get (D := (dC, dI)) (ci := 8) (v := .int (uM.1 26)) (C := RX7) (T := TX7) (N := 34) hx hb ht inX7 hown hK hP 0 rfl rfl 26 (by decide) (ht _ kw_96) (fun _ h9 => h9) rfl dX7_next_10 ?_
    refine lv_aload_n hx hb dX7_next_13 rfl (lv_at hl 0 rfl) ?_
    refine va_get (D := (dC, dI)) (ci := 8) (v := .int (uM.1 15)) (C := RX7) (T := TX7) (N := 34) hx hb ht inX7 hown hK hP 0 rfl rfl 15 (by decide) (ht _ kw_32) (fun _ h9 => h9) rfl dX7_next_14 ?_
    refine lv_icmp_lt (tgt := 27) hx hb dX7_next_17 (by decide) (fun c2 => ?_) (fun c2 => ?_)
    · have hm := ite_t c2 hm
      refine lv_aload_n hx hb dX7_next_27 rfl (lv_at hl 0 rfl) ?_
      refine lv_dup hx hb dX7_next_28 rfl ?_
      refine va_get (D := (dC, dI)) (ci := 8) (v := .int (uM.1 26)) (C := RX7) (T := TX7) (N := 34) hx hb ht inX7 hown hK hP 0 rfl rfl 26 (by decide) (ht _ kw_96) (fun _ h9 => h9) rfl dX7_next_29 ?_
      refine lv_iconst (v := (1 : Int32)) hx hb dX7_next_32 (by decide) ?_
      refine lv_iadd hx hb dX7_next_33 ?_
      refine va_put (D := (dC, dI)) (ci := 8) (v := .int ((uM.1 26) + (1 : Int32))) (ty := .int) (C := RX7) (T := TX7) (N := 34) hx hb ht inX7 tyX7 tyX7_ok nmX7 hown hK hP hD hS 0 rfl rfl 26 (by decide) (ht _ kw_96) (fun _ h9 => h9) rfl (by decide +kernel) rfl rfl (Nat.le_of_ble_eq_true rfl) dX7_next_34 (fun H locs hP hD hS => ?_)
      obtain ⟨u3, eu3, hm⟩ := bnd_ex hm
      have hP : va_P (dC, dI) vwCl ([wM cI cJ aM jM u3] : List va_W).flatten H := by rw [eu3]; exact hP
      have hD : va_D A ([wM cI cJ aM jM u3] : List va_W).flatten := by rw [eu3]; exact hD
      refine lv_aload_n hx hb dX7_next_37 rfl (lv_at hl 0 rfl) ?_
      refine va_get (D := (dC, dI)) (ci := 8) (v := .ref (jM 14)) (C := RX7) (T := TX7) (N := 34) hx hb ht inX7 hown hK hP 0 rfl rfl 14 (by decide) (ht _ kw_31) (fun _ h9 => h9) rfl dX7_next_38 ?_
      refine lv_aload_n hx hb dX7_next_41 rfl (lv_at hl 0 rfl) ?_
      refine va_get (D := (dC, dI)) (ci := 8) (v := .int (u3.1 26)) (C := RX7) (T := TX7) (N := 34) hx hb ht inX7 hown hK hP 0 rfl rfl 26 (by decide) (ht _ kw_96) (fun _ h9 => h9) rfl dX7_next_42 ?_
      refine lv_iconst (v := (1 : Int32)) hx hb dX7_next_45 (by decide) ?_
      refine lv_isub hx hb dX7_next_46 ?_
      obtain ⟨g4, hm⟩ := gdi_of hm
      refine va_iald hx hb hK hP 9 0 rfl rfl g4 dX7_next_47 ?_
      rw [← hQ]
      exact W.iret (v := (u3.2.1 14 (((u3.1 26) - (1 : Int32))).toNatClampNeg)) hx hb hr (fun t ht1 hW => ⟨⟨_, u3, rfl, hm, by rw [ht1]; exact hP, hD⟩, hS.F ht1⟩) hS.2.2 dX7_next_48
    · have hm := ite_f c2 hm
      refine lv_aload_n hx hb dX7_next_20 rfl (lv_at hl 0 rfl) ?_
      refine lv_iconst (v := (1 : Int32)) hx hb dX7_next_21 (by decide) ?_
      have hPc : va_P (dC, dI) vwCl ([wM cI cJ aM jM uM] : List va_W).flatten _ := hP
      have hDc : va_D A ([wM cI cJ aM jM uM] : List va_W).flatten := hD
      have hFc := va_freeF (fc := ([wM cI cJ aM jM uM] : List va_W)) hD hS hA [0] rfl
      obtain ⟨u5o, e6, hm⟩ := oC1_of hm
      refine va_callv (va_runV (As := [.int (1 : Int32)]) (rest := []) ⟨hx, hb, hml, hown, ht⟩ (c_X7_fail l dC dI cI cJ aM jM H.size uM (1 : Int32) u5o e6) (cwV 1 ht (gdV kw_100 kw_98 kw_99 kw_7 kw_97) rfl rfl rfl ⟨rfl, nd_X7_fail⟩ ⟨Nat.le_of_ble_eq_true rfl, Nat.le_of_ble_eq_true rfl⟩) ⟨pcW_blind, va_recv hK hPc (ci := 8) (q0 := 0) rfl rfl, pcW_pre hPc hK hDc hN⟩ rfl rfl hl.1 rfl (lv_room (Nat.le_of_ble_eq_true rfl)) dX7_next_22 ⟨Nat.zero_le _, Nat.zero_le _⟩) hS (fun q _ z => hFc q z) hFc (fun uu t H1 locs ht1 hvm hw hB hz1 hk1 hS => ?_)
      obtain ⟨u5, rfl⟩ : ∃ z, z = uu := ⟨_, rfl⟩
      obtain ⟨hP1, hD1⟩ := hB
      rw [ht1] at hP1
      obtain rfl : u5 = u5o := Option.some.inj hw
      have hP : va_P (dC, dI) vwCl ([wM cI cJ aM jM u5] : List va_W).flatten H1 := hP1
      have hD : va_D A ([wM cI cJ aM jM u5] : List va_W).flatten := hD1.weaken (fun _ q _ z => hFc q.1 z)
      generalize H1 = H at hP hS ⊢
      refine lv_iconst (v := (0 : Int32)) hx hb dX7_next_25 (by decide) ?_
      rw [← hQ]
      exact W.iret (v := (0 : Int32)) hx hb hr (fun t ht1 hW => ⟨⟨_, u5, rfl, hm, by rw [ht1]; exact hP, hD⟩, hS.F ht1⟩) hS.2.2 dX7_next_26
  · have hm := ite_f c1 hm
    refine lv_iconst (v := (0 : Int32)) hx hb dX7_next_7 (by decide) ?_
    rw [← hQ]
    exact W.iret (v := (0 : Int32)) hx hb hr (fun t ht1 hW => ⟨⟨_, uM, rfl, hm, by rw [ht1]; exact hP, hD⟩, hS.F ht1⟩) hS.2.2 dX7_next_8

def f_X7_nextWide_L5 (p1 : Int32) : Nat → (Int64 → Int32 → OS → Option (OS × Int64)) → Int32 → Int64 → OS → Option (OS × Int64)
  | 0, _, _, _, _ => none
  | n5 + 1, K28_7, x1, y2, u3 =>
    if p1 ≤ x1 then (
    K28_7 y2 x1 u3) else (
    oC2 (f_X7_next u3) fun u9 r10 =>
    bnd ((y2 <<< (((8 : Int32)).toInt64 &&& (63 : Int64))) ||| (r10).toInt64) fun y12 =>
    bnd (x1 + (1 : Int32)) fun x13 =>
    f_X7_nextWide_L5 p1 n5 K28_7 x13 y12 u9)

def f_X7_nextWide (uM : OS) (p1 : Int32) : Option (OS × Int64) :=
  bnd (fun (y4 : Int64) (x5 : Int32) (u6 : OS) =>
  some (u6, y4)) fun K28_7 =>
  f_X7_nextWide_L5 p1 FU K28_7 (0 : Int32) (0 : Int64) uM

set_option maxHeartbeats 4000000 in
set_option maxRecDepth 100000 in
theorem c_X7_nextWide (l : Launch) (dC : Nat → ClassId) (dI : Nat → Nat → Nat) (cI cJ : ClassId) (aM : Nat) (jM : Nat → Nat) (sz : Nat) (uM : OS) (p1 : Int32) (o : OS × Int64) (hm : f_X7_nextWide uM p1 = some o) : Met l yX7_nextWide (wq yX7_nextWide cX7_nextWide 5 (some .long)) ({ frames := 2, cells := 0, slots := 0, locals := 41 } : Room) (va_Pc [.ref aM, .int p1] (pcW dC dI cI cJ sz ([wM cI cJ aM jM uM] : List va_W).flatten)) (va_Ql (S := OS) (fun r u => some (u, r) = some o) (fun (u : OS) t => va_P (dC, dI) vwCl ([wM cI cJ aM jM u] : List va_W).flatten t.heap ∧ va_D (va_A ([wM cI cJ aM jM uM] : List va_W).flatten sz) ([wM cI cJ aM jM u] : List va_W).flatten) (va_A ([wM cI cJ aM jM uM] : List va_W).flatten sz)) 0 0 (va_A ([wM cI cJ aM jM uM] : List va_W).flatten sz) := by
  refine Met.ofW (cc := cX7_nextWide) (maxL := 5) (ret := (some .long)) (by decide) rfl ?_
  intro p e s m args below meth c s₁ B hml hv
  obtain ⟨rfl, hsz, hP, hK, hD0, hN⟩ := hv
  have hx := B.exec
  have hb := B.bytes
  have hr := B.returns
  have ht : ∀ w ∈ lw_good, w.before _ s = true := fun w h => atoms_spec (ws := wq yX7_nextWide cX7_nextWide 5 (some .long)) B.pre w (wq_mem h)
  have hown : s.vm.findClass RX7 = some m.cls := findClass_of_methodNamed B.named
  have hlocks := B.notSynchronized
  subst hsz
  have hD := hD0.self (sz := s.heap.size)
  generalize hAe : va_A ([wM cI cJ aM jM uM] : List va_W).flatten s.heap.size = A at hD ⊢
  have hA : ∀ q : Nat, s.heap.size ≤ q → A q := fun q h => by rw [← hAe]; exact Or.inr h
  have hS : va_S A s.heap s.heap [] := va_S.rf
  have hl := lv_entry ([.ref aM, .int p1]) (n := 5) (Nat.le_of_ble_eq_true rfl)
  rw [lg_entry_eq]
  generalize (lg_sl ([.ref aM, .int p1]) ++ List.replicate (5 - (lg_sl ([.ref aM, .int p1])).length) Slot.unset).toArray = ls at hl ⊢
  have hl : lv_has ls 5 [(0, .ref aM), (1, .int p1)] := hl
  generalize hQ : MQ below _ _ s _ _ _ = Q
  generalize hH : s.heap = H at hP ⊢
  have hS : va_S A s.heap H [] := by rw [← hH]; exact va_S.rf
  show W p l e ({ frames := 2, cells := 0, slots := 0, locals := 41 } : Room) s m ([.ref aM, .int p1] : List Value).toArray below meth c H [] 0 0 Q (F0 m 0 ls [])
  unfold f_X7_nextWide at hm
  refine lv_lconst (v := (0 : Int64)) hx hb dX7_nextWide_0 (by decide) ?_
  refine lv_lstore_n (lv' := [(2, .long (0 : Int64)), (0, .ref aM), (1, .int p1)]) hx hb dX7_nextWide_1 rfl hl (by decide) rfl (fun ls hl => ?_)
  refine lv_iconst (v := (0 : Int32)) hx hb dX7_nextWide_2 (by decide) ?_
  refine lv_istore (lv' := [(4, .int (0 : Int32)), (2, .long (0 : Int64)), (0, .ref aM), (1, .int p1)]) hx hb dX7_nextWide_3 hl (by decide) rfl (fun ls hl => ?_)
  obtain ⟨K28_7, eK28_7, hm⟩ := bnd_ex hm
  have X28_7 : ∀ (y4 : Int64) (x5 : Int32) (u6 : OS) (H : Heap) (locs : List Loc) (ls : Array Slot), K28_7 y4 x5 u6 = some o → va_P (dC, dI) vwCl ([wM cI cJ aM jM u6] : List va_W).flatten H → va_D A ([wM cI cJ aM jM u6] : List va_W).flatten → va_S A s.heap H locs → lv_has ls 5 [(0, .ref aM), (1, .int p1), (2, .long y4), (4, .int x5)] → W p l e ({ frames := 2, cells := 0, slots := 0, locals := 41 } : Room) s m ([.ref aM, .int p1] : List Value).toArray below meth c H locs 0 0 Q (F0 m 28 ls []) := by
    intro y4 x5 u6 H locs ls hm hP hD hS hl
    have hm := ap3 eK28_7 hm
    refine lv_lload_n hx hb dX7_nextWide_28 rfl (lv_at hl 2 rfl) ?_
    rw [← hQ]
    exact W.lret (v := y4) hx hb hr (fun t ht1 hW => ⟨⟨_, u6, rfl, hm, by rw [ht1]; exact hP, hD⟩, hS.F ht1⟩) hS.2.2 dX7_nextWide_29
  have LP5 : ∀ (n5 : Nat) (x1 : Int32) (y2 : Int64) (u3 : OS) (H : Heap) (locs : List Loc) (ls : Array Slot), f_X7_nextWide_L5 p1 n5 K28_7 x1 y2 u3 = some o → va_P (dC, dI) vwCl ([wM cI cJ aM jM u3] : List va_W).flatten H → va_D A ([wM cI cJ aM jM u3] : List va_W).flatten → va_S A s.heap H locs → lv_has ls 5 [(0, .ref aM), (1, .int p1), (2, .long y2), (4, .int x1)] → W p l e ({ frames := 2, cells := 0, slots := 0, locals := 41 } : Room) s m ([.ref aM, .int p1] : List Value).toArray below meth c H locs 0 0 Q (F0 m 5 ls []) := by
    intro n5
    induction n5 with
    | zero => intro x1 y2 u3 H locs ls hm; exact nomatch (show (none : Option _) = some _ from hm)
    | succ n5 ih5 =>
      intro x1 y2 u3 H locs ls hm hP hD hS hl
      unfold f_X7_nextWide_L5 at hm
      refine lv_iload hx hb dX7_nextWide_5 (lv_at hl 3 rfl) ?_
      refine lv_iload_n hx hb dX7_nextWide_7 rfl (lv_at hl 1 rfl) ?_
      refine lv_icmp_ge (tgt := 28) hx hb dX7_nextWide_8 (by decide) (fun c8 => ?_) (fun c8 => ?_)
      · have hm := ite_t c8 hm
        exact X28_7 y2 x1 u3 _ _ _ hm hP hD hS (lv_sub hl [0, 1, 2, 3] rfl)
      · have hm := ite_f c8 hm
        refine lv_lload_n hx hb dX7_nextWide_11 rfl (lv_at hl 2 rfl) ?_
        refine lv_bipush (v := (8 : Int32)) hx hb dX7_nextWide_12 (by decide) ?_
        refine lv_lshl hx hb dX7_nextWide_14 rfl ?_
        refine lv_aload_n hx hb dX7_nextWide_15 rfl (lv_at hl 0 rfl) ?_
        have hPc : va_P (dC, dI) vwCl ([wM cI cJ aM jM u3] : List va_W).flatten _ := hP
        have hDc : va_D A ([wM cI cJ aM jM u3] : List va_W).flatten := hD
        have hFc := va_freeF (fc := ([wM cI cJ aM jM u3] : List va_W)) hD hS hA [0] rfl
        obtain ⟨u9o, r10o, e11, hm⟩ := oC2_of hm
        refine va_calli (va_runV (As := []) (rest := [.long (y2 <<< (((8 : Int32)).toInt64 &&& (63 : Int64)))]) ⟨hx, hb, hml, hown, ht⟩ (c_X7_next l dC dI cI cJ aM jM H.size u3 (u9o, r10o) e11) (cwV 0 ht (gdV kw_104 kw_102 kw_103 kw_7 kw_101) rfl rfl rfl ⟨rfl, nd_X7_next⟩ ⟨Nat.le_of_ble_eq_true rfl, Nat.le_of_ble_eq_true rfl⟩) ⟨pcW_blind, va_recv hK hPc (ci := 8) (q0 := 0) rfl rfl, pcW_pre hPc hK hDc hN⟩ rfl rfl hl.1 rfl (lv_room (Nat.le_of_ble_eq_true rfl)) dX7_nextWide_16 ⟨Nat.zero_le _, Nat.zero_le _⟩) hS (fun q _ z => hFc q z) hFc (fun r10 uu t H1 locs ht1 hvm hw hB hz1 hk1 hS => ?_)
        obtain ⟨u9, rfl⟩ : ∃ z, z = uu := ⟨_, rfl⟩
        obtain ⟨hP1, hD1⟩ := hB
        rw [ht1] at hP1
        obtain ⟨q0, q1⟩ := inj2 hw
        subst q0
        subst q1
        have hP : va_P (dC, dI) vwCl ([wM cI cJ aM jM u9] : List va_W).flatten H1 := hP1
        have hD : va_D A ([wM cI cJ aM jM u9] : List va_W).flatten := hD1.weaken (fun _ q _ z => hFc q.1 z)
        generalize H1 = H at hP hS ⊢
        refine lv_i2l hx hb dX7_nextWide_19 rfl ?_
        refine lv_lor hx hb dX7_nextWide_20 ?_
        refine lv_topl (fun y12 ey12 => ?_)
        have hm := bnd_nm ey12 hm
        refine lv_lstore_n (lv' := [(2, .long y12), (0, .ref aM), (1, .int p1), (4, .int x1)]) hx hb dX7_nextWide_21 rfl hl (by decide) rfl (fun ls hl => ?_)
        obtain ⟨x13, ex13, hm⟩ := bnd_ex hm
        refine lv_iinc (v := x13) (lv' := [(4, .int x13), (2, .long y12), (0, .ref aM), (1, .int p1)]) hx hb dX7_nextWide_22 hl (k := 3) rfl (by rw [ex13]; exact congrArg _ (by decide)) (by decide) rfl (fun ls hl => ?_)
        refine lv_goto (tgt := 5) hx hb dX7_nextWide_25 (by decide) ?_
        exact ih5 x13 y12 u9 _ _ _ hm hP hD hS (lv_sub hl [2, 3, 1, 0] rfl)
  exact LP5 FU (0 : Int32) (0 : Int64) uM _ _ _ hm hP hD hS (lv_sub hl [2, 3, 1, 0] rfl)

def f_X7_nextBit (uM : OS) : Option (OS × Int32) :=
  bnd (fun (u1 : OS) =>
  bnd (sF u1 29 ((u1.1 29) - (1 : Int32))) fun u3 =>
  gdi ((u3.1 26) - (1 : Int32)) 20000 <|
  some (u3, (((u3.2.1 14 (((u3.1 26) - (1 : Int32))).toNatClampNeg) >>> ((u3.1 29) &&& (31 : Int32))) &&& (1 : Int32)))) fun K27_2 =>
  if (uM.1 29) = (0 : Int32) then (
  oC2 (f_X7_next uM) fun u6 r7 =>
  if (u6.1 27) ≤ (0 : Int32) then (
  bnd (sF u6 29 (8 : Int32)) fun u10 =>
  K27_2 u10) else (
  some (u6, (0 : Int32)))) else (
  K27_2 uM)

set_option maxHeartbeats 4000000 in
set_option maxRecDepth 100000 in
theorem c_X7_nextBit (l : Launch) (dC : Nat → ClassId) (dI : Nat → Nat → Nat) (cI cJ : ClassId) (aM : Nat) (jM : Nat → Nat) (sz : Nat) (uM : OS) (o : OS × Int32) (hm : f_X7_nextBit uM = some o) : Met l yX7_nextBit (wq yX7_nextBit cX7_nextBit 2 (some .int)) ({ frames := 2, cells := 0, slots := 0, locals := 41 } : Room) (va_Pc [.ref aM] (pcW dC dI cI cJ sz ([wM cI cJ aM jM uM] : List va_W).flatten)) (va_Qi (S := OS) (fun r u => some (u, r) = some o) (fun (u : OS) t => va_P (dC, dI) vwCl ([wM cI cJ aM jM u] : List va_W).flatten t.heap ∧ va_D (va_A ([wM cI cJ aM jM uM] : List va_W).flatten sz) ([wM cI cJ aM jM u] : List va_W).flatten) (va_A ([wM cI cJ aM jM uM] : List va_W).flatten sz)) 0 0 (va_A ([wM cI cJ aM jM uM] : List va_W).flatten sz) := by
  refine Met.ofW (cc := cX7_nextBit) (maxL := 2) (ret := (some .int)) (by decide) rfl ?_
  intro p e s m args below meth c s₁ B hml hv
  obtain ⟨rfl, hsz, hP, hK, hD0, hN⟩ := hv
  have hx := B.exec
  have hb := B.bytes
  have hr := B.returns
  have ht : ∀ w ∈ lw_good, w.before _ s = true := fun w h => atoms_spec (ws := wq yX7_nextBit cX7_nextBit 2 (some .int)) B.pre w (wq_mem h)
  have hown : s.vm.findClass RX7 = some m.cls := findClass_of_methodNamed B.named
  have hlocks := B.notSynchronized
  subst hsz
  have hD := hD0.self (sz := s.heap.size)
  generalize hAe : va_A ([wM cI cJ aM jM uM] : List va_W).flatten s.heap.size = A at hD ⊢
  have hA : ∀ q : Nat, s.heap.size ≤ q → A q := fun q h => by rw [← hAe]; exact Or.inr h
  have hS : va_S A s.heap s.heap [] := va_S.rf
  have hl := lv_entry ([.ref aM]) (n := 2) (Nat.le_of_ble_eq_true rfl)
  rw [lg_entry_eq]
  generalize (lg_sl ([.ref aM]) ++ List.replicate (2 - (lg_sl ([.ref aM])).length) Slot.unset).toArray = ls at hl ⊢
  have hl : lv_has ls 2 [(0, .ref aM)] := hl
  generalize hQ : MQ below _ _ s _ _ _ = Q
  generalize hH : s.heap = H at hP ⊢
  have hS : va_S A s.heap H [] := by rw [← hH]; exact va_S.rf
  show W p l e ({ frames := 2, cells := 0, slots := 0, locals := 41 } : Room) s m ([.ref aM] : List Value).toArray below meth c H [] 0 0 Q (F0 m 0 ls [])
  unfold f_X7_nextBit at hm
  refine lv_aload_n hx hb dX7_nextBit_0 rfl (lv_at hl 0 rfl) ?_
  refine va_get (D := (dC, dI)) (ci := 8) (v := .int (uM.1 29)) (C := RX7) (T := TX7) (N := 34) hx hb ht inX7 hown hK hP 0 rfl rfl 29 (by decide) (ht _ kw_105) (fun _ h9 => h9) rfl dX7_nextBit_1 ?_
  obtain ⟨K27_2, eK27_2, hm⟩ := bnd_ex hm
  have J27_2 : ∀ (u1 : OS) (H : Heap) (locs : List Loc) (ls : Array Slot), K27_2 u1 = some o → va_P (dC, dI) vwCl ([wM cI cJ aM jM u1] : List va_W).flatten H → va_D A ([wM cI cJ aM jM u1] : List va_W).flatten → va_S A s.heap H locs → lv_has ls 2 [(0, .ref aM)] → W p l e ({ frames := 2, cells := 0, slots := 0, locals := 41 } : Room) s m ([.ref aM] : List Value).toArray below meth c H locs 0 0 Q (F0 m 27 ls []) := by
    intro u1 H locs ls hm hP hD hS hl
    have hm := ap1 eK27_2 hm
    refine lv_aload_n hx hb dX7_nextBit_27 rfl (lv_at hl 0 rfl) ?_
    refine lv_dup hx hb dX7_nextBit_28 rfl ?_
    refine va_get (D := (dC, dI)) (ci := 8) (v := .int (u1.1 29)) (C := RX7) (T := TX7) (N := 34) hx hb ht inX7 hown hK hP 0 rfl rfl 29 (by decide) (ht _ kw_105) (fun _ h9 => h9) rfl dX7_nextBit_29 ?_
    refine lv_iconst (v := (1 : Int32)) hx hb dX7_nextBit_32 (by decide) ?_
    refine lv_isub hx hb dX7_nextBit_33 ?_
    refine va_put (D := (dC, dI)) (ci := 8) (v := .int ((u1.1 29) - (1 : Int32))) (ty := .int) (C := RX7) (T := TX7) (N := 34) hx hb ht inX7 tyX7 tyX7_ok nmX7 hown hK hP hD hS 0 rfl rfl 29 (by decide) (ht _ kw_105) (fun _ h9 => h9) rfl (by decide +kernel) rfl rfl (Nat.le_of_ble_eq_true rfl) dX7_nextBit_34 (fun H locs hP hD hS => ?_)
    obtain ⟨u3, eu3, hm⟩ := bnd_ex hm
    have hP : va_P (dC, dI) vwCl ([wM cI cJ aM jM u3] : List va_W).flatten H := by rw [eu3]; exact hP
    have hD : va_D A ([wM cI cJ aM jM u3] : List va_W).flatten := by rw [eu3]; exact hD
    refine lv_aload_n hx hb dX7_nextBit_37 rfl (lv_at hl 0 rfl) ?_
    refine va_get (D := (dC, dI)) (ci := 8) (v := .ref (jM 14)) (C := RX7) (T := TX7) (N := 34) hx hb ht inX7 hown hK hP 0 rfl rfl 14 (by decide) (ht _ kw_31) (fun _ h9 => h9) rfl dX7_nextBit_38 ?_
    refine lv_aload_n hx hb dX7_nextBit_41 rfl (lv_at hl 0 rfl) ?_
    refine va_get (D := (dC, dI)) (ci := 8) (v := .int (u3.1 26)) (C := RX7) (T := TX7) (N := 34) hx hb ht inX7 hown hK hP 0 rfl rfl 26 (by decide) (ht _ kw_96) (fun _ h9 => h9) rfl dX7_nextBit_42 ?_
    refine lv_iconst (v := (1 : Int32)) hx hb dX7_nextBit_45 (by decide) ?_
    refine lv_isub hx hb dX7_nextBit_46 ?_
    obtain ⟨g4, hm⟩ := gdi_of hm
    refine va_iald hx hb hK hP 9 0 rfl rfl g4 dX7_nextBit_47 ?_
    refine lv_aload_n hx hb dX7_nextBit_48 rfl (lv_at hl 0 rfl) ?_
    refine va_get (D := (dC, dI)) (ci := 8) (v := .int (u3.1 29)) (C := RX7) (T := TX7) (N := 34) hx hb ht inX7 hown hK hP 0 rfl rfl 29 (by decide) (ht _ kw_105) (fun _ h9 => h9) rfl dX7_nextBit_49 ?_
    refine lv_ishr hx hb dX7_nextBit_52 ?_
    refine lv_iconst (v := (1 : Int32)) hx hb dX7_nextBit_53 (by decide) ?_
    refine lv_iand hx hb dX7_nextBit_54 ?_
    rw [← hQ]
    exact W.iret (v := (((u3.2.1 14 (((u3.1 26) - (1 : Int32))).toNatClampNeg) >>> ((u3.1 29) &&& (31 : Int32))) &&& (1 : Int32))) hx hb hr (fun t ht1 hW => ⟨⟨_, u3, rfl, hm, by rw [ht1]; exact hP, hD⟩, hS.F ht1⟩) hS.2.2 dX7_nextBit_55
  refine lv_if_ne (tgt := 27) hx hb dX7_nextBit_4 (by decide) (fun c5 => ?_) (fun c5 => ?_)
  · have hm := ite_f c5 hm
    exact J27_2 uM _ _ _ hm hP hD hS (lv_sub hl [0] rfl)
  · have hm := ite_t c5 hm
    refine lv_aload_n hx hb dX7_nextBit_7 rfl (lv_at hl 0 rfl) ?_
    have hPc : va_P (dC, dI) vwCl ([wM cI cJ aM jM uM] : List va_W).flatten _ := hP
    have hDc : va_D A ([wM cI cJ aM jM uM] : List va_W).flatten := hD
    have hFc := va_freeF (fc := ([wM cI cJ aM jM uM] : List va_W)) hD hS hA [0] rfl
    obtain ⟨u6o, r7o, e8, hm⟩ := oC2_of hm
    refine va_calli (va_runV (As := []) (rest := []) ⟨hx, hb, hml, hown, ht⟩ (c_X7_next l dC dI cI cJ aM jM H.size uM (u6o, r7o) e8) (cwV 0 ht (gdV kw_104 kw_102 kw_103 kw_7 kw_101) rfl rfl rfl ⟨rfl, nd_X7_next⟩ ⟨Nat.le_of_ble_eq_true rfl, Nat.le_of_ble_eq_true rfl⟩) ⟨pcW_blind, va_recv hK hPc (ci := 8) (q0 := 0) rfl rfl, pcW_pre hPc hK hDc hN⟩ rfl rfl hl.1 rfl (lv_room (Nat.le_of_ble_eq_true rfl)) dX7_nextBit_8 ⟨Nat.zero_le _, Nat.zero_le _⟩) hS (fun q _ z => hFc q z) hFc (fun r7 uu t H1 locs ht1 hvm hw hB hz1 hk1 hS => ?_)
    obtain ⟨u6, rfl⟩ : ∃ z, z = uu := ⟨_, rfl⟩
    obtain ⟨hP1, hD1⟩ := hB
    rw [ht1] at hP1
    obtain ⟨q0, q1⟩ := inj2 hw
    subst q0
    subst q1
    have hP : va_P (dC, dI) vwCl ([wM cI cJ aM jM u6] : List va_W).flatten H1 := hP1
    have hD : va_D A ([wM cI cJ aM jM u6] : List va_W).flatten := hD1.weaken (fun _ q _ z => hFc q.1 z)
    generalize H1 = H at hP hS ⊢
    refine lv_istore_n (lv' := [(1, .int r7), (0, .ref aM)]) hx hb dX7_nextBit_11 rfl hl (by decide) rfl (fun ls hl => ?_)
    refine lv_aload_n hx hb dX7_nextBit_12 rfl (lv_at hl 1 rfl) ?_
    refine va_get (D := (dC, dI)) (ci := 8) (v := .int (u6.1 27)) (C := RX7) (T := TX7) (N := 34) hx hb ht inX7 hown hK hP 0 rfl rfl 27 (by decide) (ht _ kw_95) (fun _ h9 => h9) rfl dX7_nextBit_13 ?_
    refine lv_if_le (tgt := 21) hx hb dX7_nextBit_16 (by decide) (fun c9 => ?_) (fun c9 => ?_)
    · have hm := ite_t c9 hm
      refine lv_aload_n hx hb dX7_nextBit_21 rfl (lv_at hl 1 rfl) ?_
      refine lv_bipush (v := (8 : Int32)) hx hb dX7_nextBit_22 (by decide) ?_
      refine va_put (D := (dC, dI)) (ci := 8) (v := .int (8 : Int32)) (ty := .int) (C := RX7) (T := TX7) (N := 34) hx hb ht inX7 tyX7 tyX7_ok nmX7 hown hK hP hD hS 0 rfl rfl 29 (by decide) (ht _ kw_105) (fun _ h9 => h9) rfl (by decide +kernel) rfl rfl (Nat.le_of_ble_eq_true rfl) dX7_nextBit_24 (fun H locs hP hD hS => ?_)
      obtain ⟨u10, eu10, hm⟩ := bnd_ex hm
      have hP : va_P (dC, dI) vwCl ([wM cI cJ aM jM u10] : List va_W).flatten H := by rw [eu10]; exact hP
      have hD : va_D A ([wM cI cJ aM jM u10] : List va_W).flatten := by rw [eu10]; exact hD
      exact J27_2 u10 _ _ _ hm hP hD hS (lv_sub hl [1] rfl)
    · have hm := ite_f c9 hm
      refine lv_iconst (v := (0 : Int32)) hx hb dX7_nextBit_19 (by decide) ?_
      rw [← hQ]
      exact W.iret (v := (0 : Int32)) hx hb hr (fun t ht1 hW => ⟨⟨_, u6, rfl, hm, by rw [ht1]; exact hP, hD⟩, hS.F ht1⟩) hS.2.2 dX7_nextBit_20

def f_X7_readTable_L97 : Nat → (Int32 → OS → Option (OS)) → Int32 → OS → Option (OS)
  | 0, _, _, _ => none
  | n97 + 1, K124_15, x11, u12 =>
    if (u12.1 29) ≤ (0 : Int32) then (
    K124_15 x11 u12) else (
    oC2 (f_X7_nextBit u12) fun u23 r24 =>
    if r24 = (0 : Int32) then (
    if x11 = (0 : Int32) then (
    f_X7_readTable_L97 n97 K124_15 (0 : Int32) u23) else (
    f_X7_readTable_L97 n97 K124_15 (1 : Int32) u23)) else (
    f_X7_readTable_L97 n97 K124_15 (0 : Int32) u23))

def f_X7_readTable_L30 : Nat → (Int32 → Int32 → OS → Option (OS)) → Int32 → Int32 → OS → Option (OS)
  | 0, _, _, _, _ => none
  | n30 + 1, K50_37, x31, x32, u33 =>
    if x31 ≤ (0 : Int32) then (
    K50_37 x32 x31 u33) else (
    oC2 (f_X7_nextBit u33) fun u50 r51 =>
    bnd (((2 : Int32) * x32) + r51) fun x53 =>
    bnd (x31 + (-1 : Int32)) fun x54 =>
    f_X7_readTable_L30 n30 K50_37 x54 x53 u50)

def f_X7_readTable_L16 : Nat → (Int32 → Int32 → OS → Option (OS)) → Int32 → Int32 → OS → Option (OS)
  | 0, _, _, _, _ => none
  | n16 + 1, K95_10, x4, x5, u6 =>
    if (32 : Int32) ≤ x4 then (
    K95_10 x5 x4 u6) else (
    oC1 (f_X7_bitsOf x5) fun r29 =>
    bnd (fun (x34 : Int32) (x35 : Int32) (u36 : OS) =>
    bnd (fun (u38 : OS) =>
    gdi ((32 : Int32) + x4) 64 <|
    bnd (sA u38 8 ((32 : Int32) + x4) x34) fun u41 =>
    bnd (x5 - x34) fun x42 =>
    if (u41.1 27) ≤ (0 : Int32) then (
    bnd (x4 + (1 : Int32)) fun x44 =>
    f_X7_readTable_L16 n16 K95_10 x44 x42 u41) else (
    some u41)) fun K67_39 =>
    if (u36.1 27) = (0 : Int32) then (
    if x34 ≤ x5 then (
    K67_39 u36) else (
    oC1 (f_X7_fail u36 (3 : Int32)) fun u47 =>
    K67_39 u47)) else (
    K67_39 u36)) fun K50_37 =>
    f_X7_readTable_L30 FU K50_37 r29 (0 : Int32) u6)

def f_X7_readTable (uM : OS) : Option (OS) :=
  gdi (1 : Int32) 2 <|
  bnd ((1 : Int32) <<< ((uM.2.1 10 ((1 : Int32)).toNatClampNeg) &&& (31 : Int32))) fun x2 =>
  bnd (sF uM 29 (0 : Int32)) fun u3 =>
  bnd (fun (x7 : Int32) (x8 : Int32) (u9 : OS) =>
  bnd (fun (x13 : Int32) (u14 : OS) =>
  if (0 : Int32) < x7 then (
  oC1 (f_X7_fail u14 (3 : Int32)) fun u17 =>
  some u17) else (
  if x13 = (0 : Int32) then (
  oC1 (f_X7_fail u14 (3 : Int32)) fun u20 =>
  some u20) else (
  some u14))) fun K124_15 =>
  f_X7_readTable_L97 FU K124_15 (1 : Int32) u9) fun K95_10 =>
  f_X7_readTable_L16 FU K95_10 (0 : Int32) x2 u3

set_option maxHeartbeats 4000000 in
set_option maxRecDepth 100000 in
theorem c_X7_readTable (l : Launch) (dC : Nat → ClassId) (dI : Nat → Nat → Nat) (cI cJ : ClassId) (aM : Nat) (jM : Nat → Nat) (sz : Nat) (uM : OS) (o : OS) (hm : f_X7_readTable uM = some o) : Met l yX7_readTable (wq yX7_readTable cX7_readTable 5 none) ({ frames := 3, cells := 0, slots := 0, locals := 62 } : Room) (va_Pc [.ref aM] (pcW dC dI cI cJ sz ([wM cI cJ aM jM uM] : List va_W).flatten)) (va_Qv (S := OS) (fun u => some u = some o) (fun (u : OS) t => va_P (dC, dI) vwCl ([wM cI cJ aM jM u] : List va_W).flatten t.heap ∧ va_D (va_A ([wM cI cJ aM jM uM] : List va_W).flatten sz) ([wM cI cJ aM jM u] : List va_W).flatten) (va_A ([wM cI cJ aM jM uM] : List va_W).flatten sz)) 0 0 (va_A ([wM cI cJ aM jM uM] : List va_W).flatten sz) := by
  refine Met.ofW (cc := cX7_readTable) (maxL := 5) (ret := none) (by decide) rfl ?_
  intro p e s m args below meth c s₁ B hml hv
  obtain ⟨rfl, hsz, hP, hK, hD0, hN⟩ := hv
  have hx := B.exec
  have hb := B.bytes
  have hr := B.returns
  have ht : ∀ w ∈ lw_good, w.before _ s = true := fun w h => atoms_spec (ws := wq yX7_readTable cX7_readTable 5 none) B.pre w (wq_mem h)
  have hown : s.vm.findClass RX7 = some m.cls := findClass_of_methodNamed B.named
  have hlocks := B.notSynchronized
  subst hsz
  have hD := hD0.self (sz := s.heap.size)
  generalize hAe : va_A ([wM cI cJ aM jM uM] : List va_W).flatten s.heap.size = A at hD ⊢
  have hA : ∀ q : Nat, s.heap.size ≤ q → A q := fun q h => by rw [← hAe]; exact Or.inr h
  have hS : va_S A s.heap s.heap [] := va_S.rf
  have hl := lv_entry ([.ref aM]) (n := 5) (Nat.le_of_ble_eq_true rfl)
  rw [lg_entry_eq]
  generalize (lg_sl ([.ref aM]) ++ List.replicate (5 - (lg_sl ([.ref aM])).length) Slot.unset).toArray = ls at hl ⊢
  have hl : lv_has ls 5 [(0, .ref aM)] := hl
  generalize hQ : MQ below _ _ s _ _ _ = Q
  generalize hH : s.heap = H at hP ⊢
  have hS : va_S A s.heap H [] := by rw [← hH]; exact va_S.rf
  show W p l e ({ frames := 3, cells := 0, slots := 0, locals := 62 } : Room) s m ([.ref aM] : List Value).toArray below meth c H [] 0 0 Q (F0 m 0 ls [])
  unfold f_X7_readTable at hm
  refine lv_iconst (v := (1 : Int32)) hx hb dX7_readTable_0 (by decide) ?_
  refine lv_aload_n hx hb dX7_readTable_1 rfl (lv_at hl 0 rfl) ?_
  refine va_get (D := (dC, dI)) (ci := 8) (v := .ref (jM 10)) (C := RX7) (T := TX7) (N := 34) hx hb ht inX7 hown hK hP 0 rfl rfl 10 (by decide) (ht _ kw_19) (fun _ h9 => h9) rfl dX7_readTable_2 ?_
  refine lv_iconst (v := (1 : Int32)) hx hb dX7_readTable_5 (by decide) ?_
  obtain ⟨g1, hm⟩ := gdi_of hm
  refine va_iald hx hb hK hP 5 0 rfl rfl g1 dX7_readTable_6 ?_
  refine lv_ishl hx hb dX7_readTable_7 ?_
  refine lv_topi (fun x2 ex2 => ?_)
  have hm := bnd_nm ex2 hm
  refine lv_istore_n (lv' := [(1, .int x2), (0, .ref aM)]) hx hb dX7_readTable_8 rfl hl (by decide) rfl (fun ls hl => ?_)
  refine lv_aload_n hx hb dX7_readTable_9 rfl (lv_at hl 1 rfl) ?_
  refine lv_iconst (v := (0 : Int32)) hx hb dX7_readTable_10 (by decide) ?_
  refine va_put (D := (dC, dI)) (ci := 8) (v := .int (0 : Int32)) (ty := .int) (C := RX7) (T := TX7) (N := 34) hx hb ht inX7 tyX7 tyX7_ok nmX7 hown hK hP hD hS 0 rfl rfl 29 (by decide) (ht _ kw_105) (fun _ h9 => h9) rfl (by decide +kernel) rfl rfl (Nat.le_of_ble_eq_true rfl) dX7_readTable_11 (fun H locs hP hD hS => ?_)
  obtain ⟨u3, eu3, hm⟩ := bnd_ex hm
  have hP : va_P (dC, dI) vwCl ([wM cI cJ aM jM u3] : List va_W).flatten H := by rw [eu3]; exact hP
  have hD : va_D A ([wM cI cJ aM jM u3] : List va_W).flatten := by rw [eu3]; exact hD
  refine lv_iconst (v := (0 : Int32)) hx hb dX7_readTable_14 (by decide) ?_
  refine lv_istore_n (lv' := [(2, .int (0 : Int32)), (1, .int x2), (0, .ref aM)]) hx hb dX7_readTable_15 rfl hl (by decide) rfl (fun ls hl => ?_)
  obtain ⟨K95_10, eK95_10, hm⟩ := bnd_ex hm
  have X95_10 : ∀ (x7 : Int32) (x8 : Int32) (u9 : OS) (H : Heap) (locs : List Loc) (ls : Array Slot), K95_10 x7 x8 u9 = some o → va_P (dC, dI) vwCl ([wM cI cJ aM jM u9] : List va_W).flatten H → va_D A ([wM cI cJ aM jM u9] : List va_W).flatten → va_S A s.heap H locs → lv_has ls 5 [(0, .ref aM), (1, .int x7), (2, .int x8)] → W p l e ({ frames := 3, cells := 0, slots := 0, locals := 62 } : Room) s m ([.ref aM] : List Value).toArray below meth c H locs 0 0 Q (F0 m 95 ls []) := by
    intro x7 x8 u9 H locs ls hm hP hD hS hl
    have hm := ap3 eK95_10 hm
    refine lv_iconst (v := (1 : Int32)) hx hb dX7_readTable_95 (by decide) ?_
    refine lv_istore_n (lv' := [(2, .int (1 : Int32)), (0, .ref aM), (1, .int x7)]) hx hb dX7_readTable_96 rfl hl (by decide) rfl (fun ls hl => ?_)
    obtain ⟨K124_15, eK124_15, hm⟩ := bnd_ex hm
    have X124_15 : ∀ (x13 : Int32) (u14 : OS) (H : Heap) (locs : List Loc) (ls : Array Slot), K124_15 x13 u14 = some o → va_P (dC, dI) vwCl ([wM cI cJ aM jM u14] : List va_W).flatten H → va_D A ([wM cI cJ aM jM u14] : List va_W).flatten → va_S A s.heap H locs → lv_has ls 5 [(0, .ref aM), (1, .int x7), (2, .int x13)] → W p l e ({ frames := 3, cells := 0, slots := 0, locals := 62 } : Room) s m ([.ref aM] : List Value).toArray below meth c H locs 0 0 Q (F0 m 124 ls []) := by
      intro x13 u14 H locs ls hm hP hD hS hl
      have hm := ap2 eK124_15 hm
      refine lv_iload_n hx hb dX7_readTable_124 rfl (lv_at hl 1 rfl) ?_
      refine lv_if_gt (tgt := 132) hx hb dX7_readTable_125 (by decide) (fun c16 => ?_) (fun c16 => ?_)
      · have hm := ite_t c16 hm
        refine lv_aload_n hx hb dX7_readTable_132 rfl (lv_at hl 0 rfl) ?_
        refine lv_iconst (v := (3 : Int32)) hx hb dX7_readTable_133 (by decide) ?_
        have hPc : va_P (dC, dI) vwCl ([wM cI cJ aM jM u14] : List va_W).flatten _ := hP
        have hDc : va_D A ([wM cI cJ aM jM u14] : List va_W).flatten := hD
        have hFc := va_freeF (fc := ([wM cI cJ aM jM u14] : List va_W)) hD hS hA [0] rfl
        obtain ⟨u17o, e18, hm⟩ := oC1_of hm
        refine va_callv (va_runV (As := [.int (3 : Int32)]) (rest := []) ⟨hx, hb, hml, hown, ht⟩ (c_X7_fail l dC dI cI cJ aM jM H.size u14 (3 : Int32) u17o e18) (cwV 1 ht (gdV kw_100 kw_98 kw_99 kw_7 kw_97) rfl rfl rfl ⟨rfl, nd_X7_fail⟩ ⟨Nat.le_of_ble_eq_true rfl, Nat.le_of_ble_eq_true rfl⟩) ⟨pcW_blind, va_recv hK hPc (ci := 8) (q0 := 0) rfl rfl, pcW_pre hPc hK hDc hN⟩ rfl rfl hl.1 rfl (lv_room (Nat.le_of_ble_eq_true rfl)) dX7_readTable_134 ⟨Nat.zero_le _, Nat.zero_le _⟩) hS (fun q _ z => hFc q z) hFc (fun uu t H1 locs ht1 hvm hw hB hz1 hk1 hS => ?_)
        obtain ⟨u17, rfl⟩ : ∃ z, z = uu := ⟨_, rfl⟩
        obtain ⟨hP1, hD1⟩ := hB
        rw [ht1] at hP1
        obtain rfl : u17 = u17o := Option.some.inj hw
        have hP : va_P (dC, dI) vwCl ([wM cI cJ aM jM u17] : List va_W).flatten H1 := hP1
        have hD : va_D A ([wM cI cJ aM jM u17] : List va_W).flatten := hD1.weaken (fun _ q _ z => hFc q.1 z)
        generalize H1 = H at hP hS ⊢
        rw [← hQ]
        exact W.vret hx hb hr (fun t ht1 hW => ⟨⟨u17, rfl, hm, by rw [ht1]; exact hP, hD⟩, hS.F ht1⟩) hS.2.2 dX7_readTable_137
      · have hm := ite_f c16 hm
        refine lv_iload_n hx hb dX7_readTable_128 rfl (lv_at hl 2 rfl) ?_
        refine lv_if_ne (tgt := 137) hx hb dX7_readTable_129 (by decide) (fun c19 => ?_) (fun c19 => ?_)
        · have hm := ite_f c19 hm
          rw [← hQ]
          exact W.vret hx hb hr (fun t ht1 hW => ⟨⟨u14, rfl, hm, by rw [ht1]; exact hP, hD⟩, hS.F ht1⟩) hS.2.2 dX7_readTable_137
        · have hm := ite_t c19 hm
          refine lv_aload_n hx hb dX7_readTable_132 rfl (lv_at hl 0 rfl) ?_
          refine lv_iconst (v := (3 : Int32)) hx hb dX7_readTable_133 (by decide) ?_
          have hPc : va_P (dC, dI) vwCl ([wM cI cJ aM jM u14] : List va_W).flatten _ := hP
          have hDc : va_D A ([wM cI cJ aM jM u14] : List va_W).flatten := hD
          have hFc := va_freeF (fc := ([wM cI cJ aM jM u14] : List va_W)) hD hS hA [0] rfl
          obtain ⟨u20o, e21, hm⟩ := oC1_of hm
          refine va_callv (va_runV (As := [.int (3 : Int32)]) (rest := []) ⟨hx, hb, hml, hown, ht⟩ (c_X7_fail l dC dI cI cJ aM jM H.size u14 (3 : Int32) u20o e21) (cwV 1 ht (gdV kw_100 kw_98 kw_99 kw_7 kw_97) rfl rfl rfl ⟨rfl, nd_X7_fail⟩ ⟨Nat.le_of_ble_eq_true rfl, Nat.le_of_ble_eq_true rfl⟩) ⟨pcW_blind, va_recv hK hPc (ci := 8) (q0 := 0) rfl rfl, pcW_pre hPc hK hDc hN⟩ rfl rfl hl.1 rfl (lv_room (Nat.le_of_ble_eq_true rfl)) dX7_readTable_134 ⟨Nat.zero_le _, Nat.zero_le _⟩) hS (fun q _ z => hFc q z) hFc (fun uu t H1 locs ht1 hvm hw hB hz1 hk1 hS => ?_)
          obtain ⟨u20, rfl⟩ : ∃ z, z = uu := ⟨_, rfl⟩
          obtain ⟨hP1, hD1⟩ := hB
          rw [ht1] at hP1
          obtain rfl : u20 = u20o := Option.some.inj hw
          have hP : va_P (dC, dI) vwCl ([wM cI cJ aM jM u20] : List va_W).flatten H1 := hP1
          have hD : va_D A ([wM cI cJ aM jM u20] : List va_W).flatten := hD1.weaken (fun _ q _ z => hFc q.1 z)
          generalize H1 = H at hP hS ⊢
          rw [← hQ]
          exact W.vret hx hb hr (fun t ht1 hW => ⟨⟨u20, rfl, hm, by rw [ht1]; exact hP, hD⟩, hS.F ht1⟩) hS.2.2 dX7_readTable_137
    have LP97 : ∀ (n97 : Nat) (x11 : Int32) (u12 : OS) (H : Heap) (locs : List Loc) (ls : Array Slot), f_X7_readTable_L97 n97 K124_15 x11 u12 = some o → va_P (dC, dI) vwCl ([wM cI cJ aM jM u12] : List va_W).flatten H → va_D A ([wM cI cJ aM jM u12] : List va_W).flatten → va_S A s.heap H locs → lv_has ls 5 [(0, .ref aM), (1, .int x7), (2, .int x11)] → W p l e ({ frames := 3, cells := 0, slots := 0, locals := 62 } : Room) s m ([.ref aM] : List Value).toArray below meth c H locs 0 0 Q (F0 m 97 ls []) := by
      intro n97
      induction n97 with
      | zero => intro x11 u12 H locs ls hm; exact nomatch (show (none : Option _) = some _ from hm)
      | succ n97 ih97 =>
        intro x11 u12 H locs ls hm hP hD hS hl
        unfold f_X7_readTable_L97 at hm
        refine lv_aload_n hx hb dX7_readTable_97 rfl (lv_at hl 0 rfl) ?_
        refine va_get (D := (dC, dI)) (ci := 8) (v := .int (u12.1 29)) (C := RX7) (T := TX7) (N := 34) hx hb ht inX7 hown hK hP 0 rfl rfl 29 (by decide) (ht _ kw_105) (fun _ h9 => h9) rfl dX7_readTable_98 ?_
        refine lv_if_le (tgt := 124) hx hb dX7_readTable_101 (by decide) (fun c22 => ?_) (fun c22 => ?_)
        · have hm := ite_t c22 hm
          exact X124_15 x11 u12 _ _ _ hm hP hD hS (lv_sub hl [0, 1, 2] rfl)
        · have hm := ite_f c22 hm
          refine lv_aload_n hx hb dX7_readTable_104 rfl (lv_at hl 0 rfl) ?_
          have hPc : va_P (dC, dI) vwCl ([wM cI cJ aM jM u12] : List va_W).flatten _ := hP
          have hDc : va_D A ([wM cI cJ aM jM u12] : List va_W).flatten := hD
          have hFc := va_freeF (fc := ([wM cI cJ aM jM u12] : List va_W)) hD hS hA [0] rfl
          obtain ⟨u23o, r24o, e25, hm⟩ := oC2_of hm
          refine va_calli (va_runV (As := []) (rest := []) ⟨hx, hb, hml, hown, ht⟩ (c_X7_nextBit l dC dI cI cJ aM jM H.size u12 (u23o, r24o) e25) (cwV 0 ht (gdV kw_109 kw_107 kw_108 kw_7 kw_106) rfl rfl rfl ⟨rfl, nd_X7_nextBit⟩ ⟨Nat.le_of_ble_eq_true rfl, Nat.le_of_ble_eq_true rfl⟩) ⟨pcW_blind, va_recv hK hPc (ci := 8) (q0 := 0) rfl rfl, pcW_pre hPc hK hDc hN⟩ rfl rfl hl.1 rfl (lv_room (Nat.le_of_ble_eq_true rfl)) dX7_readTable_105 ⟨Nat.zero_le _, Nat.zero_le _⟩) hS (fun q _ z => hFc q z) hFc (fun r24 uu t H1 locs ht1 hvm hw hB hz1 hk1 hS => ?_)
          obtain ⟨u23, rfl⟩ : ∃ z, z = uu := ⟨_, rfl⟩
          obtain ⟨hP1, hD1⟩ := hB
          rw [ht1] at hP1
          obtain ⟨q0, q1⟩ := inj2 hw
          subst q0
          subst q1
          have hP : va_P (dC, dI) vwCl ([wM cI cJ aM jM u23] : List va_W).flatten H1 := hP1
          have hD : va_D A ([wM cI cJ aM jM u23] : List va_W).flatten := hD1.weaken (fun _ q _ z => hFc q.1 z)
          generalize H1 = H at hP hS ⊢
          refine lv_if_ne (tgt := 119) hx hb dX7_readTable_108 (by decide) (fun c26 => ?_) (fun c26 => ?_)
          · have hm := ite_f c26 hm
            refine lv_iconst (v := (0 : Int32)) hx hb dX7_readTable_119 (by decide) ?_
            refine lv_istore_n (lv' := [(2, .int (0 : Int32)), (0, .ref aM), (1, .int x7)]) hx hb dX7_readTable_120 rfl hl (by decide) rfl (fun ls hl => ?_)
            refine lv_goto (tgt := 97) hx hb dX7_readTable_121 (by decide) ?_
            exact ih97 (0 : Int32) u23 _ _ _ hm hP hD hS (lv_sub hl [1, 2, 0] rfl)
          · have hm := ite_t c26 hm
            refine lv_iload_n hx hb dX7_readTable_111 rfl (lv_at hl 2 rfl) ?_
            refine lv_if_eq (tgt := 119) hx hb dX7_readTable_112 (by decide) (fun c27 => ?_) (fun c27 => ?_)
            · have hm := ite_t c27 hm
              refine lv_iconst (v := (0 : Int32)) hx hb dX7_readTable_119 (by decide) ?_
              refine lv_istore_n (lv' := [(2, .int (0 : Int32)), (0, .ref aM), (1, .int x7)]) hx hb dX7_readTable_120 rfl hl (by decide) rfl (fun ls hl => ?_)
              refine lv_goto (tgt := 97) hx hb dX7_readTable_121 (by decide) ?_
              exact ih97 (0 : Int32) u23 _ _ _ hm hP hD hS (lv_sub hl [1, 2, 0] rfl)
            · have hm := ite_f c27 hm
              refine lv_iconst (v := (1 : Int32)) hx hb dX7_readTable_115 (by decide) ?_
              refine lv_goto (tgt := 120) hx hb dX7_readTable_116 (by decide) ?_
              refine lv_istore_n (lv' := [(2, .int (1 : Int32)), (0, .ref aM), (1, .int x7)]) hx hb dX7_readTable_120 rfl hl (by decide) rfl (fun ls hl => ?_)
              refine lv_goto (tgt := 97) hx hb dX7_readTable_121 (by decide) ?_
              exact ih97 (1 : Int32) u23 _ _ _ hm hP hD hS (lv_sub hl [1, 2, 0] rfl)
    exact LP97 FU (1 : Int32) u9 _ _ _ hm hP hD hS (lv_sub hl [1, 2, 0] rfl)
  have LP16 : ∀ (n16 : Nat) (x4 : Int32) (x5 : Int32) (u6 : OS) (H : Heap) (locs : List Loc) (ls : Array Slot), f_X7_readTable_L16 n16 K95_10 x4 x5 u6 = some o → va_P (dC, dI) vwCl ([wM cI cJ aM jM u6] : List va_W).flatten H → va_D A ([wM cI cJ aM jM u6] : List va_W).flatten → va_S A s.heap H locs → lv_has ls 5 [(0, .ref aM), (1, .int x5), (2, .int x4)] → W p l e ({ frames := 3, cells := 0, slots := 0, locals := 62 } : Room) s m ([.ref aM] : List Value).toArray below meth c H locs 0 0 Q (F0 m 16 ls []) := by
    intro n16
    induction n16 with
    | zero => intro x4 x5 u6 H locs ls hm; exact nomatch (show (none : Option _) = some _ from hm)
    | succ n16 ih16 =>
      intro x4 x5 u6 H locs ls hm hP hD hS hl
      unfold f_X7_readTable_L16 at hm
      refine lv_iload_n hx hb dX7_readTable_16 rfl (lv_at hl 2 rfl) ?_
      refine lv_bipush (v := (32 : Int32)) hx hb dX7_readTable_17 (by decide) ?_
      refine lv_icmp_ge (tgt := 95) hx hb dX7_readTable_19 (by decide) (fun c28 => ?_) (fun c28 => ?_)
      · have hm := ite_t c28 hm
        exact X95_10 x5 x4 u6 _ _ _ hm hP hD hS (lv_sub hl [0, 1, 2] rfl)
      · have hm := ite_f c28 hm
        refine lv_iconst (v := (0 : Int32)) hx hb dX7_readTable_22 (by decide) ?_
        refine lv_istore_n (lv' := [(3, .int (0 : Int32)), (0, .ref aM), (1, .int x5), (2, .int x4)]) hx hb dX7_readTable_23 rfl hl (by decide) rfl (fun ls hl => ?_)
        refine lv_iload_n hx hb dX7_readTable_24 rfl (lv_at hl 2 rfl) ?_
        have hPc : va_P (dC, dI) vwCl ([] : List va_W).flatten _ := hP.subF [] rfl
        have hDc : va_D A ([] : List va_W).flatten := hD.subF [] (by decide) rfl
        have hFc := va_freeF (fc := ([] : List va_W)) hD hS hA [] rfl
        obtain ⟨r29o, e30, hm⟩ := oC1_of hm
        refine va_calli (va_runS (As := [.int x5]) (rest := []) ⟨hx, hb, hml, hown, ht⟩ (c_X7_bitsOf l dC dI cI cJ H.size x5 r29o e30) (va_cwS 1 ht (gdS kw_40 kw_39 kw_7 kw_38) rfl rfl rfl nd_X7_bitsOf ⟨Nat.le_of_ble_eq_true rfl, Nat.le_of_ble_eq_true rfl⟩) ⟨pcW_blind, pcW_pre hPc hK hDc hN⟩ rfl rfl hl.1 rfl (lv_room (Nat.le_of_ble_eq_true rfl)) dX7_readTable_25 ⟨Nat.zero_le _, Nat.zero_le _⟩) hS (fun q _ z => hFc q z) hFc (fun r29 uu t H1 locs ht1 hvm hw hB hz1 hk1 hS => ?_)
        obtain ⟨⟩ := uu
        obtain ⟨hP1, hD1⟩ := hB
        rw [ht1] at hP1
        obtain rfl : r29 = r29o := Option.some.inj hw
        obtain ⟨hP, hD⟩ := va_joinF (fr := ([wM cI cJ aM jM u6] : List va_W)) (f1 := ([] : List va_W)) hP hD [] [0] rfl rfl (by decide) (by decide) hk1 hFc hP1 hD1
        have hP : va_P (dC, dI) vwCl ([wM cI cJ aM jM u6] : List va_W).flatten H1 := hP
        have hD : va_D A ([wM cI cJ aM jM u6] : List va_W).flatten := hD
        generalize H1 = H at hP hS ⊢
        refine lv_istore (lv' := [(4, .int r29), (3, .int (0 : Int32)), (0, .ref aM), (1, .int x5), (2, .int x4)]) hx hb dX7_readTable_28 hl (by decide) rfl (fun ls hl => ?_)
        obtain ⟨K50_37, eK50_37, hm⟩ := bnd_ex hm
        have X50_37 : ∀ (x34 : Int32) (x35 : Int32) (u36 : OS) (H : Heap) (locs : List Loc) (ls : Array Slot), K50_37 x34 x35 u36 = some o → va_P (dC, dI) vwCl ([wM cI cJ aM jM u36] : List va_W).flatten H → va_D A ([wM cI cJ aM jM u36] : List va_W).flatten → va_S A s.heap H locs → lv_has ls 5 [(0, .ref aM), (1, .int x5), (2, .int x4), (3, .int x34), (4, .int x35)] → W p l e ({ frames := 3, cells := 0, slots := 0, locals := 62 } : Room) s m ([.ref aM] : List Value).toArray below meth c H locs 0 0 Q (F0 m 50 ls []) := by
          intro x34 x35 u36 H locs ls hm hP hD hS hl
          have hm := ap3 eK50_37 hm
          refine lv_aload_n hx hb dX7_readTable_50 rfl (lv_at hl 0 rfl) ?_
          refine va_get (D := (dC, dI)) (ci := 8) (v := .int (u36.1 27)) (C := RX7) (T := TX7) (N := 34) hx hb ht inX7 hown hK hP 0 rfl rfl 27 (by decide) (ht _ kw_95) (fun _ h9 => h9) rfl dX7_readTable_51 ?_
          obtain ⟨K67_39, eK67_39, hm⟩ := bnd_ex hm
          have J67_39 : ∀ (u38 : OS) (H : Heap) (locs : List Loc) (ls : Array Slot), K67_39 u38 = some o → va_P (dC, dI) vwCl ([wM cI cJ aM jM u38] : List va_W).flatten H → va_D A ([wM cI cJ aM jM u38] : List va_W).flatten → va_S A s.heap H locs → lv_has ls 5 [(0, .ref aM), (1, .int x5), (2, .int x4), (3, .int x34), (4, .int x35)] → W p l e ({ frames := 3, cells := 0, slots := 0, locals := 62 } : Room) s m ([.ref aM] : List Value).toArray below meth c H locs 0 0 Q (F0 m 67 ls []) := by
            intro u38 H locs ls hm hP hD hS hl
            have hm := ap1 eK67_39 hm
            refine lv_aload_n hx hb dX7_readTable_67 rfl (lv_at hl 0 rfl) ?_
            refine va_get (D := (dC, dI)) (ci := 8) (v := .ref (jM 8)) (C := RX7) (T := TX7) (N := 34) hx hb ht inX7 hown hK hP 0 rfl rfl 8 (by decide) (ht _ kw_18) (fun _ h9 => h9) rfl dX7_readTable_68 ?_
            refine lv_bipush (v := (32 : Int32)) hx hb dX7_readTable_71 (by decide) ?_
            refine lv_iload_n hx hb dX7_readTable_73 rfl (lv_at hl 2 rfl) ?_
            refine lv_iadd hx hb dX7_readTable_74 ?_
            refine lv_iload_n hx hb dX7_readTable_75 rfl (lv_at hl 3 rfl) ?_
            obtain ⟨g40, hm⟩ := gdi_of hm
            refine va_iast hx hb hK hP hD hS 3 0 rfl rfl g40 dX7_readTable_76 (fun H locs hP hD hS => ?_)
            obtain ⟨u41, eu41, hm⟩ := bnd_ex hm
            have hP : va_P (dC, dI) vwCl ([wM cI cJ aM jM u41] : List va_W).flatten H := by rw [eu41]; exact hP
            have hD : va_D A ([wM cI cJ aM jM u41] : List va_W).flatten := by rw [eu41]; exact hD
            refine lv_iload_n hx hb dX7_readTable_77 rfl (lv_at hl 1 rfl) ?_
            refine lv_iload_n hx hb dX7_readTable_78 rfl (lv_at hl 3 rfl) ?_
            refine lv_isub hx hb dX7_readTable_79 ?_
            refine lv_topi (fun x42 ex42 => ?_)
            have hm := bnd_nm ex42 hm
            refine lv_istore_n (lv' := [(1, .int x42), (0, .ref aM), (2, .int x4), (3, .int x34), (4, .int x35)]) hx hb dX7_readTable_80 rfl hl (by decide) rfl (fun ls hl => ?_)
            refine lv_aload_n hx hb dX7_readTable_81 rfl (lv_at hl 1 rfl) ?_
            refine va_get (D := (dC, dI)) (ci := 8) (v := .int (u41.1 27)) (C := RX7) (T := TX7) (N := 34) hx hb ht inX7 hown hK hP 0 rfl rfl 27 (by decide) (ht _ kw_95) (fun _ h9 => h9) rfl dX7_readTable_82 ?_
            refine lv_if_le (tgt := 89) hx hb dX7_readTable_85 (by decide) (fun c43 => ?_) (fun c43 => ?_)
            · have hm := ite_t c43 hm
              obtain ⟨x44, ex44, hm⟩ := bnd_ex hm
              refine lv_iinc (v := x44) (lv' := [(2, .int x44), (1, .int x42), (0, .ref aM), (3, .int x34), (4, .int x35)]) hx hb dX7_readTable_89 hl (k := 2) rfl (by rw [ex44]; exact congrArg _ (by decide)) (by decide) rfl (fun ls hl => ?_)
              refine lv_goto (tgt := 16) hx hb dX7_readTable_92 (by decide) ?_
              exact ih16 x44 x42 u41 _ _ _ hm hP hD hS (lv_sub hl [2, 1, 0] rfl)
            · have hm := ite_f c43 hm
              rw [← hQ]
              exact W.vret hx hb hr (fun t ht1 hW => ⟨⟨u41, rfl, hm, by rw [ht1]; exact hP, hD⟩, hS.F ht1⟩) hS.2.2 dX7_readTable_88
          refine lv_if_ne (tgt := 67) hx hb dX7_readTable_54 (by decide) (fun c45 => ?_) (fun c45 => ?_)
          · have hm := ite_f c45 hm
            exact J67_39 u36 _ _ _ hm hP hD hS (lv_sub hl [0, 1, 2, 3, 4] rfl)
          · have hm := ite_t c45 hm
            refine lv_iload_n hx hb dX7_readTable_57 rfl (lv_at hl 3 rfl) ?_
            refine lv_iload_n hx hb dX7_readTable_58 rfl (lv_at hl 1 rfl) ?_
            refine lv_icmp_le (tgt := 67) hx hb dX7_readTable_59 (by decide) (fun c46 => ?_) (fun c46 => ?_)
            · have hm := ite_t c46 hm
              exact J67_39 u36 _ _ _ hm hP hD hS (lv_sub hl [0, 1, 2, 3, 4] rfl)
            · have hm := ite_f c46 hm
              refine lv_aload_n hx hb dX7_readTable_62 rfl (lv_at hl 0 rfl) ?_
              refine lv_iconst (v := (3 : Int32)) hx hb dX7_readTable_63 (by decide) ?_
              have hPc : va_P (dC, dI) vwCl ([wM cI cJ aM jM u36] : List va_W).flatten _ := hP
              have hDc : va_D A ([wM cI cJ aM jM u36] : List va_W).flatten := hD
              have hFc := va_freeF (fc := ([wM cI cJ aM jM u36] : List va_W)) hD hS hA [0] rfl
              obtain ⟨u47o, e48, hm⟩ := oC1_of hm
              refine va_callv (va_runV (As := [.int (3 : Int32)]) (rest := []) ⟨hx, hb, hml, hown, ht⟩ (c_X7_fail l dC dI cI cJ aM jM H.size u36 (3 : Int32) u47o e48) (cwV 1 ht (gdV kw_100 kw_98 kw_99 kw_7 kw_97) rfl rfl rfl ⟨rfl, nd_X7_fail⟩ ⟨Nat.le_of_ble_eq_true rfl, Nat.le_of_ble_eq_true rfl⟩) ⟨pcW_blind, va_recv hK hPc (ci := 8) (q0 := 0) rfl rfl, pcW_pre hPc hK hDc hN⟩ rfl rfl hl.1 rfl (lv_room (Nat.le_of_ble_eq_true rfl)) dX7_readTable_64 ⟨Nat.zero_le _, Nat.zero_le _⟩) hS (fun q _ z => hFc q z) hFc (fun uu t H1 locs ht1 hvm hw hB hz1 hk1 hS => ?_)
              obtain ⟨u47, rfl⟩ : ∃ z, z = uu := ⟨_, rfl⟩
              obtain ⟨hP1, hD1⟩ := hB
              rw [ht1] at hP1
              obtain rfl : u47 = u47o := Option.some.inj hw
              have hP : va_P (dC, dI) vwCl ([wM cI cJ aM jM u47] : List va_W).flatten H1 := hP1
              have hD : va_D A ([wM cI cJ aM jM u47] : List va_W).flatten := hD1.weaken (fun _ q _ z => hFc q.1 z)
              generalize H1 = H at hP hS ⊢
              exact J67_39 u47 _ _ _ hm hP hD hS (lv_sub hl [0, 1, 2, 3, 4] rfl)
        have LP30 : ∀ (n30 : Nat) (x31 : Int32) (x32 : Int32) (u33 : OS) (H : Heap) (locs : List Loc) (ls : Array Slot), f_X7_readTable_L30 n30 K50_37 x31 x32 u33 = some o → va_P (dC, dI) vwCl ([wM cI cJ aM jM u33] : List va_W).flatten H → va_D A ([wM cI cJ aM jM u33] : List va_W).flatten → va_S A s.heap H locs → lv_has ls 5 [(0, .ref aM), (1, .int x5), (2, .int x4), (3, .int x32), (4, .int x31)] → W p l e ({ frames := 3, cells := 0, slots := 0, locals := 62 } : Room) s m ([.ref aM] : List Value).toArray below meth c H locs 0 0 Q (F0 m 30 ls []) := by
          intro n30
          induction n30 with
          | zero => intro x31 x32 u33 H locs ls hm; exact nomatch (show (none : Option _) = some _ from hm)
          | succ n30 ih30 =>
            intro x31 x32 u33 H locs ls hm hP hD hS hl
            unfold f_X7_readTable_L30 at hm
            refine lv_iload hx hb dX7_readTable_30 (lv_at hl 4 rfl) ?_
            refine lv_if_le (tgt := 50) hx hb dX7_readTable_32 (by decide) (fun c49 => ?_) (fun c49 => ?_)
            · have hm := ite_t c49 hm
              exact X50_37 x32 x31 u33 _ _ _ hm hP hD hS (lv_sub hl [0, 1, 2, 3, 4] rfl)
            · have hm := ite_f c49 hm
              refine lv_iconst (v := (2 : Int32)) hx hb dX7_readTable_35 (by decide) ?_
              refine lv_iload_n hx hb dX7_readTable_36 rfl (lv_at hl 3 rfl) ?_
              refine lv_imul hx hb dX7_readTable_37 ?_
              refine lv_aload_n hx hb dX7_readTable_38 rfl (lv_at hl 0 rfl) ?_
              have hPc : va_P (dC, dI) vwCl ([wM cI cJ aM jM u33] : List va_W).flatten _ := hP
              have hDc : va_D A ([wM cI cJ aM jM u33] : List va_W).flatten := hD
              have hFc := va_freeF (fc := ([wM cI cJ aM jM u33] : List va_W)) hD hS hA [0] rfl
              obtain ⟨u50o, r51o, e52, hm⟩ := oC2_of hm
              refine va_calli (va_runV (As := []) (rest := [.int ((2 : Int32) * x32)]) ⟨hx, hb, hml, hown, ht⟩ (c_X7_nextBit l dC dI cI cJ aM jM H.size u33 (u50o, r51o) e52) (cwV 0 ht (gdV kw_109 kw_107 kw_108 kw_7 kw_106) rfl rfl rfl ⟨rfl, nd_X7_nextBit⟩ ⟨Nat.le_of_ble_eq_true rfl, Nat.le_of_ble_eq_true rfl⟩) ⟨pcW_blind, va_recv hK hPc (ci := 8) (q0 := 0) rfl rfl, pcW_pre hPc hK hDc hN⟩ rfl rfl hl.1 rfl (lv_room (Nat.le_of_ble_eq_true rfl)) dX7_readTable_39 ⟨Nat.zero_le _, Nat.zero_le _⟩) hS (fun q _ z => hFc q z) hFc (fun r51 uu t H1 locs ht1 hvm hw hB hz1 hk1 hS => ?_)
              obtain ⟨u50, rfl⟩ : ∃ z, z = uu := ⟨_, rfl⟩
              obtain ⟨hP1, hD1⟩ := hB
              rw [ht1] at hP1
              obtain ⟨q0, q1⟩ := inj2 hw
              subst q0
              subst q1
              have hP : va_P (dC, dI) vwCl ([wM cI cJ aM jM u50] : List va_W).flatten H1 := hP1
              have hD : va_D A ([wM cI cJ aM jM u50] : List va_W).flatten := hD1.weaken (fun _ q _ z => hFc q.1 z)
              generalize H1 = H at hP hS ⊢
              refine lv_iadd hx hb dX7_readTable_42 ?_
              refine lv_topi (fun x53 ex53 => ?_)
              have hm := bnd_nm ex53 hm
              refine lv_istore_n (lv' := [(3, .int x53), (0, .ref aM), (1, .int x5), (2, .int x4), (4, .int x31)]) hx hb dX7_readTable_43 rfl hl (by decide) rfl (fun ls hl => ?_)
              obtain ⟨x54, ex54, hm⟩ := bnd_ex hm
              refine lv_iinc (v := x54) (lv' := [(4, .int x54), (3, .int x53), (0, .ref aM), (1, .int x5), (2, .int x4)]) hx hb dX7_readTable_44 hl (k := 4) rfl (by rw [ex54]; exact congrArg _ (by decide)) (by decide) rfl (fun ls hl => ?_)
              refine lv_goto (tgt := 30) hx hb dX7_readTable_47 (by decide) ?_
              exact ih30 x54 x53 u50 _ _ _ hm hP hD hS (lv_sub hl [2, 3, 4, 1, 0] rfl)
        exact LP30 FU r29 (0 : Int32) u6 _ _ _ hm hP hD hS (lv_sub hl [2, 3, 4, 1, 0] rfl)
  exact LP16 FU (0 : Int32) x2 u3 _ _ _ hm hP hD hS (lv_sub hl [2, 1, 0] rfl)

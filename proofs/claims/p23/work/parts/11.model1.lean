def f_X7_normal_L78 (u13 : OS) : Nat → (Int32 → Int64 → Int32 → Option (OS × Int32)) → Int32 → Int64 → Int32 → Option (OS × Int32)
  | 0, _, _, _, _ => none
  | n78 + 1, K156_27, x21, y22, x23 =>
    if (32 : Int32) ≤ x21 then (
    K156_27 x23 y22 x21) else (
    gdi x21 64 <|
    if (u13.2.1 8 (x21).toNatClampNeg) ≤ (0 : Int32) then (
    bnd (x21 + (1 : Int32)) fun x35 =>
    f_X7_normal_L78 u13 n78 K156_27 x35 y22 x23) else (
    gdi x21 32 <|
    gdi x21 64 <|
    oC1 (f_X7_logarithm ((u13.2.1 8 (x21).toNatClampNeg) + (1 : Int32))) fun r38 =>
    gdi x21 64 <|
    oC1 (f_X7_logarithm (u13.2.1 8 (x21).toNatClampNeg)) fun r41 =>
    bnd (((u13.2.1 6 (x21).toNatClampNeg)).toInt64 * (r38 - r41)) fun y43 =>
    if x23 = (-2 : Int32) then (
    bnd (x21 + (1 : Int32)) fun x45 =>
    f_X7_normal_L78 u13 n78 K156_27 x45 y43 x21) else (
    if y43 ≤ y22 then (
    bnd (x21 + (1 : Int32)) fun x47 =>
    f_X7_normal_L78 u13 n78 K156_27 x47 y22 x23) else (
    bnd (x21 + (1 : Int32)) fun x48 =>
    f_X7_normal_L78 u13 n78 K156_27 x48 y43 x21))))

def f_X7_normal_L65 : Nat → (Int32 → OS → Option (OS × Int32)) → Int32 → OS → Option (OS × Int32)
  | 0, _, _, _ => none
  | n65 + 1, K172_16, x12, u13 =>
    if x12 ≤ (0 : Int32) then (
    K172_16 x12 u13) else (
    bnd (fun (x24 : Int32) (y25 : Int64) (x26 : Int32) =>
    gdi x24 64 <|
    gdi x24 64 <|
    bnd (sA u13 8 x24 ((u13.2.1 8 (x24).toNatClampNeg) + (1 : Int32))) fun u30 =>
    bnd (x12 + (-1 : Int32)) fun x31 =>
    f_X7_normal_L65 n65 K172_16 x31 u30) fun K156_27 =>
    f_X7_normal_L78 u13 FU K156_27 (0 : Int32) (0 : Int64) (-2 : Int32))

def f_X7_normal_L24 : Nat → (Int32 → OS → Option (OS × Int32)) → Int32 → OS → Option (OS × Int32)
  | 0, _, _, _ => none
  | n24 + 1, K56_10, x6, u7 =>
    if (32 : Int32) ≤ x6 then (
    K56_10 x6 u7) else (
    gdi x6 32 <|
    if (u7.2.1 6 (x6).toNatClampNeg) ≤ (0 : Int32) then (
    gdi x6 64 <|
    bnd (sA u7 8 x6 (0 : Int32)) fun u53 =>
    bnd (x6 + (1 : Int32)) fun x54 =>
    f_X7_normal_L24 n24 K56_10 x54 u53) else (
    gdi x6 64 <|
    bnd (sA u7 8 x6 (1 : Int32)) fun u56 =>
    bnd (x6 + (1 : Int32)) fun x57 =>
    f_X7_normal_L24 n24 K56_10 x57 u56))

def f_X7_normal (uM : OS) : Option (OS × Int32) :=
  bnd (sF uM 1 (0 : Int32)) fun u1 =>
  bnd (sF u1 7 (0 : Int32)) fun u2 =>
  oC1 (f_X7_signsCounted u2) fun r3 =>
  if r3 = (0 : Int32) then (
  some (u2, (-2 : Int32))) else (
  bnd (fun (x8 : Int32) (u9 : OS) =>
  bnd (((1 : Int32) <<< ((u9.1 0) &&& (31 : Int32))) - r3) fun x11 =>
  bnd (fun (x14 : Int32) (u15 : OS) =>
  bnd (sF u15 7 (1 : Int32)) fun u17 =>
  oC1 (f_X7_lay u17 (0 : Int32)) fun u18 =>
  some (u18, r3)) fun K172_16 =>
  f_X7_normal_L65 FU K172_16 x11 u9) fun K56_10 =>
  f_X7_normal_L24 FU K56_10 (0 : Int32) u2)

set_option maxHeartbeats 4000000 in
set_option maxRecDepth 100000 in
theorem c_X7_normal (l : Launch) (dC : Nat → ClassId) (dI : Nat → Nat → Nat) (cI cJ : ClassId) (aM : Nat) (jM : Nat → Nat) (sz : Nat) (uM : OS) (o : OS × Int32) (hm : f_X7_normal uM = some o) : Met l yX7_normal (wq yX7_normal cX7_normal 9 (some .int)) ({ frames := 1, cells := 0, slots := 0, locals := 27 } : Room) (va_Pc [.ref aM] (pcW dC dI cI cJ sz ([wM cI cJ aM jM uM] : List va_W).flatten)) (va_Qi (S := OS) (fun r u => some (u, r) = some o) (fun (u : OS) t => va_P (dC, dI) vwCl ([wM cI cJ aM jM u] : List va_W).flatten t.heap ∧ va_D (va_A ([wM cI cJ aM jM uM] : List va_W).flatten sz) ([wM cI cJ aM jM u] : List va_W).flatten) (va_A ([wM cI cJ aM jM uM] : List va_W).flatten sz)) 0 0 (va_A ([wM cI cJ aM jM uM] : List va_W).flatten sz) := by
  refine Met.ofW (cc := cX7_normal) (maxL := 9) (ret := (some .int)) (by decide) rfl ?_
  intro p e s m args below meth c s₁ B hml hv
  obtain ⟨rfl, hsz, hP, hK, hD0, hN⟩ := hv
  have hx := B.exec
  have hb := B.bytes
  have hr := B.returns
  have ht : ∀ w ∈ lw_good, w.before _ s = true := fun w h => atoms_spec (ws := wq yX7_normal cX7_normal 9 (some .int)) B.pre w (wq_mem h)
  have hown : s.vm.findClass RX7 = some m.cls := findClass_of_methodNamed B.named
  have hlocks := B.notSynchronized
  subst hsz
  have hD := hD0.self (sz := s.heap.size)
  generalize hAe : va_A ([wM cI cJ aM jM uM] : List va_W).flatten s.heap.size = A at hD ⊢
  have hA : ∀ q : Nat, s.heap.size ≤ q → A q := fun q h => by rw [← hAe]; exact Or.inr h
  have hS : va_S A s.heap s.heap [] := va_S.rf
  have hl := lv_entry ([.ref aM]) (n := 9) (Nat.le_of_ble_eq_true rfl)
  rw [lg_entry_eq]
  generalize (lg_sl ([.ref aM]) ++ List.replicate (9 - (lg_sl ([.ref aM])).length) Slot.unset).toArray = ls at hl ⊢
  have hl : lv_has ls 9 [(0, .ref aM)] := hl
  generalize hQ : MQ below _ _ s _ _ _ = Q
  generalize hH : s.heap = H at hP ⊢
  have hS : va_S A s.heap H [] := by rw [← hH]; exact va_S.rf
  show W p l e ({ frames := 1, cells := 0, slots := 0, locals := 27 } : Room) s m ([.ref aM] : List Value).toArray below meth c H [] 0 0 Q (F0 m 0 ls [])
  unfold f_X7_normal at hm
  refine lv_aload_n hx hb dX7_normal_0 rfl (lv_at hl 0 rfl) ?_
  refine lv_iconst (v := (0 : Int32)) hx hb dX7_normal_1 (by decide) ?_
  refine va_put (D := (dC, dI)) (ci := 8) (v := .int (0 : Int32)) (ty := .int) (C := RX7) (T := TX7) (N := 34) hx hb ht inX7 tyX7 tyX7_ok nmX7 hown hK hP hD hS 0 rfl rfl 1 (by decide) (ht _ kw_0) (fun _ h9 => h9) rfl (by decide +kernel) rfl rfl (Nat.le_of_ble_eq_true rfl) dX7_normal_2 (fun H locs hP hD hS => ?_)
  obtain ⟨u1, eu1, hm⟩ := bnd_ex hm
  have hP : va_P (dC, dI) vwCl ([wM cI cJ aM jM u1] : List va_W).flatten H := by rw [eu1]; exact hP
  have hD : va_D A ([wM cI cJ aM jM u1] : List va_W).flatten := by rw [eu1]; exact hD
  refine lv_aload_n hx hb dX7_normal_5 rfl (lv_at hl 0 rfl) ?_
  refine lv_iconst (v := (0 : Int32)) hx hb dX7_normal_6 (by decide) ?_
  refine va_put (D := (dC, dI)) (ci := 8) (v := .int (0 : Int32)) (ty := .boolean) (C := RX7) (T := TX7) (N := 34) hx hb ht inX7 tyX7 tyX7_ok nmX7 hown hK hP hD hS 0 rfl rfl 7 (by decide) (ht _ kw_5) (fun _ h9 => h9) rfl (by decide +kernel) rfl rfl (Nat.le_of_ble_eq_true rfl) dX7_normal_7 (fun H locs hP hD hS => ?_)
  obtain ⟨u2, eu2, hm⟩ := bnd_ex hm
  have hP : va_P (dC, dI) vwCl ([wM cI cJ aM jM u2] : List va_W).flatten H := by rw [eu2]; exact hP
  have hD : va_D A ([wM cI cJ aM jM u2] : List va_W).flatten := by rw [eu2]; exact hD
  refine lv_aload_n hx hb dX7_normal_10 rfl (lv_at hl 0 rfl) ?_
  have hPc : va_P (dC, dI) vwCl ([wM cI cJ aM jM u2] : List va_W).flatten _ := hP
  have hDc : va_D A ([wM cI cJ aM jM u2] : List va_W).flatten := hD
  have hFc := va_freeF (fc := ([wM cI cJ aM jM u2] : List va_W)) hD hS hA [0] rfl
  obtain ⟨r3o, e4, hm⟩ := oC1_of hm
  refine va_calli (va_runV (As := []) (rest := []) ⟨hx, hb, hml, hown, ht⟩ (c_X7_signsCounted l dC dI cI cJ aM jM H.size u2 r3o e4) (cwV 0 ht (gdV kw_10 kw_8 kw_9 kw_7 kw_6) rfl rfl rfl ⟨rfl, nd_X7_signsCounted⟩ ⟨Nat.le_of_ble_eq_true rfl, Nat.le_of_ble_eq_true rfl⟩) ⟨pcW_blind, va_recv hK hPc (ci := 8) (q0 := 0) rfl rfl, pcW_pre hPc hK hDc hN⟩ rfl rfl hl.1 rfl (lv_room (Nat.le_of_ble_eq_true rfl)) dX7_normal_11 ⟨Nat.zero_le _, Nat.zero_le _⟩) hS (fun q _ z => hFc q z) hFc (fun r3 uu t H1 locs ht1 hvm hw hB hz1 hk1 hS => ?_)
  obtain ⟨⟩ := uu
  obtain ⟨hP1, hD1⟩ := hB
  rw [ht1] at hP1
  obtain rfl : r3 = r3o := Option.some.inj hw
  have hP : va_P (dC, dI) vwCl ([wM cI cJ aM jM u2] : List va_W).flatten H1 := hP1
  have hD : va_D A ([wM cI cJ aM jM u2] : List va_W).flatten := hD1.weaken (fun _ q _ z => hFc q.1 z)
  generalize H1 = H at hP hS ⊢
  refine lv_istore_n (lv' := [(1, .int r3), (0, .ref aM)]) hx hb dX7_normal_14 rfl hl (by decide) rfl (fun ls hl => ?_)
  refine lv_iload_n hx hb dX7_normal_15 rfl (lv_at hl 0 rfl) ?_
  refine lv_if_ne (tgt := 22) hx hb dX7_normal_16 (by decide) (fun c5 => ?_) (fun c5 => ?_)
  · have hm := ite_f c5 hm
    refine lv_iconst (v := (0 : Int32)) hx hb dX7_normal_22 (by decide) ?_
    refine lv_istore_n (lv' := [(2, .int (0 : Int32)), (1, .int r3), (0, .ref aM)]) hx hb dX7_normal_23 rfl hl (by decide) rfl (fun ls hl => ?_)
    obtain ⟨K56_10, eK56_10, hm⟩ := bnd_ex hm
    have X56_10 : ∀ (x8 : Int32) (u9 : OS) (H : Heap) (locs : List Loc) (ls : Array Slot), K56_10 x8 u9 = some o → va_P (dC, dI) vwCl ([wM cI cJ aM jM u9] : List va_W).flatten H → va_D A ([wM cI cJ aM jM u9] : List va_W).flatten → va_S A s.heap H locs → lv_has ls 9 [(0, .ref aM), (1, .int r3), (2, .int x8)] → W p l e ({ frames := 1, cells := 0, slots := 0, locals := 27 } : Room) s m ([.ref aM] : List Value).toArray below meth c H locs 0 0 Q (F0 m 56 ls []) := by
      intro x8 u9 H locs ls hm hP hD hS hl
      have hm := ap2 eK56_10 hm
      refine lv_iconst (v := (1 : Int32)) hx hb dX7_normal_56 (by decide) ?_
      refine lv_aload_n hx hb dX7_normal_57 rfl (lv_at hl 0 rfl) ?_
      refine va_get (D := (dC, dI)) (ci := 8) (v := .int (u9.1 0)) (C := RX7) (T := TX7) (N := 34) hx hb ht inX7 hown hK hP 0 rfl rfl 0 (by decide) (ht _ kw_14) (fun _ h9 => h9) rfl dX7_normal_58 ?_
      refine lv_ishl hx hb dX7_normal_61 ?_
      refine lv_iload_n hx hb dX7_normal_62 rfl (lv_at hl 1 rfl) ?_
      refine lv_isub hx hb dX7_normal_63 ?_
      refine lv_topi (fun x11 ex11 => ?_)
      have hm := bnd_nm ex11 hm
      refine lv_istore_n (lv' := [(2, .int x11), (0, .ref aM), (1, .int r3)]) hx hb dX7_normal_64 rfl hl (by decide) rfl (fun ls hl => ?_)
      obtain ⟨K172_16, eK172_16, hm⟩ := bnd_ex hm
      have X172_16 : ∀ (x14 : Int32) (u15 : OS) (H : Heap) (locs : List Loc) (ls : Array Slot), K172_16 x14 u15 = some o → va_P (dC, dI) vwCl ([wM cI cJ aM jM u15] : List va_W).flatten H → va_D A ([wM cI cJ aM jM u15] : List va_W).flatten → va_S A s.heap H locs → lv_has ls 9 [(0, .ref aM), (1, .int r3), (2, .int x14)] → W p l e ({ frames := 1, cells := 0, slots := 0, locals := 27 } : Room) s m ([.ref aM] : List Value).toArray below meth c H locs 0 0 Q (F0 m 172 ls []) := by
        intro x14 u15 H locs ls hm hP hD hS hl
        have hm := ap2 eK172_16 hm
        refine lv_aload_n hx hb dX7_normal_172 rfl (lv_at hl 0 rfl) ?_
        refine lv_iconst (v := (1 : Int32)) hx hb dX7_normal_173 (by decide) ?_
        refine va_put (D := (dC, dI)) (ci := 8) (v := .int (1 : Int32)) (ty := .boolean) (C := RX7) (T := TX7) (N := 34) hx hb ht inX7 tyX7 tyX7_ok nmX7 hown hK hP hD hS 0 rfl rfl 7 (by decide) (ht _ kw_5) (fun _ h9 => h9) rfl (by decide +kernel) rfl rfl (Nat.le_of_ble_eq_true rfl) dX7_normal_174 (fun H locs hP hD hS => ?_)
        obtain ⟨u17, eu17, hm⟩ := bnd_ex hm
        have hP : va_P (dC, dI) vwCl ([wM cI cJ aM jM u17] : List va_W).flatten H := by rw [eu17]; exact hP
        have hD : va_D A ([wM cI cJ aM jM u17] : List va_W).flatten := by rw [eu17]; exact hD
        refine lv_aload_n hx hb dX7_normal_177 rfl (lv_at hl 0 rfl) ?_
        refine lv_iconst (v := (0 : Int32)) hx hb dX7_normal_178 (by decide) ?_
        have hPc : va_P (dC, dI) vwCl ([wM cI cJ aM jM u17] : List va_W).flatten _ := hP
        have hDc : va_D A ([wM cI cJ aM jM u17] : List va_W).flatten := hD
        have hFc := va_freeF (fc := ([wM cI cJ aM jM u17] : List va_W)) hD hS hA [0] rfl
        obtain ⟨u18o, e19, hm⟩ := oC1_of hm
        refine va_callv (va_runV (As := [.int (0 : Int32)]) (rest := []) ⟨hx, hb, hml, hown, ht⟩ (c_X7_lay l dC dI cI cJ aM jM H.size u17 (0 : Int32) u18o e19) (cwV 1 ht (gdV kw_27 kw_25 kw_26 kw_7 kw_24) rfl rfl rfl ⟨rfl, nd_X7_lay⟩ ⟨Nat.le_of_ble_eq_true rfl, Nat.le_of_ble_eq_true rfl⟩) ⟨pcW_blind, va_recv hK hPc (ci := 8) (q0 := 0) rfl rfl, pcW_pre hPc hK hDc hN⟩ rfl rfl hl.1 rfl (lv_room (Nat.le_of_ble_eq_true rfl)) dX7_normal_179 ⟨Nat.zero_le _, Nat.zero_le _⟩) hS (fun q _ z => hFc q z) hFc (fun uu t H1 locs ht1 hvm hw hB hz1 hk1 hS => ?_)
        obtain ⟨u18, rfl⟩ : ∃ z, z = uu := ⟨_, rfl⟩
        obtain ⟨hP1, hD1⟩ := hB
        rw [ht1] at hP1
        obtain rfl : u18 = u18o := Option.some.inj hw
        have hP : va_P (dC, dI) vwCl ([wM cI cJ aM jM u18] : List va_W).flatten H1 := hP1
        have hD : va_D A ([wM cI cJ aM jM u18] : List va_W).flatten := hD1.weaken (fun _ q _ z => hFc q.1 z)
        generalize H1 = H at hP hS ⊢
        refine lv_iload_n hx hb dX7_normal_182 rfl (lv_at hl 1 rfl) ?_
        rw [← hQ]
        exact W.iret (v := r3) hx hb hr (fun t ht1 hW => ⟨⟨_, u18, rfl, hm, by rw [ht1]; exact hP, hD⟩, hS.F ht1⟩) hS.2.2 dX7_normal_183
      have LP65 : ∀ (n65 : Nat) (x12 : Int32) (u13 : OS) (H : Heap) (locs : List Loc) (ls : Array Slot), f_X7_normal_L65 n65 K172_16 x12 u13 = some o → va_P (dC, dI) vwCl ([wM cI cJ aM jM u13] : List va_W).flatten H → va_D A ([wM cI cJ aM jM u13] : List va_W).flatten → va_S A s.heap H locs → lv_has ls 9 [(0, .ref aM), (1, .int r3), (2, .int x12)] → W p l e ({ frames := 1, cells := 0, slots := 0, locals := 27 } : Room) s m ([.ref aM] : List Value).toArray below meth c H locs 0 0 Q (F0 m 65 ls []) := by
        intro n65
        induction n65 with
        | zero => intro x12 u13 H locs ls hm; exact nomatch (show (none : Option _) = some _ from hm)
        | succ n65 ih65 =>
          intro x12 u13 H locs ls hm hP hD hS hl
          unfold f_X7_normal_L65 at hm
          refine lv_iload_n hx hb dX7_normal_65 rfl (lv_at hl 2 rfl) ?_
          refine lv_if_le (tgt := 172) hx hb dX7_normal_66 (by decide) (fun c20 => ?_) (fun c20 => ?_)
          · have hm := ite_t c20 hm
            exact X172_16 x12 u13 _ _ _ hm hP hD hS (lv_sub hl [0, 1, 2] rfl)
          · have hm := ite_f c20 hm
            refine lv_bipush (v := (-2 : Int32)) hx hb dX7_normal_69 (by decide) ?_
            refine lv_istore_n (lv' := [(3, .int (-2 : Int32)), (0, .ref aM), (1, .int r3), (2, .int x12)]) hx hb dX7_normal_71 rfl hl (by decide) rfl (fun ls hl => ?_)
            refine lv_lconst (v := (0 : Int64)) hx hb dX7_normal_72 (by decide) ?_
            refine lv_lstore (lv' := [(4, .long (0 : Int64)), (3, .int (-2 : Int32)), (0, .ref aM), (1, .int r3), (2, .int x12)]) hx hb dX7_normal_73 hl (by decide) rfl (fun ls hl => ?_)
            refine lv_iconst (v := (0 : Int32)) hx hb dX7_normal_75 (by decide) ?_
            refine lv_istore (lv' := [(6, .int (0 : Int32)), (4, .long (0 : Int64)), (3, .int (-2 : Int32)), (0, .ref aM), (1, .int r3), (2, .int x12)]) hx hb dX7_normal_76 hl (by decide) rfl (fun ls hl => ?_)
            obtain ⟨K156_27, eK156_27, hm⟩ := bnd_ex hm
            have X156_27 : ∀ (x24 : Int32) (y25 : Int64) (x26 : Int32) (H : Heap) (locs : List Loc) (ls : Array Slot), K156_27 x24 y25 x26 = some o → va_P (dC, dI) vwCl ([wM cI cJ aM jM u13] : List va_W).flatten H → va_D A ([wM cI cJ aM jM u13] : List va_W).flatten → va_S A s.heap H locs → lv_has ls 9 [(0, .ref aM), (1, .int r3), (2, .int x12), (3, .int x24), (4, .long y25), (6, .int x26)] → W p l e ({ frames := 1, cells := 0, slots := 0, locals := 27 } : Room) s m ([.ref aM] : List Value).toArray below meth c H locs 0 0 Q (F0 m 156 ls []) := by
              intro x24 y25 x26 H locs ls hm hP hD hS hl
              have hm := ap3 eK156_27 hm
              refine lv_aload_n hx hb dX7_normal_156 rfl (lv_at hl 0 rfl) ?_
              refine va_get (D := (dC, dI)) (ci := 8) (v := .ref (jM 8)) (C := RX7) (T := TX7) (N := 34) hx hb ht inX7 hown hK hP 0 rfl rfl 8 (by decide) (ht _ kw_18) (fun _ h9 => h9) rfl dX7_normal_157 ?_
              refine lv_iload_n hx hb dX7_normal_160 rfl (lv_at hl 3 rfl) ?_
              refine lv_dup2_11 hx hb dX7_normal_161 rfl rfl ?_
              obtain ⟨g28, hm⟩ := gdi_of hm
              refine va_iald hx hb hK hP 3 0 rfl rfl g28 dX7_normal_162 ?_
              refine lv_iconst (v := (1 : Int32)) hx hb dX7_normal_163 (by decide) ?_
              refine lv_iadd hx hb dX7_normal_164 ?_
              obtain ⟨g29, hm⟩ := gdi_of hm
              refine va_iast hx hb hK hP hD hS 3 0 rfl rfl g29 dX7_normal_165 (fun H locs hP hD hS => ?_)
              obtain ⟨u30, eu30, hm⟩ := bnd_ex hm
              have hP : va_P (dC, dI) vwCl ([wM cI cJ aM jM u30] : List va_W).flatten H := by rw [eu30]; exact hP
              have hD : va_D A ([wM cI cJ aM jM u30] : List va_W).flatten := by rw [eu30]; exact hD
              obtain ⟨x31, ex31, hm⟩ := bnd_ex hm
              refine lv_iinc (v := x31) (lv' := [(2, .int x31), (0, .ref aM), (1, .int r3), (3, .int x24), (4, .long y25), (6, .int x26)]) hx hb dX7_normal_166 hl (k := 2) rfl (by rw [ex31]; exact congrArg _ (by decide)) (by decide) rfl (fun ls hl => ?_)
              refine lv_goto (tgt := 65) hx hb dX7_normal_169 (by decide) ?_
              exact ih65 x31 u30 _ _ _ hm hP hD hS (lv_sub hl [1, 2, 0] rfl)
            have LP78 : ∀ (n78 : Nat) (x21 : Int32) (y22 : Int64) (x23 : Int32) (H : Heap) (locs : List Loc) (ls : Array Slot), f_X7_normal_L78 u13 n78 K156_27 x21 y22 x23 = some o → va_P (dC, dI) vwCl ([wM cI cJ aM jM u13] : List va_W).flatten H → va_D A ([wM cI cJ aM jM u13] : List va_W).flatten → va_S A s.heap H locs → lv_has ls 9 [(0, .ref aM), (1, .int r3), (2, .int x12), (3, .int x23), (4, .long y22), (6, .int x21)] → W p l e ({ frames := 1, cells := 0, slots := 0, locals := 27 } : Room) s m ([.ref aM] : List Value).toArray below meth c H locs 0 0 Q (F0 m 78 ls []) := by
              intro n78
              induction n78 with
              | zero => intro x21 y22 x23 H locs ls hm; exact nomatch (show (none : Option _) = some _ from hm)
              | succ n78 ih78 =>
                intro x21 y22 x23 H locs ls hm hP hD hS hl
                unfold f_X7_normal_L78 at hm
                refine lv_iload hx hb dX7_normal_78 (lv_at hl 5 rfl) ?_
                refine lv_bipush (v := (32 : Int32)) hx hb dX7_normal_80 (by decide) ?_
                refine lv_icmp_ge (tgt := 156) hx hb dX7_normal_82 (by decide) (fun c32 => ?_) (fun c32 => ?_)
                · have hm := ite_t c32 hm
                  exact X156_27 x23 y22 x21 _ _ _ hm hP hD hS (lv_sub hl [0, 1, 2, 3, 4, 5] rfl)
                · have hm := ite_f c32 hm
                  refine lv_aload_n hx hb dX7_normal_85 rfl (lv_at hl 0 rfl) ?_
                  refine va_get (D := (dC, dI)) (ci := 8) (v := .ref (jM 8)) (C := RX7) (T := TX7) (N := 34) hx hb ht inX7 hown hK hP 0 rfl rfl 8 (by decide) (ht _ kw_18) (fun _ h9 => h9) rfl dX7_normal_86 ?_
                  refine lv_iload hx hb dX7_normal_89 (lv_at hl 5 rfl) ?_
                  obtain ⟨g33, hm⟩ := gdi_of hm
                  refine va_iald hx hb hK hP 3 0 rfl rfl g33 dX7_normal_91 ?_
                  refine lv_if_le (tgt := 150) hx hb dX7_normal_92 (by decide) (fun c34 => ?_) (fun c34 => ?_)
                  · have hm := ite_t c34 hm
                    obtain ⟨x35, ex35, hm⟩ := bnd_ex hm
                    refine lv_iinc (v := x35) (lv' := [(6, .int x35), (0, .ref aM), (1, .int r3), (2, .int x12), (3, .int x23), (4, .long y22)]) hx hb dX7_normal_150 hl (k := 5) rfl (by rw [ex35]; exact congrArg _ (by decide)) (by decide) rfl (fun ls hl => ?_)
                    refine lv_goto (tgt := 78) hx hb dX7_normal_153 (by decide) ?_
                    exact ih78 x35 y22 x23 _ _ _ hm hP hD hS (lv_sub hl [1, 2, 3, 4, 5, 0] rfl)
                  · have hm := ite_f c34 hm
                    refine lv_aload_n hx hb dX7_normal_95 rfl (lv_at hl 0 rfl) ?_
                    refine va_get (D := (dC, dI)) (ci := 8) (v := .ref (jM 6)) (C := RX7) (T := TX7) (N := 34) hx hb ht inX7 hown hK hP 0 rfl rfl 6 (by decide) (ht _ kw_4) (fun _ h9 => h9) rfl dX7_normal_96 ?_
                    refine lv_iload hx hb dX7_normal_99 (lv_at hl 5 rfl) ?_
                    obtain ⟨g36, hm⟩ := gdi_of hm
                    refine va_iald hx hb hK hP 2 0 rfl rfl g36 dX7_normal_101 ?_
                    refine lv_i2l hx hb dX7_normal_102 rfl ?_
                    refine lv_aload_n hx hb dX7_normal_103 rfl (lv_at hl 0 rfl) ?_
                    refine va_get (D := (dC, dI)) (ci := 8) (v := .ref (jM 8)) (C := RX7) (T := TX7) (N := 34) hx hb ht inX7 hown hK hP 0 rfl rfl 8 (by decide) (ht _ kw_18) (fun _ h9 => h9) rfl dX7_normal_104 ?_
                    refine lv_iload hx hb dX7_normal_107 (lv_at hl 5 rfl) ?_
                    obtain ⟨g37, hm⟩ := gdi_of hm
                    refine va_iald hx hb hK hP 3 0 rfl rfl g37 dX7_normal_109 ?_
                    refine lv_iconst (v := (1 : Int32)) hx hb dX7_normal_110 (by decide) ?_
                    refine lv_iadd hx hb dX7_normal_111 ?_
                    have hPc : va_P (dC, dI) vwCl ([] : List va_W).flatten _ := hP.subF [] rfl
                    have hDc : va_D A ([] : List va_W).flatten := hD.subF [] (by decide) rfl
                    have hFc := va_freeF (fc := ([] : List va_W)) hD hS hA [] rfl
                    obtain ⟨r38o, e39, hm⟩ := oC1_of hm
                    refine va_calll (va_runS (As := [.int ((u13.2.1 8 (x21).toNatClampNeg) + (1 : Int32))]) (rest := [.long ((u13.2.1 6 (x21).toNatClampNeg)).toInt64]) ⟨hx, hb, hml, hown, ht⟩ (c_X7_logarithm l dC dI cI cJ H.size ((u13.2.1 8 (x21).toNatClampNeg) + (1 : Int32)) r38o e39) (va_cwS 1 ht (gdS kw_17 kw_16 kw_7 kw_15) rfl rfl rfl nd_X7_logarithm ⟨Nat.le_of_ble_eq_true rfl, Nat.le_of_ble_eq_true rfl⟩) ⟨pcW_blind, pcW_pre hPc hK hDc hN⟩ rfl rfl hl.1 rfl (lv_room (Nat.le_of_ble_eq_true rfl)) dX7_normal_112 ⟨Nat.zero_le _, Nat.zero_le _⟩) hS (fun q _ z => hFc q z) hFc (fun r38 uu t H1 locs ht1 hvm hw hB hz1 hk1 hS => ?_)
                    obtain ⟨⟩ := uu
                    obtain ⟨hP1, hD1⟩ := hB
                    rw [ht1] at hP1
                    obtain rfl : r38 = r38o := Option.some.inj hw
                    obtain ⟨hP, hD⟩ := va_joinF (fr := ([wM cI cJ aM jM u13] : List va_W)) (f1 := ([] : List va_W)) hP hD [] [0] rfl rfl (by decide) (by decide) hk1 hFc hP1 hD1
                    have hP : va_P (dC, dI) vwCl ([wM cI cJ aM jM u13] : List va_W).flatten H1 := hP
                    have hD : va_D A ([wM cI cJ aM jM u13] : List va_W).flatten := hD
                    generalize H1 = H at hP hS ⊢
                    refine lv_aload_n hx hb dX7_normal_115 rfl (lv_at hl 0 rfl) ?_
                    refine va_get (D := (dC, dI)) (ci := 8) (v := .ref (jM 8)) (C := RX7) (T := TX7) (N := 34) hx hb ht inX7 hown hK hP 0 rfl rfl 8 (by decide) (ht _ kw_18) (fun _ h9 => h9) rfl dX7_normal_116 ?_
                    refine lv_iload hx hb dX7_normal_119 (lv_at hl 5 rfl) ?_
                    obtain ⟨g40, hm⟩ := gdi_of hm
                    refine va_iald hx hb hK hP 3 0 rfl rfl g40 dX7_normal_121 ?_
                    have hPc : va_P (dC, dI) vwCl ([] : List va_W).flatten _ := hP.subF [] rfl
                    have hDc : va_D A ([] : List va_W).flatten := hD.subF [] (by decide) rfl
                    have hFc := va_freeF (fc := ([] : List va_W)) hD hS hA [] rfl
                    obtain ⟨r41o, e42, hm⟩ := oC1_of hm
                    refine va_calll (va_runS (As := [.int (u13.2.1 8 (x21).toNatClampNeg)]) (rest := [.long r38, .long ((u13.2.1 6 (x21).toNatClampNeg)).toInt64]) ⟨hx, hb, hml, hown, ht⟩ (c_X7_logarithm l dC dI cI cJ H.size (u13.2.1 8 (x21).toNatClampNeg) r41o e42) (va_cwS 1 ht (gdS kw_17 kw_16 kw_7 kw_15) rfl rfl rfl nd_X7_logarithm ⟨Nat.le_of_ble_eq_true rfl, Nat.le_of_ble_eq_true rfl⟩) ⟨pcW_blind, pcW_pre hPc hK hDc hN⟩ rfl rfl hl.1 rfl (lv_room (Nat.le_of_ble_eq_true rfl)) dX7_normal_122 ⟨Nat.zero_le _, Nat.zero_le _⟩) hS (fun q _ z => hFc q z) hFc (fun r41 uu t H1 locs ht1 hvm hw hB hz1 hk1 hS => ?_)
                    obtain ⟨⟩ := uu
                    obtain ⟨hP1, hD1⟩ := hB
                    rw [ht1] at hP1
                    obtain rfl : r41 = r41o := Option.some.inj hw
                    obtain ⟨hP, hD⟩ := va_joinF (fr := ([wM cI cJ aM jM u13] : List va_W)) (f1 := ([] : List va_W)) hP hD [] [0] rfl rfl (by decide) (by decide) hk1 hFc hP1 hD1
                    have hP : va_P (dC, dI) vwCl ([wM cI cJ aM jM u13] : List va_W).flatten H1 := hP
                    have hD : va_D A ([wM cI cJ aM jM u13] : List va_W).flatten := hD
                    generalize H1 = H at hP hS ⊢
                    refine lv_lsub hx hb dX7_normal_125 ?_
                    refine lv_lmul hx hb dX7_normal_126 ?_
                    refine lv_topl (fun y43 ey43 => ?_)
                    have hm := bnd_nm ey43 hm
                    refine lv_lstore (lv' := [(7, .long y43), (0, .ref aM), (1, .int r3), (2, .int x12), (3, .int x23), (4, .long y22), (6, .int x21)]) hx hb dX7_normal_127 hl (by decide) rfl (fun ls hl => ?_)
                    refine lv_iload_n hx hb dX7_normal_129 rfl (lv_at hl 4 rfl) ?_
                    refine lv_bipush (v := (-2 : Int32)) hx hb dX7_normal_130 (by decide) ?_
                    refine lv_icmp_eq (tgt := 143) hx hb dX7_normal_132 (by decide) (fun c44 => ?_) (fun c44 => ?_)
                    · have hm := ite_t c44 hm
                      refine lv_iload hx hb dX7_normal_143 (lv_at hl 6 rfl) ?_
                      refine lv_istore_n (lv' := [(3, .int x21), (7, .long y43), (0, .ref aM), (1, .int r3), (2, .int x12), (4, .long y22), (6, .int x21)]) hx hb dX7_normal_145 rfl hl (by decide) rfl (fun ls hl => ?_)
                      refine lv_lload hx hb dX7_normal_146 (lv_at hl 1 rfl) ?_
                      refine lv_lstore (lv' := [(4, .long y43), (3, .int x21), (7, .long y43), (0, .ref aM), (1, .int r3), (2, .int x12), (6, .int x21)]) hx hb dX7_normal_148 hl (by decide) rfl (fun ls hl => ?_)
                      obtain ⟨x45, ex45, hm⟩ := bnd_ex hm
                      refine lv_iinc (v := x45) (lv' := [(6, .int x45), (4, .long y43), (3, .int x21), (7, .long y43), (0, .ref aM), (1, .int r3), (2, .int x12)]) hx hb dX7_normal_150 hl (k := 6) rfl (by rw [ex45]; exact congrArg _ (by decide)) (by decide) rfl (fun ls hl => ?_)
                      refine lv_goto (tgt := 78) hx hb dX7_normal_153 (by decide) ?_
                      exact ih78 x45 y43 x21 _ _ _ hm hP hD hS (lv_sub hl [4, 5, 6, 2, 1, 0] rfl)
                    · have hm := ite_f c44 hm
                      refine lv_lload hx hb dX7_normal_135 (lv_at hl 0 rfl) ?_
                      refine lv_lload hx hb dX7_normal_137 (lv_at hl 5 rfl) ?_
                      refine W.lcmp hx hb dX7_normal_139 ?_
                      refine lv_if_le (tgt := 150) hx hb dX7_normal_140 (by decide) (fun c46 => ?_) (fun c46 => ?_)
                      · have c46 := lgc_le.mp c46
                        have hm := ite_t c46 hm
                        obtain ⟨x47, ex47, hm⟩ := bnd_ex hm
                        refine lv_iinc (v := x47) (lv' := [(6, .int x47), (7, .long y43), (0, .ref aM), (1, .int r3), (2, .int x12), (3, .int x23), (4, .long y22)]) hx hb dX7_normal_150 hl (k := 6) rfl (by rw [ex47]; exact congrArg _ (by decide)) (by decide) rfl (fun ls hl => ?_)
                        refine lv_goto (tgt := 78) hx hb dX7_normal_153 (by decide) ?_
                        exact ih78 x47 y22 x23 _ _ _ hm hP hD hS (lv_sub hl [2, 3, 4, 5, 6, 0] rfl)
                      · have c46 := mt lgc_le.mpr c46
                        have hm := ite_f c46 hm
                        refine lv_iload hx hb dX7_normal_143 (lv_at hl 6 rfl) ?_
                        refine lv_istore_n (lv' := [(3, .int x21), (7, .long y43), (0, .ref aM), (1, .int r3), (2, .int x12), (4, .long y22), (6, .int x21)]) hx hb dX7_normal_145 rfl hl (by decide) rfl (fun ls hl => ?_)
                        refine lv_lload hx hb dX7_normal_146 (lv_at hl 1 rfl) ?_
                        refine lv_lstore (lv' := [(4, .long y43), (3, .int x21), (7, .long y43), (0, .ref aM), (1, .int r3), (2, .int x12), (6, .int x21)]) hx hb dX7_normal_148 hl (by decide) rfl (fun ls hl => ?_)
                        obtain ⟨x48, ex48, hm⟩ := bnd_ex hm
                        refine lv_iinc (v := x48) (lv' := [(6, .int x48), (4, .long y43), (3, .int x21), (7, .long y43), (0, .ref aM), (1, .int r3), (2, .int x12)]) hx hb dX7_normal_150 hl (k := 6) rfl (by rw [ex48]; exact congrArg _ (by decide)) (by decide) rfl (fun ls hl => ?_)
                        refine lv_goto (tgt := 78) hx hb dX7_normal_153 (by decide) ?_
                        exact ih78 x48 y43 x21 _ _ _ hm hP hD hS (lv_sub hl [4, 5, 6, 2, 1, 0] rfl)
            exact LP78 FU (0 : Int32) (0 : Int64) (-2 : Int32) _ _ _ hm hP hD hS (lv_sub hl [3, 4, 5, 2, 1, 0] rfl)
      exact LP65 FU x11 u9 _ _ _ hm hP hD hS (lv_sub hl [1, 2, 0] rfl)
    have LP24 : ∀ (n24 : Nat) (x6 : Int32) (u7 : OS) (H : Heap) (locs : List Loc) (ls : Array Slot), f_X7_normal_L24 n24 K56_10 x6 u7 = some o → va_P (dC, dI) vwCl ([wM cI cJ aM jM u7] : List va_W).flatten H → va_D A ([wM cI cJ aM jM u7] : List va_W).flatten → va_S A s.heap H locs → lv_has ls 9 [(0, .ref aM), (1, .int r3), (2, .int x6)] → W p l e ({ frames := 1, cells := 0, slots := 0, locals := 27 } : Room) s m ([.ref aM] : List Value).toArray below meth c H locs 0 0 Q (F0 m 24 ls []) := by
      intro n24
      induction n24 with
      | zero => intro x6 u7 H locs ls hm; exact nomatch (show (none : Option _) = some _ from hm)
      | succ n24 ih24 =>
        intro x6 u7 H locs ls hm hP hD hS hl
        unfold f_X7_normal_L24 at hm
        refine lv_iload_n hx hb dX7_normal_24 rfl (lv_at hl 2 rfl) ?_
        refine lv_bipush (v := (32 : Int32)) hx hb dX7_normal_25 (by decide) ?_
        refine lv_icmp_ge (tgt := 56) hx hb dX7_normal_27 (by decide) (fun c49 => ?_) (fun c49 => ?_)
        · have hm := ite_t c49 hm
          exact X56_10 x6 u7 _ _ _ hm hP hD hS (lv_sub hl [0, 1, 2] rfl)
        · have hm := ite_f c49 hm
          refine lv_aload_n hx hb dX7_normal_30 rfl (lv_at hl 0 rfl) ?_
          refine va_get (D := (dC, dI)) (ci := 8) (v := .ref (jM 8)) (C := RX7) (T := TX7) (N := 34) hx hb ht inX7 hown hK hP 0 rfl rfl 8 (by decide) (ht _ kw_18) (fun _ h9 => h9) rfl dX7_normal_31 ?_
          refine lv_iload_n hx hb dX7_normal_34 rfl (lv_at hl 2 rfl) ?_
          refine lv_aload_n hx hb dX7_normal_35 rfl (lv_at hl 0 rfl) ?_
          refine va_get (D := (dC, dI)) (ci := 8) (v := .ref (jM 6)) (C := RX7) (T := TX7) (N := 34) hx hb ht inX7 hown hK hP 0 rfl rfl 6 (by decide) (ht _ kw_4) (fun _ h9 => h9) rfl dX7_normal_36 ?_
          refine lv_iload_n hx hb dX7_normal_39 rfl (lv_at hl 2 rfl) ?_
          obtain ⟨g50, hm⟩ := gdi_of hm
          refine va_iald hx hb hK hP 2 0 rfl rfl g50 dX7_normal_40 ?_
          refine lv_if_le (tgt := 48) hx hb dX7_normal_41 (by decide) (fun c51 => ?_) (fun c51 => ?_)
          · have hm := ite_t c51 hm
            refine lv_iconst (v := (0 : Int32)) hx hb dX7_normal_48 (by decide) ?_
            obtain ⟨g52, hm⟩ := gdi_of hm
            refine va_iast hx hb hK hP hD hS 3 0 rfl rfl g52 dX7_normal_49 (fun H locs hP hD hS => ?_)
            obtain ⟨u53, eu53, hm⟩ := bnd_ex hm
            have hP : va_P (dC, dI) vwCl ([wM cI cJ aM jM u53] : List va_W).flatten H := by rw [eu53]; exact hP
            have hD : va_D A ([wM cI cJ aM jM u53] : List va_W).flatten := by rw [eu53]; exact hD
            obtain ⟨x54, ex54, hm⟩ := bnd_ex hm
            refine lv_iinc (v := x54) (lv' := [(2, .int x54), (0, .ref aM), (1, .int r3)]) hx hb dX7_normal_50 hl (k := 2) rfl (by rw [ex54]; exact congrArg _ (by decide)) (by decide) rfl (fun ls hl => ?_)
            refine lv_goto (tgt := 24) hx hb dX7_normal_53 (by decide) ?_
            exact ih24 x54 u53 _ _ _ hm hP hD hS (lv_sub hl [1, 2, 0] rfl)
          · have hm := ite_f c51 hm
            refine lv_iconst (v := (1 : Int32)) hx hb dX7_normal_44 (by decide) ?_
            refine lv_goto (tgt := 49) hx hb dX7_normal_45 (by decide) ?_
            obtain ⟨g55, hm⟩ := gdi_of hm
            refine va_iast hx hb hK hP hD hS 3 0 rfl rfl g55 dX7_normal_49 (fun H locs hP hD hS => ?_)
            obtain ⟨u56, eu56, hm⟩ := bnd_ex hm
            have hP : va_P (dC, dI) vwCl ([wM cI cJ aM jM u56] : List va_W).flatten H := by rw [eu56]; exact hP
            have hD : va_D A ([wM cI cJ aM jM u56] : List va_W).flatten := by rw [eu56]; exact hD
            obtain ⟨x57, ex57, hm⟩ := bnd_ex hm
            refine lv_iinc (v := x57) (lv' := [(2, .int x57), (0, .ref aM), (1, .int r3)]) hx hb dX7_normal_50 hl (k := 2) rfl (by rw [ex57]; exact congrArg _ (by decide)) (by decide) rfl (fun ls hl => ?_)
            refine lv_goto (tgt := 24) hx hb dX7_normal_53 (by decide) ?_
            exact ih24 x57 u56 _ _ _ hm hP hD hS (lv_sub hl [1, 2, 0] rfl)
    exact LP24 FU (0 : Int32) u2 _ _ _ hm hP hD hS (lv_sub hl [2, 1, 0] rfl)
  · have hm := ite_t c5 hm
    refine lv_bipush (v := (-2 : Int32)) hx hb dX7_normal_19 (by decide) ?_
    rw [← hQ]
    exact W.iret (v := (-2 : Int32)) hx hb hr (fun t ht1 hW => ⟨⟨_, u2, rfl, hm, by rw [ht1]; exact hP, hD⟩, hS.F ht1⟩) hS.2.2 dX7_normal_21

def f_X7_share (uM : OS) (p1 : Int32) : Option (OS × Int32) :=
  bnd (sF uM 1 (0 : Int32)) fun u1 =>
  if p1 < (0 : Int32) then (
  some (u1, (-1 : Int32))) else (
  if p1 < (32 : Int32) then (
  if (u1.1 7) = (0 : Int32) then (
  some (u1, (0 : Int32))) else (
  gdi p1 64 <|
  some (u1, (u1.2.1 8 (p1).toNatClampNeg)))) else (
  some (u1, (-1 : Int32))))

set_option maxHeartbeats 4000000 in
set_option maxRecDepth 100000 in
theorem c_X7_share (l : Launch) (dC : Nat → ClassId) (dI : Nat → Nat → Nat) (cI cJ : ClassId) (aM : Nat) (jM : Nat → Nat) (sz : Nat) (uM : OS) (p1 : Int32) (o : OS × Int32) (hm : f_X7_share uM p1 = some o) : Met l yX7_share (wq yX7_share cX7_share 2 (some .int)) ({ frames := 0, cells := 0, slots := 0, locals := 0 } : Room) (va_Pc [.ref aM, .int p1] (pcW dC dI cI cJ sz ([wM cI cJ aM jM uM] : List va_W).flatten)) (va_Qi (S := OS) (fun r u => some (u, r) = some o) (fun (u : OS) t => va_P (dC, dI) vwCl ([wM cI cJ aM jM u] : List va_W).flatten t.heap ∧ va_D (va_A ([wM cI cJ aM jM uM] : List va_W).flatten sz) ([wM cI cJ aM jM u] : List va_W).flatten) (va_A ([wM cI cJ aM jM uM] : List va_W).flatten sz)) 0 0 (va_A ([wM cI cJ aM jM uM] : List va_W).flatten sz) := by
  refine Met.ofW (cc := cX7_share) (maxL := 2) (ret := (some .int)) (by decide) rfl ?_
  intro p e s m args below meth c s₁ B hml hv
  obtain ⟨rfl, hsz, hP, hK, hD0, hN⟩ := hv
  have hx := B.exec
  have hb := B.bytes
  have hr := B.returns
  have ht : ∀ w ∈ lw_good, w.before _ s = true := fun w h => atoms_spec (ws := wq yX7_share cX7_share 2 (some .int)) B.pre w (wq_mem h)
  have hown : s.vm.findClass RX7 = some m.cls := findClass_of_methodNamed B.named
  have hlocks := B.notSynchronized
  subst hsz
  have hD := hD0.self (sz := s.heap.size)
  generalize hAe : va_A ([wM cI cJ aM jM uM] : List va_W).flatten s.heap.size = A at hD ⊢
  have hA : ∀ q : Nat, s.heap.size ≤ q → A q := fun q h => by rw [← hAe]; exact Or.inr h
  have hS : va_S A s.heap s.heap [] := va_S.rf
  have hl := lv_entry ([.ref aM, .int p1]) (n := 2) (Nat.le_of_ble_eq_true rfl)
  rw [lg_entry_eq]
  generalize (lg_sl ([.ref aM, .int p1]) ++ List.replicate (2 - (lg_sl ([.ref aM, .int p1])).length) Slot.unset).toArray = ls at hl ⊢
  have hl : lv_has ls 2 [(0, .ref aM), (1, .int p1)] := hl
  generalize hQ : MQ below _ _ s _ _ _ = Q
  generalize hH : s.heap = H at hP ⊢
  have hS : va_S A s.heap H [] := by rw [← hH]; exact va_S.rf
  show W p l e ({ frames := 0, cells := 0, slots := 0, locals := 0 } : Room) s m ([.ref aM, .int p1] : List Value).toArray below meth c H [] 0 0 Q (F0 m 0 ls [])
  unfold f_X7_share at hm
  refine lv_aload_n hx hb dX7_share_0 rfl (lv_at hl 0 rfl) ?_
  refine lv_iconst (v := (0 : Int32)) hx hb dX7_share_1 (by decide) ?_
  refine va_put (D := (dC, dI)) (ci := 8) (v := .int (0 : Int32)) (ty := .int) (C := RX7) (T := TX7) (N := 34) hx hb ht inX7 tyX7 tyX7_ok nmX7 hown hK hP hD hS 0 rfl rfl 1 (by decide) (ht _ kw_0) (fun _ h9 => h9) rfl (by decide +kernel) rfl rfl (Nat.le_of_ble_eq_true rfl) dX7_share_2 (fun H locs hP hD hS => ?_)
  obtain ⟨u1, eu1, hm⟩ := bnd_ex hm
  have hP : va_P (dC, dI) vwCl ([wM cI cJ aM jM u1] : List va_W).flatten H := by rw [eu1]; exact hP
  have hD : va_D A ([wM cI cJ aM jM u1] : List va_W).flatten := by rw [eu1]; exact hD
  refine lv_iload_n hx hb dX7_share_5 rfl (lv_at hl 1 rfl) ?_
  refine lv_if_lt (tgt := 15) hx hb dX7_share_6 (by decide) (fun c2 => ?_) (fun c2 => ?_)
  · have hm := ite_t c2 hm
    refine lv_iconst (v := (-1 : Int32)) hx hb dX7_share_15 (by decide) ?_
    refine lv_goto (tgt := 36) hx hb dX7_share_16 (by decide) ?_
    rw [← hQ]
    exact W.iret (v := (-1 : Int32)) hx hb hr (fun t ht1 hW => ⟨⟨_, u1, rfl, hm, by rw [ht1]; exact hP, hD⟩, hS.F ht1⟩) hS.2.2 dX7_share_36
  · have hm := ite_f c2 hm
    refine lv_iload_n hx hb dX7_share_9 rfl (lv_at hl 1 rfl) ?_
    refine lv_bipush (v := (32 : Int32)) hx hb dX7_share_10 (by decide) ?_
    refine lv_icmp_lt (tgt := 19) hx hb dX7_share_12 (by decide) (fun c3 => ?_) (fun c3 => ?_)
    · have hm := ite_t c3 hm
      refine lv_aload_n hx hb dX7_share_19 rfl (lv_at hl 0 rfl) ?_
      refine va_get (D := (dC, dI)) (ci := 8) (v := .int (u1.1 7)) (C := RX7) (T := TX7) (N := 34) hx hb ht inX7 hown hK hP 0 rfl rfl 7 (by decide) (ht _ kw_5) (fun _ h9 => h9) rfl dX7_share_20 ?_
      refine lv_if_eq (tgt := 35) hx hb dX7_share_23 (by decide) (fun c4 => ?_) (fun c4 => ?_)
      · have hm := ite_t c4 hm
        refine lv_iconst (v := (0 : Int32)) hx hb dX7_share_35 (by decide) ?_
        rw [← hQ]
        exact W.iret (v := (0 : Int32)) hx hb hr (fun t ht1 hW => ⟨⟨_, u1, rfl, hm, by rw [ht1]; exact hP, hD⟩, hS.F ht1⟩) hS.2.2 dX7_share_36
      · have hm := ite_f c4 hm
        refine lv_aload_n hx hb dX7_share_26 rfl (lv_at hl 0 rfl) ?_
        refine va_get (D := (dC, dI)) (ci := 8) (v := .ref (jM 8)) (C := RX7) (T := TX7) (N := 34) hx hb ht inX7 hown hK hP 0 rfl rfl 8 (by decide) (ht _ kw_18) (fun _ h9 => h9) rfl dX7_share_27 ?_
        refine lv_iload_n hx hb dX7_share_30 rfl (lv_at hl 1 rfl) ?_
        obtain ⟨g5, hm⟩ := gdi_of hm
        refine va_iald hx hb hK hP 3 0 rfl rfl g5 dX7_share_31 ?_
        refine lv_goto (tgt := 36) hx hb dX7_share_32 (by decide) ?_
        rw [← hQ]
        exact W.iret (v := (u1.2.1 8 (p1).toNatClampNeg)) hx hb hr (fun t ht1 hW => ⟨⟨_, u1, rfl, hm, by rw [ht1]; exact hP, hD⟩, hS.F ht1⟩) hS.2.2 dX7_share_36
    · have hm := ite_f c3 hm
      refine lv_iconst (v := (-1 : Int32)) hx hb dX7_share_15 (by decide) ?_
      refine lv_goto (tgt := 36) hx hb dX7_share_16 (by decide) ?_
      rw [← hQ]
      exact W.iret (v := (-1 : Int32)) hx hb hr (fun t ht1 hW => ⟨⟨_, u1, rfl, hm, by rw [ht1]; exact hP, hD⟩, hS.F ht1⟩) hS.2.2 dX7_share_36

def f_X7_loss_L20 (u1 : OS) : Nat → (Int64 → Int32 → Option (OS × Int64)) → Int32 → Int64 → Option (OS × Int64)
  | 0, _, _, _ => none
  | n20 + 1, K74_7, x3, y4 =>
    if (32 : Int32) ≤ x3 then (
    K74_7 y4 x3) else (
    gdi x3 64 <|
    if (u1.2.1 8 (x3).toNatClampNeg) ≤ (0 : Int32) then (
    bnd (y4 + (0 : Int64)) fun y11 =>
    bnd (x3 + (1 : Int32)) fun x12 =>
    f_X7_loss_L20 u1 n20 K74_7 x12 y11) else (
    gdi x3 32 <|
    gdi x3 64 <|
    oC1 (f_X7_logarithm (u1.2.1 8 (x3).toNatClampNeg)) fun r15 =>
    bnd (y4 + (((u1.2.1 6 (x3).toNatClampNeg)).toInt64 * ((((u1.1 0)).toInt64 <<< (((30 : Int32)).toInt64 &&& (63 : Int64))) - r15))) fun y17 =>
    bnd (x3 + (1 : Int32)) fun x18 =>
    f_X7_loss_L20 u1 n20 K74_7 x18 y17))

def f_X7_loss (uM : OS) : Option (OS × Int64) :=
  bnd (sF uM 1 (0 : Int32)) fun u1 =>
  if (u1.1 7) = (0 : Int32) then (
  some (u1, (-1 : Int64))) else (
  bnd (fun (y5 : Int64) (x6 : Int32) =>
  some (u1, y5)) fun K74_7 =>
  f_X7_loss_L20 u1 FU K74_7 (0 : Int32) (0 : Int64))

set_option maxHeartbeats 4000000 in
set_option maxRecDepth 100000 in
theorem c_X7_loss (l : Launch) (dC : Nat → ClassId) (dI : Nat → Nat → Nat) (cI cJ : ClassId) (aM : Nat) (jM : Nat → Nat) (sz : Nat) (uM : OS) (o : OS × Int64) (hm : f_X7_loss uM = some o) : Met l yX7_loss (wq yX7_loss cX7_loss 4 (some .long)) ({ frames := 1, cells := 0, slots := 0, locals := 27 } : Room) (va_Pc [.ref aM] (pcW dC dI cI cJ sz ([wM cI cJ aM jM uM] : List va_W).flatten)) (va_Ql (S := OS) (fun r u => some (u, r) = some o) (fun (u : OS) t => va_P (dC, dI) vwCl ([wM cI cJ aM jM u] : List va_W).flatten t.heap ∧ va_D (va_A ([wM cI cJ aM jM uM] : List va_W).flatten sz) ([wM cI cJ aM jM u] : List va_W).flatten) (va_A ([wM cI cJ aM jM uM] : List va_W).flatten sz)) 0 0 (va_A ([wM cI cJ aM jM uM] : List va_W).flatten sz) := by
  refine Met.ofW (cc := cX7_loss) (maxL := 4) (ret := (some .long)) (by decide) rfl ?_
  intro p e s m args below meth c s₁ B hml hv
  obtain ⟨rfl, hsz, hP, hK, hD0, hN⟩ := hv
  have hx := B.exec
  have hb := B.bytes
  have hr := B.returns
  have ht : ∀ w ∈ lw_good, w.before _ s = true := fun w h => atoms_spec (ws := wq yX7_loss cX7_loss 4 (some .long)) B.pre w (wq_mem h)
  have hown : s.vm.findClass RX7 = some m.cls := findClass_of_methodNamed B.named
  have hlocks := B.notSynchronized
  subst hsz
  have hD := hD0.self (sz := s.heap.size)
  generalize hAe : va_A ([wM cI cJ aM jM uM] : List va_W).flatten s.heap.size = A at hD ⊢
  have hA : ∀ q : Nat, s.heap.size ≤ q → A q := fun q h => by rw [← hAe]; exact Or.inr h
  have hS : va_S A s.heap s.heap [] := va_S.rf
  have hl := lv_entry ([.ref aM]) (n := 4) (Nat.le_of_ble_eq_true rfl)
  rw [lg_entry_eq]
  generalize (lg_sl ([.ref aM]) ++ List.replicate (4 - (lg_sl ([.ref aM])).length) Slot.unset).toArray = ls at hl ⊢
  have hl : lv_has ls 4 [(0, .ref aM)] := hl
  generalize hQ : MQ below _ _ s _ _ _ = Q
  generalize hH : s.heap = H at hP ⊢
  have hS : va_S A s.heap H [] := by rw [← hH]; exact va_S.rf
  show W p l e ({ frames := 1, cells := 0, slots := 0, locals := 27 } : Room) s m ([.ref aM] : List Value).toArray below meth c H [] 0 0 Q (F0 m 0 ls [])
  unfold f_X7_loss at hm
  refine lv_aload_n hx hb dX7_loss_0 rfl (lv_at hl 0 rfl) ?_
  refine lv_iconst (v := (0 : Int32)) hx hb dX7_loss_1 (by decide) ?_
  refine va_put (D := (dC, dI)) (ci := 8) (v := .int (0 : Int32)) (ty := .int) (C := RX7) (T := TX7) (N := 34) hx hb ht inX7 tyX7 tyX7_ok nmX7 hown hK hP hD hS 0 rfl rfl 1 (by decide) (ht _ kw_0) (fun _ h9 => h9) rfl (by decide +kernel) rfl rfl (Nat.le_of_ble_eq_true rfl) dX7_loss_2 (fun H locs hP hD hS => ?_)
  obtain ⟨u1, eu1, hm⟩ := bnd_ex hm
  have hP : va_P (dC, dI) vwCl ([wM cI cJ aM jM u1] : List va_W).flatten H := by rw [eu1]; exact hP
  have hD : va_D A ([wM cI cJ aM jM u1] : List va_W).flatten := by rw [eu1]; exact hD
  refine lv_aload_n hx hb dX7_loss_5 rfl (lv_at hl 0 rfl) ?_
  refine va_get (D := (dC, dI)) (ci := 8) (v := .int (u1.1 7)) (C := RX7) (T := TX7) (N := 34) hx hb ht inX7 hown hK hP 0 rfl rfl 7 (by decide) (ht _ kw_5) (fun _ h9 => h9) rfl dX7_loss_6 ?_
  refine lv_if_ne (tgt := 16) hx hb dX7_loss_9 (by decide) (fun c2 => ?_) (fun c2 => ?_)
  · have hm := ite_f c2 hm
    refine lv_lconst (v := (0 : Int64)) hx hb dX7_loss_16 (by decide) ?_
    refine lv_lstore_n (lv' := [(1, .long (0 : Int64)), (0, .ref aM)]) hx hb dX7_loss_17 rfl hl (by decide) rfl (fun ls hl => ?_)
    refine lv_iconst (v := (0 : Int32)) hx hb dX7_loss_18 (by decide) ?_
    refine lv_istore_n (lv' := [(3, .int (0 : Int32)), (1, .long (0 : Int64)), (0, .ref aM)]) hx hb dX7_loss_19 rfl hl (by decide) rfl (fun ls hl => ?_)
    obtain ⟨K74_7, eK74_7, hm⟩ := bnd_ex hm
    have X74_7 : ∀ (y5 : Int64) (x6 : Int32) (H : Heap) (locs : List Loc) (ls : Array Slot), K74_7 y5 x6 = some o → va_P (dC, dI) vwCl ([wM cI cJ aM jM u1] : List va_W).flatten H → va_D A ([wM cI cJ aM jM u1] : List va_W).flatten → va_S A s.heap H locs → lv_has ls 4 [(0, .ref aM), (1, .long y5), (3, .int x6)] → W p l e ({ frames := 1, cells := 0, slots := 0, locals := 27 } : Room) s m ([.ref aM] : List Value).toArray below meth c H locs 0 0 Q (F0 m 74 ls []) := by
      intro y5 x6 H locs ls hm hP hD hS hl
      have hm := ap2 eK74_7 hm
      refine lv_lload_n hx hb dX7_loss_74 rfl (lv_at hl 1 rfl) ?_
      rw [← hQ]
      exact W.lret (v := y5) hx hb hr (fun t ht1 hW => ⟨⟨_, u1, rfl, hm, by rw [ht1]; exact hP, hD⟩, hS.F ht1⟩) hS.2.2 dX7_loss_75
    have LP20 : ∀ (n20 : Nat) (x3 : Int32) (y4 : Int64) (H : Heap) (locs : List Loc) (ls : Array Slot), f_X7_loss_L20 u1 n20 K74_7 x3 y4 = some o → va_P (dC, dI) vwCl ([wM cI cJ aM jM u1] : List va_W).flatten H → va_D A ([wM cI cJ aM jM u1] : List va_W).flatten → va_S A s.heap H locs → lv_has ls 4 [(0, .ref aM), (1, .long y4), (3, .int x3)] → W p l e ({ frames := 1, cells := 0, slots := 0, locals := 27 } : Room) s m ([.ref aM] : List Value).toArray below meth c H locs 0 0 Q (F0 m 20 ls []) := by
      intro n20
      induction n20 with
      | zero => intro x3 y4 H locs ls hm; exact nomatch (show (none : Option _) = some _ from hm)
      | succ n20 ih20 =>
        intro x3 y4 H locs ls hm hP hD hS hl
        unfold f_X7_loss_L20 at hm
        refine lv_iload_n hx hb dX7_loss_20 rfl (lv_at hl 2 rfl) ?_
        refine lv_bipush (v := (32 : Int32)) hx hb dX7_loss_21 (by decide) ?_
        refine lv_icmp_ge (tgt := 74) hx hb dX7_loss_23 (by decide) (fun c8 => ?_) (fun c8 => ?_)
        · have hm := ite_t c8 hm
          exact X74_7 y4 x3 _ _ _ hm hP hD hS (lv_sub hl [0, 1, 2] rfl)
        · have hm := ite_f c8 hm
          refine lv_lload_n hx hb dX7_loss_26 rfl (lv_at hl 1 rfl) ?_
          refine lv_aload_n hx hb dX7_loss_27 rfl (lv_at hl 0 rfl) ?_
          refine va_get (D := (dC, dI)) (ci := 8) (v := .ref (jM 8)) (C := RX7) (T := TX7) (N := 34) hx hb ht inX7 hown hK hP 0 rfl rfl 8 (by decide) (ht _ kw_18) (fun _ h9 => h9) rfl dX7_loss_28 ?_
          refine lv_iload_n hx hb dX7_loss_31 rfl (lv_at hl 2 rfl) ?_
          obtain ⟨g9, hm⟩ := gdi_of hm
          refine va_iald hx hb hK hP 3 0 rfl rfl g9 dX7_loss_32 ?_
          refine lv_if_le (tgt := 65) hx hb dX7_loss_33 (by decide) (fun c10 => ?_) (fun c10 => ?_)
          · have hm := ite_t c10 hm
            refine lv_lconst (v := (0 : Int64)) hx hb dX7_loss_65 (by decide) ?_
            refine lv_ladd hx hb dX7_loss_66 ?_
            refine lv_topl (fun y11 ey11 => ?_)
            have hm := bnd_nm ey11 hm
            refine lv_lstore_n (lv' := [(1, .long y11), (0, .ref aM), (3, .int x3)]) hx hb dX7_loss_67 rfl hl (by decide) rfl (fun ls hl => ?_)
            obtain ⟨x12, ex12, hm⟩ := bnd_ex hm
            refine lv_iinc (v := x12) (lv' := [(3, .int x12), (1, .long y11), (0, .ref aM)]) hx hb dX7_loss_68 hl (k := 2) rfl (by rw [ex12]; exact congrArg _ (by decide)) (by decide) rfl (fun ls hl => ?_)
            refine lv_goto (tgt := 20) hx hb dX7_loss_71 (by decide) ?_
            exact ih20 x12 y11 _ _ _ hm hP hD hS (lv_sub hl [2, 1, 0] rfl)
          · have hm := ite_f c10 hm
            refine lv_aload_n hx hb dX7_loss_36 rfl (lv_at hl 0 rfl) ?_
            refine va_get (D := (dC, dI)) (ci := 8) (v := .ref (jM 6)) (C := RX7) (T := TX7) (N := 34) hx hb ht inX7 hown hK hP 0 rfl rfl 6 (by decide) (ht _ kw_4) (fun _ h9 => h9) rfl dX7_loss_37 ?_
            refine lv_iload_n hx hb dX7_loss_40 rfl (lv_at hl 2 rfl) ?_
            obtain ⟨g13, hm⟩ := gdi_of hm
            refine va_iald hx hb hK hP 2 0 rfl rfl g13 dX7_loss_41 ?_
            refine lv_i2l hx hb dX7_loss_42 rfl ?_
            refine lv_aload_n hx hb dX7_loss_43 rfl (lv_at hl 0 rfl) ?_
            refine va_get (D := (dC, dI)) (ci := 8) (v := .int (u1.1 0)) (C := RX7) (T := TX7) (N := 34) hx hb ht inX7 hown hK hP 0 rfl rfl 0 (by decide) (ht _ kw_14) (fun _ h9 => h9) rfl dX7_loss_44 ?_
            refine lv_i2l hx hb dX7_loss_47 rfl ?_
            refine lv_bipush (v := (30 : Int32)) hx hb dX7_loss_48 (by decide) ?_
            refine lv_lshl hx hb dX7_loss_50 rfl ?_
            refine lv_aload_n hx hb dX7_loss_51 rfl (lv_at hl 0 rfl) ?_
            refine va_get (D := (dC, dI)) (ci := 8) (v := .ref (jM 8)) (C := RX7) (T := TX7) (N := 34) hx hb ht inX7 hown hK hP 0 rfl rfl 8 (by decide) (ht _ kw_18) (fun _ h9 => h9) rfl dX7_loss_52 ?_
            refine lv_iload_n hx hb dX7_loss_55 rfl (lv_at hl 2 rfl) ?_
            obtain ⟨g14, hm⟩ := gdi_of hm
            refine va_iald hx hb hK hP 3 0 rfl rfl g14 dX7_loss_56 ?_
            have hPc : va_P (dC, dI) vwCl ([] : List va_W).flatten _ := hP.subF [] rfl
            have hDc : va_D A ([] : List va_W).flatten := hD.subF [] (by decide) rfl
            have hFc := va_freeF (fc := ([] : List va_W)) hD hS hA [] rfl
            obtain ⟨r15o, e16, hm⟩ := oC1_of hm
            refine va_calll (va_runS (As := [.int (u1.2.1 8 (x3).toNatClampNeg)]) (rest := [.long (((u1.1 0)).toInt64 <<< (((30 : Int32)).toInt64 &&& (63 : Int64))), .long ((u1.2.1 6 (x3).toNatClampNeg)).toInt64, .long y4]) ⟨hx, hb, hml, hown, ht⟩ (c_X7_logarithm l dC dI cI cJ H.size (u1.2.1 8 (x3).toNatClampNeg) r15o e16) (va_cwS 1 ht (gdS kw_17 kw_16 kw_7 kw_15) rfl rfl rfl nd_X7_logarithm ⟨Nat.le_of_ble_eq_true rfl, Nat.le_of_ble_eq_true rfl⟩) ⟨pcW_blind, pcW_pre hPc hK hDc hN⟩ rfl rfl hl.1 rfl (lv_room (Nat.le_of_ble_eq_true rfl)) dX7_loss_57 ⟨Nat.zero_le _, Nat.zero_le _⟩) hS (fun q _ z => hFc q z) hFc (fun r15 uu t H1 locs ht1 hvm hw hB hz1 hk1 hS => ?_)
            obtain ⟨⟩ := uu
            obtain ⟨hP1, hD1⟩ := hB
            rw [ht1] at hP1
            obtain rfl : r15 = r15o := Option.some.inj hw
            obtain ⟨hP, hD⟩ := va_joinF (fr := ([wM cI cJ aM jM u1] : List va_W)) (f1 := ([] : List va_W)) hP hD [] [0] rfl rfl (by decide) (by decide) hk1 hFc hP1 hD1
            have hP : va_P (dC, dI) vwCl ([wM cI cJ aM jM u1] : List va_W).flatten H1 := hP
            have hD : va_D A ([wM cI cJ aM jM u1] : List va_W).flatten := hD
            generalize H1 = H at hP hS ⊢
            refine lv_lsub hx hb dX7_loss_60 ?_
            refine lv_lmul hx hb dX7_loss_61 ?_
            refine lv_goto (tgt := 66) hx hb dX7_loss_62 (by decide) ?_
            refine lv_ladd hx hb dX7_loss_66 ?_
            refine lv_topl (fun y17 ey17 => ?_)
            have hm := bnd_nm ey17 hm
            refine lv_lstore_n (lv' := [(1, .long y17), (0, .ref aM), (3, .int x3)]) hx hb dX7_loss_67 rfl hl (by decide) rfl (fun ls hl => ?_)
            obtain ⟨x18, ex18, hm⟩ := bnd_ex hm
            refine lv_iinc (v := x18) (lv' := [(3, .int x18), (1, .long y17), (0, .ref aM)]) hx hb dX7_loss_68 hl (k := 2) rfl (by rw [ex18]; exact congrArg _ (by decide)) (by decide) rfl (fun ls hl => ?_)
            refine lv_goto (tgt := 20) hx hb dX7_loss_71 (by decide) ?_
            exact ih20 x18 y17 _ _ _ hm hP hD hS (lv_sub hl [2, 1, 0] rfl)
    exact LP20 FU (0 : Int32) (0 : Int64) _ _ _ hm hP hD hS (lv_sub hl [2, 1, 0] rfl)
  · have hm := ite_t c2 hm
    refine lv_ldc2 (v := (-1 : Int64)) hx hb hown (ht _ kw_13) dX7_loss_12 ?_
    rw [← hQ]
    exact W.lret (v := (-1 : Int64)) hx hb hr (fun t ht1 hW => ⟨⟨_, u1, rfl, hm, by rw [ht1]; exact hP, hD⟩, hS.F ht1⟩) hS.2.2 dX7_loss_15

def f_X7_spread (uM : OS) (p1 : Int32) : Option (OS × Int32) :=
  bnd (sF uM 1 (0 : Int32)) fun u1 =>
  if (u1.1 7) = (0 : Int32) then (
  some (u1, (-2 : Int32))) else (
  bnd (fun (x3 : Int32) =>
  bnd (sF u1 1 x3) fun u5 =>
  if (u5.1 1) ≤ (0 : Int32) then (
  gdi p1 8192 <|
  some (u5, (u5.2.1 11 (p1).toNatClampNeg))) else (
  some (u5, (0 : Int32)))) fun K35_4 =>
  bnd (K35_4 (1 : Int32)) fun K30_8 =>
  if p1 < (0 : Int32) then (
  K30_8) else (
  if p1 < ((1 : Int32) <<< ((u1.1 0) &&& (31 : Int32))) then (
  K35_4 (0 : Int32)) else (
  K30_8)))

set_option maxHeartbeats 4000000 in
set_option maxRecDepth 100000 in
theorem c_X7_spread (l : Launch) (dC : Nat → ClassId) (dI : Nat → Nat → Nat) (cI cJ : ClassId) (aM : Nat) (jM : Nat → Nat) (sz : Nat) (uM : OS) (p1 : Int32) (o : OS × Int32) (hm : f_X7_spread uM p1 = some o) : Met l yX7_spread (wq yX7_spread cX7_spread 2 (some .int)) ({ frames := 0, cells := 0, slots := 0, locals := 0 } : Room) (va_Pc [.ref aM, .int p1] (pcW dC dI cI cJ sz ([wM cI cJ aM jM uM] : List va_W).flatten)) (va_Qi (S := OS) (fun r u => some (u, r) = some o) (fun (u : OS) t => va_P (dC, dI) vwCl ([wM cI cJ aM jM u] : List va_W).flatten t.heap ∧ va_D (va_A ([wM cI cJ aM jM uM] : List va_W).flatten sz) ([wM cI cJ aM jM u] : List va_W).flatten) (va_A ([wM cI cJ aM jM uM] : List va_W).flatten sz)) 0 0 (va_A ([wM cI cJ aM jM uM] : List va_W).flatten sz) := by
  refine Met.ofW (cc := cX7_spread) (maxL := 2) (ret := (some .int)) (by decide) rfl ?_
  intro p e s m args below meth c s₁ B hml hv
  obtain ⟨rfl, hsz, hP, hK, hD0, hN⟩ := hv
  have hx := B.exec
  have hb := B.bytes
  have hr := B.returns
  have ht : ∀ w ∈ lw_good, w.before _ s = true := fun w h => atoms_spec (ws := wq yX7_spread cX7_spread 2 (some .int)) B.pre w (wq_mem h)
  have hown : s.vm.findClass RX7 = some m.cls := findClass_of_methodNamed B.named
  have hlocks := B.notSynchronized
  subst hsz
  have hD := hD0.self (sz := s.heap.size)
  generalize hAe : va_A ([wM cI cJ aM jM uM] : List va_W).flatten s.heap.size = A at hD ⊢
  have hA : ∀ q : Nat, s.heap.size ≤ q → A q := fun q h => by rw [← hAe]; exact Or.inr h
  have hS : va_S A s.heap s.heap [] := va_S.rf
  have hl := lv_entry ([.ref aM, .int p1]) (n := 2) (Nat.le_of_ble_eq_true rfl)
  rw [lg_entry_eq]
  generalize (lg_sl ([.ref aM, .int p1]) ++ List.replicate (2 - (lg_sl ([.ref aM, .int p1])).length) Slot.unset).toArray = ls at hl ⊢
  have hl : lv_has ls 2 [(0, .ref aM), (1, .int p1)] := hl
  generalize hQ : MQ below _ _ s _ _ _ = Q
  generalize hH : s.heap = H at hP ⊢
  have hS : va_S A s.heap H [] := by rw [← hH]; exact va_S.rf
  show W p l e ({ frames := 0, cells := 0, slots := 0, locals := 0 } : Room) s m ([.ref aM, .int p1] : List Value).toArray below meth c H [] 0 0 Q (F0 m 0 ls [])
  unfold f_X7_spread at hm
  refine lv_aload_n hx hb dX7_spread_0 rfl (lv_at hl 0 rfl) ?_
  refine lv_iconst (v := (0 : Int32)) hx hb dX7_spread_1 (by decide) ?_
  refine va_put (D := (dC, dI)) (ci := 8) (v := .int (0 : Int32)) (ty := .int) (C := RX7) (T := TX7) (N := 34) hx hb ht inX7 tyX7 tyX7_ok nmX7 hown hK hP hD hS 0 rfl rfl 1 (by decide) (ht _ kw_0) (fun _ h9 => h9) rfl (by decide +kernel) rfl rfl (Nat.le_of_ble_eq_true rfl) dX7_spread_2 (fun H locs hP hD hS => ?_)
  obtain ⟨u1, eu1, hm⟩ := bnd_ex hm
  have hP : va_P (dC, dI) vwCl ([wM cI cJ aM jM u1] : List va_W).flatten H := by rw [eu1]; exact hP
  have hD : va_D A ([wM cI cJ aM jM u1] : List va_W).flatten := by rw [eu1]; exact hD
  refine lv_aload_n hx hb dX7_spread_5 rfl (lv_at hl 0 rfl) ?_
  refine va_get (D := (dC, dI)) (ci := 8) (v := .int (u1.1 7)) (C := RX7) (T := TX7) (N := 34) hx hb ht inX7 hown hK hP 0 rfl rfl 7 (by decide) (ht _ kw_5) (fun _ h9 => h9) rfl dX7_spread_6 ?_
  refine lv_if_ne (tgt := 15) hx hb dX7_spread_9 (by decide) (fun c2 => ?_) (fun c2 => ?_)
  · have hm := ite_f c2 hm
    refine lv_aload_n hx hb dX7_spread_15 rfl (lv_at hl 0 rfl) ?_
    refine lv_iload_n hx hb dX7_spread_16 rfl (lv_at hl 1 rfl) ?_
    obtain ⟨K35_4, eK35_4, hm⟩ := bnd_ex hm
    have J35_4 : ∀ (x3 : Int32) (H : Heap) (locs : List Loc) (ls : Array Slot), K35_4 x3 = some o → va_P (dC, dI) vwCl ([wM cI cJ aM jM u1] : List va_W).flatten H → va_D A ([wM cI cJ aM jM u1] : List va_W).flatten → va_S A s.heap H locs → lv_has ls 2 [(0, .ref aM), (1, .int p1)] → W p l e ({ frames := 0, cells := 0, slots := 0, locals := 0 } : Room) s m ([.ref aM, .int p1] : List Value).toArray below meth c H locs 0 0 Q (F0 m 35 ls [.int x3, .ref aM]) := by
      intro x3 H locs ls hm hP hD hS hl
      have hm := ap1 eK35_4 hm
      refine va_put (D := (dC, dI)) (ci := 8) (v := .int x3) (ty := .int) (C := RX7) (T := TX7) (N := 34) hx hb ht inX7 tyX7 tyX7_ok nmX7 hown hK hP hD hS 0 rfl rfl 1 (by decide) (ht _ kw_0) (fun _ h9 => h9) rfl (by decide +kernel) rfl rfl (Nat.le_of_ble_eq_true rfl) dX7_spread_35 (fun H locs hP hD hS => ?_)
      obtain ⟨u5, eu5, hm⟩ := bnd_ex hm
      have hP : va_P (dC, dI) vwCl ([wM cI cJ aM jM u5] : List va_W).flatten H := by rw [eu5]; exact hP
      have hD : va_D A ([wM cI cJ aM jM u5] : List va_W).flatten := by rw [eu5]; exact hD
      refine lv_aload_n hx hb dX7_spread_38 rfl (lv_at hl 0 rfl) ?_
      refine va_get (D := (dC, dI)) (ci := 8) (v := .int (u5.1 1)) (C := RX7) (T := TX7) (N := 34) hx hb ht inX7 hown hK hP 0 rfl rfl 1 (by decide) (ht _ kw_0) (fun _ h9 => h9) rfl dX7_spread_39 ?_
      refine lv_if_le (tgt := 49) hx hb dX7_spread_42 (by decide) (fun c6 => ?_) (fun c6 => ?_)
      · have hm := ite_t c6 hm
        refine lv_aload_n hx hb dX7_spread_49 rfl (lv_at hl 0 rfl) ?_
        refine va_get (D := (dC, dI)) (ci := 8) (v := .ref (jM 11)) (C := RX7) (T := TX7) (N := 34) hx hb ht inX7 hown hK hP 0 rfl rfl 11 (by decide) (ht _ kw_21) (fun _ h9 => h9) rfl dX7_spread_50 ?_
        refine lv_iload_n hx hb dX7_spread_53 rfl (lv_at hl 1 rfl) ?_
        obtain ⟨g7, hm⟩ := gdi_of hm
        refine va_iald hx hb hK hP 6 0 rfl rfl g7 dX7_spread_54 ?_
        rw [← hQ]
        exact W.iret (v := (u5.2.1 11 (p1).toNatClampNeg)) hx hb hr (fun t ht1 hW => ⟨⟨_, u5, rfl, hm, by rw [ht1]; exact hP, hD⟩, hS.F ht1⟩) hS.2.2 dX7_spread_55
      · have hm := ite_f c6 hm
        refine lv_iconst (v := (0 : Int32)) hx hb dX7_spread_45 (by decide) ?_
        refine lv_goto (tgt := 55) hx hb dX7_spread_46 (by decide) ?_
        rw [← hQ]
        exact W.iret (v := (0 : Int32)) hx hb hr (fun t ht1 hW => ⟨⟨_, u5, rfl, hm, by rw [ht1]; exact hP, hD⟩, hS.F ht1⟩) hS.2.2 dX7_spread_55
    obtain ⟨K30_8, eK30_8, hm⟩ := bnd_ex hm
    have J30_8 : ∀ (H : Heap) (locs : List Loc) (ls : Array Slot), K30_8 = some o → va_P (dC, dI) vwCl ([wM cI cJ aM jM u1] : List va_W).flatten H → va_D A ([wM cI cJ aM jM u1] : List va_W).flatten → va_S A s.heap H locs → lv_has ls 2 [(0, .ref aM), (1, .int p1)] → W p l e ({ frames := 0, cells := 0, slots := 0, locals := 0 } : Room) s m ([.ref aM, .int p1] : List Value).toArray below meth c H locs 0 0 Q (F0 m 30 ls [.ref aM]) := by
      intro H locs ls hm hP hD hS hl
      have hm := ap0 eK30_8 hm
      refine lv_iconst (v := (1 : Int32)) hx hb dX7_spread_30 (by decide) ?_
      refine lv_goto (tgt := 35) hx hb dX7_spread_31 (by decide) ?_
      exact J35_4 (1 : Int32) _ _ _ hm hP hD hS (lv_sub hl [0, 1] rfl)
    refine lv_if_lt (tgt := 30) hx hb dX7_spread_17 (by decide) (fun c9 => ?_) (fun c9 => ?_)
    · have hm := ite_t c9 hm
      exact J30_8 _ _ _ hm hP hD hS (lv_sub hl [0, 1] rfl)
    · have hm := ite_f c9 hm
      refine lv_iload_n hx hb dX7_spread_20 rfl (lv_at hl 1 rfl) ?_
      refine lv_iconst (v := (1 : Int32)) hx hb dX7_spread_21 (by decide) ?_
      refine lv_aload_n hx hb dX7_spread_22 rfl (lv_at hl 0 rfl) ?_
      refine va_get (D := (dC, dI)) (ci := 8) (v := .int (u1.1 0)) (C := RX7) (T := TX7) (N := 34) hx hb ht inX7 hown hK hP 0 rfl rfl 0 (by decide) (ht _ kw_14) (fun _ h9 => h9) rfl dX7_spread_23 ?_
      refine lv_ishl hx hb dX7_spread_26 ?_
      refine lv_icmp_lt (tgt := 34) hx hb dX7_spread_27 (by decide) (fun c10 => ?_) (fun c10 => ?_)
      · have hm := ite_t c10 hm
        refine lv_iconst (v := (0 : Int32)) hx hb dX7_spread_34 (by decide) ?_
        exact J35_4 (0 : Int32) _ _ _ hm hP hD hS (lv_sub hl [0, 1] rfl)
      · have hm := ite_f c10 hm
        exact J30_8 _ _ _ hm hP hD hS (lv_sub hl [0, 1] rfl)
  · have hm := ite_t c2 hm
    refine lv_bipush (v := (-2 : Int32)) hx hb dX7_spread_12 (by decide) ?_
    rw [← hQ]
    exact W.iret (v := (-2 : Int32)) hx hb hr (fun t ht1 hW => ⟨⟨_, u1, rfl, hm, by rw [ht1]; exact hP, hD⟩, hS.F ht1⟩) hS.2.2 dX7_spread_14

def f_X7_form (uM : OS) (p1 : Int32) : Option (OS × Int32) :=
  bnd (sF uM 1 (0 : Int32)) fun u1 =>
  if p1 < (0 : Int32) then (
  some (u1, (-1 : Int32))) else (
  if p1 ≤ (3 : Int32) then (
  bnd (u1.1 2) fun x4 =>
  bnd (sF u1 2 p1) fun u5 =>
  some (u5, x4)) else (
  some (u1, (-1 : Int32))))

set_option maxHeartbeats 4000000 in
set_option maxRecDepth 100000 in
theorem c_X7_form (l : Launch) (dC : Nat → ClassId) (dI : Nat → Nat → Nat) (cI cJ : ClassId) (aM : Nat) (jM : Nat → Nat) (sz : Nat) (uM : OS) (p1 : Int32) (o : OS × Int32) (hm : f_X7_form uM p1 = some o) : Met l yX7_form (wq yX7_form cX7_form 3 (some .int)) ({ frames := 0, cells := 0, slots := 0, locals := 0 } : Room) (va_Pc [.ref aM, .int p1] (pcW dC dI cI cJ sz ([wM cI cJ aM jM uM] : List va_W).flatten)) (va_Qi (S := OS) (fun r u => some (u, r) = some o) (fun (u : OS) t => va_P (dC, dI) vwCl ([wM cI cJ aM jM u] : List va_W).flatten t.heap ∧ va_D (va_A ([wM cI cJ aM jM uM] : List va_W).flatten sz) ([wM cI cJ aM jM u] : List va_W).flatten) (va_A ([wM cI cJ aM jM uM] : List va_W).flatten sz)) 0 0 (va_A ([wM cI cJ aM jM uM] : List va_W).flatten sz) := by
  refine Met.ofW (cc := cX7_form) (maxL := 3) (ret := (some .int)) (by decide) rfl ?_
  intro p e s m args below meth c s₁ B hml hv
  obtain ⟨rfl, hsz, hP, hK, hD0, hN⟩ := hv
  have hx := B.exec
  have hb := B.bytes
  have hr := B.returns
  have ht : ∀ w ∈ lw_good, w.before _ s = true := fun w h => atoms_spec (ws := wq yX7_form cX7_form 3 (some .int)) B.pre w (wq_mem h)
  have hown : s.vm.findClass RX7 = some m.cls := findClass_of_methodNamed B.named
  have hlocks := B.notSynchronized
  subst hsz
  have hD := hD0.self (sz := s.heap.size)
  generalize hAe : va_A ([wM cI cJ aM jM uM] : List va_W).flatten s.heap.size = A at hD ⊢
  have hA : ∀ q : Nat, s.heap.size ≤ q → A q := fun q h => by rw [← hAe]; exact Or.inr h
  have hS : va_S A s.heap s.heap [] := va_S.rf
  have hl := lv_entry ([.ref aM, .int p1]) (n := 3) (Nat.le_of_ble_eq_true rfl)
  rw [lg_entry_eq]
  generalize (lg_sl ([.ref aM, .int p1]) ++ List.replicate (3 - (lg_sl ([.ref aM, .int p1])).length) Slot.unset).toArray = ls at hl ⊢
  have hl : lv_has ls 3 [(0, .ref aM), (1, .int p1)] := hl
  generalize hQ : MQ below _ _ s _ _ _ = Q
  generalize hH : s.heap = H at hP ⊢
  have hS : va_S A s.heap H [] := by rw [← hH]; exact va_S.rf
  show W p l e ({ frames := 0, cells := 0, slots := 0, locals := 0 } : Room) s m ([.ref aM, .int p1] : List Value).toArray below meth c H [] 0 0 Q (F0 m 0 ls [])
  unfold f_X7_form at hm
  refine lv_aload_n hx hb dX7_form_0 rfl (lv_at hl 0 rfl) ?_
  refine lv_iconst (v := (0 : Int32)) hx hb dX7_form_1 (by decide) ?_
  refine va_put (D := (dC, dI)) (ci := 8) (v := .int (0 : Int32)) (ty := .int) (C := RX7) (T := TX7) (N := 34) hx hb ht inX7 tyX7 tyX7_ok nmX7 hown hK hP hD hS 0 rfl rfl 1 (by decide) (ht _ kw_0) (fun _ h9 => h9) rfl (by decide +kernel) rfl rfl (Nat.le_of_ble_eq_true rfl) dX7_form_2 (fun H locs hP hD hS => ?_)
  obtain ⟨u1, eu1, hm⟩ := bnd_ex hm
  have hP : va_P (dC, dI) vwCl ([wM cI cJ aM jM u1] : List va_W).flatten H := by rw [eu1]; exact hP
  have hD : va_D A ([wM cI cJ aM jM u1] : List va_W).flatten := by rw [eu1]; exact hD
  refine lv_iload_n hx hb dX7_form_5 rfl (lv_at hl 1 rfl) ?_
  refine lv_if_lt (tgt := 14) hx hb dX7_form_6 (by decide) (fun c2 => ?_) (fun c2 => ?_)
  · have hm := ite_t c2 hm
    refine lv_iconst (v := (-1 : Int32)) hx hb dX7_form_14 (by decide) ?_
    rw [← hQ]
    exact W.iret (v := (-1 : Int32)) hx hb hr (fun t ht1 hW => ⟨⟨_, u1, rfl, hm, by rw [ht1]; exact hP, hD⟩, hS.F ht1⟩) hS.2.2 dX7_form_15
  · have hm := ite_f c2 hm
    refine lv_iload_n hx hb dX7_form_9 rfl (lv_at hl 1 rfl) ?_
    refine lv_iconst (v := (3 : Int32)) hx hb dX7_form_10 (by decide) ?_
    refine lv_icmp_le (tgt := 16) hx hb dX7_form_11 (by decide) (fun c3 => ?_) (fun c3 => ?_)
    · have hm := ite_t c3 hm
      refine lv_aload_n hx hb dX7_form_16 rfl (lv_at hl 0 rfl) ?_
      refine va_get (D := (dC, dI)) (ci := 8) (v := .int (u1.1 2)) (C := RX7) (T := TX7) (N := 34) hx hb ht inX7 hown hK hP 0 rfl rfl 2 (by decide) (ht _ kw_28) (fun _ h9 => h9) rfl dX7_form_17 ?_
      refine lv_topi (fun x4 ex4 => ?_)
      have hm := bnd_nm ex4 hm
      refine lv_istore_n (lv' := [(2, .int x4), (0, .ref aM), (1, .int p1)]) hx hb dX7_form_20 rfl hl (by decide) rfl (fun ls hl => ?_)
      refine lv_aload_n hx hb dX7_form_21 rfl (lv_at hl 1 rfl) ?_
      refine lv_iload_n hx hb dX7_form_22 rfl (lv_at hl 2 rfl) ?_
      refine va_put (D := (dC, dI)) (ci := 8) (v := .int p1) (ty := .int) (C := RX7) (T := TX7) (N := 34) hx hb ht inX7 tyX7 tyX7_ok nmX7 hown hK hP hD hS 0 rfl rfl 2 (by decide) (ht _ kw_28) (fun _ h9 => h9) rfl (by decide +kernel) rfl rfl (Nat.le_of_ble_eq_true rfl) dX7_form_23 (fun H locs hP hD hS => ?_)
      obtain ⟨u5, eu5, hm⟩ := bnd_ex hm
      have hP : va_P (dC, dI) vwCl ([wM cI cJ aM jM u5] : List va_W).flatten H := by rw [eu5]; exact hP
      have hD : va_D A ([wM cI cJ aM jM u5] : List va_W).flatten := by rw [eu5]; exact hD
      refine lv_iload_n hx hb dX7_form_26 rfl (lv_at hl 0 rfl) ?_
      rw [← hQ]
      exact W.iret (v := x4) hx hb hr (fun t ht1 hW => ⟨⟨_, u5, rfl, hm, by rw [ht1]; exact hP, hD⟩, hS.F ht1⟩) hS.2.2 dX7_form_27
    · have hm := ite_f c3 hm
      refine lv_iconst (v := (-1 : Int32)) hx hb dX7_form_14 (by decide) ?_
      rw [← hQ]
      exact W.iret (v := (-1 : Int32)) hx hb hr (fun t ht1 hW => ⟨⟨_, u1, rfl, hm, by rw [ht1]; exact hP, hD⟩, hS.F ht1⟩) hS.2.2 dX7_form_15

def f_X7_lanes (uM : OS) (p1 : Int32) : Option (OS × Int32) :=
  bnd (sF uM 1 (0 : Int32)) fun u1 =>
  bnd (bnd (u1.1 3) fun x3 =>
  bnd (sF u1 3 p1) fun u4 =>
  some (u4, x3)) fun K22_2 =>
  if p1 = (1 : Int32) then (
  K22_2) else (
  if p1 = (2 : Int32) then (
  K22_2) else (
  if p1 = (4 : Int32) then (
  K22_2) else (
  some (u1, (-1 : Int32)))))

set_option maxHeartbeats 4000000 in
set_option maxRecDepth 100000 in
theorem c_X7_lanes (l : Launch) (dC : Nat → ClassId) (dI : Nat → Nat → Nat) (cI cJ : ClassId) (aM : Nat) (jM : Nat → Nat) (sz : Nat) (uM : OS) (p1 : Int32) (o : OS × Int32) (hm : f_X7_lanes uM p1 = some o) : Met l yX7_lanes (wq yX7_lanes cX7_lanes 3 (some .int)) ({ frames := 0, cells := 0, slots := 0, locals := 0 } : Room) (va_Pc [.ref aM, .int p1] (pcW dC dI cI cJ sz ([wM cI cJ aM jM uM] : List va_W).flatten)) (va_Qi (S := OS) (fun r u => some (u, r) = some o) (fun (u : OS) t => va_P (dC, dI) vwCl ([wM cI cJ aM jM u] : List va_W).flatten t.heap ∧ va_D (va_A ([wM cI cJ aM jM uM] : List va_W).flatten sz) ([wM cI cJ aM jM u] : List va_W).flatten) (va_A ([wM cI cJ aM jM uM] : List va_W).flatten sz)) 0 0 (va_A ([wM cI cJ aM jM uM] : List va_W).flatten sz) := by
  refine Met.ofW (cc := cX7_lanes) (maxL := 3) (ret := (some .int)) (by decide) rfl ?_
  intro p e s m args below meth c s₁ B hml hv
  obtain ⟨rfl, hsz, hP, hK, hD0, hN⟩ := hv
  have hx := B.exec
  have hb := B.bytes
  have hr := B.returns
  have ht : ∀ w ∈ lw_good, w.before _ s = true := fun w h => atoms_spec (ws := wq yX7_lanes cX7_lanes 3 (some .int)) B.pre w (wq_mem h)
  have hown : s.vm.findClass RX7 = some m.cls := findClass_of_methodNamed B.named
  have hlocks := B.notSynchronized
  subst hsz
  have hD := hD0.self (sz := s.heap.size)
  generalize hAe : va_A ([wM cI cJ aM jM uM] : List va_W).flatten s.heap.size = A at hD ⊢
  have hA : ∀ q : Nat, s.heap.size ≤ q → A q := fun q h => by rw [← hAe]; exact Or.inr h
  have hS : va_S A s.heap s.heap [] := va_S.rf
  have hl := lv_entry ([.ref aM, .int p1]) (n := 3) (Nat.le_of_ble_eq_true rfl)
  rw [lg_entry_eq]
  generalize (lg_sl ([.ref aM, .int p1]) ++ List.replicate (3 - (lg_sl ([.ref aM, .int p1])).length) Slot.unset).toArray = ls at hl ⊢
  have hl : lv_has ls 3 [(0, .ref aM), (1, .int p1)] := hl
  generalize hQ : MQ below _ _ s _ _ _ = Q
  generalize hH : s.heap = H at hP ⊢
  have hS : va_S A s.heap H [] := by rw [← hH]; exact va_S.rf
  show W p l e ({ frames := 0, cells := 0, slots := 0, locals := 0 } : Room) s m ([.ref aM, .int p1] : List Value).toArray below meth c H [] 0 0 Q (F0 m 0 ls [])
  unfold f_X7_lanes at hm
  refine lv_aload_n hx hb dX7_lanes_0 rfl (lv_at hl 0 rfl) ?_
  refine lv_iconst (v := (0 : Int32)) hx hb dX7_lanes_1 (by decide) ?_
  refine va_put (D := (dC, dI)) (ci := 8) (v := .int (0 : Int32)) (ty := .int) (C := RX7) (T := TX7) (N := 34) hx hb ht inX7 tyX7 tyX7_ok nmX7 hown hK hP hD hS 0 rfl rfl 1 (by decide) (ht _ kw_0) (fun _ h9 => h9) rfl (by decide +kernel) rfl rfl (Nat.le_of_ble_eq_true rfl) dX7_lanes_2 (fun H locs hP hD hS => ?_)
  obtain ⟨u1, eu1, hm⟩ := bnd_ex hm
  have hP : va_P (dC, dI) vwCl ([wM cI cJ aM jM u1] : List va_W).flatten H := by rw [eu1]; exact hP
  have hD : va_D A ([wM cI cJ aM jM u1] : List va_W).flatten := by rw [eu1]; exact hD
  refine lv_iload_n hx hb dX7_lanes_5 rfl (lv_at hl 1 rfl) ?_
  refine lv_iconst (v := (1 : Int32)) hx hb dX7_lanes_6 (by decide) ?_
  obtain ⟨K22_2, eK22_2, hm⟩ := bnd_ex hm
  have J22_2 : ∀ (H : Heap) (locs : List Loc) (ls : Array Slot), K22_2 = some o → va_P (dC, dI) vwCl ([wM cI cJ aM jM u1] : List va_W).flatten H → va_D A ([wM cI cJ aM jM u1] : List va_W).flatten → va_S A s.heap H locs → lv_has ls 3 [(0, .ref aM), (1, .int p1)] → W p l e ({ frames := 0, cells := 0, slots := 0, locals := 0 } : Room) s m ([.ref aM, .int p1] : List Value).toArray below meth c H locs 0 0 Q (F0 m 22 ls []) := by
    intro H locs ls hm hP hD hS hl
    have hm := ap0 eK22_2 hm
    refine lv_aload_n hx hb dX7_lanes_22 rfl (lv_at hl 0 rfl) ?_
    refine va_get (D := (dC, dI)) (ci := 8) (v := .int (u1.1 3)) (C := RX7) (T := TX7) (N := 34) hx hb ht inX7 hown hK hP 0 rfl rfl 3 (by decide) (ht _ kw_29) (fun _ h9 => h9) rfl dX7_lanes_23 ?_
    refine lv_topi (fun x3 ex3 => ?_)
    have hm := bnd_nm ex3 hm
    refine lv_istore_n (lv' := [(2, .int x3), (0, .ref aM), (1, .int p1)]) hx hb dX7_lanes_26 rfl hl (by decide) rfl (fun ls hl => ?_)
    refine lv_aload_n hx hb dX7_lanes_27 rfl (lv_at hl 1 rfl) ?_
    refine lv_iload_n hx hb dX7_lanes_28 rfl (lv_at hl 2 rfl) ?_
    refine va_put (D := (dC, dI)) (ci := 8) (v := .int p1) (ty := .int) (C := RX7) (T := TX7) (N := 34) hx hb ht inX7 tyX7 tyX7_ok nmX7 hown hK hP hD hS 0 rfl rfl 3 (by decide) (ht _ kw_29) (fun _ h9 => h9) rfl (by decide +kernel) rfl rfl (Nat.le_of_ble_eq_true rfl) dX7_lanes_29 (fun H locs hP hD hS => ?_)
    obtain ⟨u4, eu4, hm⟩ := bnd_ex hm
    have hP : va_P (dC, dI) vwCl ([wM cI cJ aM jM u4] : List va_W).flatten H := by rw [eu4]; exact hP
    have hD : va_D A ([wM cI cJ aM jM u4] : List va_W).flatten := by rw [eu4]; exact hD
    refine lv_iload_n hx hb dX7_lanes_32 rfl (lv_at hl 0 rfl) ?_
    rw [← hQ]
    exact W.iret (v := x3) hx hb hr (fun t ht1 hW => ⟨⟨_, u4, rfl, hm, by rw [ht1]; exact hP, hD⟩, hS.F ht1⟩) hS.2.2 dX7_lanes_33
  refine lv_icmp_eq (tgt := 22) hx hb dX7_lanes_7 (by decide) (fun c5 => ?_) (fun c5 => ?_)
  · have hm := ite_t c5 hm
    exact J22_2 _ _ _ hm hP hD hS (lv_sub hl [0, 1] rfl)
  · have hm := ite_f c5 hm
    refine lv_iload_n hx hb dX7_lanes_10 rfl (lv_at hl 1 rfl) ?_
    refine lv_iconst (v := (2 : Int32)) hx hb dX7_lanes_11 (by decide) ?_
    refine lv_icmp_eq (tgt := 22) hx hb dX7_lanes_12 (by decide) (fun c6 => ?_) (fun c6 => ?_)
    · have hm := ite_t c6 hm
      exact J22_2 _ _ _ hm hP hD hS (lv_sub hl [0, 1] rfl)
    · have hm := ite_f c6 hm
      refine lv_iload_n hx hb dX7_lanes_15 rfl (lv_at hl 1 rfl) ?_
      refine lv_iconst (v := (4 : Int32)) hx hb dX7_lanes_16 (by decide) ?_
      refine lv_icmp_eq (tgt := 22) hx hb dX7_lanes_17 (by decide) (fun c7 => ?_) (fun c7 => ?_)
      · have hm := ite_t c7 hm
        exact J22_2 _ _ _ hm hP hD hS (lv_sub hl [0, 1] rfl)
      · have hm := ite_f c7 hm
        refine lv_iconst (v := (-1 : Int32)) hx hb dX7_lanes_20 (by decide) ?_
        rw [← hQ]
        exact W.iret (v := (-1 : Int32)) hx hb hr (fun t ht1 hW => ⟨⟨_, u1, rfl, hm, by rw [ht1]; exact hP, hD⟩, hS.F ht1⟩) hS.2.2 dX7_lanes_21

def f_X7_firstState (p1 : Int32) (p2 : Int32) : Option (Int64) :=
  if p1 = (1 : Int32) then (
  some (2147483648 : Int64)) else (
  if p1 = (2 : Int32) then (
  some (((1 : Int64) <<< ((p2).toInt64 &&& (63 : Int64))))) else (
  some (8388608 : Int64)))

set_option maxHeartbeats 4000000 in
set_option maxRecDepth 100000 in
theorem c_X7_firstState (l : Launch) (dC : Nat → ClassId) (dI : Nat → Nat → Nat) (cI cJ : ClassId) (sz : Nat) (p1 : Int32) (p2 : Int32) (o : Int64) (hm : f_X7_firstState p1 p2 = some o) : Met l yX7_firstState (wq yX7_firstState cX7_firstState 2 (some .long)) ({ frames := 0, cells := 0, slots := 0, locals := 0 } : Room) (va_Pc [.int p1, .int p2] (pcW dC dI cI cJ sz ([] : List va_W).flatten)) (va_Ql (S := Unit) (fun r u => some r = some o) (fun (u : Unit) t => va_P (dC, dI) vwCl ([] : List va_W).flatten t.heap ∧ va_D (va_A ([] : List va_W).flatten sz) ([] : List va_W).flatten) (va_A ([] : List va_W).flatten sz)) 0 0 (va_A ([] : List va_W).flatten sz) := by
  refine Met.ofW (cc := cX7_firstState) (maxL := 2) (ret := (some .long)) (by decide) rfl ?_
  intro p e s m args below meth c s₁ B hml hv
  obtain ⟨rfl, hsz, hP, hK, hD0, hN⟩ := hv
  have hx := B.exec
  have hb := B.bytes
  have hr := B.returns
  have ht : ∀ w ∈ lw_good, w.before _ s = true := fun w h => atoms_spec (ws := wq yX7_firstState cX7_firstState 2 (some .long)) B.pre w (wq_mem h)
  have hown : s.vm.findClass RX7 = some m.cls := findClass_of_methodNamed B.named
  have hlocks := B.notSynchronized
  subst hsz
  have hD := hD0.self (sz := s.heap.size)
  generalize hAe : va_A ([] : List va_W).flatten s.heap.size = A at hD ⊢
  have hA : ∀ q : Nat, s.heap.size ≤ q → A q := fun q h => by rw [← hAe]; exact Or.inr h
  have hS : va_S A s.heap s.heap [] := va_S.rf
  have hl := lv_entry ([.int p1, .int p2]) (n := 2) (Nat.le_of_ble_eq_true rfl)
  rw [lg_entry_eq]
  generalize (lg_sl ([.int p1, .int p2]) ++ List.replicate (2 - (lg_sl ([.int p1, .int p2])).length) Slot.unset).toArray = ls at hl ⊢
  have hl : lv_has ls 2 [(0, .int p1), (1, .int p2)] := hl
  generalize hQ : MQ below _ _ s _ _ _ = Q
  generalize hH : s.heap = H at hP ⊢
  have hS : va_S A s.heap H [] := by rw [← hH]; exact va_S.rf
  show W p l e ({ frames := 0, cells := 0, slots := 0, locals := 0 } : Room) s m ([.int p1, .int p2] : List Value).toArray below meth c H [] 0 0 Q (F0 m 0 ls [])
  unfold f_X7_firstState at hm
  refine lv_iload_n hx hb dX7_firstState_0 rfl (lv_at hl 0 rfl) ?_
  refine lv_iconst (v := (1 : Int32)) hx hb dX7_firstState_1 (by decide) ?_
  refine lv_icmp_ne (tgt := 11) hx hb dX7_firstState_2 (by decide) (fun c1 => ?_) (fun c1 => ?_)
  · have hm := ite_f c1 hm
    refine lv_iload_n hx hb dX7_firstState_11 rfl (lv_at hl 0 rfl) ?_
    refine lv_iconst (v := (2 : Int32)) hx hb dX7_firstState_12 (by decide) ?_
    refine lv_icmp_ne (tgt := 22) hx hb dX7_firstState_13 (by decide) (fun c2 => ?_) (fun c2 => ?_)
    · have hm := ite_f c2 hm
      refine lv_ldc2 (v := (8388608 : Int64)) hx hb hown (ht _ kw_30) dX7_firstState_22 ?_
      rw [← hQ]
      exact W.lret (v := (8388608 : Int64)) hx hb hr (fun t ht1 hW => ⟨⟨_, (), rfl, hm, by rw [ht1]; exact hP, hD⟩, hS.F ht1⟩) hS.2.2 dX7_firstState_25
    · have hm := ite_t c2 hm
      refine lv_lconst (v := (1 : Int64)) hx hb dX7_firstState_16 (by decide) ?_
      refine lv_iload_n hx hb dX7_firstState_17 rfl (lv_at hl 1 rfl) ?_
      refine lv_lshl hx hb dX7_firstState_18 rfl ?_
      refine lv_goto (tgt := 25) hx hb dX7_firstState_19 (by decide) ?_
      rw [← hQ]
      exact W.lret (v := ((1 : Int64) <<< ((p2).toInt64 &&& (63 : Int64)))) hx hb hr (fun t ht1 hW => ⟨⟨_, (), rfl, hm, by rw [ht1]; exact hP, hD⟩, hS.F ht1⟩) hS.2.2 dX7_firstState_25
  · have hm := ite_t c1 hm
    refine lv_ldc2 (v := (2147483648 : Int64)) hx hb hown (ht _ kw_11) dX7_firstState_5 ?_
    refine lv_goto (tgt := 25) hx hb dX7_firstState_8 (by decide) ?_
    rw [← hQ]
    exact W.lret (v := (2147483648 : Int64)) hx hb hr (fun t ht1 hW => ⟨⟨_, (), rfl, hm, by rw [ht1]; exact hP, hD⟩, hS.F ht1⟩) hS.2.2 dX7_firstState_25

def f_X7_putByte (uM : OS) (p1 : Int32) : Option (OS) :=
  gdi (uM.1 15) 20000 <|
  bnd (sA uM 14 (uM.1 15) (p1 &&& (255 : Int32))) fun u2 =>
  bnd (sF u2 15 ((u2.1 15) + (1 : Int32))) fun u3 =>
  some u3

set_option maxHeartbeats 4000000 in
set_option maxRecDepth 100000 in
theorem c_X7_putByte (l : Launch) (dC : Nat → ClassId) (dI : Nat → Nat → Nat) (cI cJ : ClassId) (aM : Nat) (jM : Nat → Nat) (sz : Nat) (uM : OS) (p1 : Int32) (o : OS) (hm : f_X7_putByte uM p1 = some o) : Met l yX7_putByte (wq yX7_putByte cX7_putByte 2 none) ({ frames := 0, cells := 0, slots := 0, locals := 0 } : Room) (va_Pc [.ref aM, .int p1] (pcW dC dI cI cJ sz ([wM cI cJ aM jM uM] : List va_W).flatten)) (va_Qv (S := OS) (fun u => some u = some o) (fun (u : OS) t => va_P (dC, dI) vwCl ([wM cI cJ aM jM u] : List va_W).flatten t.heap ∧ va_D (va_A ([wM cI cJ aM jM uM] : List va_W).flatten sz) ([wM cI cJ aM jM u] : List va_W).flatten) (va_A ([wM cI cJ aM jM uM] : List va_W).flatten sz)) 0 0 (va_A ([wM cI cJ aM jM uM] : List va_W).flatten sz) := by
  refine Met.ofW (cc := cX7_putByte) (maxL := 2) (ret := none) (by decide) rfl ?_
  intro p e s m args below meth c s₁ B hml hv
  obtain ⟨rfl, hsz, hP, hK, hD0, hN⟩ := hv
  have hx := B.exec
  have hb := B.bytes
  have hr := B.returns
  have ht : ∀ w ∈ lw_good, w.before _ s = true := fun w h => atoms_spec (ws := wq yX7_putByte cX7_putByte 2 none) B.pre w (wq_mem h)
  have hown : s.vm.findClass RX7 = some m.cls := findClass_of_methodNamed B.named
  have hlocks := B.notSynchronized
  subst hsz
  have hD := hD0.self (sz := s.heap.size)
  generalize hAe : va_A ([wM cI cJ aM jM uM] : List va_W).flatten s.heap.size = A at hD ⊢
  have hA : ∀ q : Nat, s.heap.size ≤ q → A q := fun q h => by rw [← hAe]; exact Or.inr h
  have hS : va_S A s.heap s.heap [] := va_S.rf
  have hl := lv_entry ([.ref aM, .int p1]) (n := 2) (Nat.le_of_ble_eq_true rfl)
  rw [lg_entry_eq]
  generalize (lg_sl ([.ref aM, .int p1]) ++ List.replicate (2 - (lg_sl ([.ref aM, .int p1])).length) Slot.unset).toArray = ls at hl ⊢
  have hl : lv_has ls 2 [(0, .ref aM), (1, .int p1)] := hl
  generalize hQ : MQ below _ _ s _ _ _ = Q
  generalize hH : s.heap = H at hP ⊢
  have hS : va_S A s.heap H [] := by rw [← hH]; exact va_S.rf
  show W p l e ({ frames := 0, cells := 0, slots := 0, locals := 0 } : Room) s m ([.ref aM, .int p1] : List Value).toArray below meth c H [] 0 0 Q (F0 m 0 ls [])
  unfold f_X7_putByte at hm
  refine lv_aload_n hx hb dX7_putByte_0 rfl (lv_at hl 0 rfl) ?_
  refine va_get (D := (dC, dI)) (ci := 8) (v := .ref (jM 14)) (C := RX7) (T := TX7) (N := 34) hx hb ht inX7 hown hK hP 0 rfl rfl 14 (by decide) (ht _ kw_31) (fun _ h9 => h9) rfl dX7_putByte_1 ?_
  refine lv_aload_n hx hb dX7_putByte_4 rfl (lv_at hl 0 rfl) ?_
  refine va_get (D := (dC, dI)) (ci := 8) (v := .int (uM.1 15)) (C := RX7) (T := TX7) (N := 34) hx hb ht inX7 hown hK hP 0 rfl rfl 15 (by decide) (ht _ kw_32) (fun _ h9 => h9) rfl dX7_putByte_5 ?_
  refine lv_iload_n hx hb dX7_putByte_8 rfl (lv_at hl 1 rfl) ?_
  refine lv_sipush (v := (255 : Int32)) hx hb dX7_putByte_9 (by decide) ?_
  refine lv_iand hx hb dX7_putByte_12 ?_
  obtain ⟨g1, hm⟩ := gdi_of hm
  refine va_iast hx hb hK hP hD hS 9 0 rfl rfl g1 dX7_putByte_13 (fun H locs hP hD hS => ?_)
  obtain ⟨u2, eu2, hm⟩ := bnd_ex hm
  have hP : va_P (dC, dI) vwCl ([wM cI cJ aM jM u2] : List va_W).flatten H := by rw [eu2]; exact hP
  have hD : va_D A ([wM cI cJ aM jM u2] : List va_W).flatten := by rw [eu2]; exact hD
  refine lv_aload_n hx hb dX7_putByte_14 rfl (lv_at hl 0 rfl) ?_
  refine lv_dup hx hb dX7_putByte_15 rfl ?_
  refine va_get (D := (dC, dI)) (ci := 8) (v := .int (u2.1 15)) (C := RX7) (T := TX7) (N := 34) hx hb ht inX7 hown hK hP 0 rfl rfl 15 (by decide) (ht _ kw_32) (fun _ h9 => h9) rfl dX7_putByte_16 ?_
  refine lv_iconst (v := (1 : Int32)) hx hb dX7_putByte_19 (by decide) ?_
  refine lv_iadd hx hb dX7_putByte_20 ?_
  refine va_put (D := (dC, dI)) (ci := 8) (v := .int ((u2.1 15) + (1 : Int32))) (ty := .int) (C := RX7) (T := TX7) (N := 34) hx hb ht inX7 tyX7 tyX7_ok nmX7 hown hK hP hD hS 0 rfl rfl 15 (by decide) (ht _ kw_32) (fun _ h9 => h9) rfl (by decide +kernel) rfl rfl (Nat.le_of_ble_eq_true rfl) dX7_putByte_21 (fun H locs hP hD hS => ?_)
  obtain ⟨u3, eu3, hm⟩ := bnd_ex hm
  have hP : va_P (dC, dI) vwCl ([wM cI cJ aM jM u3] : List va_W).flatten H := by rw [eu3]; exact hP
  have hD : va_D A ([wM cI cJ aM jM u3] : List va_W).flatten := by rw [eu3]; exact hD
  rw [← hQ]
  exact W.vret hx hb hr (fun t ht1 hW => ⟨⟨u3, rfl, hm, by rw [ht1]; exact hP, hD⟩, hS.F ht1⟩) hS.2.2 dX7_putByte_24

def f_X7_putWide_L5 (p1 : Int64) : Nat → (Int32 → OS → Option (OS)) → Int32 → OS → Option (OS)
  | 0, _, _, _ => none
  | n5 + 1, K28_6, x2, u3 =>
    if x2 < (0 : Int32) then (
    K28_6 x2 u3) else (
    oC1 (f_X7_putByte u3 ((p1 >>> ((((8 : Int32) * x2)).toInt64 &&& (63 : Int64)))).toInt32) fun u8 =>
    bnd (x2 + (-1 : Int32)) fun x10 =>
    f_X7_putWide_L5 p1 n5 K28_6 x10 u8)

def f_X7_putWide (uM : OS) (p1 : Int64) (p2 : Int32) : Option (OS) :=
  bnd (p2 - (1 : Int32)) fun x1 =>
  bnd (fun (x4 : Int32) (u5 : OS) =>
  some u5) fun K28_6 =>
  f_X7_putWide_L5 p1 FU K28_6 x1 uM

set_option maxHeartbeats 4000000 in
set_option maxRecDepth 100000 in
theorem c_X7_putWide (l : Launch) (dC : Nat → ClassId) (dI : Nat → Nat → Nat) (cI cJ : ClassId) (aM : Nat) (jM : Nat → Nat) (sz : Nat) (uM : OS) (p1 : Int64) (p2 : Int32) (o : OS) (hm : f_X7_putWide uM p1 p2 = some o) : Met l yX7_putWide (wq yX7_putWide cX7_putWide 5 none) ({ frames := 1, cells := 0, slots := 0, locals := 21 } : Room) (va_Pc [.ref aM, .long p1, .int p2] (pcW dC dI cI cJ sz ([wM cI cJ aM jM uM] : List va_W).flatten)) (va_Qv (S := OS) (fun u => some u = some o) (fun (u : OS) t => va_P (dC, dI) vwCl ([wM cI cJ aM jM u] : List va_W).flatten t.heap ∧ va_D (va_A ([wM cI cJ aM jM uM] : List va_W).flatten sz) ([wM cI cJ aM jM u] : List va_W).flatten) (va_A ([wM cI cJ aM jM uM] : List va_W).flatten sz)) 0 0 (va_A ([wM cI cJ aM jM uM] : List va_W).flatten sz) := by
  refine Met.ofW (cc := cX7_putWide) (maxL := 5) (ret := none) (by decide) rfl ?_
  intro p e s m args below meth c s₁ B hml hv
  obtain ⟨rfl, hsz, hP, hK, hD0, hN⟩ := hv
  have hx := B.exec
  have hb := B.bytes
  have hr := B.returns
  have ht : ∀ w ∈ lw_good, w.before _ s = true := fun w h => atoms_spec (ws := wq yX7_putWide cX7_putWide 5 none) B.pre w (wq_mem h)
  have hown : s.vm.findClass RX7 = some m.cls := findClass_of_methodNamed B.named
  have hlocks := B.notSynchronized
  subst hsz
  have hD := hD0.self (sz := s.heap.size)
  generalize hAe : va_A ([wM cI cJ aM jM uM] : List va_W).flatten s.heap.size = A at hD ⊢
  have hA : ∀ q : Nat, s.heap.size ≤ q → A q := fun q h => by rw [← hAe]; exact Or.inr h
  have hS : va_S A s.heap s.heap [] := va_S.rf
  have hl := lv_entry ([.ref aM, .long p1, .int p2]) (n := 5) (Nat.le_of_ble_eq_true rfl)
  rw [lg_entry_eq]
  generalize (lg_sl ([.ref aM, .long p1, .int p2]) ++ List.replicate (5 - (lg_sl ([.ref aM, .long p1, .int p2])).length) Slot.unset).toArray = ls at hl ⊢
  have hl : lv_has ls 5 [(0, .ref aM), (1, .long p1), (3, .int p2)] := hl
  generalize hQ : MQ below _ _ s _ _ _ = Q
  generalize hH : s.heap = H at hP ⊢
  have hS : va_S A s.heap H [] := by rw [← hH]; exact va_S.rf
  show W p l e ({ frames := 1, cells := 0, slots := 0, locals := 21 } : Room) s m ([.ref aM, .long p1, .int p2] : List Value).toArray below meth c H [] 0 0 Q (F0 m 0 ls [])
  unfold f_X7_putWide at hm
  refine lv_iload_n hx hb dX7_putWide_0 rfl (lv_at hl 2 rfl) ?_
  refine lv_iconst (v := (1 : Int32)) hx hb dX7_putWide_1 (by decide) ?_
  refine lv_isub hx hb dX7_putWide_2 ?_
  refine lv_topi (fun x1 ex1 => ?_)
  have hm := bnd_nm ex1 hm
  refine lv_istore (lv' := [(4, .int x1), (0, .ref aM), (1, .long p1), (3, .int p2)]) hx hb dX7_putWide_3 hl (by decide) rfl (fun ls hl => ?_)
  obtain ⟨K28_6, eK28_6, hm⟩ := bnd_ex hm
  have X28_6 : ∀ (x4 : Int32) (u5 : OS) (H : Heap) (locs : List Loc) (ls : Array Slot), K28_6 x4 u5 = some o → va_P (dC, dI) vwCl ([wM cI cJ aM jM u5] : List va_W).flatten H → va_D A ([wM cI cJ aM jM u5] : List va_W).flatten → va_S A s.heap H locs → lv_has ls 5 [(0, .ref aM), (1, .long p1), (3, .int p2), (4, .int x4)] → W p l e ({ frames := 1, cells := 0, slots := 0, locals := 21 } : Room) s m ([.ref aM, .long p1, .int p2] : List Value).toArray below meth c H locs 0 0 Q (F0 m 28 ls []) := by
    intro x4 u5 H locs ls hm hP hD hS hl
    have hm := ap2 eK28_6 hm
    rw [← hQ]
    exact W.vret hx hb hr (fun t ht1 hW => ⟨⟨u5, rfl, hm, by rw [ht1]; exact hP, hD⟩, hS.F ht1⟩) hS.2.2 dX7_putWide_28
  have LP5 : ∀ (n5 : Nat) (x2 : Int32) (u3 : OS) (H : Heap) (locs : List Loc) (ls : Array Slot), f_X7_putWide_L5 p1 n5 K28_6 x2 u3 = some o → va_P (dC, dI) vwCl ([wM cI cJ aM jM u3] : List va_W).flatten H → va_D A ([wM cI cJ aM jM u3] : List va_W).flatten → va_S A s.heap H locs → lv_has ls 5 [(0, .ref aM), (1, .long p1), (3, .int p2), (4, .int x2)] → W p l e ({ frames := 1, cells := 0, slots := 0, locals := 21 } : Room) s m ([.ref aM, .long p1, .int p2] : List Value).toArray below meth c H locs 0 0 Q (F0 m 5 ls []) := by
    intro n5
    induction n5 with
    | zero => intro x2 u3 H locs ls hm; exact nomatch (show (none : Option _) = some _ from hm)
    | succ n5 ih5 =>
      intro x2 u3 H locs ls hm hP hD hS hl
      unfold f_X7_putWide_L5 at hm
      refine lv_iload hx hb dX7_putWide_5 (lv_at hl 3 rfl) ?_
      refine lv_if_lt (tgt := 28) hx hb dX7_putWide_7 (by decide) (fun c7 => ?_) (fun c7 => ?_)
      · have hm := ite_t c7 hm
        exact X28_6 x2 u3 _ _ _ hm hP hD hS (lv_sub hl [0, 1, 2, 3] rfl)
      · have hm := ite_f c7 hm
        refine lv_aload_n hx hb dX7_putWide_10 rfl (lv_at hl 0 rfl) ?_
        refine lv_lload_n hx hb dX7_putWide_11 rfl (lv_at hl 1 rfl) ?_
        refine lv_bipush (v := (8 : Int32)) hx hb dX7_putWide_12 (by decide) ?_
        refine lv_iload hx hb dX7_putWide_14 (lv_at hl 3 rfl) ?_
        refine lv_imul hx hb dX7_putWide_16 ?_
        refine lv_lshr hx hb dX7_putWide_17 rfl ?_
        refine lv_l2i hx hb dX7_putWide_18 rfl ?_
        have hPc : va_P (dC, dI) vwCl ([wM cI cJ aM jM u3] : List va_W).flatten _ := hP
        have hDc : va_D A ([wM cI cJ aM jM u3] : List va_W).flatten := hD
        have hFc := va_freeF (fc := ([wM cI cJ aM jM u3] : List va_W)) hD hS hA [0] rfl
        obtain ⟨u8o, e9, hm⟩ := oC1_of hm
        refine va_callv (va_runV (As := [.int ((p1 >>> ((((8 : Int32) * x2)).toInt64 &&& (63 : Int64)))).toInt32]) (rest := []) ⟨hx, hb, hml, hown, ht⟩ (c_X7_putByte l dC dI cI cJ aM jM H.size u3 ((p1 >>> ((((8 : Int32) * x2)).toInt64 &&& (63 : Int64)))).toInt32 u8o e9) (cwV 1 ht (gdV kw_36 kw_34 kw_35 kw_7 kw_33) rfl rfl rfl ⟨rfl, nd_X7_putByte⟩ ⟨Nat.le_of_ble_eq_true rfl, Nat.le_of_ble_eq_true rfl⟩) ⟨pcW_blind, va_recv hK hPc (ci := 8) (q0 := 0) rfl rfl, pcW_pre hPc hK hDc hN⟩ rfl rfl hl.1 rfl (lv_room (Nat.le_of_ble_eq_true rfl)) dX7_putWide_19 ⟨Nat.zero_le _, Nat.zero_le _⟩) hS (fun q _ z => hFc q z) hFc (fun uu t H1 locs ht1 hvm hw hB hz1 hk1 hS => ?_)
        obtain ⟨u8, rfl⟩ : ∃ z, z = uu := ⟨_, rfl⟩
        obtain ⟨hP1, hD1⟩ := hB
        rw [ht1] at hP1
        obtain rfl : u8 = u8o := Option.some.inj hw
        have hP : va_P (dC, dI) vwCl ([wM cI cJ aM jM u8] : List va_W).flatten H1 := hP1
        have hD : va_D A ([wM cI cJ aM jM u8] : List va_W).flatten := hD1.weaken (fun _ q _ z => hFc q.1 z)
        generalize H1 = H at hP hS ⊢
        obtain ⟨x10, ex10, hm⟩ := bnd_ex hm
        refine lv_iinc (v := x10) (lv' := [(4, .int x10), (0, .ref aM), (1, .long p1), (3, .int p2)]) hx hb dX7_putWide_22 hl (k := 3) rfl (by rw [ex10]; exact congrArg _ (by decide)) (by decide) rfl (fun ls hl => ?_)
        refine lv_goto (tgt := 5) hx hb dX7_putWide_25 (by decide) ?_
        exact ih5 x10 u8 _ _ _ hm hP hD hS (lv_sub hl [1, 2, 3, 0] rfl)
  exact LP5 FU x1 uM _ _ _ hm hP hD hS (lv_sub hl [1, 2, 3, 0] rfl)

def f_X7_putBits_L4 (p1 : Int32) : Nat → (Int32 → OS → Option (OS)) → Int32 → OS → Option (OS)
  | 0, _, _, _ => none
  | n4 + 1, K66_6, x2, u3 =>
    if x2 < (0 : Int32) then (
    K66_6 x2 u3) else (
    bnd (fun (u8 : OS) =>
    gdi ((u8.1 15) - (1 : Int32)) 20000 <|
    gdi ((u8.1 15) - (1 : Int32)) 20000 <|
    bnd (sA u8 14 ((u8.1 15) - (1 : Int32)) ((u8.2.1 14 (((u8.1 15) - (1 : Int32))).toNatClampNeg) ||| (((p1 >>> (x2 &&& (31 : Int32))) &&& (1 : Int32)) <<< (((7 : Int32) - (u8.1 21)) &&& (31 : Int32))))) fun u12 =>
    bnd (sF u12 21 (((u12.1 21) + (1 : Int32)) - ((u12.1 21) + (1 : Int32)) / (8 : Int32) * (8 : Int32))) fun u13 =>
    bnd (x2 + (-1 : Int32)) fun x14 =>
    f_X7_putBits_L4 p1 n4 K66_6 x14 u13) fun K20_9 =>
    if (u3.1 21) = (0 : Int32) then (
    oC1 (f_X7_putByte u3 (0 : Int32)) fun u16 =>
    K20_9 u16) else (
    K20_9 u3))

def f_X7_putBits (uM : OS) (p1 : Int32) (p2 : Int32) : Option (OS) :=
  bnd (p2 - (1 : Int32)) fun x1 =>
  bnd (fun (x4 : Int32) (u5 : OS) =>
  some u5) fun K66_6 =>
  f_X7_putBits_L4 p1 FU K66_6 x1 uM

set_option maxHeartbeats 4000000 in
set_option maxRecDepth 100000 in
theorem c_X7_putBits (l : Launch) (dC : Nat → ClassId) (dI : Nat → Nat → Nat) (cI cJ : ClassId) (aM : Nat) (jM : Nat → Nat) (sz : Nat) (uM : OS) (p1 : Int32) (p2 : Int32) (o : OS) (hm : f_X7_putBits uM p1 p2 = some o) : Met l yX7_putBits (wq yX7_putBits cX7_putBits 4 none) ({ frames := 1, cells := 0, slots := 0, locals := 21 } : Room) (va_Pc [.ref aM, .int p1, .int p2] (pcW dC dI cI cJ sz ([wM cI cJ aM jM uM] : List va_W).flatten)) (va_Qv (S := OS) (fun u => some u = some o) (fun (u : OS) t => va_P (dC, dI) vwCl ([wM cI cJ aM jM u] : List va_W).flatten t.heap ∧ va_D (va_A ([wM cI cJ aM jM uM] : List va_W).flatten sz) ([wM cI cJ aM jM u] : List va_W).flatten) (va_A ([wM cI cJ aM jM uM] : List va_W).flatten sz)) 0 0 (va_A ([wM cI cJ aM jM uM] : List va_W).flatten sz) := by
  refine Met.ofW (cc := cX7_putBits) (maxL := 4) (ret := none) (by decide) rfl ?_
  intro p e s m args below meth c s₁ B hml hv
  obtain ⟨rfl, hsz, hP, hK, hD0, hN⟩ := hv
  have hx := B.exec
  have hb := B.bytes
  have hr := B.returns
  have ht : ∀ w ∈ lw_good, w.before _ s = true := fun w h => atoms_spec (ws := wq yX7_putBits cX7_putBits 4 none) B.pre w (wq_mem h)
  have hown : s.vm.findClass RX7 = some m.cls := findClass_of_methodNamed B.named
  have hlocks := B.notSynchronized
  subst hsz
  have hD := hD0.self (sz := s.heap.size)
  generalize hAe : va_A ([wM cI cJ aM jM uM] : List va_W).flatten s.heap.size = A at hD ⊢
  have hA : ∀ q : Nat, s.heap.size ≤ q → A q := fun q h => by rw [← hAe]; exact Or.inr h
  have hS : va_S A s.heap s.heap [] := va_S.rf
  have hl := lv_entry ([.ref aM, .int p1, .int p2]) (n := 4) (Nat.le_of_ble_eq_true rfl)
  rw [lg_entry_eq]
  generalize (lg_sl ([.ref aM, .int p1, .int p2]) ++ List.replicate (4 - (lg_sl ([.ref aM, .int p1, .int p2])).length) Slot.unset).toArray = ls at hl ⊢
  have hl : lv_has ls 4 [(0, .ref aM), (1, .int p1), (2, .int p2)] := hl
  generalize hQ : MQ below _ _ s _ _ _ = Q
  generalize hH : s.heap = H at hP ⊢
  have hS : va_S A s.heap H [] := by rw [← hH]; exact va_S.rf
  show W p l e ({ frames := 1, cells := 0, slots := 0, locals := 21 } : Room) s m ([.ref aM, .int p1, .int p2] : List Value).toArray below meth c H [] 0 0 Q (F0 m 0 ls [])
  unfold f_X7_putBits at hm
  refine lv_iload_n hx hb dX7_putBits_0 rfl (lv_at hl 2 rfl) ?_
  refine lv_iconst (v := (1 : Int32)) hx hb dX7_putBits_1 (by decide) ?_
  refine lv_isub hx hb dX7_putBits_2 ?_
  refine lv_topi (fun x1 ex1 => ?_)
  have hm := bnd_nm ex1 hm
  refine lv_istore_n (lv' := [(3, .int x1), (0, .ref aM), (1, .int p1), (2, .int p2)]) hx hb dX7_putBits_3 rfl hl (by decide) rfl (fun ls hl => ?_)
  obtain ⟨K66_6, eK66_6, hm⟩ := bnd_ex hm
  have X66_6 : ∀ (x4 : Int32) (u5 : OS) (H : Heap) (locs : List Loc) (ls : Array Slot), K66_6 x4 u5 = some o → va_P (dC, dI) vwCl ([wM cI cJ aM jM u5] : List va_W).flatten H → va_D A ([wM cI cJ aM jM u5] : List va_W).flatten → va_S A s.heap H locs → lv_has ls 4 [(0, .ref aM), (1, .int p1), (2, .int p2), (3, .int x4)] → W p l e ({ frames := 1, cells := 0, slots := 0, locals := 21 } : Room) s m ([.ref aM, .int p1, .int p2] : List Value).toArray below meth c H locs 0 0 Q (F0 m 66 ls []) := by
    intro x4 u5 H locs ls hm hP hD hS hl
    have hm := ap2 eK66_6 hm
    rw [← hQ]
    exact W.vret hx hb hr (fun t ht1 hW => ⟨⟨u5, rfl, hm, by rw [ht1]; exact hP, hD⟩, hS.F ht1⟩) hS.2.2 dX7_putBits_66
  have LP4 : ∀ (n4 : Nat) (x2 : Int32) (u3 : OS) (H : Heap) (locs : List Loc) (ls : Array Slot), f_X7_putBits_L4 p1 n4 K66_6 x2 u3 = some o → va_P (dC, dI) vwCl ([wM cI cJ aM jM u3] : List va_W).flatten H → va_D A ([wM cI cJ aM jM u3] : List va_W).flatten → va_S A s.heap H locs → lv_has ls 4 [(0, .ref aM), (1, .int p1), (2, .int p2), (3, .int x2)] → W p l e ({ frames := 1, cells := 0, slots := 0, locals := 21 } : Room) s m ([.ref aM, .int p1, .int p2] : List Value).toArray below meth c H locs 0 0 Q (F0 m 4 ls []) := by
    intro n4
    induction n4 with
    | zero => intro x2 u3 H locs ls hm; exact nomatch (show (none : Option _) = some _ from hm)
    | succ n4 ih4 =>
      intro x2 u3 H locs ls hm hP hD hS hl
      unfold f_X7_putBits_L4 at hm
      refine lv_iload_n hx hb dX7_putBits_4 rfl (lv_at hl 3 rfl) ?_
      refine lv_if_lt (tgt := 66) hx hb dX7_putBits_5 (by decide) (fun c7 => ?_) (fun c7 => ?_)
      · have hm := ite_t c7 hm
        exact X66_6 x2 u3 _ _ _ hm hP hD hS (lv_sub hl [0, 1, 2, 3] rfl)
      · have hm := ite_f c7 hm
        refine lv_aload_n hx hb dX7_putBits_8 rfl (lv_at hl 0 rfl) ?_
        refine va_get (D := (dC, dI)) (ci := 8) (v := .int (u3.1 21)) (C := RX7) (T := TX7) (N := 34) hx hb ht inX7 hown hK hP 0 rfl rfl 21 (by decide) (ht _ kw_37) (fun _ h9 => h9) rfl dX7_putBits_9 ?_
        obtain ⟨K20_9, eK20_9, hm⟩ := bnd_ex hm
        have J20_9 : ∀ (u8 : OS) (H : Heap) (locs : List Loc) (ls : Array Slot), K20_9 u8 = some o → va_P (dC, dI) vwCl ([wM cI cJ aM jM u8] : List va_W).flatten H → va_D A ([wM cI cJ aM jM u8] : List va_W).flatten → va_S A s.heap H locs → lv_has ls 4 [(0, .ref aM), (1, .int p1), (2, .int p2), (3, .int x2)] → W p l e ({ frames := 1, cells := 0, slots := 0, locals := 21 } : Room) s m ([.ref aM, .int p1, .int p2] : List Value).toArray below meth c H locs 0 0 Q (F0 m 20 ls []) := by
          intro u8 H locs ls hm hP hD hS hl
          have hm := ap1 eK20_9 hm
          refine lv_aload_n hx hb dX7_putBits_20 rfl (lv_at hl 0 rfl) ?_
          refine va_get (D := (dC, dI)) (ci := 8) (v := .ref (jM 14)) (C := RX7) (T := TX7) (N := 34) hx hb ht inX7 hown hK hP 0 rfl rfl 14 (by decide) (ht _ kw_31) (fun _ h9 => h9) rfl dX7_putBits_21 ?_
          refine lv_aload_n hx hb dX7_putBits_24 rfl (lv_at hl 0 rfl) ?_
          refine va_get (D := (dC, dI)) (ci := 8) (v := .int (u8.1 15)) (C := RX7) (T := TX7) (N := 34) hx hb ht inX7 hown hK hP 0 rfl rfl 15 (by decide) (ht _ kw_32) (fun _ h9 => h9) rfl dX7_putBits_25 ?_
          refine lv_iconst (v := (1 : Int32)) hx hb dX7_putBits_28 (by decide) ?_
          refine lv_isub hx hb dX7_putBits_29 ?_
          refine lv_dup2_11 hx hb dX7_putBits_30 rfl rfl ?_
          obtain ⟨g10, hm⟩ := gdi_of hm
          refine va_iald hx hb hK hP 9 0 rfl rfl g10 dX7_putBits_31 ?_
          refine lv_iload_n hx hb dX7_putBits_32 rfl (lv_at hl 1 rfl) ?_
          refine lv_iload_n hx hb dX7_putBits_33 rfl (lv_at hl 3 rfl) ?_
          refine lv_ishr hx hb dX7_putBits_34 ?_
          refine lv_iconst (v := (1 : Int32)) hx hb dX7_putBits_35 (by decide) ?_
          refine lv_iand hx hb dX7_putBits_36 ?_
          refine lv_bipush (v := (7 : Int32)) hx hb dX7_putBits_37 (by decide) ?_
          refine lv_aload_n hx hb dX7_putBits_39 rfl (lv_at hl 0 rfl) ?_
          refine va_get (D := (dC, dI)) (ci := 8) (v := .int (u8.1 21)) (C := RX7) (T := TX7) (N := 34) hx hb ht inX7 hown hK hP 0 rfl rfl 21 (by decide) (ht _ kw_37) (fun _ h9 => h9) rfl dX7_putBits_40 ?_
          refine lv_isub hx hb dX7_putBits_43 ?_
          refine lv_ishl hx hb dX7_putBits_44 ?_
          refine lv_ior hx hb dX7_putBits_45 ?_
          obtain ⟨g11, hm⟩ := gdi_of hm
          refine va_iast hx hb hK hP hD hS 9 0 rfl rfl g11 dX7_putBits_46 (fun H locs hP hD hS => ?_)
          obtain ⟨u12, eu12, hm⟩ := bnd_ex hm
          have hP : va_P (dC, dI) vwCl ([wM cI cJ aM jM u12] : List va_W).flatten H := by rw [eu12]; exact hP
          have hD : va_D A ([wM cI cJ aM jM u12] : List va_W).flatten := by rw [eu12]; exact hD
          refine lv_aload_n hx hb dX7_putBits_47 rfl (lv_at hl 0 rfl) ?_
          refine lv_aload_n hx hb dX7_putBits_48 rfl (lv_at hl 0 rfl) ?_
          refine va_get (D := (dC, dI)) (ci := 8) (v := .int (u12.1 21)) (C := RX7) (T := TX7) (N := 34) hx hb ht inX7 hown hK hP 0 rfl rfl 21 (by decide) (ht _ kw_37) (fun _ h9 => h9) rfl dX7_putBits_49 ?_
          refine lv_iconst (v := (1 : Int32)) hx hb dX7_putBits_52 (by decide) ?_
          refine lv_iadd hx hb dX7_putBits_53 ?_
          refine lv_bipush (v := (8 : Int32)) hx hb dX7_putBits_54 (by decide) ?_
          refine lv_irem hx hb dX7_putBits_56 (by decide) ?_
          refine va_put (D := (dC, dI)) (ci := 8) (v := .int (((u12.1 21) + (1 : Int32)) - ((u12.1 21) + (1 : Int32)) / (8 : Int32) * (8 : Int32))) (ty := .int) (C := RX7) (T := TX7) (N := 34) hx hb ht inX7 tyX7 tyX7_ok nmX7 hown hK hP hD hS 0 rfl rfl 21 (by decide) (ht _ kw_37) (fun _ h9 => h9) rfl (by decide +kernel) rfl rfl (Nat.le_of_ble_eq_true rfl) dX7_putBits_57 (fun H locs hP hD hS => ?_)
          obtain ⟨u13, eu13, hm⟩ := bnd_ex hm
          have hP : va_P (dC, dI) vwCl ([wM cI cJ aM jM u13] : List va_W).flatten H := by rw [eu13]; exact hP
          have hD : va_D A ([wM cI cJ aM jM u13] : List va_W).flatten := by rw [eu13]; exact hD
          obtain ⟨x14, ex14, hm⟩ := bnd_ex hm
          refine lv_iinc (v := x14) (lv' := [(3, .int x14), (0, .ref aM), (1, .int p1), (2, .int p2)]) hx hb dX7_putBits_60 hl (k := 3) rfl (by rw [ex14]; exact congrArg _ (by decide)) (by decide) rfl (fun ls hl => ?_)
          refine lv_goto (tgt := 4) hx hb dX7_putBits_63 (by decide) ?_
          exact ih4 x14 u13 _ _ _ hm hP hD hS (lv_sub hl [1, 2, 3, 0] rfl)
        refine lv_if_ne (tgt := 20) hx hb dX7_putBits_12 (by decide) (fun c15 => ?_) (fun c15 => ?_)
        · have hm := ite_f c15 hm
          exact J20_9 u3 _ _ _ hm hP hD hS (lv_sub hl [0, 1, 2, 3] rfl)
        · have hm := ite_t c15 hm
          refine lv_aload_n hx hb dX7_putBits_15 rfl (lv_at hl 0 rfl) ?_
          refine lv_iconst (v := (0 : Int32)) hx hb dX7_putBits_16 (by decide) ?_
          have hPc : va_P (dC, dI) vwCl ([wM cI cJ aM jM u3] : List va_W).flatten _ := hP
          have hDc : va_D A ([wM cI cJ aM jM u3] : List va_W).flatten := hD
          have hFc := va_freeF (fc := ([wM cI cJ aM jM u3] : List va_W)) hD hS hA [0] rfl
          obtain ⟨u16o, e17, hm⟩ := oC1_of hm
          refine va_callv (va_runV (As := [.int (0 : Int32)]) (rest := []) ⟨hx, hb, hml, hown, ht⟩ (c_X7_putByte l dC dI cI cJ aM jM H.size u3 (0 : Int32) u16o e17) (cwV 1 ht (gdV kw_36 kw_34 kw_35 kw_7 kw_33) rfl rfl rfl ⟨rfl, nd_X7_putByte⟩ ⟨Nat.le_of_ble_eq_true rfl, Nat.le_of_ble_eq_true rfl⟩) ⟨pcW_blind, va_recv hK hPc (ci := 8) (q0 := 0) rfl rfl, pcW_pre hPc hK hDc hN⟩ rfl rfl hl.1 rfl (lv_room (Nat.le_of_ble_eq_true rfl)) dX7_putBits_17 ⟨Nat.zero_le _, Nat.zero_le _⟩) hS (fun q _ z => hFc q z) hFc (fun uu t H1 locs ht1 hvm hw hB hz1 hk1 hS => ?_)
          obtain ⟨u16, rfl⟩ : ∃ z, z = uu := ⟨_, rfl⟩
          obtain ⟨hP1, hD1⟩ := hB
          rw [ht1] at hP1
          obtain rfl : u16 = u16o := Option.some.inj hw
          have hP : va_P (dC, dI) vwCl ([wM cI cJ aM jM u16] : List va_W).flatten H1 := hP1
          have hD : va_D A ([wM cI cJ aM jM u16] : List va_W).flatten := hD1.weaken (fun _ q _ z => hFc q.1 z)
          generalize H1 = H at hP hS ⊢
          exact J20_9 u16 _ _ _ hm hP hD hS (lv_sub hl [0, 1, 2, 3] rfl)
  exact LP4 FU x1 uM _ _ _ hm hP hD hS (lv_sub hl [1, 2, 3, 0] rfl)

def f_X7_bitsOf_L2 (p1 : Int32) : Nat → (Int32 → Option (Int32)) → Int32 → Option (Int32)
  | 0, _, _ => none
  | n2 + 1, K14_3, x1 =>
    if (p1 >>> (x1 &&& (31 : Int32))) ≤ (0 : Int32) then (
    K14_3 x1) else (
    bnd (x1 + (1 : Int32)) fun x5 =>
    f_X7_bitsOf_L2 p1 n2 K14_3 x5)

def f_X7_bitsOf (p1 : Int32) : Option (Int32) :=
  bnd (fun (x2 : Int32) =>
  some x2) fun K14_3 =>
  f_X7_bitsOf_L2 p1 FU K14_3 (0 : Int32)

set_option maxHeartbeats 4000000 in
set_option maxRecDepth 100000 in
theorem c_X7_bitsOf (l : Launch) (dC : Nat → ClassId) (dI : Nat → Nat → Nat) (cI cJ : ClassId) (sz : Nat) (p1 : Int32) (o : Int32) (hm : f_X7_bitsOf p1 = some o) : Met l yX7_bitsOf (wq yX7_bitsOf cX7_bitsOf 2 (some .int)) ({ frames := 0, cells := 0, slots := 0, locals := 0 } : Room) (va_Pc [.int p1] (pcW dC dI cI cJ sz ([] : List va_W).flatten)) (va_Qi (S := Unit) (fun r u => some r = some o) (fun (u : Unit) t => va_P (dC, dI) vwCl ([] : List va_W).flatten t.heap ∧ va_D (va_A ([] : List va_W).flatten sz) ([] : List va_W).flatten) (va_A ([] : List va_W).flatten sz)) 0 0 (va_A ([] : List va_W).flatten sz) := by
  refine Met.ofW (cc := cX7_bitsOf) (maxL := 2) (ret := (some .int)) (by decide) rfl ?_
  intro p e s m args below meth c s₁ B hml hv
  obtain ⟨rfl, hsz, hP, hK, hD0, hN⟩ := hv
  have hx := B.exec
  have hb := B.bytes
  have hr := B.returns
  have ht : ∀ w ∈ lw_good, w.before _ s = true := fun w h => atoms_spec (ws := wq yX7_bitsOf cX7_bitsOf 2 (some .int)) B.pre w (wq_mem h)
  have hown : s.vm.findClass RX7 = some m.cls := findClass_of_methodNamed B.named
  have hlocks := B.notSynchronized
  subst hsz
  have hD := hD0.self (sz := s.heap.size)
  generalize hAe : va_A ([] : List va_W).flatten s.heap.size = A at hD ⊢
  have hA : ∀ q : Nat, s.heap.size ≤ q → A q := fun q h => by rw [← hAe]; exact Or.inr h
  have hS : va_S A s.heap s.heap [] := va_S.rf
  have hl := lv_entry ([.int p1]) (n := 2) (Nat.le_of_ble_eq_true rfl)
  rw [lg_entry_eq]
  generalize (lg_sl ([.int p1]) ++ List.replicate (2 - (lg_sl ([.int p1])).length) Slot.unset).toArray = ls at hl ⊢
  have hl : lv_has ls 2 [(0, .int p1)] := hl
  generalize hQ : MQ below _ _ s _ _ _ = Q
  generalize hH : s.heap = H at hP ⊢
  have hS : va_S A s.heap H [] := by rw [← hH]; exact va_S.rf
  show W p l e ({ frames := 0, cells := 0, slots := 0, locals := 0 } : Room) s m ([.int p1] : List Value).toArray below meth c H [] 0 0 Q (F0 m 0 ls [])
  unfold f_X7_bitsOf at hm
  refine lv_iconst (v := (0 : Int32)) hx hb dX7_bitsOf_0 (by decide) ?_
  refine lv_istore_n (lv' := [(1, .int (0 : Int32)), (0, .int p1)]) hx hb dX7_bitsOf_1 rfl hl (by decide) rfl (fun ls hl => ?_)
  obtain ⟨K14_3, eK14_3, hm⟩ := bnd_ex hm
  have X14_3 : ∀ (x2 : Int32) (H : Heap) (locs : List Loc) (ls : Array Slot), K14_3 x2 = some o → va_P (dC, dI) vwCl ([] : List va_W).flatten H → va_D A ([] : List va_W).flatten → va_S A s.heap H locs → lv_has ls 2 [(0, .int p1), (1, .int x2)] → W p l e ({ frames := 0, cells := 0, slots := 0, locals := 0 } : Room) s m ([.int p1] : List Value).toArray below meth c H locs 0 0 Q (F0 m 14 ls []) := by
    intro x2 H locs ls hm hP hD hS hl
    have hm := ap1 eK14_3 hm
    refine lv_iload_n hx hb dX7_bitsOf_14 rfl (lv_at hl 1 rfl) ?_
    rw [← hQ]
    exact W.iret (v := x2) hx hb hr (fun t ht1 hW => ⟨⟨_, (), rfl, hm, by rw [ht1]; exact hP, hD⟩, hS.F ht1⟩) hS.2.2 dX7_bitsOf_15
  have LP2 : ∀ (n2 : Nat) (x1 : Int32) (H : Heap) (locs : List Loc) (ls : Array Slot), f_X7_bitsOf_L2 p1 n2 K14_3 x1 = some o → va_P (dC, dI) vwCl ([] : List va_W).flatten H → va_D A ([] : List va_W).flatten → va_S A s.heap H locs → lv_has ls 2 [(0, .int p1), (1, .int x1)] → W p l e ({ frames := 0, cells := 0, slots := 0, locals := 0 } : Room) s m ([.int p1] : List Value).toArray below meth c H locs 0 0 Q (F0 m 2 ls []) := by
    intro n2
    induction n2 with
    | zero => intro x1 H locs ls hm; exact nomatch (show (none : Option _) = some _ from hm)
    | succ n2 ih2 =>
      intro x1 H locs ls hm hP hD hS hl
      unfold f_X7_bitsOf_L2 at hm
      refine lv_iload_n hx hb dX7_bitsOf_2 rfl (lv_at hl 0 rfl) ?_
      refine lv_iload_n hx hb dX7_bitsOf_3 rfl (lv_at hl 1 rfl) ?_
      refine lv_ishr hx hb dX7_bitsOf_4 ?_
      refine lv_if_le (tgt := 14) hx hb dX7_bitsOf_5 (by decide) (fun c4 => ?_) (fun c4 => ?_)
      · have hm := ite_t c4 hm
        exact X14_3 x1 _ _ _ hm hP hD hS (lv_sub hl [0, 1] rfl)
      · have hm := ite_f c4 hm
        obtain ⟨x5, ex5, hm⟩ := bnd_ex hm
        refine lv_iinc (v := x5) (lv' := [(1, .int x5), (0, .int p1)]) hx hb dX7_bitsOf_8 hl (k := 1) rfl (by rw [ex5]; exact congrArg _ (by decide)) (by decide) rfl (fun ls hl => ?_)
        refine lv_goto (tgt := 2) hx hb dX7_bitsOf_11 (by decide) ?_
        exact ih2 x5 _ _ _ hm hP hD hS (lv_sub hl [1, 0] rfl)
  exact LP2 FU (0 : Int32) _ _ _ hm hP hD hS (lv_sub hl [1, 0] rfl)

def f_X7_writeTable_L14 : Nat → (Int32 → Int32 → OS → Option (OS)) → Int32 → Int32 → OS → Option (OS)
  | 0, _, _, _, _ => none
  | n14 + 1, K53_9, x3, x4, u5 =>
    if (32 : Int32) ≤ x3 then (
    K53_9 x4 x3 u5) else (
    if x4 ≤ (0 : Int32) then (
    K53_9 x4 x3 u5) else (
    gdi x3 64 <|
    oC1 (f_X7_bitsOf x4) fun r14 =>
    oC1 (f_X7_putBits u5 (u5.2.1 8 (x3).toNatClampNeg) r14) fun u16 =>
    gdi x3 64 <|
    bnd (x4 - (u16.2.1 8 (x3).toNatClampNeg)) fun x19 =>
    bnd (x3 + (1 : Int32)) fun x20 =>
    f_X7_writeTable_L14 n14 K53_9 x20 x19 u16))

def f_X7_writeTable (uM : OS) : Option (OS) :=
  bnd ((1 : Int32) <<< ((uM.1 0) &&& (31 : Int32))) fun x1 =>
  bnd (sF uM 21 (0 : Int32)) fun u2 =>
  bnd (fun (x6 : Int32) (x7 : Int32) (u8 : OS) =>
  bnd (sF u8 21 (0 : Int32)) fun u10 =>
  some u10) fun K53_9 =>
  f_X7_writeTable_L14 FU K53_9 (0 : Int32) x1 u2

set_option maxHeartbeats 4000000 in
set_option maxRecDepth 100000 in
theorem c_X7_writeTable (l : Launch) (dC : Nat → ClassId) (dI : Nat → Nat → Nat) (cI cJ : ClassId) (aM : Nat) (jM : Nat → Nat) (sz : Nat) (uM : OS) (o : OS) (hm : f_X7_writeTable uM = some o) : Met l yX7_writeTable (wq yX7_writeTable cX7_writeTable 3 none) ({ frames := 2, cells := 0, slots := 0, locals := 44 } : Room) (va_Pc [.ref aM] (pcW dC dI cI cJ sz ([wM cI cJ aM jM uM] : List va_W).flatten)) (va_Qv (S := OS) (fun u => some u = some o) (fun (u : OS) t => va_P (dC, dI) vwCl ([wM cI cJ aM jM u] : List va_W).flatten t.heap ∧ va_D (va_A ([wM cI cJ aM jM uM] : List va_W).flatten sz) ([wM cI cJ aM jM u] : List va_W).flatten) (va_A ([wM cI cJ aM jM uM] : List va_W).flatten sz)) 0 0 (va_A ([wM cI cJ aM jM uM] : List va_W).flatten sz) := by
  refine Met.ofW (cc := cX7_writeTable) (maxL := 3) (ret := none) (by decide) rfl ?_
  intro p e s m args below meth c s₁ B hml hv
  obtain ⟨rfl, hsz, hP, hK, hD0, hN⟩ := hv
  have hx := B.exec
  have hb := B.bytes
  have hr := B.returns
  have ht : ∀ w ∈ lw_good, w.before _ s = true := fun w h => atoms_spec (ws := wq yX7_writeTable cX7_writeTable 3 none) B.pre w (wq_mem h)
  have hown : s.vm.findClass RX7 = some m.cls := findClass_of_methodNamed B.named
  have hlocks := B.notSynchronized
  subst hsz
  have hD := hD0.self (sz := s.heap.size)
  generalize hAe : va_A ([wM cI cJ aM jM uM] : List va_W).flatten s.heap.size = A at hD ⊢
  have hA : ∀ q : Nat, s.heap.size ≤ q → A q := fun q h => by rw [← hAe]; exact Or.inr h
  have hS : va_S A s.heap s.heap [] := va_S.rf
  have hl := lv_entry ([.ref aM]) (n := 3) (Nat.le_of_ble_eq_true rfl)
  rw [lg_entry_eq]
  generalize (lg_sl ([.ref aM]) ++ List.replicate (3 - (lg_sl ([.ref aM])).length) Slot.unset).toArray = ls at hl ⊢
  have hl : lv_has ls 3 [(0, .ref aM)] := hl
  generalize hQ : MQ below _ _ s _ _ _ = Q
  generalize hH : s.heap = H at hP ⊢
  have hS : va_S A s.heap H [] := by rw [← hH]; exact va_S.rf
  show W p l e ({ frames := 2, cells := 0, slots := 0, locals := 44 } : Room) s m ([.ref aM] : List Value).toArray below meth c H [] 0 0 Q (F0 m 0 ls [])
  unfold f_X7_writeTable at hm
  refine lv_iconst (v := (1 : Int32)) hx hb dX7_writeTable_0 (by decide) ?_
  refine lv_aload_n hx hb dX7_writeTable_1 rfl (lv_at hl 0 rfl) ?_
  refine va_get (D := (dC, dI)) (ci := 8) (v := .int (uM.1 0)) (C := RX7) (T := TX7) (N := 34) hx hb ht inX7 hown hK hP 0 rfl rfl 0 (by decide) (ht _ kw_14) (fun _ h9 => h9) rfl dX7_writeTable_2 ?_
  refine lv_ishl hx hb dX7_writeTable_5 ?_
  refine lv_topi (fun x1 ex1 => ?_)
  have hm := bnd_nm ex1 hm
  refine lv_istore_n (lv' := [(1, .int x1), (0, .ref aM)]) hx hb dX7_writeTable_6 rfl hl (by decide) rfl (fun ls hl => ?_)
  refine lv_aload_n hx hb dX7_writeTable_7 rfl (lv_at hl 1 rfl) ?_
  refine lv_iconst (v := (0 : Int32)) hx hb dX7_writeTable_8 (by decide) ?_
  refine va_put (D := (dC, dI)) (ci := 8) (v := .int (0 : Int32)) (ty := .int) (C := RX7) (T := TX7) (N := 34) hx hb ht inX7 tyX7 tyX7_ok nmX7 hown hK hP hD hS 0 rfl rfl 21 (by decide) (ht _ kw_37) (fun _ h9 => h9) rfl (by decide +kernel) rfl rfl (Nat.le_of_ble_eq_true rfl) dX7_writeTable_9 (fun H locs hP hD hS => ?_)
  obtain ⟨u2, eu2, hm⟩ := bnd_ex hm
  have hP : va_P (dC, dI) vwCl ([wM cI cJ aM jM u2] : List va_W).flatten H := by rw [eu2]; exact hP
  have hD : va_D A ([wM cI cJ aM jM u2] : List va_W).flatten := by rw [eu2]; exact hD
  refine lv_iconst (v := (0 : Int32)) hx hb dX7_writeTable_12 (by decide) ?_
  refine lv_istore_n (lv' := [(2, .int (0 : Int32)), (1, .int x1), (0, .ref aM)]) hx hb dX7_writeTable_13 rfl hl (by decide) rfl (fun ls hl => ?_)
  obtain ⟨K53_9, eK53_9, hm⟩ := bnd_ex hm
  have X53_9 : ∀ (x6 : Int32) (x7 : Int32) (u8 : OS) (H : Heap) (locs : List Loc) (ls : Array Slot), K53_9 x6 x7 u8 = some o → va_P (dC, dI) vwCl ([wM cI cJ aM jM u8] : List va_W).flatten H → va_D A ([wM cI cJ aM jM u8] : List va_W).flatten → va_S A s.heap H locs → lv_has ls 3 [(0, .ref aM), (1, .int x6), (2, .int x7)] → W p l e ({ frames := 2, cells := 0, slots := 0, locals := 44 } : Room) s m ([.ref aM] : List Value).toArray below meth c H locs 0 0 Q (F0 m 53 ls []) := by
    intro x6 x7 u8 H locs ls hm hP hD hS hl
    have hm := ap3 eK53_9 hm
    refine lv_aload_n hx hb dX7_writeTable_53 rfl (lv_at hl 0 rfl) ?_
    refine lv_iconst (v := (0 : Int32)) hx hb dX7_writeTable_54 (by decide) ?_
    refine va_put (D := (dC, dI)) (ci := 8) (v := .int (0 : Int32)) (ty := .int) (C := RX7) (T := TX7) (N := 34) hx hb ht inX7 tyX7 tyX7_ok nmX7 hown hK hP hD hS 0 rfl rfl 21 (by decide) (ht _ kw_37) (fun _ h9 => h9) rfl (by decide +kernel) rfl rfl (Nat.le_of_ble_eq_true rfl) dX7_writeTable_55 (fun H locs hP hD hS => ?_)
    obtain ⟨u10, eu10, hm⟩ := bnd_ex hm
    have hP : va_P (dC, dI) vwCl ([wM cI cJ aM jM u10] : List va_W).flatten H := by rw [eu10]; exact hP
    have hD : va_D A ([wM cI cJ aM jM u10] : List va_W).flatten := by rw [eu10]; exact hD
    rw [← hQ]
    exact W.vret hx hb hr (fun t ht1 hW => ⟨⟨u10, rfl, hm, by rw [ht1]; exact hP, hD⟩, hS.F ht1⟩) hS.2.2 dX7_writeTable_58
  have LP14 : ∀ (n14 : Nat) (x3 : Int32) (x4 : Int32) (u5 : OS) (H : Heap) (locs : List Loc) (ls : Array Slot), f_X7_writeTable_L14 n14 K53_9 x3 x4 u5 = some o → va_P (dC, dI) vwCl ([wM cI cJ aM jM u5] : List va_W).flatten H → va_D A ([wM cI cJ aM jM u5] : List va_W).flatten → va_S A s.heap H locs → lv_has ls 3 [(0, .ref aM), (1, .int x4), (2, .int x3)] → W p l e ({ frames := 2, cells := 0, slots := 0, locals := 44 } : Room) s m ([.ref aM] : List Value).toArray below meth c H locs 0 0 Q (F0 m 14 ls []) := by
    intro n14
    induction n14 with
    | zero => intro x3 x4 u5 H locs ls hm; exact nomatch (show (none : Option _) = some _ from hm)
    | succ n14 ih14 =>
      intro x3 x4 u5 H locs ls hm hP hD hS hl
      unfold f_X7_writeTable_L14 at hm
      refine lv_iload_n hx hb dX7_writeTable_14 rfl (lv_at hl 2 rfl) ?_
      refine lv_bipush (v := (32 : Int32)) hx hb dX7_writeTable_15 (by decide) ?_
      refine lv_icmp_ge (tgt := 53) hx hb dX7_writeTable_17 (by decide) (fun c11 => ?_) (fun c11 => ?_)
      · have hm := ite_t c11 hm
        exact X53_9 x4 x3 u5 _ _ _ hm hP hD hS (lv_sub hl [0, 1, 2] rfl)
      · have hm := ite_f c11 hm
        refine lv_iload_n hx hb dX7_writeTable_20 rfl (lv_at hl 1 rfl) ?_
        refine lv_if_le (tgt := 53) hx hb dX7_writeTable_21 (by decide) (fun c12 => ?_) (fun c12 => ?_)
        · have hm := ite_t c12 hm
          exact X53_9 x4 x3 u5 _ _ _ hm hP hD hS (lv_sub hl [0, 1, 2] rfl)
        · have hm := ite_f c12 hm
          refine lv_aload_n hx hb dX7_writeTable_24 rfl (lv_at hl 0 rfl) ?_
          refine lv_aload_n hx hb dX7_writeTable_25 rfl (lv_at hl 0 rfl) ?_
          refine va_get (D := (dC, dI)) (ci := 8) (v := .ref (jM 8)) (C := RX7) (T := TX7) (N := 34) hx hb ht inX7 hown hK hP 0 rfl rfl 8 (by decide) (ht _ kw_18) (fun _ h9 => h9) rfl dX7_writeTable_26 ?_
          refine lv_iload_n hx hb dX7_writeTable_29 rfl (lv_at hl 2 rfl) ?_
          obtain ⟨g13, hm⟩ := gdi_of hm
          refine va_iald hx hb hK hP 3 0 rfl rfl g13 dX7_writeTable_30 ?_
          refine lv_iload_n hx hb dX7_writeTable_31 rfl (lv_at hl 1 rfl) ?_
          have hPc : va_P (dC, dI) vwCl ([] : List va_W).flatten _ := hP.subF [] rfl
          have hDc : va_D A ([] : List va_W).flatten := hD.subF [] (by decide) rfl
          have hFc := va_freeF (fc := ([] : List va_W)) hD hS hA [] rfl
          obtain ⟨r14o, e15, hm⟩ := oC1_of hm
          refine va_calli (va_runS (As := [.int x4]) (rest := [.int (u5.2.1 8 (x3).toNatClampNeg), .ref aM]) ⟨hx, hb, hml, hown, ht⟩ (c_X7_bitsOf l dC dI cI cJ H.size x4 r14o e15) (va_cwS 1 ht (gdS kw_40 kw_39 kw_7 kw_38) rfl rfl rfl nd_X7_bitsOf ⟨Nat.le_of_ble_eq_true rfl, Nat.le_of_ble_eq_true rfl⟩) ⟨pcW_blind, pcW_pre hPc hK hDc hN⟩ rfl rfl hl.1 rfl (lv_room (Nat.le_of_ble_eq_true rfl)) dX7_writeTable_32 ⟨Nat.zero_le _, Nat.zero_le _⟩) hS (fun q _ z => hFc q z) hFc (fun r14 uu t H1 locs ht1 hvm hw hB hz1 hk1 hS => ?_)
          obtain ⟨⟩ := uu
          obtain ⟨hP1, hD1⟩ := hB
          rw [ht1] at hP1
          obtain rfl : r14 = r14o := Option.some.inj hw
          obtain ⟨hP, hD⟩ := va_joinF (fr := ([wM cI cJ aM jM u5] : List va_W)) (f1 := ([] : List va_W)) hP hD [] [0] rfl rfl (by decide) (by decide) hk1 hFc hP1 hD1
          have hP : va_P (dC, dI) vwCl ([wM cI cJ aM jM u5] : List va_W).flatten H1 := hP
          have hD : va_D A ([wM cI cJ aM jM u5] : List va_W).flatten := hD
          generalize H1 = H at hP hS ⊢
          have hPc : va_P (dC, dI) vwCl ([wM cI cJ aM jM u5] : List va_W).flatten _ := hP
          have hDc : va_D A ([wM cI cJ aM jM u5] : List va_W).flatten := hD
          have hFc := va_freeF (fc := ([wM cI cJ aM jM u5] : List va_W)) hD hS hA [0] rfl
          obtain ⟨u16o, e17, hm⟩ := oC1_of hm
          refine va_callv (va_runV (As := [.int (u5.2.1 8 (x3).toNatClampNeg), .int r14]) (rest := []) ⟨hx, hb, hml, hown, ht⟩ (c_X7_putBits l dC dI cI cJ aM jM H.size u5 (u5.2.1 8 (x3).toNatClampNeg) r14 u16o e17) (cwV 2 ht (gdV kw_44 kw_42 kw_43 kw_7 kw_41) rfl rfl rfl ⟨rfl, nd_X7_putBits⟩ ⟨Nat.le_of_ble_eq_true rfl, Nat.le_of_ble_eq_true rfl⟩) ⟨pcW_blind, va_recv hK hPc (ci := 8) (q0 := 0) rfl rfl, pcW_pre hPc hK hDc hN⟩ rfl rfl hl.1 rfl (lv_room (Nat.le_of_ble_eq_true rfl)) dX7_writeTable_35 ⟨Nat.zero_le _, Nat.zero_le _⟩) hS (fun q _ z => hFc q z) hFc (fun uu t H1 locs ht1 hvm hw hB hz1 hk1 hS => ?_)
          obtain ⟨u16, rfl⟩ : ∃ z, z = uu := ⟨_, rfl⟩
          obtain ⟨hP1, hD1⟩ := hB
          rw [ht1] at hP1
          obtain rfl : u16 = u16o := Option.some.inj hw
          have hP : va_P (dC, dI) vwCl ([wM cI cJ aM jM u16] : List va_W).flatten H1 := hP1
          have hD : va_D A ([wM cI cJ aM jM u16] : List va_W).flatten := hD1.weaken (fun _ q _ z => hFc q.1 z)
          generalize H1 = H at hP hS ⊢
          refine lv_iload_n hx hb dX7_writeTable_38 rfl (lv_at hl 1 rfl) ?_
          refine lv_aload_n hx hb dX7_writeTable_39 rfl (lv_at hl 0 rfl) ?_
          refine va_get (D := (dC, dI)) (ci := 8) (v := .ref (jM 8)) (C := RX7) (T := TX7) (N := 34) hx hb ht inX7 hown hK hP 0 rfl rfl 8 (by decide) (ht _ kw_18) (fun _ h9 => h9) rfl dX7_writeTable_40 ?_
          refine lv_iload_n hx hb dX7_writeTable_43 rfl (lv_at hl 2 rfl) ?_
          obtain ⟨g18, hm⟩ := gdi_of hm
          refine va_iald hx hb hK hP 3 0 rfl rfl g18 dX7_writeTable_44 ?_
          refine lv_isub hx hb dX7_writeTable_45 ?_
          refine lv_topi (fun x19 ex19 => ?_)
          have hm := bnd_nm ex19 hm
          refine lv_istore_n (lv' := [(1, .int x19), (0, .ref aM), (2, .int x3)]) hx hb dX7_writeTable_46 rfl hl (by decide) rfl (fun ls hl => ?_)
          obtain ⟨x20, ex20, hm⟩ := bnd_ex hm
          refine lv_iinc (v := x20) (lv' := [(2, .int x20), (1, .int x19), (0, .ref aM)]) hx hb dX7_writeTable_47 hl (k := 2) rfl (by rw [ex20]; exact congrArg _ (by decide)) (by decide) rfl (fun ls hl => ?_)
          refine lv_goto (tgt := 14) hx hb dX7_writeTable_50 (by decide) ?_
          exact ih14 x20 x19 u16 _ _ _ hm hP hD hS (lv_sub hl [2, 1, 0] rfl)
  exact LP14 FU (0 : Int32) x1 u2 _ _ _ hm hP hD hS (lv_sub hl [2, 1, 0] rfl)

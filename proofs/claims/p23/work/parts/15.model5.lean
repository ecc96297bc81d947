def f_X7_readSign_L93 (x2 : Int32) : Nat → (Int64 → OS → Option (OS)) → Int64 → OS → Option (OS)
  | 0, _, _, _ => none
  | n93 + 1, K126_39, y35, u36 =>
    if ((1 : Int64) <<< ((x2).toInt64 &&& (63 : Int64))) ≤ y35 then (
    K126_39 y35 u36) else (
    if (u36.1 27) = (0 : Int32) then (
    oC2 (f_X7_nextBit u36) fun u50 r51 =>
    bnd (((2 : Int64) * y35) + (r51).toInt64) fun y53 =>
    f_X7_readSign_L93 x2 n93 K126_39 y53 u50) else (
    K126_39 y35 u36))

def f_X7_readSign (uM : OS) (p1 : Int32) : Option (OS) :=
  gdi (1 : Int32) 2 <|
  bnd (uM.2.1 10 ((1 : Int32)).toNatClampNeg) fun x2 =>
  bnd (fun (x3 : Int32) (u4 : OS) =>
  if (u4.1 27) = (0 : Int32) then (
  gdi (u4.1 25) 65536 <|
  bnd (sA u4 24 (u4.1 25) x3) fun u8 =>
  bnd (sF u8 25 ((u8.1 25) + (1 : Int32))) fun u9 =>
  some u9) else (
  some u4)) fun K247_5 =>
  if (uM.1 30) = (3 : Int32) then (
  oC2 (f_X7_readSides uM p1) fun u55 r56 =>
  K247_5 r56 u55) else (
  if (uM.1 30) = (2 : Int32) then (
  gdi p1 4 <|
  bnd (((uM.2.2.1 33 (p1).toNatClampNeg)).toInt32 - ((1 : Int32) <<< (x2 &&& (31 : Int32)))) fun x27 =>
  gdi ((4096 : Int32) + x27) 8192 <|
  bnd (uM.2.1 11 (((4096 : Int32) + x27)).toNatClampNeg) fun x29 =>
  gdi ((4096 : Int32) + x27) 8192 <|
  bnd ((uM.2.1 12 (((4096 : Int32) + x27)).toNatClampNeg)).toInt64 fun y31 =>
  gdi ((32 : Int32) + x29) 64 <|
  bnd (fun (x33 : Int32) =>
  bnd (fun (y37 : Int64) (u38 : OS) =>
  bnd (fun (y40 : Int64) =>
  gdi p1 4 <|
  bnd (sL u38 33 p1 y40) fun u43 =>
  K247_5 x29 u43) fun K154_41 =>
  bnd (gdi p1 4 <|
  K154_41 (u38.2.2.1 33 (p1).toNatClampNeg)) fun K148_44 =>
  if (u38.1 27) = (0 : Int32) then (
  if x33 = (0 : Int32) then (
  K154_41 y37) else (
  K148_44)) else (
  K148_44)) fun K126_39 =>
  f_X7_readSign_L93 x2 FU K126_39 y31 uM) fun K91_34 =>
  if (uM.2.1 8 (((32 : Int32) + x29)).toNatClampNeg) = ((1 : Int32) <<< (x2 &&& (31 : Int32))) then (
  K91_34 (1 : Int32)) else (
  K91_34 (0 : Int32))) else (
  gdi p1 4 <|
  oC1 (f_X7_signOf uM (((uM.2.2.1 33 (p1).toNatClampNeg) &&& (((1 : Int64) <<< ((x2).toInt64 &&& (63 : Int64))) - (1 : Int64)))).toInt32) fun r13 =>
  gdi ((32 : Int32) + r13) 64 <|
  if ((1 : Int32) <<< (x2 &&& (31 : Int32))) ≤ (uM.2.1 8 (((32 : Int32) + r13)).toNatClampNeg) then (
  K247_5 r13 uM) else (
  if (uM.1 30) = (0 : Int32) then (
  gdi ((32 : Int32) + r13) 64 <|
  gdi ((32 : Int32) + r13) 64 <|
  oC1 (f_X7_readBytes uM p1 (uM.2.1 8 (((32 : Int32) + r13)).toNatClampNeg) (uM.2.1 9 (((32 : Int32) + r13)).toNatClampNeg)) fun u24 =>
  K247_5 r13 u24) else (
  gdi ((32 : Int32) + r13) 64 <|
  gdi ((32 : Int32) + r13) 64 <|
  oC1 (f_X7_readWords uM p1 (uM.2.1 8 (((32 : Int32) + r13)).toNatClampNeg) (uM.2.1 9 (((32 : Int32) + r13)).toNatClampNeg)) fun u20 =>
  K247_5 r13 u20))))

set_option maxHeartbeats 4000000 in
set_option maxRecDepth 100000 in
theorem c_X7_readSign (l : Launch) (dC : Nat → ClassId) (dI : Nat → Nat → Nat) (cI cJ : ClassId) (aM : Nat) (jM : Nat → Nat) (sz : Nat) (uM : OS) (p1 : Int32) (o : OS) (hm : f_X7_readSign uM p1 = some o) : Met l yX7_readSign (wq yX7_readSign cX7_readSign 8 none) ({ frames := 4, cells := 0, slots := 0, locals := 93 } : Room) (va_Pc [.ref aM, .int p1] (pcW dC dI cI cJ sz ([wM cI cJ aM jM uM] : List va_W).flatten)) (va_Qv (S := OS) (fun u => some u = some o) (fun (u : OS) t => va_P (dC, dI) vwCl ([wM cI cJ aM jM u] : List va_W).flatten t.heap ∧ va_D (va_A ([wM cI cJ aM jM uM] : List va_W).flatten sz) ([wM cI cJ aM jM u] : List va_W).flatten) (va_A ([wM cI cJ aM jM uM] : List va_W).flatten sz)) 0 0 (va_A ([wM cI cJ aM jM uM] : List va_W).flatten sz) := by
  refine Met.ofW (cc := cX7_readSign) (maxL := 8) (ret := none) (by decide) rfl ?_
  intro p e s m args below meth c s₁ B hml hv
  obtain ⟨rfl, hsz, hP, hK, hD0, hN⟩ := hv
  have hx := B.exec
  have hb := B.bytes
  have hr := B.returns
  have ht : ∀ w ∈ lw_good, w.before _ s = true := fun w h => atoms_spec (ws := wq yX7_readSign cX7_readSign 8 none) B.pre w (wq_mem h)
  have hown : s.vm.findClass RX7 = some m.cls := findClass_of_methodNamed B.named
  have hlocks := B.notSynchronized
  subst hsz
  have hD := hD0.self (sz := s.heap.size)
  generalize hAe : va_A ([wM cI cJ aM jM uM] : List va_W).flatten s.heap.size = A at hD ⊢
  have hA : ∀ q : Nat, s.heap.size ≤ q → A q := fun q h => by rw [← hAe]; exact Or.inr h
  have hS : va_S A s.heap s.heap [] := va_S.rf
  have hl := lv_entry ([.ref aM, .int p1]) (n := 8) (Nat.le_of_ble_eq_true rfl)
  rw [lg_entry_eq]
  generalize (lg_sl ([.ref aM, .int p1]) ++ List.replicate (8 - (lg_sl ([.ref aM, .int p1])).length) Slot.unset).toArray = ls at hl ⊢
  have hl : lv_has ls 8 [(0, .ref aM), (1, .int p1)] := hl
  generalize hQ : MQ below _ _ s _ _ _ = Q
  generalize hH : s.heap = H at hP ⊢
  have hS : va_S A s.heap H [] := by rw [← hH]; exact va_S.rf
  show W p l e ({ frames := 4, cells := 0, slots := 0, locals := 93 } : Room) s m ([.ref aM, .int p1] : List Value).toArray below meth c H [] 0 0 Q (F0 m 0 ls [])
  unfold f_X7_readSign at hm
  refine lv_aload_n hx hb dX7_readSign_0 rfl (lv_at hl 0 rfl) ?_
  refine va_get (D := (dC, dI)) (ci := 8) (v := .ref (jM 10)) (C := RX7) (T := TX7) (N := 34) hx hb ht inX7 hown hK hP 0 rfl rfl 10 (by decide) (ht _ kw_19) (fun _ h9 => h9) rfl dX7_readSign_1 ?_
  refine lv_iconst (v := (1 : Int32)) hx hb dX7_readSign_4 (by decide) ?_
  obtain ⟨g1, hm⟩ := gdi_of hm
  refine va_iald hx hb hK hP 5 0 rfl rfl g1 dX7_readSign_5 ?_
  refine lv_topi (fun x2 ex2 => ?_)
  have hm := bnd_nm ex2 hm
  refine lv_istore_n (lv' := [(2, .int x2), (0, .ref aM), (1, .int p1)]) hx hb dX7_readSign_6 rfl hl (by decide) rfl (fun ls hl => ?_)
  refine lv_aload_n hx hb dX7_readSign_7 rfl (lv_at hl 1 rfl) ?_
  refine va_get (D := (dC, dI)) (ci := 8) (v := .int (uM.1 30)) (C := RX7) (T := TX7) (N := 34) hx hb ht inX7 hown hK hP 0 rfl rfl 30 (by decide) (ht _ kw_110) (fun _ h9 => h9) rfl dX7_readSign_8 ?_
  refine lv_iconst (v := (3 : Int32)) hx hb dX7_readSign_11 (by decide) ?_
  obtain ⟨K247_5, eK247_5, hm⟩ := bnd_ex hm
  have J247_5 : ∀ (x3 : Int32) (u4 : OS) (H : Heap) (locs : List Loc) (ls : Array Slot), K247_5 x3 u4 = some o → va_P (dC, dI) vwCl ([wM cI cJ aM jM u4] : List va_W).flatten H → va_D A ([wM cI cJ aM jM u4] : List va_W).flatten → va_S A s.heap H locs → lv_has ls 8 [(0, .ref aM), (1, .int p1), (2, .int x2), (3, .int x3)] → W p l e ({ frames := 4, cells := 0, slots := 0, locals := 93 } : Room) s m ([.ref aM, .int p1] : List Value).toArray below meth c H locs 0 0 Q (F0 m 247 ls []) := by
    intro x3 u4 H locs ls hm hP hD hS hl
    have hm := ap2 eK247_5 hm
    refine lv_aload_n hx hb dX7_readSign_247 rfl (lv_at hl 0 rfl) ?_
    refine va_get (D := (dC, dI)) (ci := 8) (v := .int (u4.1 27)) (C := RX7) (T := TX7) (N := 34) hx hb ht inX7 hown hK hP 0 rfl rfl 27 (by decide) (ht _ kw_95) (fun _ h9 => h9) rfl dX7_readSign_248 ?_
    refine lv_if_ne (tgt := 274) hx hb dX7_readSign_251 (by decide) (fun c6 => ?_) (fun c6 => ?_)
    · have hm := ite_f c6 hm
      rw [← hQ]
      exact W.vret hx hb hr (fun t ht1 hW => ⟨⟨u4, rfl, hm, by rw [ht1]; exact hP, hD⟩, hS.F ht1⟩) hS.2.2 dX7_readSign_274
    · have hm := ite_t c6 hm
      refine lv_aload_n hx hb dX7_readSign_254 rfl (lv_at hl 0 rfl) ?_
      refine va_get (D := (dC, dI)) (ci := 8) (v := .ref (jM 24)) (C := RX7) (T := TX7) (N := 34) hx hb ht inX7 hown hK hP 0 rfl rfl 24 (by decide) (ht _ kw_120) (fun _ h9 => h9) rfl dX7_readSign_255 ?_
      refine lv_aload_n hx hb dX7_readSign_258 rfl (lv_at hl 0 rfl) ?_
      refine va_get (D := (dC, dI)) (ci := 8) (v := .int (u4.1 25)) (C := RX7) (T := TX7) (N := 34) hx hb ht inX7 hown hK hP 0 rfl rfl 25 (by decide) (ht _ kw_121) (fun _ h9 => h9) rfl dX7_readSign_259 ?_
      refine lv_iload_n hx hb dX7_readSign_262 rfl (lv_at hl 3 rfl) ?_
      obtain ⟨g7, hm⟩ := gdi_of hm
      refine va_iast hx hb hK hP hD hS 13 0 rfl rfl g7 dX7_readSign_263 (fun H locs hP hD hS => ?_)
      obtain ⟨u8, eu8, hm⟩ := bnd_ex hm
      have hP : va_P (dC, dI) vwCl ([wM cI cJ aM jM u8] : List va_W).flatten H := by rw [eu8]; exact hP
      have hD : va_D A ([wM cI cJ aM jM u8] : List va_W).flatten := by rw [eu8]; exact hD
      refine lv_aload_n hx hb dX7_readSign_264 rfl (lv_at hl 0 rfl) ?_
      refine lv_dup hx hb dX7_readSign_265 rfl ?_
      refine va_get (D := (dC, dI)) (ci := 8) (v := .int (u8.1 25)) (C := RX7) (T := TX7) (N := 34) hx hb ht inX7 hown hK hP 0 rfl rfl 25 (by decide) (ht _ kw_121) (fun _ h9 => h9) rfl dX7_readSign_266 ?_
      refine lv_iconst (v := (1 : Int32)) hx hb dX7_readSign_269 (by decide) ?_
      refine lv_iadd hx hb dX7_readSign_270 ?_
      refine va_put (D := (dC, dI)) (ci := 8) (v := .int ((u8.1 25) + (1 : Int32))) (ty := .int) (C := RX7) (T := TX7) (N := 34) hx hb ht inX7 tyX7 tyX7_ok nmX7 hown hK hP hD hS 0 rfl rfl 25 (by decide) (ht _ kw_121) (fun _ h9 => h9) rfl (by decide +kernel) rfl rfl (Nat.le_of_ble_eq_true rfl) dX7_readSign_271 (fun H locs hP hD hS => ?_)
      obtain ⟨u9, eu9, hm⟩ := bnd_ex hm
      have hP : va_P (dC, dI) vwCl ([wM cI cJ aM jM u9] : List va_W).flatten H := by rw [eu9]; exact hP
      have hD : va_D A ([wM cI cJ aM jM u9] : List va_W).flatten := by rw [eu9]; exact hD
      rw [← hQ]
      exact W.vret hx hb hr (fun t ht1 hW => ⟨⟨u9, rfl, hm, by rw [ht1]; exact hP, hD⟩, hS.F ht1⟩) hS.2.2 dX7_readSign_274
  refine lv_icmp_ne (tgt := 24) hx hb dX7_readSign_12 (by decide) (fun c10 => ?_) (fun c10 => ?_)
  · have hm := ite_f c10 hm
    refine lv_aload_n hx hb dX7_readSign_24 rfl (lv_at hl 1 rfl) ?_
    refine va_get (D := (dC, dI)) (ci := 8) (v := .int (uM.1 30)) (C := RX7) (T := TX7) (N := 34) hx hb ht inX7 hown hK hP 0 rfl rfl 30 (by decide) (ht _ kw_110) (fun _ h9 => h9) rfl dX7_readSign_25 ?_
    refine lv_iconst (v := (2 : Int32)) hx hb dX7_readSign_28 (by decide) ?_
    refine lv_icmp_ne (tgt := 158) hx hb dX7_readSign_29 (by decide) (fun c11 => ?_) (fun c11 => ?_)
    · have hm := ite_f c11 hm
      refine lv_aload_n hx hb dX7_readSign_158 rfl (lv_at hl 1 rfl) ?_
      refine lv_aload_n hx hb dX7_readSign_159 rfl (lv_at hl 1 rfl) ?_
      refine va_get (D := (dC, dI)) (ci := 8) (v := .ref (jM 33)) (C := RX7) (T := TX7) (N := 34) hx hb ht inX7 hown hK hP 0 rfl rfl 33 (by decide) (ht _ kw_111) (fun _ h9 => h9) rfl dX7_readSign_160 ?_
      refine lv_iload_n hx hb dX7_readSign_163 rfl (lv_at hl 2 rfl) ?_
      obtain ⟨g12, hm⟩ := gdi_of hm
      refine va_lald hx hb hK hP 14 1 rfl rfl g12 dX7_readSign_164 ?_
      refine lv_lconst (v := (1 : Int64)) hx hb dX7_readSign_165 (by decide) ?_
      refine lv_iload_n hx hb dX7_readSign_166 rfl (lv_at hl 0 rfl) ?_
      refine lv_lshl hx hb dX7_readSign_167 rfl ?_
      refine lv_lconst (v := (1 : Int64)) hx hb dX7_readSign_168 (by decide) ?_
      refine lv_lsub hx hb dX7_readSign_169 ?_
      refine lv_land hx hb dX7_readSign_170 ?_
      refine lv_l2i hx hb dX7_readSign_171 rfl ?_
      have hPc : va_P (dC, dI) vwCl ([wM cI cJ aM jM uM] : List va_W).flatten _ := hP
      have hDc : va_D A ([wM cI cJ aM jM uM] : List va_W).flatten := hD
      have hFc := va_freeF (fc := ([wM cI cJ aM jM uM] : List va_W)) hD hS hA [0] rfl
      obtain ⟨r13o, e14, hm⟩ := oC1_of hm
      refine va_calli (va_runV (As := [.int (((uM.2.2.1 33 (p1).toNatClampNeg) &&& (((1 : Int64) <<< ((x2).toInt64 &&& (63 : Int64))) - (1 : Int64)))).toInt32]) (rest := []) ⟨hx, hb, hml, hown, ht⟩ (c_X7_signOf l dC dI cI cJ aM jM H.size uM (((uM.2.2.1 33 (p1).toNatClampNeg) &&& (((1 : Int64) <<< ((x2).toInt64 &&& (63 : Int64))) - (1 : Int64)))).toInt32 r13o e14) (cwV 1 ht (gdV kw_125 kw_123 kw_124 kw_7 kw_122) rfl rfl rfl ⟨rfl, nd_X7_signOf⟩ ⟨Nat.le_of_ble_eq_true rfl, Nat.le_of_ble_eq_true rfl⟩) ⟨pcW_blind, va_recv hK hPc (ci := 8) (q0 := 0) rfl rfl, pcW_pre hPc hK hDc hN⟩ rfl rfl hl.1 rfl (lv_room (Nat.le_of_ble_eq_true rfl)) dX7_readSign_172 ⟨Nat.zero_le _, Nat.zero_le _⟩) hS (fun q _ z => hFc q z) hFc (fun r13 uu t H1 locs ht1 hvm hw hB hz1 hk1 hS => ?_)
      obtain ⟨⟩ := uu
      obtain ⟨hP1, hD1⟩ := hB
      rw [ht1] at hP1
      obtain rfl : r13 = r13o := Option.some.inj hw
      have hP : va_P (dC, dI) vwCl ([wM cI cJ aM jM uM] : List va_W).flatten H1 := hP1
      have hD : va_D A ([wM cI cJ aM jM uM] : List va_W).flatten := hD1.weaken (fun _ q _ z => hFc q.1 z)
      generalize H1 = H at hP hS ⊢
      refine lv_istore_n (lv' := [(3, .int r13), (2, .int x2), (0, .ref aM), (1, .int p1)]) hx hb dX7_readSign_175 rfl hl (by decide) rfl (fun ls hl => ?_)
      refine lv_aload_n hx hb dX7_readSign_176 rfl (lv_at hl 2 rfl) ?_
      refine va_get (D := (dC, dI)) (ci := 8) (v := .ref (jM 8)) (C := RX7) (T := TX7) (N := 34) hx hb ht inX7 hown hK hP 0 rfl rfl 8 (by decide) (ht _ kw_18) (fun _ h9 => h9) rfl dX7_readSign_177 ?_
      refine lv_bipush (v := (32 : Int32)) hx hb dX7_readSign_180 (by decide) ?_
      refine lv_iload_n hx hb dX7_readSign_182 rfl (lv_at hl 0 rfl) ?_
      refine lv_iadd hx hb dX7_readSign_183 ?_
      obtain ⟨g15, hm⟩ := gdi_of hm
      refine va_iald hx hb hK hP 3 0 rfl rfl g15 dX7_readSign_184 ?_
      refine lv_iconst (v := (1 : Int32)) hx hb dX7_readSign_185 (by decide) ?_
      refine lv_iload_n hx hb dX7_readSign_186 rfl (lv_at hl 1 rfl) ?_
      refine lv_ishl hx hb dX7_readSign_187 ?_
      refine lv_icmp_ge (tgt := 247) hx hb dX7_readSign_188 (by decide) (fun c16 => ?_) (fun c16 => ?_)
      · have hm := ite_t c16 hm
        exact J247_5 r13 uM _ _ _ hm hP hD hS (lv_sub hl [2, 3, 1, 0] rfl)
      · have hm := ite_f c16 hm
        refine lv_aload_n hx hb dX7_readSign_191 rfl (lv_at hl 2 rfl) ?_
        refine va_get (D := (dC, dI)) (ci := 8) (v := .int (uM.1 30)) (C := RX7) (T := TX7) (N := 34) hx hb ht inX7 hown hK hP 0 rfl rfl 30 (by decide) (ht _ kw_110) (fun _ h9 => h9) rfl dX7_readSign_192 ?_
        refine lv_if_ne (tgt := 224) hx hb dX7_readSign_195 (by decide) (fun c17 => ?_) (fun c17 => ?_)
        · have hm := ite_f c17 hm
          refine lv_aload_n hx hb dX7_readSign_224 rfl (lv_at hl 2 rfl) ?_
          refine lv_iload_n hx hb dX7_readSign_225 rfl (lv_at hl 3 rfl) ?_
          refine lv_aload_n hx hb dX7_readSign_226 rfl (lv_at hl 2 rfl) ?_
          refine va_get (D := (dC, dI)) (ci := 8) (v := .ref (jM 8)) (C := RX7) (T := TX7) (N := 34) hx hb ht inX7 hown hK hP 0 rfl rfl 8 (by decide) (ht _ kw_18) (fun _ h9 => h9) rfl dX7_readSign_227 ?_
          refine lv_bipush (v := (32 : Int32)) hx hb dX7_readSign_230 (by decide) ?_
          refine lv_iload_n hx hb dX7_readSign_232 rfl (lv_at hl 0 rfl) ?_
          refine lv_iadd hx hb dX7_readSign_233 ?_
          obtain ⟨g18, hm⟩ := gdi_of hm
          refine va_iald hx hb hK hP 3 0 rfl rfl g18 dX7_readSign_234 ?_
          refine lv_aload_n hx hb dX7_readSign_235 rfl (lv_at hl 2 rfl) ?_
          refine va_get (D := (dC, dI)) (ci := 8) (v := .ref (jM 9)) (C := RX7) (T := TX7) (N := 34) hx hb ht inX7 hown hK hP 0 rfl rfl 9 (by decide) (ht _ kw_20) (fun _ h9 => h9) rfl dX7_readSign_236 ?_
          refine lv_bipush (v := (32 : Int32)) hx hb dX7_readSign_239 (by decide) ?_
          refine lv_iload_n hx hb dX7_readSign_241 rfl (lv_at hl 0 rfl) ?_
          refine lv_iadd hx hb dX7_readSign_242 ?_
          obtain ⟨g19, hm⟩ := gdi_of hm
          refine va_iald hx hb hK hP 4 0 rfl rfl g19 dX7_readSign_243 ?_
          have hPc : va_P (dC, dI) vwCl ([wM cI cJ aM jM uM] : List va_W).flatten _ := hP
          have hDc : va_D A ([wM cI cJ aM jM uM] : List va_W).flatten := hD
          have hFc := va_freeF (fc := ([wM cI cJ aM jM uM] : List va_W)) hD hS hA [0] rfl
          obtain ⟨u20o, e21, hm⟩ := oC1_of hm
          refine va_callv (va_runV (As := [.int p1, .int (uM.2.1 8 (((32 : Int32) + r13)).toNatClampNeg), .int (uM.2.1 9 (((32 : Int32) + r13)).toNatClampNeg)]) (rest := []) ⟨hx, hb, hml, hown, ht⟩ (c_X7_readWords l dC dI cI cJ aM jM H.size uM p1 (uM.2.1 8 (((32 : Int32) + r13)).toNatClampNeg) (uM.2.1 9 (((32 : Int32) + r13)).toNatClampNeg) u20o e21) (cwV 3 ht (gdV kw_129 kw_127 kw_128 kw_7 kw_126) rfl rfl rfl ⟨rfl, nd_X7_readWords⟩ ⟨Nat.le_of_ble_eq_true rfl, Nat.le_of_ble_eq_true rfl⟩) ⟨pcW_blind, va_recv hK hPc (ci := 8) (q0 := 0) rfl rfl, pcW_pre hPc hK hDc hN⟩ rfl rfl hl.1 rfl (lv_room (Nat.le_of_ble_eq_true rfl)) dX7_readSign_244 ⟨Nat.zero_le _, Nat.zero_le _⟩) hS (fun q _ z => hFc q z) hFc (fun uu t H1 locs ht1 hvm hw hB hz1 hk1 hS => ?_)
          obtain ⟨u20, rfl⟩ : ∃ z, z = uu := ⟨_, rfl⟩
          obtain ⟨hP1, hD1⟩ := hB
          rw [ht1] at hP1
          obtain rfl : u20 = u20o := Option.some.inj hw
          have hP : va_P (dC, dI) vwCl ([wM cI cJ aM jM u20] : List va_W).flatten H1 := hP1
          have hD : va_D A ([wM cI cJ aM jM u20] : List va_W).flatten := hD1.weaken (fun _ q _ z => hFc q.1 z)
          generalize H1 = H at hP hS ⊢
          exact J247_5 r13 u20 _ _ _ hm hP hD hS (lv_sub hl [2, 3, 1, 0] rfl)
        · have hm := ite_t c17 hm
          refine lv_aload_n hx hb dX7_readSign_198 rfl (lv_at hl 2 rfl) ?_
          refine lv_iload_n hx hb dX7_readSign_199 rfl (lv_at hl 3 rfl) ?_
          refine lv_aload_n hx hb dX7_readSign_200 rfl (lv_at hl 2 rfl) ?_
          refine va_get (D := (dC, dI)) (ci := 8) (v := .ref (jM 8)) (C := RX7) (T := TX7) (N := 34) hx hb ht inX7 hown hK hP 0 rfl rfl 8 (by decide) (ht _ kw_18) (fun _ h9 => h9) rfl dX7_readSign_201 ?_
          refine lv_bipush (v := (32 : Int32)) hx hb dX7_readSign_204 (by decide) ?_
          refine lv_iload_n hx hb dX7_readSign_206 rfl (lv_at hl 0 rfl) ?_
          refine lv_iadd hx hb dX7_readSign_207 ?_
          obtain ⟨g22, hm⟩ := gdi_of hm
          refine va_iald hx hb hK hP 3 0 rfl rfl g22 dX7_readSign_208 ?_
          refine lv_aload_n hx hb dX7_readSign_209 rfl (lv_at hl 2 rfl) ?_
          refine va_get (D := (dC, dI)) (ci := 8) (v := .ref (jM 9)) (C := RX7) (T := TX7) (N := 34) hx hb ht inX7 hown hK hP 0 rfl rfl 9 (by decide) (ht _ kw_20) (fun _ h9 => h9) rfl dX7_readSign_210 ?_
          refine lv_bipush (v := (32 : Int32)) hx hb dX7_readSign_213 (by decide) ?_
          refine lv_iload_n hx hb dX7_readSign_215 rfl (lv_at hl 0 rfl) ?_
          refine lv_iadd hx hb dX7_readSign_216 ?_
          obtain ⟨g23, hm⟩ := gdi_of hm
          refine va_iald hx hb hK hP 4 0 rfl rfl g23 dX7_readSign_217 ?_
          have hPc : va_P (dC, dI) vwCl ([wM cI cJ aM jM uM] : List va_W).flatten _ := hP
          have hDc : va_D A ([wM cI cJ aM jM uM] : List va_W).flatten := hD
          have hFc := va_freeF (fc := ([wM cI cJ aM jM uM] : List va_W)) hD hS hA [0] rfl
          obtain ⟨u24o, e25, hm⟩ := oC1_of hm
          refine va_callv (va_runV (As := [.int p1, .int (uM.2.1 8 (((32 : Int32) + r13)).toNatClampNeg), .int (uM.2.1 9 (((32 : Int32) + r13)).toNatClampNeg)]) (rest := []) ⟨hx, hb, hml, hown, ht⟩ (c_X7_readBytes l dC dI cI cJ aM jM H.size uM p1 (uM.2.1 8 (((32 : Int32) + r13)).toNatClampNeg) (uM.2.1 9 (((32 : Int32) + r13)).toNatClampNeg) u24o e25) (cwV 3 ht (gdV kw_119 kw_117 kw_118 kw_7 kw_116) rfl rfl rfl ⟨rfl, nd_X7_readBytes⟩ ⟨Nat.le_of_ble_eq_true rfl, Nat.le_of_ble_eq_true rfl⟩) ⟨pcW_blind, va_recv hK hPc (ci := 8) (q0 := 0) rfl rfl, pcW_pre hPc hK hDc hN⟩ rfl rfl hl.1 rfl (lv_room (Nat.le_of_ble_eq_true rfl)) dX7_readSign_218 ⟨Nat.zero_le _, Nat.zero_le _⟩) hS (fun q _ z => hFc q z) hFc (fun uu t H1 locs ht1 hvm hw hB hz1 hk1 hS => ?_)
          obtain ⟨u24, rfl⟩ : ∃ z, z = uu := ⟨_, rfl⟩
          obtain ⟨hP1, hD1⟩ := hB
          rw [ht1] at hP1
          obtain rfl : u24 = u24o := Option.some.inj hw
          have hP : va_P (dC, dI) vwCl ([wM cI cJ aM jM u24] : List va_W).flatten H1 := hP1
          have hD : va_D A ([wM cI cJ aM jM u24] : List va_W).flatten := hD1.weaken (fun _ q _ z => hFc q.1 z)
          generalize H1 = H at hP hS ⊢
          refine lv_goto (tgt := 247) hx hb dX7_readSign_221 (by decide) ?_
          exact J247_5 r13 u24 _ _ _ hm hP hD hS (lv_sub hl [2, 3, 1, 0] rfl)
    · have hm := ite_t c11 hm
      refine lv_aload_n hx hb dX7_readSign_32 rfl (lv_at hl 1 rfl) ?_
      refine va_get (D := (dC, dI)) (ci := 8) (v := .ref (jM 33)) (C := RX7) (T := TX7) (N := 34) hx hb ht inX7 hown hK hP 0 rfl rfl 33 (by decide) (ht _ kw_111) (fun _ h9 => h9) rfl dX7_readSign_33 ?_
      refine lv_iload_n hx hb dX7_readSign_36 rfl (lv_at hl 2 rfl) ?_
      obtain ⟨g26, hm⟩ := gdi_of hm
      refine va_lald hx hb hK hP 14 1 rfl rfl g26 dX7_readSign_37 ?_
      refine lv_l2i hx hb dX7_readSign_38 rfl ?_
      refine lv_iconst (v := (1 : Int32)) hx hb dX7_readSign_39 (by decide) ?_
      refine lv_iload_n hx hb dX7_readSign_40 rfl (lv_at hl 0 rfl) ?_
      refine lv_ishl hx hb dX7_readSign_41 ?_
      refine lv_isub hx hb dX7_readSign_42 ?_
      refine lv_topi (fun x27 ex27 => ?_)
      have hm := bnd_nm ex27 hm
      refine lv_istore (lv' := [(4, .int x27), (2, .int x2), (0, .ref aM), (1, .int p1)]) hx hb dX7_readSign_43 hl (by decide) rfl (fun ls hl => ?_)
      refine lv_aload_n hx hb dX7_readSign_45 rfl (lv_at hl 2 rfl) ?_
      refine va_get (D := (dC, dI)) (ci := 8) (v := .ref (jM 11)) (C := RX7) (T := TX7) (N := 34) hx hb ht inX7 hown hK hP 0 rfl rfl 11 (by decide) (ht _ kw_21) (fun _ h9 => h9) rfl dX7_readSign_46 ?_
      refine lv_sipush (v := (4096 : Int32)) hx hb dX7_readSign_49 (by decide) ?_
      refine lv_iload hx hb dX7_readSign_52 (lv_at hl 0 rfl) ?_
      refine lv_iadd hx hb dX7_readSign_54 ?_
      obtain ⟨g28, hm⟩ := gdi_of hm
      refine va_iald hx hb hK hP 6 0 rfl rfl g28 dX7_readSign_55 ?_
      refine lv_topi (fun x29 ex29 => ?_)
      have hm := bnd_nm ex29 hm
      refine lv_istore_n (lv' := [(3, .int x29), (4, .int x27), (2, .int x2), (0, .ref aM), (1, .int p1)]) hx hb dX7_readSign_56 rfl hl (by decide) rfl (fun ls hl => ?_)
      refine lv_aload_n hx hb dX7_readSign_57 rfl (lv_at hl 3 rfl) ?_
      refine va_get (D := (dC, dI)) (ci := 8) (v := .ref (jM 12)) (C := RX7) (T := TX7) (N := 34) hx hb ht inX7 hown hK hP 0 rfl rfl 12 (by decide) (ht _ kw_22) (fun _ h9 => h9) rfl dX7_readSign_58 ?_
      refine lv_sipush (v := (4096 : Int32)) hx hb dX7_readSign_61 (by decide) ?_
      refine lv_iload hx hb dX7_readSign_64 (lv_at hl 1 rfl) ?_
      refine lv_iadd hx hb dX7_readSign_66 ?_
      obtain ⟨g30, hm⟩ := gdi_of hm
      refine va_iald hx hb hK hP 7 0 rfl rfl g30 dX7_readSign_67 ?_
      refine lv_i2l hx hb dX7_readSign_68 rfl ?_
      refine lv_topl (fun y31 ey31 => ?_)
      have hm := bnd_nm ey31 hm
      refine lv_lstore (lv' := [(5, .long y31), (3, .int x29), (4, .int x27), (2, .int x2), (0, .ref aM), (1, .int p1)]) hx hb dX7_readSign_69 hl (by decide) rfl (fun ls hl => ?_)
      refine lv_aload_n hx hb dX7_readSign_71 rfl (lv_at hl 4 rfl) ?_
      refine va_get (D := (dC, dI)) (ci := 8) (v := .ref (jM 8)) (C := RX7) (T := TX7) (N := 34) hx hb ht inX7 hown hK hP 0 rfl rfl 8 (by decide) (ht _ kw_18) (fun _ h9 => h9) rfl dX7_readSign_72 ?_
      refine lv_bipush (v := (32 : Int32)) hx hb dX7_readSign_75 (by decide) ?_
      refine lv_iload_n hx hb dX7_readSign_77 rfl (lv_at hl 1 rfl) ?_
      refine lv_iadd hx hb dX7_readSign_78 ?_
      obtain ⟨g32, hm⟩ := gdi_of hm
      refine va_iald hx hb hK hP 3 0 rfl rfl g32 dX7_readSign_79 ?_
      refine lv_iconst (v := (1 : Int32)) hx hb dX7_readSign_80 (by decide) ?_
      refine lv_iload_n hx hb dX7_readSign_81 rfl (lv_at hl 3 rfl) ?_
      refine lv_ishl hx hb dX7_readSign_82 ?_
      obtain ⟨K91_34, eK91_34, hm⟩ := bnd_ex hm
      have J91_34 : ∀ (x33 : Int32) (H : Heap) (locs : List Loc) (ls : Array Slot), K91_34 x33 = some o → va_P (dC, dI) vwCl ([wM cI cJ aM jM uM] : List va_W).flatten H → va_D A ([wM cI cJ aM jM uM] : List va_W).flatten → va_S A s.heap H locs → lv_has ls 8 [(0, .ref aM), (1, .int p1), (2, .int x2), (3, .int x29), (4, .int x27), (5, .long y31)] → W p l e ({ frames := 4, cells := 0, slots := 0, locals := 93 } : Room) s m ([.ref aM, .int p1] : List Value).toArray below meth c H locs 0 0 Q (F0 m 91 ls [.int x33]) := by
        intro x33 H locs ls hm hP hD hS hl
        have hm := ap1 eK91_34 hm
        refine lv_istore (lv' := [(7, .int x33), (0, .ref aM), (1, .int p1), (2, .int x2), (3, .int x29), (4, .int x27), (5, .long y31)]) hx hb dX7_readSign_91 hl (by decide) rfl (fun ls hl => ?_)
        obtain ⟨K126_39, eK126_39, hm⟩ := bnd_ex hm
        have X126_39 : ∀ (y37 : Int64) (u38 : OS) (H : Heap) (locs : List Loc) (ls : Array Slot), K126_39 y37 u38 = some o → va_P (dC, dI) vwCl ([wM cI cJ aM jM u38] : List va_W).flatten H → va_D A ([wM cI cJ aM jM u38] : List va_W).flatten → va_S A s.heap H locs → lv_has ls 8 [(0, .ref aM), (1, .int p1), (2, .int x2), (3, .int x29), (4, .int x27), (5, .long y37), (7, .int x33)] → W p l e ({ frames := 4, cells := 0, slots := 0, locals := 93 } : Room) s m ([.ref aM, .int p1] : List Value).toArray below meth c H locs 0 0 Q (F0 m 126 ls []) := by
          intro y37 u38 H locs ls hm hP hD hS hl
          have hm := ap2 eK126_39 hm
          refine lv_aload_n hx hb dX7_readSign_126 rfl (lv_at hl 0 rfl) ?_
          refine va_get (D := (dC, dI)) (ci := 8) (v := .ref (jM 33)) (C := RX7) (T := TX7) (N := 34) hx hb ht inX7 hown hK hP 0 rfl rfl 33 (by decide) (ht _ kw_111) (fun _ h9 => h9) rfl dX7_readSign_127 ?_
          refine lv_iload_n hx hb dX7_readSign_130 rfl (lv_at hl 1 rfl) ?_
          refine lv_aload_n hx hb dX7_readSign_131 rfl (lv_at hl 0 rfl) ?_
          refine va_get (D := (dC, dI)) (ci := 8) (v := .int (u38.1 27)) (C := RX7) (T := TX7) (N := 34) hx hb ht inX7 hown hK hP 0 rfl rfl 27 (by decide) (ht _ kw_95) (fun _ h9 => h9) rfl dX7_readSign_132 ?_
          obtain ⟨K154_41, eK154_41, hm⟩ := bnd_ex hm
          have J154_41 : ∀ (y40 : Int64) (H : Heap) (locs : List Loc) (ls : Array Slot), K154_41 y40 = some o → va_P (dC, dI) vwCl ([wM cI cJ aM jM u38] : List va_W).flatten H → va_D A ([wM cI cJ aM jM u38] : List va_W).flatten → va_S A s.heap H locs → lv_has ls 8 [(0, .ref aM), (1, .int p1), (2, .int x2), (3, .int x29), (4, .int x27), (5, .long y37), (7, .int x33)] → W p l e ({ frames := 4, cells := 0, slots := 0, locals := 93 } : Room) s m ([.ref aM, .int p1] : List Value).toArray below meth c H locs 0 0 Q (F0 m 154 ls [.long y40, .int p1, .ref (jM 33)]) := by
            intro y40 H locs ls hm hP hD hS hl
            have hm := ap1 eK154_41 hm
            obtain ⟨g42, hm⟩ := gdi_of hm
            refine va_last hx hb hK hP hD hS 14 1 rfl rfl g42 dX7_readSign_154 (fun H locs hP hD hS => ?_)
            obtain ⟨u43, eu43, hm⟩ := bnd_ex hm
            have hP : va_P (dC, dI) vwCl ([wM cI cJ aM jM u43] : List va_W).flatten H := by rw [eu43]; exact hP
            have hD : va_D A ([wM cI cJ aM jM u43] : List va_W).flatten := by rw [eu43]; exact hD
            refine lv_goto (tgt := 247) hx hb dX7_readSign_155 (by decide) ?_
            exact J247_5 x29 u43 _ _ _ hm hP hD hS (lv_sub hl [0, 1, 2, 3] rfl)
          obtain ⟨K148_44, eK148_44, hm⟩ := bnd_ex hm
          have J148_44 : ∀ (H : Heap) (locs : List Loc) (ls : Array Slot), K148_44 = some o → va_P (dC, dI) vwCl ([wM cI cJ aM jM u38] : List va_W).flatten H → va_D A ([wM cI cJ aM jM u38] : List va_W).flatten → va_S A s.heap H locs → lv_has ls 8 [(0, .ref aM), (1, .int p1), (2, .int x2), (3, .int x29), (4, .int x27), (5, .long y37), (7, .int x33)] → W p l e ({ frames := 4, cells := 0, slots := 0, locals := 93 } : Room) s m ([.ref aM, .int p1] : List Value).toArray below meth c H locs 0 0 Q (F0 m 148 ls [.int p1, .ref (jM 33)]) := by
            intro H locs ls hm hP hD hS hl
            have hm := ap0 eK148_44 hm
            refine lv_aload_n hx hb dX7_readSign_148 rfl (lv_at hl 0 rfl) ?_
            refine va_get (D := (dC, dI)) (ci := 8) (v := .ref (jM 33)) (C := RX7) (T := TX7) (N := 34) hx hb ht inX7 hown hK hP 0 rfl rfl 33 (by decide) (ht _ kw_111) (fun _ h9 => h9) rfl dX7_readSign_149 ?_
            refine lv_iload_n hx hb dX7_readSign_152 rfl (lv_at hl 1 rfl) ?_
            obtain ⟨g45, hm⟩ := gdi_of hm
            refine va_lald hx hb hK hP 14 1 rfl rfl g45 dX7_readSign_153 ?_
            exact J154_41 (u38.2.2.1 33 (p1).toNatClampNeg) _ _ _ hm hP hD hS (lv_sub hl [0, 1, 2, 3, 4, 5, 6] rfl)
          refine lv_if_ne (tgt := 148) hx hb dX7_readSign_135 (by decide) (fun c46 => ?_) (fun c46 => ?_)
          · have hm := ite_f c46 hm
            exact J148_44 _ _ _ hm hP hD hS (lv_sub hl [0, 1, 2, 3, 4, 5, 6] rfl)
          · have hm := ite_t c46 hm
            refine lv_iload hx hb dX7_readSign_138 (lv_at hl 6 rfl) ?_
            refine lv_if_ne (tgt := 148) hx hb dX7_readSign_140 (by decide) (fun c47 => ?_) (fun c47 => ?_)
            · have hm := ite_f c47 hm
              exact J148_44 _ _ _ hm hP hD hS (lv_sub hl [0, 1, 2, 3, 4, 5, 6] rfl)
            · have hm := ite_t c47 hm
              refine lv_lload hx hb dX7_readSign_143 (lv_at hl 5 rfl) ?_
              refine lv_goto (tgt := 154) hx hb dX7_readSign_145 (by decide) ?_
              exact J154_41 y37 _ _ _ hm hP hD hS (lv_sub hl [0, 1, 2, 3, 4, 5, 6] rfl)
        have LP93 : ∀ (n93 : Nat) (y35 : Int64) (u36 : OS) (H : Heap) (locs : List Loc) (ls : Array Slot), f_X7_readSign_L93 x2 n93 K126_39 y35 u36 = some o → va_P (dC, dI) vwCl ([wM cI cJ aM jM u36] : List va_W).flatten H → va_D A ([wM cI cJ aM jM u36] : List va_W).flatten → va_S A s.heap H locs → lv_has ls 8 [(0, .ref aM), (1, .int p1), (2, .int x2), (3, .int x29), (4, .int x27), (5, .long y35), (7, .int x33)] → W p l e ({ frames := 4, cells := 0, slots := 0, locals := 93 } : Room) s m ([.ref aM, .int p1] : List Value).toArray below meth c H locs 0 0 Q (F0 m 93 ls []) := by
          intro n93
          induction n93 with
          | zero => intro y35 u36 H locs ls hm; exact nomatch (show (none : Option _) = some _ from hm)
          | succ n93 ih93 =>
            intro y35 u36 H locs ls hm hP hD hS hl
            unfold f_X7_readSign_L93 at hm
            refine lv_lload hx hb dX7_readSign_93 (lv_at hl 5 rfl) ?_
            refine lv_lconst (v := (1 : Int64)) hx hb dX7_readSign_95 (by decide) ?_
            refine lv_iload_n hx hb dX7_readSign_96 rfl (lv_at hl 2 rfl) ?_
            refine lv_lshl hx hb dX7_readSign_97 rfl ?_
            refine W.lcmp hx hb dX7_readSign_98 ?_
            refine lv_if_ge (tgt := 126) hx hb dX7_readSign_99 (by decide) (fun c48 => ?_) (fun c48 => ?_)
            · have c48 := lgc_ge.mp c48
              have hm := ite_t c48 hm
              exact X126_39 y35 u36 _ _ _ hm hP hD hS (lv_sub hl [0, 1, 2, 3, 4, 5, 6] rfl)
            · have c48 := mt lgc_ge.mpr c48
              have hm := ite_f c48 hm
              refine lv_aload_n hx hb dX7_readSign_102 rfl (lv_at hl 0 rfl) ?_
              refine va_get (D := (dC, dI)) (ci := 8) (v := .int (u36.1 27)) (C := RX7) (T := TX7) (N := 34) hx hb ht inX7 hown hK hP 0 rfl rfl 27 (by decide) (ht _ kw_95) (fun _ h9 => h9) rfl dX7_readSign_103 ?_
              refine lv_if_ne (tgt := 126) hx hb dX7_readSign_106 (by decide) (fun c49 => ?_) (fun c49 => ?_)
              · have hm := ite_f c49 hm
                exact X126_39 y35 u36 _ _ _ hm hP hD hS (lv_sub hl [0, 1, 2, 3, 4, 5, 6] rfl)
              · have hm := ite_t c49 hm
                refine lv_ldc2 (v := (2 : Int64)) hx hb hown (ht _ kw_12) dX7_readSign_109 ?_
                refine lv_lload hx hb dX7_readSign_112 (lv_at hl 5 rfl) ?_
                refine lv_lmul hx hb dX7_readSign_114 ?_
                refine lv_aload_n hx hb dX7_readSign_115 rfl (lv_at hl 0 rfl) ?_
                have hPc : va_P (dC, dI) vwCl ([wM cI cJ aM jM u36] : List va_W).flatten _ := hP
                have hDc : va_D A ([wM cI cJ aM jM u36] : List va_W).flatten := hD
                have hFc := va_freeF (fc := ([wM cI cJ aM jM u36] : List va_W)) hD hS hA [0] rfl
                obtain ⟨u50o, r51o, e52, hm⟩ := oC2_of hm
                refine va_calli (va_runV (As := []) (rest := [.long ((2 : Int64) * y35)]) ⟨hx, hb, hml, hown, ht⟩ (c_X7_nextBit l dC dI cI cJ aM jM H.size u36 (u50o, r51o) e52) (cwV 0 ht (gdV kw_109 kw_107 kw_108 kw_7 kw_106) rfl rfl rfl ⟨rfl, nd_X7_nextBit⟩ ⟨Nat.le_of_ble_eq_true rfl, Nat.le_of_ble_eq_true rfl⟩) ⟨pcW_blind, va_recv hK hPc (ci := 8) (q0 := 0) rfl rfl, pcW_pre hPc hK hDc hN⟩ rfl rfl hl.1 rfl (lv_room (Nat.le_of_ble_eq_true rfl)) dX7_readSign_116 ⟨Nat.zero_le _, Nat.zero_le _⟩) hS (fun q _ z => hFc q z) hFc (fun r51 uu t H1 locs ht1 hvm hw hB hz1 hk1 hS => ?_)
                obtain ⟨u50, rfl⟩ : ∃ z, z = uu := ⟨_, rfl⟩
                obtain ⟨hP1, hD1⟩ := hB
                rw [ht1] at hP1
                obtain ⟨q0, q1⟩ := inj2 hw
                subst q0
                subst q1
                have hP : va_P (dC, dI) vwCl ([wM cI cJ aM jM u50] : List va_W).flatten H1 := hP1
                have hD : va_D A ([wM cI cJ aM jM u50] : List va_W).flatten := hD1.weaken (fun _ q _ z => hFc q.1 z)
                generalize H1 = H at hP hS ⊢
                refine lv_i2l hx hb dX7_readSign_119 rfl ?_
                refine lv_ladd hx hb dX7_readSign_120 ?_
                refine lv_topl (fun y53 ey53 => ?_)
                have hm := bnd_nm ey53 hm
                refine lv_lstore (lv' := [(5, .long y53), (0, .ref aM), (1, .int p1), (2, .int x2), (3, .int x29), (4, .int x27), (7, .int x33)]) hx hb dX7_readSign_121 hl (by decide) rfl (fun ls hl => ?_)
                refine lv_goto (tgt := 93) hx hb dX7_readSign_123 (by decide) ?_
                exact ih93 y53 u50 _ _ _ hm hP hD hS (lv_sub hl [1, 2, 3, 4, 5, 0, 6] rfl)
        exact LP93 FU y31 uM _ _ _ hm hP hD hS (lv_sub hl [1, 2, 3, 4, 5, 6, 0] rfl)
      refine lv_icmp_ne (tgt := 90) hx hb dX7_readSign_83 (by decide) (fun c54 => ?_) (fun c54 => ?_)
      · have hm := ite_f c54 hm
        refine lv_iconst (v := (0 : Int32)) hx hb dX7_readSign_90 (by decide) ?_
        exact J91_34 (0 : Int32) _ _ _ hm hP hD hS (lv_sub hl [4, 5, 3, 1, 2, 0] rfl)
      · have hm := ite_t c54 hm
        refine lv_iconst (v := (1 : Int32)) hx hb dX7_readSign_86 (by decide) ?_
        refine lv_goto (tgt := 91) hx hb dX7_readSign_87 (by decide) ?_
        exact J91_34 (1 : Int32) _ _ _ hm hP hD hS (lv_sub hl [4, 5, 3, 1, 2, 0] rfl)
  · have hm := ite_t c10 hm
    refine lv_aload_n hx hb dX7_readSign_15 rfl (lv_at hl 1 rfl) ?_
    refine lv_iload_n hx hb dX7_readSign_16 rfl (lv_at hl 2 rfl) ?_
    have hPc : va_P (dC, dI) vwCl ([wM cI cJ aM jM uM] : List va_W).flatten _ := hP
    have hDc : va_D A ([wM cI cJ aM jM uM] : List va_W).flatten := hD
    have hFc := va_freeF (fc := ([wM cI cJ aM jM uM] : List va_W)) hD hS hA [0] rfl
    obtain ⟨u55o, r56o, e57, hm⟩ := oC2_of hm
    refine va_calli (va_runV (As := [.int p1]) (rest := []) ⟨hx, hb, hml, hown, ht⟩ (c_X7_readSides l dC dI cI cJ aM jM H.size uM p1 (u55o, r56o) e57) (cwV 1 ht (gdV kw_133 kw_131 kw_132 kw_7 kw_130) rfl rfl rfl ⟨rfl, nd_X7_readSides⟩ ⟨Nat.le_of_ble_eq_true rfl, Nat.le_of_ble_eq_true rfl⟩) ⟨pcW_blind, va_recv hK hPc (ci := 8) (q0 := 0) rfl rfl, pcW_pre hPc hK hDc hN⟩ rfl rfl hl.1 rfl (lv_room (Nat.le_of_ble_eq_true rfl)) dX7_readSign_17 ⟨Nat.zero_le _, Nat.zero_le _⟩) hS (fun q _ z => hFc q z) hFc (fun r56 uu t H1 locs ht1 hvm hw hB hz1 hk1 hS => ?_)
    obtain ⟨u55, rfl⟩ : ∃ z, z = uu := ⟨_, rfl⟩
    obtain ⟨hP1, hD1⟩ := hB
    rw [ht1] at hP1
    obtain ⟨q0, q1⟩ := inj2 hw
    subst q0
    subst q1
    have hP : va_P (dC, dI) vwCl ([wM cI cJ aM jM u55] : List va_W).flatten H1 := hP1
    have hD : va_D A ([wM cI cJ aM jM u55] : List va_W).flatten := hD1.weaken (fun _ q _ z => hFc q.1 z)
    generalize H1 = H at hP hS ⊢
    refine lv_istore_n (lv' := [(3, .int r56), (2, .int x2), (0, .ref aM), (1, .int p1)]) hx hb dX7_readSign_20 rfl hl (by decide) rfl (fun ls hl => ?_)
    refine lv_goto (tgt := 247) hx hb dX7_readSign_21 (by decide) ?_
    exact J247_5 r56 u55 _ _ _ hm hP hD hS (lv_sub hl [2, 3, 1, 0] rfl)

def f_X7_readHead (uM : OS) : Option (OS × Int32) :=
  oC2 (f_X7_next uM) fun u1 r2 =>
  bnd (fun (u4 : OS) =>
  bnd (sF u4 30 (r2 >>> ((2 : Int32) &&& (31 : Int32)))) fun u6 =>
  bnd (sF u6 31 ((1 : Int32) <<< ((r2 &&& (3 : Int32)) &&& (31 : Int32)))) fun u7 =>
  oC2 (f_X7_next u7) fun u8 r9 =>
  bnd (fun (u11 : OS) =>
  if (u11.1 27) = (0 : Int32) then (
  gdi (1 : Int32) 2 <|
  bnd (sA u11 10 (1 : Int32) r9) fun u20 =>
  oC2 (f_X7_nextWide u20 (2 : Int32)) fun u21 r22 =>
  some (u21, (r22).toInt32)) else (
  gdi (1 : Int32) 2 <|
  bnd (sA u11 10 (1 : Int32) (5 : Int32)) fun u15 =>
  oC2 (f_X7_nextWide u15 (2 : Int32)) fun u16 r17 =>
  some (u16, (r17).toInt32))) fun K74_12 =>
  if (u8.1 27) = (0 : Int32) then (
  bnd (oC1 (f_X7_fail u8 (2 : Int32)) fun u26 =>
  K74_12 u26) fun K69_25 =>
  if r9 < (5 : Int32) then (
  K69_25) else (
  if r9 ≤ (12 : Int32) then (
  K74_12 u8) else (
  K69_25))) else (
  K74_12 u8)) fun K30_5 =>
  if (u1.1 27) = (0 : Int32) then (
  bnd (oC1 (f_X7_fail u1 (2 : Int32)) fun u32 =>
  K30_5 u32) fun K25_31 =>
  if (15 : Int32) < r2 then (
  K25_31) else (
  if (r2 &&& (3 : Int32)) = (3 : Int32) then (
  K25_31) else (
  K30_5 u1))) else (
  K30_5 u1)

set_option maxHeartbeats 4000000 in
set_option maxRecDepth 100000 in
theorem c_X7_readHead (l : Launch) (dC : Nat → ClassId) (dI : Nat → Nat → Nat) (cI cJ : ClassId) (aM : Nat) (jM : Nat → Nat) (sz : Nat) (uM : OS) (o : OS × Int32) (hm : f_X7_readHead uM = some o) : Met l yX7_readHead (wq yX7_readHead cX7_readHead 3 (some .int)) ({ frames := 3, cells := 0, slots := 0, locals := 65 } : Room) (va_Pc [.ref aM] (pcW dC dI cI cJ sz ([wM cI cJ aM jM uM] : List va_W).flatten)) (va_Qi (S := OS) (fun r u => some (u, r) = some o) (fun (u : OS) t => va_P (dC, dI) vwCl ([wM cI cJ aM jM u] : List va_W).flatten t.heap ∧ va_D (va_A ([wM cI cJ aM jM uM] : List va_W).flatten sz) ([wM cI cJ aM jM u] : List va_W).flatten) (va_A ([wM cI cJ aM jM uM] : List va_W).flatten sz)) 0 0 (va_A ([wM cI cJ aM jM uM] : List va_W).flatten sz) := by
  refine Met.ofW (cc := cX7_readHead) (maxL := 3) (ret := (some .int)) (by decide) rfl ?_
  intro p e s m args below meth c s₁ B hml hv
  obtain ⟨rfl, hsz, hP, hK, hD0, hN⟩ := hv
  have hx := B.exec
  have hb := B.bytes
  have hr := B.returns
  have ht : ∀ w ∈ lw_good, w.before _ s = true := fun w h => atoms_spec (ws := wq yX7_readHead cX7_readHead 3 (some .int)) B.pre w (wq_mem h)
  have hown : s.vm.findClass RX7 = some m.cls := findClass_of_methodNamed B.named
  have hlocks := B.notSynchronized
  subst hsz
  have hD := hD0.self (sz := s.heap.size)
  generalize hAe : va_A ([wM cI cJ aM jM uM] : List va_W).flatten s.heap.size = A at hD ⊢
  have hA : ∀ q : Nat, s.heap.size ≤ q → A q := fun q h => by rw [← hAe]; exact Or.inr h
  have hS : va_S A s.heap s.heap [] := va_S.rf
  have hl := lv_entry ([.ref aM]) (n := 3) (Nat.le_of_ble_eq_true rfl)
  rw [lg_entry_eq]
  generalize (lg_sl ([.ref aM]) ++ List.replicate (3 - (lg_sl ([.ref aM])).length) Slot.unset).toArray = ls at hl ⊢
  have hl : lv_has ls 3 [(0, .ref aM)] := hl
  generalize hQ : MQ below _ _ s _ _ _ = Q
  generalize hH : s.heap = H at hP ⊢
  have hS : va_S A s.heap H [] := by rw [← hH]; exact va_S.rf
  show W p l e ({ frames := 3, cells := 0, slots := 0, locals := 65 } : Room) s m ([.ref aM] : List Value).toArray below meth c H [] 0 0 Q (F0 m 0 ls [])
  unfold f_X7_readHead at hm
  refine lv_aload_n hx hb dX7_readHead_0 rfl (lv_at hl 0 rfl) ?_
  have hPc : va_P (dC, dI) vwCl ([wM cI cJ aM jM uM] : List va_W).flatten _ := hP
  have hDc : va_D A ([wM cI cJ aM jM uM] : List va_W).flatten := hD
  have hFc := va_freeF (fc := ([wM cI cJ aM jM uM] : List va_W)) hD hS hA [0] rfl
  obtain ⟨u1o, r2o, e3, hm⟩ := oC2_of hm
  refine va_calli (va_runV (As := []) (rest := []) ⟨hx, hb, hml, hown, ht⟩ (c_X7_next l dC dI cI cJ aM jM H.size uM (u1o, r2o) e3) (cwV 0 ht (gdV kw_104 kw_102 kw_103 kw_7 kw_101) rfl rfl rfl ⟨rfl, nd_X7_next⟩ ⟨Nat.le_of_ble_eq_true rfl, Nat.le_of_ble_eq_true rfl⟩) ⟨pcW_blind, va_recv hK hPc (ci := 8) (q0 := 0) rfl rfl, pcW_pre hPc hK hDc hN⟩ rfl rfl hl.1 rfl (lv_room (Nat.le_of_ble_eq_true rfl)) dX7_readHead_1 ⟨Nat.zero_le _, Nat.zero_le _⟩) hS (fun q _ z => hFc q z) hFc (fun r2 uu t H1 locs ht1 hvm hw hB hz1 hk1 hS => ?_)
  obtain ⟨u1, rfl⟩ : ∃ z, z = uu := ⟨_, rfl⟩
  obtain ⟨hP1, hD1⟩ := hB
  rw [ht1] at hP1
  obtain ⟨q0, q1⟩ := inj2 hw
  subst q0
  subst q1
  have hP : va_P (dC, dI) vwCl ([wM cI cJ aM jM u1] : List va_W).flatten H1 := hP1
  have hD : va_D A ([wM cI cJ aM jM u1] : List va_W).flatten := hD1.weaken (fun _ q _ z => hFc q.1 z)
  generalize H1 = H at hP hS ⊢
  refine lv_istore_n (lv' := [(1, .int r2), (0, .ref aM)]) hx hb dX7_readHead_4 rfl hl (by decide) rfl (fun ls hl => ?_)
  refine lv_aload_n hx hb dX7_readHead_5 rfl (lv_at hl 1 rfl) ?_
  refine va_get (D := (dC, dI)) (ci := 8) (v := .int (u1.1 27)) (C := RX7) (T := TX7) (N := 34) hx hb ht inX7 hown hK hP 0 rfl rfl 27 (by decide) (ht _ kw_95) (fun _ h9 => h9) rfl dX7_readHead_6 ?_
  obtain ⟨K30_5, eK30_5, hm⟩ := bnd_ex hm
  have J30_5 : ∀ (u4 : OS) (H : Heap) (locs : List Loc) (ls : Array Slot), K30_5 u4 = some o → va_P (dC, dI) vwCl ([wM cI cJ aM jM u4] : List va_W).flatten H → va_D A ([wM cI cJ aM jM u4] : List va_W).flatten → va_S A s.heap H locs → lv_has ls 3 [(0, .ref aM), (1, .int r2)] → W p l e ({ frames := 3, cells := 0, slots := 0, locals := 65 } : Room) s m ([.ref aM] : List Value).toArray below meth c H locs 0 0 Q (F0 m 30 ls []) := by
    intro u4 H locs ls hm hP hD hS hl
    have hm := ap1 eK30_5 hm
    refine lv_aload_n hx hb dX7_readHead_30 rfl (lv_at hl 0 rfl) ?_
    refine lv_iload_n hx hb dX7_readHead_31 rfl (lv_at hl 1 rfl) ?_
    refine lv_iconst (v := (2 : Int32)) hx hb dX7_readHead_32 (by decide) ?_
    refine lv_ishr hx hb dX7_readHead_33 ?_
    refine va_put (D := (dC, dI)) (ci := 8) (v := .int (r2 >>> ((2 : Int32) &&& (31 : Int32)))) (ty := .int) (C := RX7) (T := TX7) (N := 34) hx hb ht inX7 tyX7 tyX7_ok nmX7 hown hK hP hD hS 0 rfl rfl 30 (by decide) (ht _ kw_110) (fun _ h9 => h9) rfl (by decide +kernel) rfl rfl (Nat.le_of_ble_eq_true rfl) dX7_readHead_34 (fun H locs hP hD hS => ?_)
    obtain ⟨u6, eu6, hm⟩ := bnd_ex hm
    have hP : va_P (dC, dI) vwCl ([wM cI cJ aM jM u6] : List va_W).flatten H := by rw [eu6]; exact hP
    have hD : va_D A ([wM cI cJ aM jM u6] : List va_W).flatten := by rw [eu6]; exact hD
    refine lv_aload_n hx hb dX7_readHead_37 rfl (lv_at hl 0 rfl) ?_
    refine lv_iconst (v := (1 : Int32)) hx hb dX7_readHead_38 (by decide) ?_
    refine lv_iload_n hx hb dX7_readHead_39 rfl (lv_at hl 1 rfl) ?_
    refine lv_iconst (v := (3 : Int32)) hx hb dX7_readHead_40 (by decide) ?_
    refine lv_iand hx hb dX7_readHead_41 ?_
    refine lv_ishl hx hb dX7_readHead_42 ?_
    refine va_put (D := (dC, dI)) (ci := 8) (v := .int ((1 : Int32) <<< ((r2 &&& (3 : Int32)) &&& (31 : Int32)))) (ty := .int) (C := RX7) (T := TX7) (N := 34) hx hb ht inX7 tyX7 tyX7_ok nmX7 hown hK hP hD hS 0 rfl rfl 31 (by decide) (ht _ kw_134) (fun _ h9 => h9) rfl (by decide +kernel) rfl rfl (Nat.le_of_ble_eq_true rfl) dX7_readHead_43 (fun H locs hP hD hS => ?_)
    obtain ⟨u7, eu7, hm⟩ := bnd_ex hm
    have hP : va_P (dC, dI) vwCl ([wM cI cJ aM jM u7] : List va_W).flatten H := by rw [eu7]; exact hP
    have hD : va_D A ([wM cI cJ aM jM u7] : List va_W).flatten := by rw [eu7]; exact hD
    refine lv_aload_n hx hb dX7_readHead_46 rfl (lv_at hl 0 rfl) ?_
    have hPc : va_P (dC, dI) vwCl ([wM cI cJ aM jM u7] : List va_W).flatten _ := hP
    have hDc : va_D A ([wM cI cJ aM jM u7] : List va_W).flatten := hD
    have hFc := va_freeF (fc := ([wM cI cJ aM jM u7] : List va_W)) hD hS hA [0] rfl
    obtain ⟨u8o, r9o, e10, hm⟩ := oC2_of hm
    refine va_calli (va_runV (As := []) (rest := []) ⟨hx, hb, hml, hown, ht⟩ (c_X7_next l dC dI cI cJ aM jM H.size u7 (u8o, r9o) e10) (cwV 0 ht (gdV kw_104 kw_102 kw_103 kw_7 kw_101) rfl rfl rfl ⟨rfl, nd_X7_next⟩ ⟨Nat.le_of_ble_eq_true rfl, Nat.le_of_ble_eq_true rfl⟩) ⟨pcW_blind, va_recv hK hPc (ci := 8) (q0 := 0) rfl rfl, pcW_pre hPc hK hDc hN⟩ rfl rfl hl.1 rfl (lv_room (Nat.le_of_ble_eq_true rfl)) dX7_readHead_47 ⟨Nat.zero_le _, Nat.zero_le _⟩) hS (fun q _ z => hFc q z) hFc (fun r9 uu t H1 locs ht1 hvm hw hB hz1 hk1 hS => ?_)
    obtain ⟨u8, rfl⟩ : ∃ z, z = uu := ⟨_, rfl⟩
    obtain ⟨hP1, hD1⟩ := hB
    rw [ht1] at hP1
    obtain ⟨q0, q1⟩ := inj2 hw
    subst q0
    subst q1
    have hP : va_P (dC, dI) vwCl ([wM cI cJ aM jM u8] : List va_W).flatten H1 := hP1
    have hD : va_D A ([wM cI cJ aM jM u8] : List va_W).flatten := hD1.weaken (fun _ q _ z => hFc q.1 z)
    generalize H1 = H at hP hS ⊢
    refine lv_istore_n (lv' := [(2, .int r9), (0, .ref aM), (1, .int r2)]) hx hb dX7_readHead_50 rfl hl (by decide) rfl (fun ls hl => ?_)
    refine lv_aload_n hx hb dX7_readHead_51 rfl (lv_at hl 1 rfl) ?_
    refine va_get (D := (dC, dI)) (ci := 8) (v := .int (u8.1 27)) (C := RX7) (T := TX7) (N := 34) hx hb ht inX7 hown hK hP 0 rfl rfl 27 (by decide) (ht _ kw_95) (fun _ h9 => h9) rfl dX7_readHead_52 ?_
    obtain ⟨K74_12, eK74_12, hm⟩ := bnd_ex hm
    have J74_12 : ∀ (u11 : OS) (H : Heap) (locs : List Loc) (ls : Array Slot), K74_12 u11 = some o → va_P (dC, dI) vwCl ([wM cI cJ aM jM u11] : List va_W).flatten H → va_D A ([wM cI cJ aM jM u11] : List va_W).flatten → va_S A s.heap H locs → lv_has ls 3 [(0, .ref aM), (1, .int r2), (2, .int r9)] → W p l e ({ frames := 3, cells := 0, slots := 0, locals := 65 } : Room) s m ([.ref aM] : List Value).toArray below meth c H locs 0 0 Q (F0 m 74 ls []) := by
      intro u11 H locs ls hm hP hD hS hl
      have hm := ap1 eK74_12 hm
      refine lv_aload_n hx hb dX7_readHead_74 rfl (lv_at hl 0 rfl) ?_
      refine va_get (D := (dC, dI)) (ci := 8) (v := .ref (jM 10)) (C := RX7) (T := TX7) (N := 34) hx hb ht inX7 hown hK hP 0 rfl rfl 10 (by decide) (ht _ kw_19) (fun _ h9 => h9) rfl dX7_readHead_75 ?_
      refine lv_iconst (v := (1 : Int32)) hx hb dX7_readHead_78 (by decide) ?_
      refine lv_aload_n hx hb dX7_readHead_79 rfl (lv_at hl 0 rfl) ?_
      refine va_get (D := (dC, dI)) (ci := 8) (v := .int (u11.1 27)) (C := RX7) (T := TX7) (N := 34) hx hb ht inX7 hown hK hP 0 rfl rfl 27 (by decide) (ht _ kw_95) (fun _ h9 => h9) rfl dX7_readHead_80 ?_
      refine lv_if_ne (tgt := 90) hx hb dX7_readHead_83 (by decide) (fun c13 => ?_) (fun c13 => ?_)
      · have hm := ite_f c13 hm
        refine lv_iconst (v := (5 : Int32)) hx hb dX7_readHead_90 (by decide) ?_
        obtain ⟨g14, hm⟩ := gdi_of hm
        refine va_iast hx hb hK hP hD hS 5 0 rfl rfl g14 dX7_readHead_91 (fun H locs hP hD hS => ?_)
        obtain ⟨u15, eu15, hm⟩ := bnd_ex hm
        have hP : va_P (dC, dI) vwCl ([wM cI cJ aM jM u15] : List va_W).flatten H := by rw [eu15]; exact hP
        have hD : va_D A ([wM cI cJ aM jM u15] : List va_W).flatten := by rw [eu15]; exact hD
        refine lv_aload_n hx hb dX7_readHead_92 rfl (lv_at hl 0 rfl) ?_
        refine lv_iconst (v := (2 : Int32)) hx hb dX7_readHead_93 (by decide) ?_
        have hPc : va_P (dC, dI) vwCl ([wM cI cJ aM jM u15] : List va_W).flatten _ := hP
        have hDc : va_D A ([wM cI cJ aM jM u15] : List va_W).flatten := hD
        have hFc := va_freeF (fc := ([wM cI cJ aM jM u15] : List va_W)) hD hS hA [0] rfl
        obtain ⟨u16o, r17o, e18, hm⟩ := oC2_of hm
        refine va_calll (va_runV (As := [.int (2 : Int32)]) (rest := []) ⟨hx, hb, hml, hown, ht⟩ (c_X7_nextWide l dC dI cI cJ aM jM H.size u15 (2 : Int32) (u16o, r17o) e18) (cwV 1 ht (gdV kw_115 kw_113 kw_114 kw_7 kw_112) rfl rfl rfl ⟨rfl, nd_X7_nextWide⟩ ⟨Nat.le_of_ble_eq_true rfl, Nat.le_of_ble_eq_true rfl⟩) ⟨pcW_blind, va_recv hK hPc (ci := 8) (q0 := 0) rfl rfl, pcW_pre hPc hK hDc hN⟩ rfl rfl hl.1 rfl (lv_room (Nat.le_of_ble_eq_true rfl)) dX7_readHead_94 ⟨Nat.zero_le _, Nat.zero_le _⟩) hS (fun q _ z => hFc q z) hFc (fun r17 uu t H1 locs ht1 hvm hw hB hz1 hk1 hS => ?_)
        obtain ⟨u16, rfl⟩ : ∃ z, z = uu := ⟨_, rfl⟩
        obtain ⟨hP1, hD1⟩ := hB
        rw [ht1] at hP1
        obtain ⟨q0, q1⟩ := inj2 hw
        subst q0
        subst q1
        have hP : va_P (dC, dI) vwCl ([wM cI cJ aM jM u16] : List va_W).flatten H1 := hP1
        have hD : va_D A ([wM cI cJ aM jM u16] : List va_W).flatten := hD1.weaken (fun _ q _ z => hFc q.1 z)
        generalize H1 = H at hP hS ⊢
        refine lv_l2i hx hb dX7_readHead_97 rfl ?_
        rw [← hQ]
        exact W.iret (v := (r17).toInt32) hx hb hr (fun t ht1 hW => ⟨⟨_, u16, rfl, hm, by rw [ht1]; exact hP, hD⟩, hS.F ht1⟩) hS.2.2 dX7_readHead_98
      · have hm := ite_t c13 hm
        refine lv_iload_n hx hb dX7_readHead_86 rfl (lv_at hl 2 rfl) ?_
        refine lv_goto (tgt := 91) hx hb dX7_readHead_87 (by decide) ?_
        obtain ⟨g19, hm⟩ := gdi_of hm
        refine va_iast hx hb hK hP hD hS 5 0 rfl rfl g19 dX7_readHead_91 (fun H locs hP hD hS => ?_)
        obtain ⟨u20, eu20, hm⟩ := bnd_ex hm
        have hP : va_P (dC, dI) vwCl ([wM cI cJ aM jM u20] : List va_W).flatten H := by rw [eu20]; exact hP
        have hD : va_D A ([wM cI cJ aM jM u20] : List va_W).flatten := by rw [eu20]; exact hD
        refine lv_aload_n hx hb dX7_readHead_92 rfl (lv_at hl 0 rfl) ?_
        refine lv_iconst (v := (2 : Int32)) hx hb dX7_readHead_93 (by decide) ?_
        have hPc : va_P (dC, dI) vwCl ([wM cI cJ aM jM u20] : List va_W).flatten _ := hP
        have hDc : va_D A ([wM cI cJ aM jM u20] : List va_W).flatten := hD
        have hFc := va_freeF (fc := ([wM cI cJ aM jM u20] : List va_W)) hD hS hA [0] rfl
        obtain ⟨u21o, r22o, e23, hm⟩ := oC2_of hm
        refine va_calll (va_runV (As := [.int (2 : Int32)]) (rest := []) ⟨hx, hb, hml, hown, ht⟩ (c_X7_nextWide l dC dI cI cJ aM jM H.size u20 (2 : Int32) (u21o, r22o) e23) (cwV 1 ht (gdV kw_115 kw_113 kw_114 kw_7 kw_112) rfl rfl rfl ⟨rfl, nd_X7_nextWide⟩ ⟨Nat.le_of_ble_eq_true rfl, Nat.le_of_ble_eq_true rfl⟩) ⟨pcW_blind, va_recv hK hPc (ci := 8) (q0 := 0) rfl rfl, pcW_pre hPc hK hDc hN⟩ rfl rfl hl.1 rfl (lv_room (Nat.le_of_ble_eq_true rfl)) dX7_readHead_94 ⟨Nat.zero_le _, Nat.zero_le _⟩) hS (fun q _ z => hFc q z) hFc (fun r22 uu t H1 locs ht1 hvm hw hB hz1 hk1 hS => ?_)
        obtain ⟨u21, rfl⟩ : ∃ z, z = uu := ⟨_, rfl⟩
        obtain ⟨hP1, hD1⟩ := hB
        rw [ht1] at hP1
        obtain ⟨q0, q1⟩ := inj2 hw
        subst q0
        subst q1
        have hP : va_P (dC, dI) vwCl ([wM cI cJ aM jM u21] : List va_W).flatten H1 := hP1
        have hD : va_D A ([wM cI cJ aM jM u21] : List va_W).flatten := hD1.weaken (fun _ q _ z => hFc q.1 z)
        generalize H1 = H at hP hS ⊢
        refine lv_l2i hx hb dX7_readHead_97 rfl ?_
        rw [← hQ]
        exact W.iret (v := (r22).toInt32) hx hb hr (fun t ht1 hW => ⟨⟨_, u21, rfl, hm, by rw [ht1]; exact hP, hD⟩, hS.F ht1⟩) hS.2.2 dX7_readHead_98
    refine lv_if_ne (tgt := 74) hx hb dX7_readHead_55 (by decide) (fun c24 => ?_) (fun c24 => ?_)
    · have hm := ite_f c24 hm
      exact J74_12 u8 _ _ _ hm hP hD hS (lv_sub hl [1, 2, 0] rfl)
    · have hm := ite_t c24 hm
      refine lv_iload_n hx hb dX7_readHead_58 rfl (lv_at hl 0 rfl) ?_
      refine lv_iconst (v := (5 : Int32)) hx hb dX7_readHead_59 (by decide) ?_
      obtain ⟨K69_25, eK69_25, hm⟩ := bnd_ex hm
      have J69_25 : ∀ (H : Heap) (locs : List Loc) (ls : Array Slot), K69_25 = some o → va_P (dC, dI) vwCl ([wM cI cJ aM jM u8] : List va_W).flatten H → va_D A ([wM cI cJ aM jM u8] : List va_W).flatten → va_S A s.heap H locs → lv_has ls 3 [(0, .ref aM), (1, .int r2), (2, .int r9)] → W p l e ({ frames := 3, cells := 0, slots := 0, locals := 65 } : Room) s m ([.ref aM] : List Value).toArray below meth c H locs 0 0 Q (F0 m 69 ls []) := by
        intro H locs ls hm hP hD hS hl
        have hm := ap0 eK69_25 hm
        refine lv_aload_n hx hb dX7_readHead_69 rfl (lv_at hl 0 rfl) ?_
        refine lv_iconst (v := (2 : Int32)) hx hb dX7_readHead_70 (by decide) ?_
        have hPc : va_P (dC, dI) vwCl ([wM cI cJ aM jM u8] : List va_W).flatten _ := hP
        have hDc : va_D A ([wM cI cJ aM jM u8] : List va_W).flatten := hD
        have hFc := va_freeF (fc := ([wM cI cJ aM jM u8] : List va_W)) hD hS hA [0] rfl
        obtain ⟨u26o, e27, hm⟩ := oC1_of hm
        refine va_callv (va_runV (As := [.int (2 : Int32)]) (rest := []) ⟨hx, hb, hml, hown, ht⟩ (c_X7_fail l dC dI cI cJ aM jM H.size u8 (2 : Int32) u26o e27) (cwV 1 ht (gdV kw_100 kw_98 kw_99 kw_7 kw_97) rfl rfl rfl ⟨rfl, nd_X7_fail⟩ ⟨Nat.le_of_ble_eq_true rfl, Nat.le_of_ble_eq_true rfl⟩) ⟨pcW_blind, va_recv hK hPc (ci := 8) (q0 := 0) rfl rfl, pcW_pre hPc hK hDc hN⟩ rfl rfl hl.1 rfl (lv_room (Nat.le_of_ble_eq_true rfl)) dX7_readHead_71 ⟨Nat.zero_le _, Nat.zero_le _⟩) hS (fun q _ z => hFc q z) hFc (fun uu t H1 locs ht1 hvm hw hB hz1 hk1 hS => ?_)
        obtain ⟨u26, rfl⟩ : ∃ z, z = uu := ⟨_, rfl⟩
        obtain ⟨hP1, hD1⟩ := hB
        rw [ht1] at hP1
        obtain rfl : u26 = u26o := Option.some.inj hw
        have hP : va_P (dC, dI) vwCl ([wM cI cJ aM jM u26] : List va_W).flatten H1 := hP1
        have hD : va_D A ([wM cI cJ aM jM u26] : List va_W).flatten := hD1.weaken (fun _ q _ z => hFc q.1 z)
        generalize H1 = H at hP hS ⊢
        exact J74_12 u26 _ _ _ hm hP hD hS (lv_sub hl [0, 1, 2] rfl)
      refine lv_icmp_lt (tgt := 69) hx hb dX7_readHead_60 (by decide) (fun c28 => ?_) (fun c28 => ?_)
      · have hm := ite_t c28 hm
        exact J69_25 _ _ _ hm hP hD hS (lv_sub hl [1, 2, 0] rfl)
      · have hm := ite_f c28 hm
        refine lv_iload_n hx hb dX7_readHead_63 rfl (lv_at hl 0 rfl) ?_
        refine lv_bipush (v := (12 : Int32)) hx hb dX7_readHead_64 (by decide) ?_
        refine lv_icmp_le (tgt := 74) hx hb dX7_readHead_66 (by decide) (fun c29 => ?_) (fun c29 => ?_)
        · have hm := ite_t c29 hm
          exact J74_12 u8 _ _ _ hm hP hD hS (lv_sub hl [1, 2, 0] rfl)
        · have hm := ite_f c29 hm
          exact J69_25 _ _ _ hm hP hD hS (lv_sub hl [1, 2, 0] rfl)
  refine lv_if_ne (tgt := 30) hx hb dX7_readHead_9 (by decide) (fun c30 => ?_) (fun c30 => ?_)
  · have hm := ite_f c30 hm
    exact J30_5 u1 _ _ _ hm hP hD hS (lv_sub hl [1, 0] rfl)
  · have hm := ite_t c30 hm
    refine lv_iload_n hx hb dX7_readHead_12 rfl (lv_at hl 0 rfl) ?_
    refine lv_bipush (v := (15 : Int32)) hx hb dX7_readHead_13 (by decide) ?_
    obtain ⟨K25_31, eK25_31, hm⟩ := bnd_ex hm
    have J25_31 : ∀ (H : Heap) (locs : List Loc) (ls : Array Slot), K25_31 = some o → va_P (dC, dI) vwCl ([wM cI cJ aM jM u1] : List va_W).flatten H → va_D A ([wM cI cJ aM jM u1] : List va_W).flatten → va_S A s.heap H locs → lv_has ls 3 [(0, .ref aM), (1, .int r2)] → W p l e ({ frames := 3, cells := 0, slots := 0, locals := 65 } : Room) s m ([.ref aM] : List Value).toArray below meth c H locs 0 0 Q (F0 m 25 ls []) := by
      intro H locs ls hm hP hD hS hl
      have hm := ap0 eK25_31 hm
      refine lv_aload_n hx hb dX7_readHead_25 rfl (lv_at hl 0 rfl) ?_
      refine lv_iconst (v := (2 : Int32)) hx hb dX7_readHead_26 (by decide) ?_
      have hPc : va_P (dC, dI) vwCl ([wM cI cJ aM jM u1] : List va_W).flatten _ := hP
      have hDc : va_D A ([wM cI cJ aM jM u1] : List va_W).flatten := hD
      have hFc := va_freeF (fc := ([wM cI cJ aM jM u1] : List va_W)) hD hS hA [0] rfl
      obtain ⟨u32o, e33, hm⟩ := oC1_of hm
      refine va_callv (va_runV (As := [.int (2 : Int32)]) (rest := []) ⟨hx, hb, hml, hown, ht⟩ (c_X7_fail l dC dI cI cJ aM jM H.size u1 (2 : Int32) u32o e33) (cwV 1 ht (gdV kw_100 kw_98 kw_99 kw_7 kw_97) rfl rfl rfl ⟨rfl, nd_X7_fail⟩ ⟨Nat.le_of_ble_eq_true rfl, Nat.le_of_ble_eq_true rfl⟩) ⟨pcW_blind, va_recv hK hPc (ci := 8) (q0 := 0) rfl rfl, pcW_pre hPc hK hDc hN⟩ rfl rfl hl.1 rfl (lv_room (Nat.le_of_ble_eq_true rfl)) dX7_readHead_27 ⟨Nat.zero_le _, Nat.zero_le _⟩) hS (fun q _ z => hFc q z) hFc (fun uu t H1 locs ht1 hvm hw hB hz1 hk1 hS => ?_)
      obtain ⟨u32, rfl⟩ : ∃ z, z = uu := ⟨_, rfl⟩
      obtain ⟨hP1, hD1⟩ := hB
      rw [ht1] at hP1
      obtain rfl : u32 = u32o := Option.some.inj hw
      have hP : va_P (dC, dI) vwCl ([wM cI cJ aM jM u32] : List va_W).flatten H1 := hP1
      have hD : va_D A ([wM cI cJ aM jM u32] : List va_W).flatten := hD1.weaken (fun _ q _ z => hFc q.1 z)
      generalize H1 = H at hP hS ⊢
      exact J30_5 u32 _ _ _ hm hP hD hS (lv_sub hl [0, 1] rfl)
    refine lv_icmp_gt (tgt := 25) hx hb dX7_readHead_15 (by decide) (fun c34 => ?_) (fun c34 => ?_)
    · have hm := ite_t c34 hm
      exact J25_31 _ _ _ hm hP hD hS (lv_sub hl [1, 0] rfl)
    · have hm := ite_f c34 hm
      refine lv_iload_n hx hb dX7_readHead_18 rfl (lv_at hl 0 rfl) ?_
      refine lv_iconst (v := (3 : Int32)) hx hb dX7_readHead_19 (by decide) ?_
      refine lv_iand hx hb dX7_readHead_20 ?_
      refine lv_iconst (v := (3 : Int32)) hx hb dX7_readHead_21 (by decide) ?_
      refine lv_icmp_ne (tgt := 30) hx hb dX7_readHead_22 (by decide) (fun c35 => ?_) (fun c35 => ?_)
      · have hm := ite_f c35 hm
        exact J30_5 u1 _ _ _ hm hP hD hS (lv_sub hl [1, 0] rfl)
      · have hm := ite_t c35 hm
        exact J25_31 _ _ _ hm hP hD hS (lv_sub hl [1, 0] rfl)

def f_X7_readAll_L244 : Nat → (Int32 → OS → Option (OS)) → Int32 → OS → Option (OS)
  | 0, _, _, _ => none
  | n244 + 1, K271_38, x34, u35 =>
    if (u35.1 29) ≤ (0 : Int32) then (
    K271_38 x34 u35) else (
    oC2 (f_X7_nextBit u35) fun u46 r47 =>
    if r47 = (0 : Int32) then (
    if x34 = (0 : Int32) then (
    f_X7_readAll_L244 n244 K271_38 (0 : Int32) u46) else (
    f_X7_readAll_L244 n244 K271_38 (1 : Int32) u46)) else (
    f_X7_readAll_L244 n244 K271_38 (0 : Int32) u46))

def f_X7_readAll_L186 : Nat → (Int32 → OS → Option (OS)) → Int32 → OS → Option (OS)
  | 0, _, _, _ => none
  | n186 + 1, K235_32, x28, u29 =>
    if (u29.1 31) ≤ x28 then (
    K235_32 x28 u29) else (
    if (u29.1 27) = (0 : Int32) then (
    gdi x28 4 <|
    gdi (1 : Int32) 2 <|
    oC1 (f_X7_firstState (u29.1 30) (u29.2.1 10 ((1 : Int32)).toNatClampNeg)) fun r55 =>
    if (u29.2.2.1 33 (x28).toNatClampNeg) = r55 then (
    bnd (x28 + (1 : Int32)) fun x58 =>
    f_X7_readAll_L186 n186 K235_32 x58 u29) else (
    oC1 (f_X7_fail u29 (5 : Int32)) fun u59 =>
    bnd (x28 + (1 : Int32)) fun x61 =>
    f_X7_readAll_L186 n186 K235_32 x61 u59)) else (
    K235_32 x28 u29))

def f_X7_readAll_L156 (r6 : Int32) : Nat → (Int32 → OS → Option (OS)) → Int32 → OS → Option (OS)
  | 0, _, _, _ => none
  | n156 + 1, K184_27, x23, u24 =>
    if r6 ≤ x23 then (
    K184_27 x23 u24) else (
    if (u24.1 27) = (0 : Int32) then (
    gdz (u24.1 31) <|
    oC1 (f_X7_readSign u24 (x23 - x23 / (u24.1 31) * (u24.1 31))) fun u65 =>
    bnd (x23 + (1 : Int32)) fun x67 =>
    f_X7_readAll_L156 r6 n156 K184_27 x67 u65) else (
    K184_27 x23 u24))

def f_X7_readAll_L51 : Nat → (Int32 → OS → Option (OS)) → Int32 → OS → Option (OS)
  | 0, _, _, _ => none
  | n51 + 1, K133_17, x13, u14 =>
    if (u14.1 31) ≤ x13 then (
    K133_17 x13 u14) else (
    if (u14.1 27) = (0 : Int32) then (
    bnd (fun (x71 : Int32) =>
    oC2 (f_X7_nextWide u14 x71) fun u73 r74 =>
    gdi x13 4 <|
    bnd (sL u73 33 x13 r74) fun u77 =>
    if (u77.1 27) = (0 : Int32) then (
    gdi x13 4 <|
    oC1 (f_X7_isInSpan u77 (u77.2.2.1 33 (x13).toNatClampNeg)) fun r81 =>
    if r81 = (0 : Int32) then (
    oC1 (f_X7_fail u77 (4 : Int32)) fun u85 =>
    bnd (x13 + (1 : Int32)) fun x87 =>
    f_X7_readAll_L51 n51 K133_17 x87 u85) else (
    bnd (x13 + (1 : Int32)) fun x84 =>
    f_X7_readAll_L51 n51 K133_17 x84 u77)) else (
    bnd (x13 + (1 : Int32)) fun x79 =>
    f_X7_readAll_L51 n51 K133_17 x79 u77)) fun K98_72 =>
    if (u14.1 30) = (1 : Int32) then (
    K98_72 (8 : Int32)) else (
    if (u14.1 30) = (2 : Int32) then (
    K98_72 (2 : Int32)) else (
    K98_72 (4 : Int32)))) else (
    K133_17 x13 u14))

def f_X7_readAll (uM : OS) : Option (OS) :=
  bnd (sF uM 25 (0 : Int32)) fun u1 =>
  bnd (sF u1 26 (0 : Int32)) fun u2 =>
  bnd (sF u2 27 (0 : Int32)) fun u3 =>
  bnd (sF u3 32 (0 : Int32)) fun u4 =>
  oC2 (f_X7_readHead u4) fun u5 r6 =>
  bnd (fun (u8 : OS) =>
  if (u8.1 27) ≤ (0 : Int32) then (
  oC1 (f_X7_lay u8 (1 : Int32)) fun u11 =>
  bnd (fun (x15 : Int32) (u16 : OS) =>
  bnd (fun (x18 : Int32) =>
  gdb x18 <|
  bnd (sF u16 32 x18) fun u20 =>
  bnd (sF u20 29 (0 : Int32)) fun u22 =>
  bnd (fun (x25 : Int32) (u26 : OS) =>
  bnd (fun (x30 : Int32) (u31 : OS) =>
  if (u31.1 27) = (0 : Int32) then (
  bnd (fun (x36 : Int32) (u37 : OS) =>
  if x36 = (0 : Int32) then (
  oC1 (f_X7_fail u37 (6 : Int32)) fun u40 =>
  some u40) else (
  if (u37.1 15) ≤ (u37.1 26) then (
  some u37) else (
  oC1 (f_X7_fail u37 (6 : Int32)) fun u43 =>
  some u43))) fun K271_38 =>
  f_X7_readAll_L244 FU K271_38 (1 : Int32) u31) else (
  some u31)) fun K235_32 =>
  f_X7_readAll_L186 FU K235_32 (0 : Int32) u26) fun K184_27 =>
  f_X7_readAll_L156 r6 FU K184_27 (0 : Int32) u22) fun K146_19 =>
  if (u16.1 27) = (0 : Int32) then (
  K146_19 (1 : Int32)) else (
  K146_19 (0 : Int32))) fun K133_17 =>
  f_X7_readAll_L51 FU K133_17 (0 : Int32) u11) else (
  some u8)) fun K36_9 =>
  if (u5.1 27) = (0 : Int32) then (
  oC1 (f_X7_readTable u5) fun u91 =>
  K36_9 u91) else (
  K36_9 u5)

set_option maxHeartbeats 4000000 in
set_option maxRecDepth 100000 in
theorem c_X7_readAll (l : Launch) (dC : Nat → ClassId) (dI : Nat → Nat → Nat) (cI cJ : ClassId) (aM : Nat) (jM : Nat → Nat) (sz : Nat) (uM : OS) (o : OS) (hm : f_X7_readAll uM = some o) : Met l yX7_readAll (wq yX7_readAll cX7_readAll 3 none) ({ frames := 5, cells := 0, slots := 0, locals := 120 } : Room) (va_Pc [.ref aM] (pcW dC dI cI cJ sz ([wM cI cJ aM jM uM] : List va_W).flatten)) (va_Qv (S := OS) (fun u => some u = some o) (fun (u : OS) t => va_P (dC, dI) vwCl ([wM cI cJ aM jM u] : List va_W).flatten t.heap ∧ va_D (va_A ([wM cI cJ aM jM uM] : List va_W).flatten sz) ([wM cI cJ aM jM u] : List va_W).flatten) (va_A ([wM cI cJ aM jM uM] : List va_W).flatten sz)) 0 0 (va_A ([wM cI cJ aM jM uM] : List va_W).flatten sz) := by
  refine Met.ofW (cc := cX7_readAll) (maxL := 3) (ret := none) (by decide) rfl ?_
  intro p e s m args below meth c s₁ B hml hv
  obtain ⟨rfl, hsz, hP, hK, hD0, hN⟩ := hv
  have hx := B.exec
  have hb := B.bytes
  have hr := B.returns
  have ht : ∀ w ∈ lw_good, w.before _ s = true := fun w h => atoms_spec (ws := wq yX7_readAll cX7_readAll 3 none) B.pre w (wq_mem h)
  have hown : s.vm.findClass RX7 = some m.cls := findClass_of_methodNamed B.named
  have hlocks := B.notSynchronized
  subst hsz
  have hD := hD0.self (sz := s.heap.size)
  generalize hAe : va_A ([wM cI cJ aM jM uM] : List va_W).flatten s.heap.size = A at hD ⊢
  have hA : ∀ q : Nat, s.heap.size ≤ q → A q := fun q h => by rw [← hAe]; exact Or.inr h
  have hS : va_S A s.heap s.heap [] := va_S.rf
  have hl := lv_entry ([.ref aM]) (n := 3) (Nat.le_of_ble_eq_true rfl)
  rw [lg_entry_eq]
  generalize (lg_sl ([.ref aM]) ++ List.replicate (3 - (lg_sl ([.ref aM])).length) Slot.unset).toArray = ls at hl ⊢
  have hl : lv_has ls 3 [(0, .ref aM)] := hl
  generalize hQ : MQ below _ _ s _ _ _ = Q
  generalize hH : s.heap = H at hP ⊢
  have hS : va_S A s.heap H [] := by rw [← hH]; exact va_S.rf
  show W p l e ({ frames := 5, cells := 0, slots := 0, locals := 120 } : Room) s m ([.ref aM] : List Value).toArray below meth c H [] 0 0 Q (F0 m 0 ls [])
  unfold f_X7_readAll at hm
  refine lv_aload_n hx hb dX7_readAll_0 rfl (lv_at hl 0 rfl) ?_
  refine lv_iconst (v := (0 : Int32)) hx hb dX7_readAll_1 (by decide) ?_
  refine va_put (D := (dC, dI)) (ci := 8) (v := .int (0 : Int32)) (ty := .int) (C := RX7) (T := TX7) (N := 34) hx hb ht inX7 tyX7 tyX7_ok nmX7 hown hK hP hD hS 0 rfl rfl 25 (by decide) (ht _ kw_121) (fun _ h9 => h9) rfl (by decide +kernel) rfl rfl (Nat.le_of_ble_eq_true rfl) dX7_readAll_2 (fun H locs hP hD hS => ?_)
  obtain ⟨u1, eu1, hm⟩ := bnd_ex hm
  have hP : va_P (dC, dI) vwCl ([wM cI cJ aM jM u1] : List va_W).flatten H := by rw [eu1]; exact hP
  have hD : va_D A ([wM cI cJ aM jM u1] : List va_W).flatten := by rw [eu1]; exact hD
  refine lv_aload_n hx hb dX7_readAll_5 rfl (lv_at hl 0 rfl) ?_
  refine lv_iconst (v := (0 : Int32)) hx hb dX7_readAll_6 (by decide) ?_
  refine va_put (D := (dC, dI)) (ci := 8) (v := .int (0 : Int32)) (ty := .int) (C := RX7) (T := TX7) (N := 34) hx hb ht inX7 tyX7 tyX7_ok nmX7 hown hK hP hD hS 0 rfl rfl 26 (by decide) (ht _ kw_96) (fun _ h9 => h9) rfl (by decide +kernel) rfl rfl (Nat.le_of_ble_eq_true rfl) dX7_readAll_7 (fun H locs hP hD hS => ?_)
  obtain ⟨u2, eu2, hm⟩ := bnd_ex hm
  have hP : va_P (dC, dI) vwCl ([wM cI cJ aM jM u2] : List va_W).flatten H := by rw [eu2]; exact hP
  have hD : va_D A ([wM cI cJ aM jM u2] : List va_W).flatten := by rw [eu2]; exact hD
  refine lv_aload_n hx hb dX7_readAll_10 rfl (lv_at hl 0 rfl) ?_
  refine lv_iconst (v := (0 : Int32)) hx hb dX7_readAll_11 (by decide) ?_
  refine va_put (D := (dC, dI)) (ci := 8) (v := .int (0 : Int32)) (ty := .int) (C := RX7) (T := TX7) (N := 34) hx hb ht inX7 tyX7 tyX7_ok nmX7 hown hK hP hD hS 0 rfl rfl 27 (by decide) (ht _ kw_95) (fun _ h9 => h9) rfl (by decide +kernel) rfl rfl (Nat.le_of_ble_eq_true rfl) dX7_readAll_12 (fun H locs hP hD hS => ?_)
  obtain ⟨u3, eu3, hm⟩ := bnd_ex hm
  have hP : va_P (dC, dI) vwCl ([wM cI cJ aM jM u3] : List va_W).flatten H := by rw [eu3]; exact hP
  have hD : va_D A ([wM cI cJ aM jM u3] : List va_W).flatten := by rw [eu3]; exact hD
  refine lv_aload_n hx hb dX7_readAll_15 rfl (lv_at hl 0 rfl) ?_
  refine lv_iconst (v := (0 : Int32)) hx hb dX7_readAll_16 (by decide) ?_
  refine va_put (D := (dC, dI)) (ci := 8) (v := .int (0 : Int32)) (ty := .boolean) (C := RX7) (T := TX7) (N := 34) hx hb ht inX7 tyX7 tyX7_ok nmX7 hown hK hP hD hS 0 rfl rfl 32 (by decide) (ht _ kw_135) (fun _ h9 => h9) rfl (by decide +kernel) rfl rfl (Nat.le_of_ble_eq_true rfl) dX7_readAll_17 (fun H locs hP hD hS => ?_)
  obtain ⟨u4, eu4, hm⟩ := bnd_ex hm
  have hP : va_P (dC, dI) vwCl ([wM cI cJ aM jM u4] : List va_W).flatten H := by rw [eu4]; exact hP
  have hD : va_D A ([wM cI cJ aM jM u4] : List va_W).flatten := by rw [eu4]; exact hD
  refine lv_aload_n hx hb dX7_readAll_20 rfl (lv_at hl 0 rfl) ?_
  have hPc : va_P (dC, dI) vwCl ([wM cI cJ aM jM u4] : List va_W).flatten _ := hP
  have hDc : va_D A ([wM cI cJ aM jM u4] : List va_W).flatten := hD
  have hFc := va_freeF (fc := ([wM cI cJ aM jM u4] : List va_W)) hD hS hA [0] rfl
  obtain ⟨u5o, r6o, e7, hm⟩ := oC2_of hm
  refine va_calli (va_runV (As := []) (rest := []) ⟨hx, hb, hml, hown, ht⟩ (c_X7_readHead l dC dI cI cJ aM jM H.size u4 (u5o, r6o) e7) (cwV 0 ht (gdV kw_139 kw_137 kw_138 kw_7 kw_136) rfl rfl rfl ⟨rfl, nd_X7_readHead⟩ ⟨Nat.le_of_ble_eq_true rfl, Nat.le_of_ble_eq_true rfl⟩) ⟨pcW_blind, va_recv hK hPc (ci := 8) (q0 := 0) rfl rfl, pcW_pre hPc hK hDc hN⟩ rfl rfl hl.1 rfl (lv_room (Nat.le_of_ble_eq_true rfl)) dX7_readAll_21 ⟨Nat.zero_le _, Nat.zero_le _⟩) hS (fun q _ z => hFc q z) hFc (fun r6 uu t H1 locs ht1 hvm hw hB hz1 hk1 hS => ?_)
  obtain ⟨u5, rfl⟩ : ∃ z, z = uu := ⟨_, rfl⟩
  obtain ⟨hP1, hD1⟩ := hB
  rw [ht1] at hP1
  obtain ⟨q0, q1⟩ := inj2 hw
  subst q0
  subst q1
  have hP : va_P (dC, dI) vwCl ([wM cI cJ aM jM u5] : List va_W).flatten H1 := hP1
  have hD : va_D A ([wM cI cJ aM jM u5] : List va_W).flatten := hD1.weaken (fun _ q _ z => hFc q.1 z)
  generalize H1 = H at hP hS ⊢
  refine lv_istore_n (lv' := [(1, .int r6), (0, .ref aM)]) hx hb dX7_readAll_24 rfl hl (by decide) rfl (fun ls hl => ?_)
  refine lv_aload_n hx hb dX7_readAll_25 rfl (lv_at hl 1 rfl) ?_
  refine va_get (D := (dC, dI)) (ci := 8) (v := .int (u5.1 27)) (C := RX7) (T := TX7) (N := 34) hx hb ht inX7 hown hK hP 0 rfl rfl 27 (by decide) (ht _ kw_95) (fun _ h9 => h9) rfl dX7_readAll_26 ?_
  obtain ⟨K36_9, eK36_9, hm⟩ := bnd_ex hm
  have J36_9 : ∀ (u8 : OS) (H : Heap) (locs : List Loc) (ls : Array Slot), K36_9 u8 = some o → va_P (dC, dI) vwCl ([wM cI cJ aM jM u8] : List va_W).flatten H → va_D A ([wM cI cJ aM jM u8] : List va_W).flatten → va_S A s.heap H locs → lv_has ls 3 [(0, .ref aM), (1, .int r6)] → W p l e ({ frames := 5, cells := 0, slots := 0, locals := 120 } : Room) s m ([.ref aM] : List Value).toArray below meth c H locs 0 0 Q (F0 m 36 ls []) := by
    intro u8 H locs ls hm hP hD hS hl
    have hm := ap1 eK36_9 hm
    refine lv_aload_n hx hb dX7_readAll_36 rfl (lv_at hl 0 rfl) ?_
    refine va_get (D := (dC, dI)) (ci := 8) (v := .int (u8.1 27)) (C := RX7) (T := TX7) (N := 34) hx hb ht inX7 hown hK hP 0 rfl rfl 27 (by decide) (ht _ kw_95) (fun _ h9 => h9) rfl dX7_readAll_37 ?_
    refine lv_if_le (tgt := 44) hx hb dX7_readAll_40 (by decide) (fun c10 => ?_) (fun c10 => ?_)
    · have hm := ite_t c10 hm
      refine lv_aload_n hx hb dX7_readAll_44 rfl (lv_at hl 0 rfl) ?_
      refine lv_iconst (v := (1 : Int32)) hx hb dX7_readAll_45 (by decide) ?_
      have hPc : va_P (dC, dI) vwCl ([wM cI cJ aM jM u8] : List va_W).flatten _ := hP
      have hDc : va_D A ([wM cI cJ aM jM u8] : List va_W).flatten := hD
      have hFc := va_freeF (fc := ([wM cI cJ aM jM u8] : List va_W)) hD hS hA [0] rfl
      obtain ⟨u11o, e12, hm⟩ := oC1_of hm
      refine va_callv (va_runV (As := [.int (1 : Int32)]) (rest := []) ⟨hx, hb, hml, hown, ht⟩ (c_X7_lay l dC dI cI cJ aM jM H.size u8 (1 : Int32) u11o e12) (cwV 1 ht (gdV kw_27 kw_25 kw_26 kw_7 kw_24) rfl rfl rfl ⟨rfl, nd_X7_lay⟩ ⟨Nat.le_of_ble_eq_true rfl, Nat.le_of_ble_eq_true rfl⟩) ⟨pcW_blind, va_recv hK hPc (ci := 8) (q0 := 0) rfl rfl, pcW_pre hPc hK hDc hN⟩ rfl rfl hl.1 rfl (lv_room (Nat.le_of_ble_eq_true rfl)) dX7_readAll_46 ⟨Nat.zero_le _, Nat.zero_le _⟩) hS (fun q _ z => hFc q z) hFc (fun uu t H1 locs ht1 hvm hw hB hz1 hk1 hS => ?_)
      obtain ⟨u11, rfl⟩ : ∃ z, z = uu := ⟨_, rfl⟩
      obtain ⟨hP1, hD1⟩ := hB
      rw [ht1] at hP1
      obtain rfl : u11 = u11o := Option.some.inj hw
      have hP : va_P (dC, dI) vwCl ([wM cI cJ aM jM u11] : List va_W).flatten H1 := hP1
      have hD : va_D A ([wM cI cJ aM jM u11] : List va_W).flatten := hD1.weaken (fun _ q _ z => hFc q.1 z)
      generalize H1 = H at hP hS ⊢
      refine lv_iconst (v := (0 : Int32)) hx hb dX7_readAll_49 (by decide) ?_
      refine lv_istore_n (lv' := [(2, .int (0 : Int32)), (0, .ref aM), (1, .int r6)]) hx hb dX7_readAll_50 rfl hl (by decide) rfl (fun ls hl => ?_)
      obtain ⟨K133_17, eK133_17, hm⟩ := bnd_ex hm
      have X133_17 : ∀ (x15 : Int32) (u16 : OS) (H : Heap) (locs : List Loc) (ls : Array Slot), K133_17 x15 u16 = some o → va_P (dC, dI) vwCl ([wM cI cJ aM jM u16] : List va_W).flatten H → va_D A ([wM cI cJ aM jM u16] : List va_W).flatten → va_S A s.heap H locs → lv_has ls 3 [(0, .ref aM), (1, .int r6), (2, .int x15)] → W p l e ({ frames := 5, cells := 0, slots := 0, locals := 120 } : Room) s m ([.ref aM] : List Value).toArray below meth c H locs 0 0 Q (F0 m 133 ls []) := by
        intro x15 u16 H locs ls hm hP hD hS hl
        have hm := ap2 eK133_17 hm
        refine lv_aload_n hx hb dX7_readAll_133 rfl (lv_at hl 0 rfl) ?_
        refine lv_aload_n hx hb dX7_readAll_134 rfl (lv_at hl 0 rfl) ?_
        refine va_get (D := (dC, dI)) (ci := 8) (v := .int (u16.1 27)) (C := RX7) (T := TX7) (N := 34) hx hb ht inX7 hown hK hP 0 rfl rfl 27 (by decide) (ht _ kw_95) (fun _ h9 => h9) rfl dX7_readAll_135 ?_
        obtain ⟨K146_19, eK146_19, hm⟩ := bnd_ex hm
        have J146_19 : ∀ (x18 : Int32) (H : Heap) (locs : List Loc) (ls : Array Slot), K146_19 x18 = some o → va_P (dC, dI) vwCl ([wM cI cJ aM jM u16] : List va_W).flatten H → va_D A ([wM cI cJ aM jM u16] : List va_W).flatten → va_S A s.heap H locs → lv_has ls 3 [(0, .ref aM), (1, .int r6), (2, .int x15)] → W p l e ({ frames := 5, cells := 0, slots := 0, locals := 120 } : Room) s m ([.ref aM] : List Value).toArray below meth c H locs 0 0 Q (F0 m 146 ls [.int x18, .ref aM]) := by
          intro x18 H locs ls hm hP hD hS hl
          have hm := ap1 eK146_19 hm
          obtain ⟨g21, hm⟩ := gdb_of hm
          refine va_put (D := (dC, dI)) (ci := 8) (v := .int x18) (ty := .boolean) (C := RX7) (T := TX7) (N := 34) hx hb ht inX7 tyX7 tyX7_ok nmX7 hown hK hP hD hS 0 rfl rfl 32 (by decide) (ht _ kw_135) (fun _ h9 => h9) rfl (by decide +kernel) (nb_of g21) (fb_of g21) (Nat.le_of_ble_eq_true rfl) dX7_readAll_146 (fun H locs hP hD hS => ?_)
          obtain ⟨u20, eu20, hm⟩ := bnd_ex hm
          have hP : va_P (dC, dI) vwCl ([wM cI cJ aM jM u20] : List va_W).flatten H := by rw [eu20]; exact hP
          have hD : va_D A ([wM cI cJ aM jM u20] : List va_W).flatten := by rw [eu20]; exact hD
          refine lv_aload_n hx hb dX7_readAll_149 rfl (lv_at hl 0 rfl) ?_
          refine lv_iconst (v := (0 : Int32)) hx hb dX7_readAll_150 (by decide) ?_
          refine va_put (D := (dC, dI)) (ci := 8) (v := .int (0 : Int32)) (ty := .int) (C := RX7) (T := TX7) (N := 34) hx hb ht inX7 tyX7 tyX7_ok nmX7 hown hK hP hD hS 0 rfl rfl 29 (by decide) (ht _ kw_105) (fun _ h9 => h9) rfl (by decide +kernel) rfl rfl (Nat.le_of_ble_eq_true rfl) dX7_readAll_151 (fun H locs hP hD hS => ?_)
          obtain ⟨u22, eu22, hm⟩ := bnd_ex hm
          have hP : va_P (dC, dI) vwCl ([wM cI cJ aM jM u22] : List va_W).flatten H := by rw [eu22]; exact hP
          have hD : va_D A ([wM cI cJ aM jM u22] : List va_W).flatten := by rw [eu22]; exact hD
          refine lv_iconst (v := (0 : Int32)) hx hb dX7_readAll_154 (by decide) ?_
          refine lv_istore_n (lv' := [(2, .int (0 : Int32)), (0, .ref aM), (1, .int r6)]) hx hb dX7_readAll_155 rfl hl (by decide) rfl (fun ls hl => ?_)
          obtain ⟨K184_27, eK184_27, hm⟩ := bnd_ex hm
          have X184_27 : ∀ (x25 : Int32) (u26 : OS) (H : Heap) (locs : List Loc) (ls : Array Slot), K184_27 x25 u26 = some o → va_P (dC, dI) vwCl ([wM cI cJ aM jM u26] : List va_W).flatten H → va_D A ([wM cI cJ aM jM u26] : List va_W).flatten → va_S A s.heap H locs → lv_has ls 3 [(0, .ref aM), (1, .int r6), (2, .int x25)] → W p l e ({ frames := 5, cells := 0, slots := 0, locals := 120 } : Room) s m ([.ref aM] : List Value).toArray below meth c H locs 0 0 Q (F0 m 184 ls []) := by
            intro x25 u26 H locs ls hm hP hD hS hl
            have hm := ap2 eK184_27 hm
            refine lv_iconst (v := (0 : Int32)) hx hb dX7_readAll_184 (by decide) ?_
            refine lv_istore_n (lv' := [(2, .int (0 : Int32)), (0, .ref aM), (1, .int r6)]) hx hb dX7_readAll_185 rfl hl (by decide) rfl (fun ls hl => ?_)
            obtain ⟨K235_32, eK235_32, hm⟩ := bnd_ex hm
            have X235_32 : ∀ (x30 : Int32) (u31 : OS) (H : Heap) (locs : List Loc) (ls : Array Slot), K235_32 x30 u31 = some o → va_P (dC, dI) vwCl ([wM cI cJ aM jM u31] : List va_W).flatten H → va_D A ([wM cI cJ aM jM u31] : List va_W).flatten → va_S A s.heap H locs → lv_has ls 3 [(0, .ref aM), (1, .int r6), (2, .int x30)] → W p l e ({ frames := 5, cells := 0, slots := 0, locals := 120 } : Room) s m ([.ref aM] : List Value).toArray below meth c H locs 0 0 Q (F0 m 235 ls []) := by
              intro x30 u31 H locs ls hm hP hD hS hl
              have hm := ap2 eK235_32 hm
              refine lv_aload_n hx hb dX7_readAll_235 rfl (lv_at hl 0 rfl) ?_
              refine va_get (D := (dC, dI)) (ci := 8) (v := .int (u31.1 27)) (C := RX7) (T := TX7) (N := 34) hx hb ht inX7 hown hK hP 0 rfl rfl 27 (by decide) (ht _ kw_95) (fun _ h9 => h9) rfl dX7_readAll_236 ?_
              refine lv_if_ne (tgt := 292) hx hb dX7_readAll_239 (by decide) (fun c33 => ?_) (fun c33 => ?_)
              · have hm := ite_f c33 hm
                rw [← hQ]
                exact W.vret hx hb hr (fun t ht1 hW => ⟨⟨u31, rfl, hm, by rw [ht1]; exact hP, hD⟩, hS.F ht1⟩) hS.2.2 dX7_readAll_292
              · have hm := ite_t c33 hm
                refine lv_iconst (v := (1 : Int32)) hx hb dX7_readAll_242 (by decide) ?_
                refine lv_istore_n (lv' := [(2, .int (1 : Int32)), (0, .ref aM), (1, .int r6)]) hx hb dX7_readAll_243 rfl hl (by decide) rfl (fun ls hl => ?_)
                obtain ⟨K271_38, eK271_38, hm⟩ := bnd_ex hm
                have X271_38 : ∀ (x36 : Int32) (u37 : OS) (H : Heap) (locs : List Loc) (ls : Array Slot), K271_38 x36 u37 = some o → va_P (dC, dI) vwCl ([wM cI cJ aM jM u37] : List va_W).flatten H → va_D A ([wM cI cJ aM jM u37] : List va_W).flatten → va_S A s.heap H locs → lv_has ls 3 [(0, .ref aM), (1, .int r6), (2, .int x36)] → W p l e ({ frames := 5, cells := 0, slots := 0, locals := 120 } : Room) s m ([.ref aM] : List Value).toArray below meth c H locs 0 0 Q (F0 m 271 ls []) := by
                  intro x36 u37 H locs ls hm hP hD hS hl
                  have hm := ap2 eK271_38 hm
                  refine lv_iload_n hx hb dX7_readAll_271 rfl (lv_at hl 2 rfl) ?_
                  refine lv_if_eq (tgt := 286) hx hb dX7_readAll_272 (by decide) (fun c39 => ?_) (fun c39 => ?_)
                  · have hm := ite_t c39 hm
                    refine lv_aload_n hx hb dX7_readAll_286 rfl (lv_at hl 0 rfl) ?_
                    refine lv_bipush (v := (6 : Int32)) hx hb dX7_readAll_287 (by decide) ?_
                    have hPc : va_P (dC, dI) vwCl ([wM cI cJ aM jM u37] : List va_W).flatten _ := hP
                    have hDc : va_D A ([wM cI cJ aM jM u37] : List va_W).flatten := hD
                    have hFc := va_freeF (fc := ([wM cI cJ aM jM u37] : List va_W)) hD hS hA [0] rfl
                    obtain ⟨u40o, e41, hm⟩ := oC1_of hm
                    refine va_callv (va_runV (As := [.int (6 : Int32)]) (rest := []) ⟨hx, hb, hml, hown, ht⟩ (c_X7_fail l dC dI cI cJ aM jM H.size u37 (6 : Int32) u40o e41) (cwV 1 ht (gdV kw_100 kw_98 kw_99 kw_7 kw_97) rfl rfl rfl ⟨rfl, nd_X7_fail⟩ ⟨Nat.le_of_ble_eq_true rfl, Nat.le_of_ble_eq_true rfl⟩) ⟨pcW_blind, va_recv hK hPc (ci := 8) (q0 := 0) rfl rfl, pcW_pre hPc hK hDc hN⟩ rfl rfl hl.1 rfl (lv_room (Nat.le_of_ble_eq_true rfl)) dX7_readAll_289 ⟨Nat.zero_le _, Nat.zero_le _⟩) hS (fun q _ z => hFc q z) hFc (fun uu t H1 locs ht1 hvm hw hB hz1 hk1 hS => ?_)
                    obtain ⟨u40, rfl⟩ : ∃ z, z = uu := ⟨_, rfl⟩
                    obtain ⟨hP1, hD1⟩ := hB
                    rw [ht1] at hP1
                    obtain rfl : u40 = u40o := Option.some.inj hw
                    have hP : va_P (dC, dI) vwCl ([wM cI cJ aM jM u40] : List va_W).flatten H1 := hP1
                    have hD : va_D A ([wM cI cJ aM jM u40] : List va_W).flatten := hD1.weaken (fun _ q _ z => hFc q.1 z)
                    generalize H1 = H at hP hS ⊢
                    rw [← hQ]
                    exact W.vret hx hb hr (fun t ht1 hW => ⟨⟨u40, rfl, hm, by rw [ht1]; exact hP, hD⟩, hS.F ht1⟩) hS.2.2 dX7_readAll_292
                  · have hm := ite_f c39 hm
                    refine lv_aload_n hx hb dX7_readAll_275 rfl (lv_at hl 0 rfl) ?_
                    refine va_get (D := (dC, dI)) (ci := 8) (v := .int (u37.1 26)) (C := RX7) (T := TX7) (N := 34) hx hb ht inX7 hown hK hP 0 rfl rfl 26 (by decide) (ht _ kw_96) (fun _ h9 => h9) rfl dX7_readAll_276 ?_
                    refine lv_aload_n hx hb dX7_readAll_279 rfl (lv_at hl 0 rfl) ?_
                    refine va_get (D := (dC, dI)) (ci := 8) (v := .int (u37.1 15)) (C := RX7) (T := TX7) (N := 34) hx hb ht inX7 hown hK hP 0 rfl rfl 15 (by decide) (ht _ kw_32) (fun _ h9 => h9) rfl dX7_readAll_280 ?_
                    refine lv_icmp_ge (tgt := 292) hx hb dX7_readAll_283 (by decide) (fun c42 => ?_) (fun c42 => ?_)
                    · have hm := ite_t c42 hm
                      rw [← hQ]
                      exact W.vret hx hb hr (fun t ht1 hW => ⟨⟨u37, rfl, hm, by rw [ht1]; exact hP, hD⟩, hS.F ht1⟩) hS.2.2 dX7_readAll_292
                    · have hm := ite_f c42 hm
                      refine lv_aload_n hx hb dX7_readAll_286 rfl (lv_at hl 0 rfl) ?_
                      refine lv_bipush (v := (6 : Int32)) hx hb dX7_readAll_287 (by decide) ?_
                      have hPc : va_P (dC, dI) vwCl ([wM cI cJ aM jM u37] : List va_W).flatten _ := hP
                      have hDc : va_D A ([wM cI cJ aM jM u37] : List va_W).flatten := hD
                      have hFc := va_freeF (fc := ([wM cI cJ aM jM u37] : List va_W)) hD hS hA [0] rfl
                      obtain ⟨u43o, e44, hm⟩ := oC1_of hm
                      refine va_callv (va_runV (As := [.int (6 : Int32)]) (rest := []) ⟨hx, hb, hml, hown, ht⟩ (c_X7_fail l dC dI cI cJ aM jM H.size u37 (6 : Int32) u43o e44) (cwV 1 ht (gdV kw_100 kw_98 kw_99 kw_7 kw_97) rfl rfl rfl ⟨rfl, nd_X7_fail⟩ ⟨Nat.le_of_ble_eq_true rfl, Nat.le_of_ble_eq_true rfl⟩) ⟨pcW_blind, va_recv hK hPc (ci := 8) (q0 := 0) rfl rfl, pcW_pre hPc hK hDc hN⟩ rfl rfl hl.1 rfl (lv_room (Nat.le_of_ble_eq_true rfl)) dX7_readAll_289 ⟨Nat.zero_le _, Nat.zero_le _⟩) hS (fun q _ z => hFc q z) hFc (fun uu t H1 locs ht1 hvm hw hB hz1 hk1 hS => ?_)
                      obtain ⟨u43, rfl⟩ : ∃ z, z = uu := ⟨_, rfl⟩
                      obtain ⟨hP1, hD1⟩ := hB
                      rw [ht1] at hP1
                      obtain rfl : u43 = u43o := Option.some.inj hw
                      have hP : va_P (dC, dI) vwCl ([wM cI cJ aM jM u43] : List va_W).flatten H1 := hP1
                      have hD : va_D A ([wM cI cJ aM jM u43] : List va_W).flatten := hD1.weaken (fun _ q _ z => hFc q.1 z)
                      generalize H1 = H at hP hS ⊢
                      rw [← hQ]
                      exact W.vret hx hb hr (fun t ht1 hW => ⟨⟨u43, rfl, hm, by rw [ht1]; exact hP, hD⟩, hS.F ht1⟩) hS.2.2 dX7_readAll_292
                have LP244 : ∀ (n244 : Nat) (x34 : Int32) (u35 : OS) (H : Heap) (locs : List Loc) (ls : Array Slot), f_X7_readAll_L244 n244 K271_38 x34 u35 = some o → va_P (dC, dI) vwCl ([wM cI cJ aM jM u35] : List va_W).flatten H → va_D A ([wM cI cJ aM jM u35] : List va_W).flatten → va_S A s.heap H locs → lv_has ls 3 [(0, .ref aM), (1, .int r6), (2, .int x34)] → W p l e ({ frames := 5, cells := 0, slots := 0, locals := 120 } : Room) s m ([.ref aM] : List Value).toArray below meth c H locs 0 0 Q (F0 m 244 ls []) := by
                  intro n244
                  induction n244 with
                  | zero => intro x34 u35 H locs ls hm; exact nomatch (show (none : Option _) = some _ from hm)
                  | succ n244 ih244 =>
                    intro x34 u35 H locs ls hm hP hD hS hl
                    unfold f_X7_readAll_L244 at hm
                    refine lv_aload_n hx hb dX7_readAll_244 rfl (lv_at hl 0 rfl) ?_
                    refine va_get (D := (dC, dI)) (ci := 8) (v := .int (u35.1 29)) (C := RX7) (T := TX7) (N := 34) hx hb ht inX7 hown hK hP 0 rfl rfl 29 (by decide) (ht _ kw_105) (fun _ h9 => h9) rfl dX7_readAll_245 ?_
                    refine lv_if_le (tgt := 271) hx hb dX7_readAll_248 (by decide) (fun c45 => ?_) (fun c45 => ?_)
                    · have hm := ite_t c45 hm
                      exact X271_38 x34 u35 _ _ _ hm hP hD hS (lv_sub hl [0, 1, 2] rfl)
                    · have hm := ite_f c45 hm
                      refine lv_aload_n hx hb dX7_readAll_251 rfl (lv_at hl 0 rfl) ?_
                      have hPc : va_P (dC, dI) vwCl ([wM cI cJ aM jM u35] : List va_W).flatten _ := hP
                      have hDc : va_D A ([wM cI cJ aM jM u35] : List va_W).flatten := hD
                      have hFc := va_freeF (fc := ([wM cI cJ aM jM u35] : List va_W)) hD hS hA [0] rfl
                      obtain ⟨u46o, r47o, e48, hm⟩ := oC2_of hm
                      refine va_calli (va_runV (As := []) (rest := []) ⟨hx, hb, hml, hown, ht⟩ (c_X7_nextBit l dC dI cI cJ aM jM H.size u35 (u46o, r47o) e48) (cwV 0 ht (gdV kw_109 kw_107 kw_108 kw_7 kw_106) rfl rfl rfl ⟨rfl, nd_X7_nextBit⟩ ⟨Nat.le_of_ble_eq_true rfl, Nat.le_of_ble_eq_true rfl⟩) ⟨pcW_blind, va_recv hK hPc (ci := 8) (q0 := 0) rfl rfl, pcW_pre hPc hK hDc hN⟩ rfl rfl hl.1 rfl (lv_room (Nat.le_of_ble_eq_true rfl)) dX7_readAll_252 ⟨Nat.zero_le _, Nat.zero_le _⟩) hS (fun q _ z => hFc q z) hFc (fun r47 uu t H1 locs ht1 hvm hw hB hz1 hk1 hS => ?_)
                      obtain ⟨u46, rfl⟩ : ∃ z, z = uu := ⟨_, rfl⟩
                      obtain ⟨hP1, hD1⟩ := hB
                      rw [ht1] at hP1
                      obtain ⟨q0, q1⟩ := inj2 hw
                      subst q0
                      subst q1
                      have hP : va_P (dC, dI) vwCl ([wM cI cJ aM jM u46] : List va_W).flatten H1 := hP1
                      have hD : va_D A ([wM cI cJ aM jM u46] : List va_W).flatten := hD1.weaken (fun _ q _ z => hFc q.1 z)
                      generalize H1 = H at hP hS ⊢
                      refine lv_if_ne (tgt := 266) hx hb dX7_readAll_255 (by decide) (fun c49 => ?_) (fun c49 => ?_)
                      · have hm := ite_f c49 hm
                        refine lv_iconst (v := (0 : Int32)) hx hb dX7_readAll_266 (by decide) ?_
                        refine lv_istore_n (lv' := [(2, .int (0 : Int32)), (0, .ref aM), (1, .int r6)]) hx hb dX7_readAll_267 rfl hl (by decide) rfl (fun ls hl => ?_)
                        refine lv_goto (tgt := 244) hx hb dX7_readAll_268 (by decide) ?_
                        exact ih244 (0 : Int32) u46 _ _ _ hm hP hD hS (lv_sub hl [1, 2, 0] rfl)
                      · have hm := ite_t c49 hm
                        refine lv_iload_n hx hb dX7_readAll_258 rfl (lv_at hl 2 rfl) ?_
                        refine lv_if_eq (tgt := 266) hx hb dX7_readAll_259 (by decide) (fun c50 => ?_) (fun c50 => ?_)
                        · have hm := ite_t c50 hm
                          refine lv_iconst (v := (0 : Int32)) hx hb dX7_readAll_266 (by decide) ?_
                          refine lv_istore_n (lv' := [(2, .int (0 : Int32)), (0, .ref aM), (1, .int r6)]) hx hb dX7_readAll_267 rfl hl (by decide) rfl (fun ls hl => ?_)
                          refine lv_goto (tgt := 244) hx hb dX7_readAll_268 (by decide) ?_
                          exact ih244 (0 : Int32) u46 _ _ _ hm hP hD hS (lv_sub hl [1, 2, 0] rfl)
                        · have hm := ite_f c50 hm
                          refine lv_iconst (v := (1 : Int32)) hx hb dX7_readAll_262 (by decide) ?_
                          refine lv_goto (tgt := 267) hx hb dX7_readAll_263 (by decide) ?_
                          refine lv_istore_n (lv' := [(2, .int (1 : Int32)), (0, .ref aM), (1, .int r6)]) hx hb dX7_readAll_267 rfl hl (by decide) rfl (fun ls hl => ?_)
                          refine lv_goto (tgt := 244) hx hb dX7_readAll_268 (by decide) ?_
                          exact ih244 (1 : Int32) u46 _ _ _ hm hP hD hS (lv_sub hl [1, 2, 0] rfl)
                exact LP244 FU (1 : Int32) u31 _ _ _ hm hP hD hS (lv_sub hl [1, 2, 0] rfl)
            have LP186 : ∀ (n186 : Nat) (x28 : Int32) (u29 : OS) (H : Heap) (locs : List Loc) (ls : Array Slot), f_X7_readAll_L186 n186 K235_32 x28 u29 = some o → va_P (dC, dI) vwCl ([wM cI cJ aM jM u29] : List va_W).flatten H → va_D A ([wM cI cJ aM jM u29] : List va_W).flatten → va_S A s.heap H locs → lv_has ls 3 [(0, .ref aM), (1, .int r6), (2, .int x28)] → W p l e ({ frames := 5, cells := 0, slots := 0, locals := 120 } : Room) s m ([.ref aM] : List Value).toArray below meth c H locs 0 0 Q (F0 m 186 ls []) := by
              intro n186
              induction n186 with
              | zero => intro x28 u29 H locs ls hm; exact nomatch (show (none : Option _) = some _ from hm)
              | succ n186 ih186 =>
                intro x28 u29 H locs ls hm hP hD hS hl
                unfold f_X7_readAll_L186 at hm
                refine lv_iload_n hx hb dX7_readAll_186 rfl (lv_at hl 2 rfl) ?_
                refine lv_aload_n hx hb dX7_readAll_187 rfl (lv_at hl 0 rfl) ?_
                refine va_get (D := (dC, dI)) (ci := 8) (v := .int (u29.1 31)) (C := RX7) (T := TX7) (N := 34) hx hb ht inX7 hown hK hP 0 rfl rfl 31 (by decide) (ht _ kw_134) (fun _ h9 => h9) rfl dX7_readAll_188 ?_
                refine lv_icmp_ge (tgt := 235) hx hb dX7_readAll_191 (by decide) (fun c51 => ?_) (fun c51 => ?_)
                · have hm := ite_t c51 hm
                  exact X235_32 x28 u29 _ _ _ hm hP hD hS (lv_sub hl [0, 1, 2] rfl)
                · have hm := ite_f c51 hm
                  refine lv_aload_n hx hb dX7_readAll_194 rfl (lv_at hl 0 rfl) ?_
                  refine va_get (D := (dC, dI)) (ci := 8) (v := .int (u29.1 27)) (C := RX7) (T := TX7) (N := 34) hx hb ht inX7 hown hK hP 0 rfl rfl 27 (by decide) (ht _ kw_95) (fun _ h9 => h9) rfl dX7_readAll_195 ?_
                  refine lv_if_ne (tgt := 235) hx hb dX7_readAll_198 (by decide) (fun c52 => ?_) (fun c52 => ?_)
                  · have hm := ite_f c52 hm
                    exact X235_32 x28 u29 _ _ _ hm hP hD hS (lv_sub hl [0, 1, 2] rfl)
                  · have hm := ite_t c52 hm
                    refine lv_aload_n hx hb dX7_readAll_201 rfl (lv_at hl 0 rfl) ?_
                    refine va_get (D := (dC, dI)) (ci := 8) (v := .ref (jM 33)) (C := RX7) (T := TX7) (N := 34) hx hb ht inX7 hown hK hP 0 rfl rfl 33 (by decide) (ht _ kw_111) (fun _ h9 => h9) rfl dX7_readAll_202 ?_
                    refine lv_iload_n hx hb dX7_readAll_205 rfl (lv_at hl 2 rfl) ?_
                    obtain ⟨g53, hm⟩ := gdi_of hm
                    refine va_lald hx hb hK hP 14 1 rfl rfl g53 dX7_readAll_206 ?_
                    refine lv_aload_n hx hb dX7_readAll_207 rfl (lv_at hl 0 rfl) ?_
                    refine va_get (D := (dC, dI)) (ci := 8) (v := .int (u29.1 30)) (C := RX7) (T := TX7) (N := 34) hx hb ht inX7 hown hK hP 0 rfl rfl 30 (by decide) (ht _ kw_110) (fun _ h9 => h9) rfl dX7_readAll_208 ?_
                    refine lv_aload_n hx hb dX7_readAll_211 rfl (lv_at hl 0 rfl) ?_
                    refine va_get (D := (dC, dI)) (ci := 8) (v := .ref (jM 10)) (C := RX7) (T := TX7) (N := 34) hx hb ht inX7 hown hK hP 0 rfl rfl 10 (by decide) (ht _ kw_19) (fun _ h9 => h9) rfl dX7_readAll_212 ?_
                    refine lv_iconst (v := (1 : Int32)) hx hb dX7_readAll_215 (by decide) ?_
                    obtain ⟨g54, hm⟩ := gdi_of hm
                    refine va_iald hx hb hK hP 5 0 rfl rfl g54 dX7_readAll_216 ?_
                    have hPc : va_P (dC, dI) vwCl ([] : List va_W).flatten _ := hP.subF [] rfl
                    have hDc : va_D A ([] : List va_W).flatten := hD.subF [] (by decide) rfl
                    have hFc := va_freeF (fc := ([] : List va_W)) hD hS hA [] rfl
                    obtain ⟨r55o, e56, hm⟩ := oC1_of hm
                    refine va_calll (va_runS (As := [.int (u29.1 30), .int (u29.2.1 10 ((1 : Int32)).toNatClampNeg)]) (rest := [.long (u29.2.2.1 33 (x28).toNatClampNeg)]) ⟨hx, hb, hml, hown, ht⟩ (c_X7_firstState l dC dI cI cJ H.size (u29.1 30) (u29.2.1 10 ((1 : Int32)).toNatClampNeg) r55o e56) (va_cwS 2 ht (gdS kw_86 kw_85 kw_7 kw_84) rfl rfl rfl nd_X7_firstState ⟨Nat.le_of_ble_eq_true rfl, Nat.le_of_ble_eq_true rfl⟩) ⟨pcW_blind, pcW_pre hPc hK hDc hN⟩ rfl rfl hl.1 rfl (lv_room (Nat.le_of_ble_eq_true rfl)) dX7_readAll_217 ⟨Nat.zero_le _, Nat.zero_le _⟩) hS (fun q _ z => hFc q z) hFc (fun r55 uu t H1 locs ht1 hvm hw hB hz1 hk1 hS => ?_)
                    obtain ⟨⟩ := uu
                    obtain ⟨hP1, hD1⟩ := hB
                    rw [ht1] at hP1
                    obtain rfl : r55 = r55o := Option.some.inj hw
                    obtain ⟨hP, hD⟩ := va_joinF (fr := ([wM cI cJ aM jM u29] : List va_W)) (f1 := ([] : List va_W)) hP hD [] [0] rfl rfl (by decide) (by decide) hk1 hFc hP1 hD1
                    have hP : va_P (dC, dI) vwCl ([wM cI cJ aM jM u29] : List va_W).flatten H1 := hP
                    have hD : va_D A ([wM cI cJ aM jM u29] : List va_W).flatten := hD
                    generalize H1 = H at hP hS ⊢
                    refine W.lcmp hx hb dX7_readAll_220 ?_
                    refine lv_if_eq (tgt := 229) hx hb dX7_readAll_221 (by decide) (fun c57 => ?_) (fun c57 => ?_)
                    · have c57 := lgc_eq.mp c57
                      have hm := ite_t c57 hm
                      obtain ⟨x58, ex58, hm⟩ := bnd_ex hm
                      refine lv_iinc (v := x58) (lv' := [(2, .int x58), (0, .ref aM), (1, .int r6)]) hx hb dX7_readAll_229 hl (k := 2) rfl (by rw [ex58]; exact congrArg _ (by decide)) (by decide) rfl (fun ls hl => ?_)
                      refine lv_goto (tgt := 186) hx hb dX7_readAll_232 (by decide) ?_
                      exact ih186 x58 u29 _ _ _ hm hP hD hS (lv_sub hl [1, 2, 0] rfl)
                    · have c57 := mt lgc_eq.mpr c57
                      have hm := ite_f c57 hm
                      refine lv_aload_n hx hb dX7_readAll_224 rfl (lv_at hl 0 rfl) ?_
                      refine lv_iconst (v := (5 : Int32)) hx hb dX7_readAll_225 (by decide) ?_
                      have hPc : va_P (dC, dI) vwCl ([wM cI cJ aM jM u29] : List va_W).flatten _ := hP
                      have hDc : va_D A ([wM cI cJ aM jM u29] : List va_W).flatten := hD
                      have hFc := va_freeF (fc := ([wM cI cJ aM jM u29] : List va_W)) hD hS hA [0] rfl
                      obtain ⟨u59o, e60, hm⟩ := oC1_of hm
                      refine va_callv (va_runV (As := [.int (5 : Int32)]) (rest := []) ⟨hx, hb, hml, hown, ht⟩ (c_X7_fail l dC dI cI cJ aM jM H.size u29 (5 : Int32) u59o e60) (cwV 1 ht (gdV kw_100 kw_98 kw_99 kw_7 kw_97) rfl rfl rfl ⟨rfl, nd_X7_fail⟩ ⟨Nat.le_of_ble_eq_true rfl, Nat.le_of_ble_eq_true rfl⟩) ⟨pcW_blind, va_recv hK hPc (ci := 8) (q0 := 0) rfl rfl, pcW_pre hPc hK hDc hN⟩ rfl rfl hl.1 rfl (lv_room (Nat.le_of_ble_eq_true rfl)) dX7_readAll_226 ⟨Nat.zero_le _, Nat.zero_le _⟩) hS (fun q _ z => hFc q z) hFc (fun uu t H1 locs ht1 hvm hw hB hz1 hk1 hS => ?_)
                      obtain ⟨u59, rfl⟩ : ∃ z, z = uu := ⟨_, rfl⟩
                      obtain ⟨hP1, hD1⟩ := hB
                      rw [ht1] at hP1
                      obtain rfl : u59 = u59o := Option.some.inj hw
                      have hP : va_P (dC, dI) vwCl ([wM cI cJ aM jM u59] : List va_W).flatten H1 := hP1
                      have hD : va_D A ([wM cI cJ aM jM u59] : List va_W).flatten := hD1.weaken (fun _ q _ z => hFc q.1 z)
                      generalize H1 = H at hP hS ⊢
                      obtain ⟨x61, ex61, hm⟩ := bnd_ex hm
                      refine lv_iinc (v := x61) (lv' := [(2, .int x61), (0, .ref aM), (1, .int r6)]) hx hb dX7_readAll_229 hl (k := 2) rfl (by rw [ex61]; exact congrArg _ (by decide)) (by decide) rfl (fun ls hl => ?_)
                      refine lv_goto (tgt := 186) hx hb dX7_readAll_232 (by decide) ?_
                      exact ih186 x61 u59 _ _ _ hm hP hD hS (lv_sub hl [1, 2, 0] rfl)
            exact LP186 FU (0 : Int32) u26 _ _ _ hm hP hD hS (lv_sub hl [1, 2, 0] rfl)
          have LP156 : ∀ (n156 : Nat) (x23 : Int32) (u24 : OS) (H : Heap) (locs : List Loc) (ls : Array Slot), f_X7_readAll_L156 r6 n156 K184_27 x23 u24 = some o → va_P (dC, dI) vwCl ([wM cI cJ aM jM u24] : List va_W).flatten H → va_D A ([wM cI cJ aM jM u24] : List va_W).flatten → va_S A s.heap H locs → lv_has ls 3 [(0, .ref aM), (1, .int r6), (2, .int x23)] → W p l e ({ frames := 5, cells := 0, slots := 0, locals := 120 } : Room) s m ([.ref aM] : List Value).toArray below meth c H locs 0 0 Q (F0 m 156 ls []) := by
            intro n156
            induction n156 with
            | zero => intro x23 u24 H locs ls hm; exact nomatch (show (none : Option _) = some _ from hm)
            | succ n156 ih156 =>
              intro x23 u24 H locs ls hm hP hD hS hl
              unfold f_X7_readAll_L156 at hm
              refine lv_iload_n hx hb dX7_readAll_156 rfl (lv_at hl 2 rfl) ?_
              refine lv_iload_n hx hb dX7_readAll_157 rfl (lv_at hl 1 rfl) ?_
              refine lv_icmp_ge (tgt := 184) hx hb dX7_readAll_158 (by decide) (fun c62 => ?_) (fun c62 => ?_)
              · have hm := ite_t c62 hm
                exact X184_27 x23 u24 _ _ _ hm hP hD hS (lv_sub hl [0, 1, 2] rfl)
              · have hm := ite_f c62 hm
                refine lv_aload_n hx hb dX7_readAll_161 rfl (lv_at hl 0 rfl) ?_
                refine va_get (D := (dC, dI)) (ci := 8) (v := .int (u24.1 27)) (C := RX7) (T := TX7) (N := 34) hx hb ht inX7 hown hK hP 0 rfl rfl 27 (by decide) (ht _ kw_95) (fun _ h9 => h9) rfl dX7_readAll_162 ?_
                refine lv_if_ne (tgt := 184) hx hb dX7_readAll_165 (by decide) (fun c63 => ?_) (fun c63 => ?_)
                · have hm := ite_f c63 hm
                  exact X184_27 x23 u24 _ _ _ hm hP hD hS (lv_sub hl [0, 1, 2] rfl)
                · have hm := ite_t c63 hm
                  refine lv_aload_n hx hb dX7_readAll_168 rfl (lv_at hl 0 rfl) ?_
                  refine lv_iload_n hx hb dX7_readAll_169 rfl (lv_at hl 2 rfl) ?_
                  refine lv_aload_n hx hb dX7_readAll_170 rfl (lv_at hl 0 rfl) ?_
                  refine va_get (D := (dC, dI)) (ci := 8) (v := .int (u24.1 31)) (C := RX7) (T := TX7) (N := 34) hx hb ht inX7 hown hK hP 0 rfl rfl 31 (by decide) (ht _ kw_134) (fun _ h9 => h9) rfl dX7_readAll_171 ?_
                  obtain ⟨g64, hm⟩ := gdz_of hm
                  refine lv_irem hx hb dX7_readAll_174 g64 ?_
                  have hPc : va_P (dC, dI) vwCl ([wM cI cJ aM jM u24] : List va_W).flatten _ := hP
                  have hDc : va_D A ([wM cI cJ aM jM u24] : List va_W).flatten := hD
                  have hFc := va_freeF (fc := ([wM cI cJ aM jM u24] : List va_W)) hD hS hA [0] rfl
                  obtain ⟨u65o, e66, hm⟩ := oC1_of hm
                  refine va_callv (va_runV (As := [.int (x23 - x23 / (u24.1 31) * (u24.1 31))]) (rest := []) ⟨hx, hb, hml, hown, ht⟩ (c_X7_readSign l dC dI cI cJ aM jM H.size u24 (x23 - x23 / (u24.1 31) * (u24.1 31)) u65o e66) (cwV 1 ht (gdV kw_143 kw_141 kw_142 kw_7 kw_140) rfl rfl rfl ⟨rfl, nd_X7_readSign⟩ ⟨Nat.le_of_ble_eq_true rfl, Nat.le_of_ble_eq_true rfl⟩) ⟨pcW_blind, va_recv hK hPc (ci := 8) (q0 := 0) rfl rfl, pcW_pre hPc hK hDc hN⟩ rfl rfl hl.1 rfl (lv_room (Nat.le_of_ble_eq_true rfl)) dX7_readAll_175 ⟨Nat.zero_le _, Nat.zero_le _⟩) hS (fun q _ z => hFc q z) hFc (fun uu t H1 locs ht1 hvm hw hB hz1 hk1 hS => ?_)
                  obtain ⟨u65, rfl⟩ : ∃ z, z = uu := ⟨_, rfl⟩
                  obtain ⟨hP1, hD1⟩ := hB
                  rw [ht1] at hP1
                  obtain rfl : u65 = u65o := Option.some.inj hw
                  have hP : va_P (dC, dI) vwCl ([wM cI cJ aM jM u65] : List va_W).flatten H1 := hP1
                  have hD : va_D A ([wM cI cJ aM jM u65] : List va_W).flatten := hD1.weaken (fun _ q _ z => hFc q.1 z)
                  generalize H1 = H at hP hS ⊢
                  obtain ⟨x67, ex67, hm⟩ := bnd_ex hm
                  refine lv_iinc (v := x67) (lv' := [(2, .int x67), (0, .ref aM), (1, .int r6)]) hx hb dX7_readAll_178 hl (k := 2) rfl (by rw [ex67]; exact congrArg _ (by decide)) (by decide) rfl (fun ls hl => ?_)
                  refine lv_goto (tgt := 156) hx hb dX7_readAll_181 (by decide) ?_
                  exact ih156 x67 u65 _ _ _ hm hP hD hS (lv_sub hl [1, 2, 0] rfl)
          exact LP156 FU (0 : Int32) u22 _ _ _ hm hP hD hS (lv_sub hl [1, 2, 0] rfl)
        refine lv_if_ne (tgt := 145) hx hb dX7_readAll_138 (by decide) (fun c68 => ?_) (fun c68 => ?_)
        · have hm := ite_f c68 hm
          refine lv_iconst (v := (0 : Int32)) hx hb dX7_readAll_145 (by decide) ?_
          exact J146_19 (0 : Int32) _ _ _ hm hP hD hS (lv_sub hl [0, 1, 2] rfl)
        · have hm := ite_t c68 hm
          refine lv_iconst (v := (1 : Int32)) hx hb dX7_readAll_141 (by decide) ?_
          refine lv_goto (tgt := 146) hx hb dX7_readAll_142 (by decide) ?_
          exact J146_19 (1 : Int32) _ _ _ hm hP hD hS (lv_sub hl [0, 1, 2] rfl)
      have LP51 : ∀ (n51 : Nat) (x13 : Int32) (u14 : OS) (H : Heap) (locs : List Loc) (ls : Array Slot), f_X7_readAll_L51 n51 K133_17 x13 u14 = some o → va_P (dC, dI) vwCl ([wM cI cJ aM jM u14] : List va_W).flatten H → va_D A ([wM cI cJ aM jM u14] : List va_W).flatten → va_S A s.heap H locs → lv_has ls 3 [(0, .ref aM), (1, .int r6), (2, .int x13)] → W p l e ({ frames := 5, cells := 0, slots := 0, locals := 120 } : Room) s m ([.ref aM] : List Value).toArray below meth c H locs 0 0 Q (F0 m 51 ls []) := by
        intro n51
        induction n51 with
        | zero => intro x13 u14 H locs ls hm; exact nomatch (show (none : Option _) = some _ from hm)
        | succ n51 ih51 =>
          intro x13 u14 H locs ls hm hP hD hS hl
          unfold f_X7_readAll_L51 at hm
          refine lv_iload_n hx hb dX7_readAll_51 rfl (lv_at hl 2 rfl) ?_
          refine lv_aload_n hx hb dX7_readAll_52 rfl (lv_at hl 0 rfl) ?_
          refine va_get (D := (dC, dI)) (ci := 8) (v := .int (u14.1 31)) (C := RX7) (T := TX7) (N := 34) hx hb ht inX7 hown hK hP 0 rfl rfl 31 (by decide) (ht _ kw_134) (fun _ h9 => h9) rfl dX7_readAll_53 ?_
          refine lv_icmp_ge (tgt := 133) hx hb dX7_readAll_56 (by decide) (fun c69 => ?_) (fun c69 => ?_)
          · have hm := ite_t c69 hm
            exact X133_17 x13 u14 _ _ _ hm hP hD hS (lv_sub hl [0, 1, 2] rfl)
          · have hm := ite_f c69 hm
            refine lv_aload_n hx hb dX7_readAll_59 rfl (lv_at hl 0 rfl) ?_
            refine va_get (D := (dC, dI)) (ci := 8) (v := .int (u14.1 27)) (C := RX7) (T := TX7) (N := 34) hx hb ht inX7 hown hK hP 0 rfl rfl 27 (by decide) (ht _ kw_95) (fun _ h9 => h9) rfl dX7_readAll_60 ?_
            refine lv_if_ne (tgt := 133) hx hb dX7_readAll_63 (by decide) (fun c70 => ?_) (fun c70 => ?_)
            · have hm := ite_f c70 hm
              exact X133_17 x13 u14 _ _ _ hm hP hD hS (lv_sub hl [0, 1, 2] rfl)
            · have hm := ite_t c70 hm
              refine lv_aload_n hx hb dX7_readAll_66 rfl (lv_at hl 0 rfl) ?_
              refine va_get (D := (dC, dI)) (ci := 8) (v := .ref (jM 33)) (C := RX7) (T := TX7) (N := 34) hx hb ht inX7 hown hK hP 0 rfl rfl 33 (by decide) (ht _ kw_111) (fun _ h9 => h9) rfl dX7_readAll_67 ?_
              refine lv_iload_n hx hb dX7_readAll_70 rfl (lv_at hl 2 rfl) ?_
              refine lv_aload_n hx hb dX7_readAll_71 rfl (lv_at hl 0 rfl) ?_
              refine lv_aload_n hx hb dX7_readAll_72 rfl (lv_at hl 0 rfl) ?_
              refine va_get (D := (dC, dI)) (ci := 8) (v := .int (u14.1 30)) (C := RX7) (T := TX7) (N := 34) hx hb ht inX7 hown hK hP 0 rfl rfl 30 (by decide) (ht _ kw_110) (fun _ h9 => h9) rfl dX7_readAll_73 ?_
              refine lv_iconst (v := (1 : Int32)) hx hb dX7_readAll_76 (by decide) ?_
              obtain ⟨K98_72, eK98_72, hm⟩ := bnd_ex hm
              have J98_72 : ∀ (x71 : Int32) (H : Heap) (locs : List Loc) (ls : Array Slot), K98_72 x71 = some o → va_P (dC, dI) vwCl ([wM cI cJ aM jM u14] : List va_W).flatten H → va_D A ([wM cI cJ aM jM u14] : List va_W).flatten → va_S A s.heap H locs → lv_has ls 3 [(0, .ref aM), (1, .int r6), (2, .int x13)] → W p l e ({ frames := 5, cells := 0, slots := 0, locals := 120 } : Room) s m ([.ref aM] : List Value).toArray below meth c H locs 0 0 Q (F0 m 98 ls [.int x71, .ref aM, .int x13, .ref (jM 33)]) := by
                intro x71 H locs ls hm hP hD hS hl
                have hm := ap1 eK98_72 hm
                have hPc : va_P (dC, dI) vwCl ([wM cI cJ aM jM u14] : List va_W).flatten _ := hP
                have hDc : va_D A ([wM cI cJ aM jM u14] : List va_W).flatten := hD
                have hFc := va_freeF (fc := ([wM cI cJ aM jM u14] : List va_W)) hD hS hA [0] rfl
                obtain ⟨u73o, r74o, e75, hm⟩ := oC2_of hm
                refine va_calll (va_runV (As := [.int x71]) (rest := [.int x13, .ref (jM 33)]) ⟨hx, hb, hml, hown, ht⟩ (c_X7_nextWide l dC dI cI cJ aM jM H.size u14 x71 (u73o, r74o) e75) (cwV 1 ht (gdV kw_115 kw_113 kw_114 kw_7 kw_112) rfl rfl rfl ⟨rfl, nd_X7_nextWide⟩ ⟨Nat.le_of_ble_eq_true rfl, Nat.le_of_ble_eq_true rfl⟩) ⟨pcW_blind, va_recv hK hPc (ci := 8) (q0 := 0) rfl rfl, pcW_pre hPc hK hDc hN⟩ rfl rfl hl.1 rfl (lv_room (Nat.le_of_ble_eq_true rfl)) dX7_readAll_98 ⟨Nat.zero_le _, Nat.zero_le _⟩) hS (fun q _ z => hFc q z) hFc (fun r74 uu t H1 locs ht1 hvm hw hB hz1 hk1 hS => ?_)
                obtain ⟨u73, rfl⟩ : ∃ z, z = uu := ⟨_, rfl⟩
                obtain ⟨hP1, hD1⟩ := hB
                rw [ht1] at hP1
                obtain ⟨q0, q1⟩ := inj2 hw
                subst q0
                subst q1
                have hP : va_P (dC, dI) vwCl ([wM cI cJ aM jM u73] : List va_W).flatten H1 := hP1
                have hD : va_D A ([wM cI cJ aM jM u73] : List va_W).flatten := hD1.weaken (fun _ q _ z => hFc q.1 z)
                generalize H1 = H at hP hS ⊢
                obtain ⟨g76, hm⟩ := gdi_of hm
                refine va_last hx hb hK hP hD hS 14 1 rfl rfl g76 dX7_readAll_101 (fun H locs hP hD hS => ?_)
                obtain ⟨u77, eu77, hm⟩ := bnd_ex hm
                have hP : va_P (dC, dI) vwCl ([wM cI cJ aM jM u77] : List va_W).flatten H := by rw [eu77]; exact hP
                have hD : va_D A ([wM cI cJ aM jM u77] : List va_W).flatten := by rw [eu77]; exact hD
                refine lv_aload_n hx hb dX7_readAll_102 rfl (lv_at hl 0 rfl) ?_
                refine va_get (D := (dC, dI)) (ci := 8) (v := .int (u77.1 27)) (C := RX7) (T := TX7) (N := 34) hx hb ht inX7 hown hK hP 0 rfl rfl 27 (by decide) (ht _ kw_95) (fun _ h9 => h9) rfl dX7_readAll_103 ?_
                refine lv_if_ne (tgt := 127) hx hb dX7_readAll_106 (by decide) (fun c78 => ?_) (fun c78 => ?_)
                · have hm := ite_f c78 hm
                  obtain ⟨x79, ex79, hm⟩ := bnd_ex hm
                  refine lv_iinc (v := x79) (lv' := [(2, .int x79), (0, .ref aM), (1, .int r6)]) hx hb dX7_readAll_127 hl (k := 2) rfl (by rw [ex79]; exact congrArg _ (by decide)) (by decide) rfl (fun ls hl => ?_)
                  refine lv_goto (tgt := 51) hx hb dX7_readAll_130 (by decide) ?_
                  exact ih51 x79 u77 _ _ _ hm hP hD hS (lv_sub hl [1, 2, 0] rfl)
                · have hm := ite_t c78 hm
                  refine lv_aload_n hx hb dX7_readAll_109 rfl (lv_at hl 0 rfl) ?_
                  refine lv_aload_n hx hb dX7_readAll_110 rfl (lv_at hl 0 rfl) ?_
                  refine va_get (D := (dC, dI)) (ci := 8) (v := .ref (jM 33)) (C := RX7) (T := TX7) (N := 34) hx hb ht inX7 hown hK hP 0 rfl rfl 33 (by decide) (ht _ kw_111) (fun _ h9 => h9) rfl dX7_readAll_111 ?_
                  refine lv_iload_n hx hb dX7_readAll_114 rfl (lv_at hl 2 rfl) ?_
                  obtain ⟨g80, hm⟩ := gdi_of hm
                  refine va_lald hx hb hK hP 14 1 rfl rfl g80 dX7_readAll_115 ?_
                  have hPc : va_P (dC, dI) vwCl ([wM cI cJ aM jM u77] : List va_W).flatten _ := hP
                  have hDc : va_D A ([wM cI cJ aM jM u77] : List va_W).flatten := hD
                  have hFc := va_freeF (fc := ([wM cI cJ aM jM u77] : List va_W)) hD hS hA [0] rfl
                  obtain ⟨r81o, e82, hm⟩ := oC1_of hm
                  refine va_calli (va_runV (As := [.long (u77.2.2.1 33 (x13).toNatClampNeg)]) (rest := []) ⟨hx, hb, hml, hown, ht⟩ (c_X7_isInSpan l dC dI cI cJ aM jM H.size u77 (u77.2.2.1 33 (x13).toNatClampNeg) r81o e82) (cwV 1 ht (gdV kw_147 kw_145 kw_146 kw_7 kw_144) rfl rfl rfl ⟨rfl, nd_X7_isInSpan⟩ ⟨Nat.le_of_ble_eq_true rfl, Nat.le_of_ble_eq_true rfl⟩) ⟨pcW_blind, va_recv hK hPc (ci := 8) (q0 := 0) rfl rfl, pcW_pre hPc hK hDc hN⟩ rfl rfl hl.1 rfl (lv_room (Nat.le_of_ble_eq_true rfl)) dX7_readAll_116 ⟨Nat.zero_le _, Nat.zero_le _⟩) hS (fun q _ z => hFc q z) hFc (fun r81 uu t H1 locs ht1 hvm hw hB hz1 hk1 hS => ?_)
                  obtain ⟨⟩ := uu
                  obtain ⟨hP1, hD1⟩ := hB
                  rw [ht1] at hP1
                  obtain rfl : r81 = r81o := Option.some.inj hw
                  have hP : va_P (dC, dI) vwCl ([wM cI cJ aM jM u77] : List va_W).flatten H1 := hP1
                  have hD : va_D A ([wM cI cJ aM jM u77] : List va_W).flatten := hD1.weaken (fun _ q _ z => hFc q.1 z)
                  generalize H1 = H at hP hS ⊢
                  refine lv_if_ne (tgt := 127) hx hb dX7_readAll_119 (by decide) (fun c83 => ?_) (fun c83 => ?_)
                  · have hm := ite_f c83 hm
                    obtain ⟨x84, ex84, hm⟩ := bnd_ex hm
                    refine lv_iinc (v := x84) (lv' := [(2, .int x84), (0, .ref aM), (1, .int r6)]) hx hb dX7_readAll_127 hl (k := 2) rfl (by rw [ex84]; exact congrArg _ (by decide)) (by decide) rfl (fun ls hl => ?_)
                    refine lv_goto (tgt := 51) hx hb dX7_readAll_130 (by decide) ?_
                    exact ih51 x84 u77 _ _ _ hm hP hD hS (lv_sub hl [1, 2, 0] rfl)
                  · have hm := ite_t c83 hm
                    refine lv_aload_n hx hb dX7_readAll_122 rfl (lv_at hl 0 rfl) ?_
                    refine lv_iconst (v := (4 : Int32)) hx hb dX7_readAll_123 (by decide) ?_
                    have hPc : va_P (dC, dI) vwCl ([wM cI cJ aM jM u77] : List va_W).flatten _ := hP
                    have hDc : va_D A ([wM cI cJ aM jM u77] : List va_W).flatten := hD
                    have hFc := va_freeF (fc := ([wM cI cJ aM jM u77] : List va_W)) hD hS hA [0] rfl
                    obtain ⟨u85o, e86, hm⟩ := oC1_of hm
                    refine va_callv (va_runV (As := [.int (4 : Int32)]) (rest := []) ⟨hx, hb, hml, hown, ht⟩ (c_X7_fail l dC dI cI cJ aM jM H.size u77 (4 : Int32) u85o e86) (cwV 1 ht (gdV kw_100 kw_98 kw_99 kw_7 kw_97) rfl rfl rfl ⟨rfl, nd_X7_fail⟩ ⟨Nat.le_of_ble_eq_true rfl, Nat.le_of_ble_eq_true rfl⟩) ⟨pcW_blind, va_recv hK hPc (ci := 8) (q0 := 0) rfl rfl, pcW_pre hPc hK hDc hN⟩ rfl rfl hl.1 rfl (lv_room (Nat.le_of_ble_eq_true rfl)) dX7_readAll_124 ⟨Nat.zero_le _, Nat.zero_le _⟩) hS (fun q _ z => hFc q z) hFc (fun uu t H1 locs ht1 hvm hw hB hz1 hk1 hS => ?_)
                    obtain ⟨u85, rfl⟩ : ∃ z, z = uu := ⟨_, rfl⟩
                    obtain ⟨hP1, hD1⟩ := hB
                    rw [ht1] at hP1
                    obtain rfl : u85 = u85o := Option.some.inj hw
                    have hP : va_P (dC, dI) vwCl ([wM cI cJ aM jM u85] : List va_W).flatten H1 := hP1
                    have hD : va_D A ([wM cI cJ aM jM u85] : List va_W).flatten := hD1.weaken (fun _ q _ z => hFc q.1 z)
                    generalize H1 = H at hP hS ⊢
                    obtain ⟨x87, ex87, hm⟩ := bnd_ex hm
                    refine lv_iinc (v := x87) (lv' := [(2, .int x87), (0, .ref aM), (1, .int r6)]) hx hb dX7_readAll_127 hl (k := 2) rfl (by rw [ex87]; exact congrArg _ (by decide)) (by decide) rfl (fun ls hl => ?_)
                    refine lv_goto (tgt := 51) hx hb dX7_readAll_130 (by decide) ?_
                    exact ih51 x87 u85 _ _ _ hm hP hD hS (lv_sub hl [1, 2, 0] rfl)
              refine lv_icmp_ne (tgt := 85) hx hb dX7_readAll_77 (by decide) (fun c88 => ?_) (fun c88 => ?_)
              · have hm := ite_f c88 hm
                refine lv_aload_n hx hb dX7_readAll_85 rfl (lv_at hl 0 rfl) ?_
                refine va_get (D := (dC, dI)) (ci := 8) (v := .int (u14.1 30)) (C := RX7) (T := TX7) (N := 34) hx hb ht inX7 hown hK hP 0 rfl rfl 30 (by decide) (ht _ kw_110) (fun _ h9 => h9) rfl dX7_readAll_86 ?_
                refine lv_iconst (v := (2 : Int32)) hx hb dX7_readAll_89 (by decide) ?_
                refine lv_icmp_ne (tgt := 97) hx hb dX7_readAll_90 (by decide) (fun c89 => ?_) (fun c89 => ?_)
                · have hm := ite_f c89 hm
                  refine lv_iconst (v := (4 : Int32)) hx hb dX7_readAll_97 (by decide) ?_
                  exact J98_72 (4 : Int32) _ _ _ hm hP hD hS (lv_sub hl [0, 1, 2] rfl)
                · have hm := ite_t c89 hm
                  refine lv_iconst (v := (2 : Int32)) hx hb dX7_readAll_93 (by decide) ?_
                  refine lv_goto (tgt := 98) hx hb dX7_readAll_94 (by decide) ?_
                  exact J98_72 (2 : Int32) _ _ _ hm hP hD hS (lv_sub hl [0, 1, 2] rfl)
              · have hm := ite_t c88 hm
                refine lv_bipush (v := (8 : Int32)) hx hb dX7_readAll_80 (by decide) ?_
                refine lv_goto (tgt := 98) hx hb dX7_readAll_82 (by decide) ?_
                exact J98_72 (8 : Int32) _ _ _ hm hP hD hS (lv_sub hl [0, 1, 2] rfl)
      exact LP51 FU (0 : Int32) u11 _ _ _ hm hP hD hS (lv_sub hl [1, 2, 0] rfl)
    · have hm := ite_f c10 hm
      rw [← hQ]
      exact W.vret hx hb hr (fun t ht1 hW => ⟨⟨u8, rfl, hm, by rw [ht1]; exact hP, hD⟩, hS.F ht1⟩) hS.2.2 dX7_readAll_43
  refine lv_if_ne (tgt := 36) hx hb dX7_readAll_29 (by decide) (fun c90 => ?_) (fun c90 => ?_)
  · have hm := ite_f c90 hm
    exact J36_9 u5 _ _ _ hm hP hD hS (lv_sub hl [1, 0] rfl)
  · have hm := ite_t c90 hm
    refine lv_aload_n hx hb dX7_readAll_32 rfl (lv_at hl 1 rfl) ?_
    have hPc : va_P (dC, dI) vwCl ([wM cI cJ aM jM u5] : List va_W).flatten _ := hP
    have hDc : va_D A ([wM cI cJ aM jM u5] : List va_W).flatten := hD
    have hFc := va_freeF (fc := ([wM cI cJ aM jM u5] : List va_W)) hD hS hA [0] rfl
    obtain ⟨u91o, e92, hm⟩ := oC1_of hm
    refine va_callv (va_runV (As := []) (rest := []) ⟨hx, hb, hml, hown, ht⟩ (c_X7_readTable l dC dI cI cJ aM jM H.size u5 u91o e92) (cwV 0 ht (gdV kw_151 kw_149 kw_150 kw_7 kw_148) rfl rfl rfl ⟨rfl, nd_X7_readTable⟩ ⟨Nat.le_of_ble_eq_true rfl, Nat.le_of_ble_eq_true rfl⟩) ⟨pcW_blind, va_recv hK hPc (ci := 8) (q0 := 0) rfl rfl, pcW_pre hPc hK hDc hN⟩ rfl rfl hl.1 rfl (lv_room (Nat.le_of_ble_eq_true rfl)) dX7_readAll_33 ⟨Nat.zero_le _, Nat.zero_le _⟩) hS (fun q _ z => hFc q z) hFc (fun uu t H1 locs ht1 hvm hw hB hz1 hk1 hS => ?_)
    obtain ⟨u91, rfl⟩ : ∃ z, z = uu := ⟨_, rfl⟩
    obtain ⟨hP1, hD1⟩ := hB
    rw [ht1] at hP1
    obtain rfl : u91 = u91o := Option.some.inj hw
    have hP : va_P (dC, dI) vwCl ([wM cI cJ aM jM u91] : List va_W).flatten H1 := hP1
    have hD : va_D A ([wM cI cJ aM jM u91] : List va_W).flatten := hD1.weaken (fun _ q _ z => hFc q.1 z)
    generalize H1 = H at hP hS ⊢
    exact J36_9 u91 _ _ _ hm hP hD hS (lv_sub hl [1, 0] rfl)

def f_X7_read (uM : OS) : Option (OS × Int32) :=
  bnd (sF uM 1 (0 : Int32)) fun u1 =>
  oC1 (f_X7_readAll u1) fun u2 =>
  bnd (sF u2 28 (u2.1 27)) fun u4 =>
  if (u4.1 27) ≤ (0 : Int32) then (
  some (u4, (u4.1 25))) else (
  some (u4, ((-10 : Int32) - (u4.1 26))))

set_option maxHeartbeats 4000000 in
set_option maxRecDepth 100000 in
theorem c_X7_read (l : Launch) (dC : Nat → ClassId) (dI : Nat → Nat → Nat) (cI cJ : ClassId) (aM : Nat) (jM : Nat → Nat) (sz : Nat) (uM : OS) (o : OS × Int32) (hm : f_X7_read uM = some o) : Met l yX7_read (wq yX7_read cX7_read 1 (some .int)) ({ frames := 6, cells := 0, slots := 0, locals := 142 } : Room) (va_Pc [.ref aM] (pcW dC dI cI cJ sz ([wM cI cJ aM jM uM] : List va_W).flatten)) (va_Qi (S := OS) (fun r u => some (u, r) = some o) (fun (u : OS) t => va_P (dC, dI) vwCl ([wM cI cJ aM jM u] : List va_W).flatten t.heap ∧ va_D (va_A ([wM cI cJ aM jM uM] : List va_W).flatten sz) ([wM cI cJ aM jM u] : List va_W).flatten) (va_A ([wM cI cJ aM jM uM] : List va_W).flatten sz)) 0 0 (va_A ([wM cI cJ aM jM uM] : List va_W).flatten sz) := by
  refine Met.ofW (cc := cX7_read) (maxL := 1) (ret := (some .int)) (by decide) rfl ?_
  intro p e s m args below meth c s₁ B hml hv
  obtain ⟨rfl, hsz, hP, hK, hD0, hN⟩ := hv
  have hx := B.exec
  have hb := B.bytes
  have hr := B.returns
  have ht : ∀ w ∈ lw_good, w.before _ s = true := fun w h => atoms_spec (ws := wq yX7_read cX7_read 1 (some .int)) B.pre w (wq_mem h)
  have hown : s.vm.findClass RX7 = some m.cls := findClass_of_methodNamed B.named
  have hlocks := B.notSynchronized
  subst hsz
  have hD := hD0.self (sz := s.heap.size)
  generalize hAe : va_A ([wM cI cJ aM jM uM] : List va_W).flatten s.heap.size = A at hD ⊢
  have hA : ∀ q : Nat, s.heap.size ≤ q → A q := fun q h => by rw [← hAe]; exact Or.inr h
  have hS : va_S A s.heap s.heap [] := va_S.rf
  have hl := lv_entry ([.ref aM]) (n := 1) (Nat.le_of_ble_eq_true rfl)
  rw [lg_entry_eq]
  generalize (lg_sl ([.ref aM]) ++ List.replicate (1 - (lg_sl ([.ref aM])).length) Slot.unset).toArray = ls at hl ⊢
  have hl : lv_has ls 1 [(0, .ref aM)] := hl
  generalize hQ : MQ below _ _ s _ _ _ = Q
  generalize hH : s.heap = H at hP ⊢
  have hS : va_S A s.heap H [] := by rw [← hH]; exact va_S.rf
  show W p l e ({ frames := 6, cells := 0, slots := 0, locals := 142 } : Room) s m ([.ref aM] : List Value).toArray below meth c H [] 0 0 Q (F0 m 0 ls [])
  unfold f_X7_read at hm
  refine lv_aload_n hx hb dX7_read_0 rfl (lv_at hl 0 rfl) ?_
  refine lv_iconst (v := (0 : Int32)) hx hb dX7_read_1 (by decide) ?_
  refine va_put (D := (dC, dI)) (ci := 8) (v := .int (0 : Int32)) (ty := .int) (C := RX7) (T := TX7) (N := 34) hx hb ht inX7 tyX7 tyX7_ok nmX7 hown hK hP hD hS 0 rfl rfl 1 (by decide) (ht _ kw_0) (fun _ h9 => h9) rfl (by decide +kernel) rfl rfl (Nat.le_of_ble_eq_true rfl) dX7_read_2 (fun H locs hP hD hS => ?_)
  obtain ⟨u1, eu1, hm⟩ := bnd_ex hm
  have hP : va_P (dC, dI) vwCl ([wM cI cJ aM jM u1] : List va_W).flatten H := by rw [eu1]; exact hP
  have hD : va_D A ([wM cI cJ aM jM u1] : List va_W).flatten := by rw [eu1]; exact hD
  refine lv_aload_n hx hb dX7_read_5 rfl (lv_at hl 0 rfl) ?_
  have hPc : va_P (dC, dI) vwCl ([wM cI cJ aM jM u1] : List va_W).flatten _ := hP
  have hDc : va_D A ([wM cI cJ aM jM u1] : List va_W).flatten := hD
  have hFc := va_freeF (fc := ([wM cI cJ aM jM u1] : List va_W)) hD hS hA [0] rfl
  obtain ⟨u2o, e3, hm⟩ := oC1_of hm
  refine va_callv (va_runV (As := []) (rest := []) ⟨hx, hb, hml, hown, ht⟩ (c_X7_readAll l dC dI cI cJ aM jM H.size u1 u2o e3) (cwV 0 ht (gdV kw_156 kw_154 kw_155 kw_7 kw_153) rfl rfl rfl ⟨rfl, nd_X7_readAll⟩ ⟨Nat.le_of_ble_eq_true rfl, Nat.le_of_ble_eq_true rfl⟩) ⟨pcW_blind, va_recv hK hPc (ci := 8) (q0 := 0) rfl rfl, pcW_pre hPc hK hDc hN⟩ rfl rfl hl.1 rfl (lv_room (Nat.le_of_ble_eq_true rfl)) dX7_read_6 ⟨Nat.zero_le _, Nat.zero_le _⟩) hS (fun q _ z => hFc q z) hFc (fun uu t H1 locs ht1 hvm hw hB hz1 hk1 hS => ?_)
  obtain ⟨u2, rfl⟩ : ∃ z, z = uu := ⟨_, rfl⟩
  obtain ⟨hP1, hD1⟩ := hB
  rw [ht1] at hP1
  obtain rfl : u2 = u2o := Option.some.inj hw
  have hP : va_P (dC, dI) vwCl ([wM cI cJ aM jM u2] : List va_W).flatten H1 := hP1
  have hD : va_D A ([wM cI cJ aM jM u2] : List va_W).flatten := hD1.weaken (fun _ q _ z => hFc q.1 z)
  generalize H1 = H at hP hS ⊢
  refine lv_aload_n hx hb dX7_read_9 rfl (lv_at hl 0 rfl) ?_
  refine lv_aload_n hx hb dX7_read_10 rfl (lv_at hl 0 rfl) ?_
  refine va_get (D := (dC, dI)) (ci := 8) (v := .int (u2.1 27)) (C := RX7) (T := TX7) (N := 34) hx hb ht inX7 hown hK hP 0 rfl rfl 27 (by decide) (ht _ kw_95) (fun _ h9 => h9) rfl dX7_read_11 ?_
  refine va_put (D := (dC, dI)) (ci := 8) (v := .int (u2.1 27)) (ty := .int) (C := RX7) (T := TX7) (N := 34) hx hb ht inX7 tyX7 tyX7_ok nmX7 hown hK hP hD hS 0 rfl rfl 28 (by decide) (ht _ kw_152) (fun _ h9 => h9) rfl (by decide +kernel) rfl rfl (Nat.le_of_ble_eq_true rfl) dX7_read_14 (fun H locs hP hD hS => ?_)
  obtain ⟨u4, eu4, hm⟩ := bnd_ex hm
  have hP : va_P (dC, dI) vwCl ([wM cI cJ aM jM u4] : List va_W).flatten H := by rw [eu4]; exact hP
  have hD : va_D A ([wM cI cJ aM jM u4] : List va_W).flatten := by rw [eu4]; exact hD
  refine lv_aload_n hx hb dX7_read_17 rfl (lv_at hl 0 rfl) ?_
  refine va_get (D := (dC, dI)) (ci := 8) (v := .int (u4.1 27)) (C := RX7) (T := TX7) (N := 34) hx hb ht inX7 hown hK hP 0 rfl rfl 27 (by decide) (ht _ kw_95) (fun _ h9 => h9) rfl dX7_read_18 ?_
  refine lv_if_le (tgt := 34) hx hb dX7_read_21 (by decide) (fun c5 => ?_) (fun c5 => ?_)
  · have hm := ite_t c5 hm
    refine lv_aload_n hx hb dX7_read_34 rfl (lv_at hl 0 rfl) ?_
    refine va_get (D := (dC, dI)) (ci := 8) (v := .int (u4.1 25)) (C := RX7) (T := TX7) (N := 34) hx hb ht inX7 hown hK hP 0 rfl rfl 25 (by decide) (ht _ kw_121) (fun _ h9 => h9) rfl dX7_read_35 ?_
    rw [← hQ]
    exact W.iret (v := (u4.1 25)) hx hb hr (fun t ht1 hW => ⟨⟨_, u4, rfl, hm, by rw [ht1]; exact hP, hD⟩, hS.F ht1⟩) hS.2.2 dX7_read_38
  · have hm := ite_f c5 hm
    refine lv_bipush (v := (-10 : Int32)) hx hb dX7_read_24 (by decide) ?_
    refine lv_aload_n hx hb dX7_read_26 rfl (lv_at hl 0 rfl) ?_
    refine va_get (D := (dC, dI)) (ci := 8) (v := .int (u4.1 26)) (C := RX7) (T := TX7) (N := 34) hx hb ht inX7 hown hK hP 0 rfl rfl 26 (by decide) (ht _ kw_96) (fun _ h9 => h9) rfl dX7_read_27 ?_
    refine lv_isub hx hb dX7_read_30 ?_
    refine lv_goto (tgt := 38) hx hb dX7_read_31 (by decide) ?_
    rw [← hQ]
    exact W.iret (v := ((-10 : Int32) - (u4.1 26))) hx hb hr (fun t ht1 hW => ⟨⟨_, u4, rfl, hm, by rw [ht1]; exact hP, hD⟩, hS.F ht1⟩) hS.2.2 dX7_read_38

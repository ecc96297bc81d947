def f_X7_isInSpan (uM : OS) (p1 : Int64) : Option (Int32) :=
  if (uM.1 30) = (1 : Int32) then (
  if p1 < (2147483648 : Int64) then (
  some (0 : Int32)) else (
  some (1 : Int32))) else (
  if (uM.1 30) = (2 : Int32) then (
  gdi (1 : Int32) 2 <|
  if p1 < ((1 : Int64) <<< (((uM.2.1 10 ((1 : Int32)).toNatClampNeg)).toInt64 &&& (63 : Int64))) then (
  some (0 : Int32)) else (
  gdi (1 : Int32) 2 <|
  if ((2 : Int64) <<< (((uM.2.1 10 ((1 : Int32)).toNatClampNeg)).toInt64 &&& (63 : Int64))) ≤ p1 then (
  some (0 : Int32)) else (
  some (1 : Int32)))) else (
  if p1 < (8388608 : Int64) then (
  some (0 : Int32)) else (
  if (2147483648 : Int64) ≤ p1 then (
  some (0 : Int32)) else (
  some (1 : Int32)))))

set_option maxHeartbeats 4000000 in
set_option maxRecDepth 100000 in
theorem c_X7_isInSpan (l : Launch) (dC : Nat → ClassId) (dI : Nat → Nat → Nat) (cI cJ : ClassId) (aM : Nat) (jM : Nat → Nat) (sz : Nat) (uM : OS) (p1 : Int64) (o : Int32) (hm : f_X7_isInSpan uM p1 = some o) : Met l yX7_isInSpan (wq yX7_isInSpan cX7_isInSpan 3 (some .boolean)) ({ frames := 0, cells := 0, slots := 0, locals := 0 } : Room) (va_Pc [.ref aM, .long p1] (pcW dC dI cI cJ sz ([wM cI cJ aM jM uM] : List va_W).flatten)) (va_Qi (S := Unit) (fun r u => some r = some o) (fun (u : Unit) t => va_P (dC, dI) vwCl ([wM cI cJ aM jM uM] : List va_W).flatten t.heap ∧ va_D (va_A ([wM cI cJ aM jM uM] : List va_W).flatten sz) ([wM cI cJ aM jM uM] : List va_W).flatten) (va_A ([wM cI cJ aM jM uM] : List va_W).flatten sz)) 0 0 (va_A ([wM cI cJ aM jM uM] : List va_W).flatten sz) := by
  refine Met.ofW (cc := cX7_isInSpan) (maxL := 3) (ret := (some .boolean)) (by decide) rfl ?_
  intro p e s m args below meth c s₁ B hml hv
  obtain ⟨rfl, hsz, hP, hK, hD0, hN⟩ := hv
  have hx := B.exec
  have hb := B.bytes
  have hr := B.returns
  have ht : ∀ w ∈ lw_good, w.before _ s = true := fun w h => atoms_spec (ws := wq yX7_isInSpan cX7_isInSpan 3 (some .boolean)) B.pre w (wq_mem h)
  have hown : s.vm.findClass RX7 = some m.cls := findClass_of_methodNamed B.named
  have hlocks := B.notSynchronized
  subst hsz
  have hD := hD0.self (sz := s.heap.size)
  generalize hAe : va_A ([wM cI cJ aM jM uM] : List va_W).flatten s.heap.size = A at hD ⊢
  have hA : ∀ q : Nat, s.heap.size ≤ q → A q := fun q h => by rw [← hAe]; exact Or.inr h
  have hS : va_S A s.heap s.heap [] := va_S.rf
  have hl := lv_entry ([.ref aM, .long p1]) (n := 3) (Nat.le_of_ble_eq_true rfl)
  rw [lg_entry_eq]
  generalize (lg_sl ([.ref aM, .long p1]) ++ List.replicate (3 - (lg_sl ([.ref aM, .long p1])).length) Slot.unset).toArray = ls at hl ⊢
  have hl : lv_has ls 3 [(0, .ref aM), (1, .long p1)] := hl
  generalize hQ : MQ below _ _ s _ _ _ = Q
  generalize hH : s.heap = H at hP ⊢
  have hS : va_S A s.heap H [] := by rw [← hH]; exact va_S.rf
  show W p l e ({ frames := 0, cells := 0, slots := 0, locals := 0 } : Room) s m ([.ref aM, .long p1] : List Value).toArray below meth c H [] 0 0 Q (F0 m 0 ls [])
  unfold f_X7_isInSpan at hm
  refine lv_aload_n hx hb dX7_isInSpan_0 rfl (lv_at hl 0 rfl) ?_
  refine va_get (D := (dC, dI)) (ci := 8) (v := .int (uM.1 30)) (C := RX7) (T := TX7) (N := 34) hx hb ht inX7 hown hK hP 0 rfl rfl 30 (by decide) (ht _ kw_110) (fun _ h9 => h9) rfl dX7_isInSpan_1 ?_
  refine lv_iconst (v := (1 : Int32)) hx hb dX7_isInSpan_4 (by decide) ?_
  refine lv_icmp_ne (tgt := 24) hx hb dX7_isInSpan_5 (by decide) (fun c1 => ?_) (fun c1 => ?_)
  · have hm := ite_f c1 hm
    refine lv_aload_n hx hb dX7_isInSpan_24 rfl (lv_at hl 0 rfl) ?_
    refine va_get (D := (dC, dI)) (ci := 8) (v := .int (uM.1 30)) (C := RX7) (T := TX7) (N := 34) hx hb ht inX7 hown hK hP 0 rfl rfl 30 (by decide) (ht _ kw_110) (fun _ h9 => h9) rfl dX7_isInSpan_25 ?_
    refine lv_iconst (v := (2 : Int32)) hx hb dX7_isInSpan_28 (by decide) ?_
    refine lv_icmp_ne (tgt := 68) hx hb dX7_isInSpan_29 (by decide) (fun c2 => ?_) (fun c2 => ?_)
    · have hm := ite_f c2 hm
      refine lv_lload_n hx hb dX7_isInSpan_68 rfl (lv_at hl 1 rfl) ?_
      refine lv_ldc2 (v := (8388608 : Int64)) hx hb hown (ht _ kw_30) dX7_isInSpan_69 ?_
      refine W.lcmp hx hb dX7_isInSpan_72 ?_
      refine lv_if_lt (tgt := 88) hx hb dX7_isInSpan_73 (by decide) (fun c3 => ?_) (fun c3 => ?_)
      · have c3 := lgc_lt.mp c3
        have hm := ite_t c3 hm
        refine lv_iconst (v := (0 : Int32)) hx hb dX7_isInSpan_88 (by decide) ?_
        rw [← hQ]
        exact W.zret (v := (0 : Int32)) hx hb hr rfl (fun t ht1 hW => ⟨⟨_, (), rfl, hm, by rw [ht1]; exact hP, hD⟩, hS.F ht1⟩) hS.2.2 dX7_isInSpan_89
      · have c3 := mt lgc_lt.mpr c3
        have hm := ite_f c3 hm
        refine lv_lload_n hx hb dX7_isInSpan_76 rfl (lv_at hl 1 rfl) ?_
        refine lv_ldc2 (v := (2147483648 : Int64)) hx hb hown (ht _ kw_11) dX7_isInSpan_77 ?_
        refine W.lcmp hx hb dX7_isInSpan_80 ?_
        refine lv_if_ge (tgt := 88) hx hb dX7_isInSpan_81 (by decide) (fun c4 => ?_) (fun c4 => ?_)
        · have c4 := lgc_ge.mp c4
          have hm := ite_t c4 hm
          refine lv_iconst (v := (0 : Int32)) hx hb dX7_isInSpan_88 (by decide) ?_
          rw [← hQ]
          exact W.zret (v := (0 : Int32)) hx hb hr rfl (fun t ht1 hW => ⟨⟨_, (), rfl, hm, by rw [ht1]; exact hP, hD⟩, hS.F ht1⟩) hS.2.2 dX7_isInSpan_89
        · have c4 := mt lgc_ge.mpr c4
          have hm := ite_f c4 hm
          refine lv_iconst (v := (1 : Int32)) hx hb dX7_isInSpan_84 (by decide) ?_
          refine lv_goto (tgt := 89) hx hb dX7_isInSpan_85 (by decide) ?_
          rw [← hQ]
          exact W.zret (v := (1 : Int32)) hx hb hr rfl (fun t ht1 hW => ⟨⟨_, (), rfl, hm, by rw [ht1]; exact hP, hD⟩, hS.F ht1⟩) hS.2.2 dX7_isInSpan_89
    · have hm := ite_t c2 hm
      refine lv_lload_n hx hb dX7_isInSpan_32 rfl (lv_at hl 1 rfl) ?_
      refine lv_lconst (v := (1 : Int64)) hx hb dX7_isInSpan_33 (by decide) ?_
      refine lv_aload_n hx hb dX7_isInSpan_34 rfl (lv_at hl 0 rfl) ?_
      refine va_get (D := (dC, dI)) (ci := 8) (v := .ref (jM 10)) (C := RX7) (T := TX7) (N := 34) hx hb ht inX7 hown hK hP 0 rfl rfl 10 (by decide) (ht _ kw_19) (fun _ h9 => h9) rfl dX7_isInSpan_35 ?_
      refine lv_iconst (v := (1 : Int32)) hx hb dX7_isInSpan_38 (by decide) ?_
      obtain ⟨g5, hm⟩ := gdi_of hm
      refine va_iald hx hb hK hP 5 0 rfl rfl g5 dX7_isInSpan_39 ?_
      refine lv_lshl hx hb dX7_isInSpan_40 rfl ?_
      refine W.lcmp hx hb dX7_isInSpan_41 ?_
      refine lv_if_lt (tgt := 64) hx hb dX7_isInSpan_42 (by decide) (fun c6 => ?_) (fun c6 => ?_)
      · have c6 := lgc_lt.mp c6
        have hm := ite_t c6 hm
        refine lv_iconst (v := (0 : Int32)) hx hb dX7_isInSpan_64 (by decide) ?_
        refine lv_goto (tgt := 89) hx hb dX7_isInSpan_65 (by decide) ?_
        rw [← hQ]
        exact W.zret (v := (0 : Int32)) hx hb hr rfl (fun t ht1 hW => ⟨⟨_, (), rfl, hm, by rw [ht1]; exact hP, hD⟩, hS.F ht1⟩) hS.2.2 dX7_isInSpan_89
      · have c6 := mt lgc_lt.mpr c6
        have hm := ite_f c6 hm
        refine lv_lload_n hx hb dX7_isInSpan_45 rfl (lv_at hl 1 rfl) ?_
        refine lv_ldc2 (v := (2 : Int64)) hx hb hown (ht _ kw_12) dX7_isInSpan_46 ?_
        refine lv_aload_n hx hb dX7_isInSpan_49 rfl (lv_at hl 0 rfl) ?_
        refine va_get (D := (dC, dI)) (ci := 8) (v := .ref (jM 10)) (C := RX7) (T := TX7) (N := 34) hx hb ht inX7 hown hK hP 0 rfl rfl 10 (by decide) (ht _ kw_19) (fun _ h9 => h9) rfl dX7_isInSpan_50 ?_
        refine lv_iconst (v := (1 : Int32)) hx hb dX7_isInSpan_53 (by decide) ?_
        obtain ⟨g7, hm⟩ := gdi_of hm
        refine va_iald hx hb hK hP 5 0 rfl rfl g7 dX7_isInSpan_54 ?_
        refine lv_lshl hx hb dX7_isInSpan_55 rfl ?_
        refine W.lcmp hx hb dX7_isInSpan_56 ?_
        refine lv_if_ge (tgt := 64) hx hb dX7_isInSpan_57 (by decide) (fun c8 => ?_) (fun c8 => ?_)
        · have c8 := lgc_ge.mp c8
          have hm := ite_t c8 hm
          refine lv_iconst (v := (0 : Int32)) hx hb dX7_isInSpan_64 (by decide) ?_
          refine lv_goto (tgt := 89) hx hb dX7_isInSpan_65 (by decide) ?_
          rw [← hQ]
          exact W.zret (v := (0 : Int32)) hx hb hr rfl (fun t ht1 hW => ⟨⟨_, (), rfl, hm, by rw [ht1]; exact hP, hD⟩, hS.F ht1⟩) hS.2.2 dX7_isInSpan_89
        · have c8 := mt lgc_ge.mpr c8
          have hm := ite_f c8 hm
          refine lv_iconst (v := (1 : Int32)) hx hb dX7_isInSpan_60 (by decide) ?_
          refine lv_goto (tgt := 89) hx hb dX7_isInSpan_61 (by decide) ?_
          rw [← hQ]
          exact W.zret (v := (1 : Int32)) hx hb hr rfl (fun t ht1 hW => ⟨⟨_, (), rfl, hm, by rw [ht1]; exact hP, hD⟩, hS.F ht1⟩) hS.2.2 dX7_isInSpan_89
  · have hm := ite_t c1 hm
    refine lv_lload_n hx hb dX7_isInSpan_8 rfl (lv_at hl 1 rfl) ?_
    refine lv_ldc2 (v := (2147483648 : Int64)) hx hb hown (ht _ kw_11) dX7_isInSpan_9 ?_
    refine W.lcmp hx hb dX7_isInSpan_12 ?_
    refine lv_if_lt (tgt := 20) hx hb dX7_isInSpan_13 (by decide) (fun c9 => ?_) (fun c9 => ?_)
    · have c9 := lgc_lt.mp c9
      have hm := ite_t c9 hm
      refine lv_iconst (v := (0 : Int32)) hx hb dX7_isInSpan_20 (by decide) ?_
      refine lv_goto (tgt := 89) hx hb dX7_isInSpan_21 (by decide) ?_
      rw [← hQ]
      exact W.zret (v := (0 : Int32)) hx hb hr rfl (fun t ht1 hW => ⟨⟨_, (), rfl, hm, by rw [ht1]; exact hP, hD⟩, hS.F ht1⟩) hS.2.2 dX7_isInSpan_89
    · have c9 := mt lgc_lt.mpr c9
      have hm := ite_f c9 hm
      refine lv_iconst (v := (1 : Int32)) hx hb dX7_isInSpan_16 (by decide) ?_
      refine lv_goto (tgt := 89) hx hb dX7_isInSpan_17 (by decide) ?_
      rw [← hQ]
      exact W.zret (v := (1 : Int32)) hx hb hr rfl (fun t ht1 hW => ⟨⟨_, (), rfl, hm, by rw [ht1]; exact hP, hD⟩, hS.F ht1⟩) hS.2.2 dX7_isInSpan_89

def f_X7_signOf_L2 (uM : OS) (p1 : Int32) : Nat → (Int32 → Option (Int32)) → Int32 → Option (Int32)
  | 0, _, _ => none
  | n2 + 1, K31_3, x1 =>
    gdi ((32 : Int32) + x1) 64 <|
    gdi ((32 : Int32) + x1) 64 <|
    if p1 < ((uM.2.1 9 (((32 : Int32) + x1)).toNatClampNeg) + (uM.2.1 8 (((32 : Int32) + x1)).toNatClampNeg)) then (
    K31_3 x1) else (
    bnd (x1 + (1 : Int32)) fun x7 =>
    f_X7_signOf_L2 uM p1 n2 K31_3 x7)

def f_X7_signOf (uM : OS) (p1 : Int32) : Option (Int32) :=
  bnd (fun (x2 : Int32) =>
  some x2) fun K31_3 =>
  f_X7_signOf_L2 uM p1 FU K31_3 (0 : Int32)

set_option maxHeartbeats 4000000 in
set_option maxRecDepth 100000 in
theorem c_X7_signOf (l : Launch) (dC : Nat → ClassId) (dI : Nat → Nat → Nat) (cI cJ : ClassId) (aM : Nat) (jM : Nat → Nat) (sz : Nat) (uM : OS) (p1 : Int32) (o : Int32) (hm : f_X7_signOf uM p1 = some o) : Met l yX7_signOf (wq yX7_signOf cX7_signOf 3 (some .int)) ({ frames := 0, cells := 0, slots := 0, locals := 0 } : Room) (va_Pc [.ref aM, .int p1] (pcW dC dI cI cJ sz ([wM cI cJ aM jM uM] : List va_W).flatten)) (va_Qi (S := Unit) (fun r u => some r = some o) (fun (u : Unit) t => va_P (dC, dI) vwCl ([wM cI cJ aM jM uM] : List va_W).flatten t.heap ∧ va_D (va_A ([wM cI cJ aM jM uM] : List va_W).flatten sz) ([wM cI cJ aM jM uM] : List va_W).flatten) (va_A ([wM cI cJ aM jM uM] : List va_W).flatten sz)) 0 0 (va_A ([wM cI cJ aM jM uM] : List va_W).flatten sz) := by
  refine Met.ofW (cc := cX7_signOf) (maxL := 3) (ret := (some .int)) (by decide) rfl ?_
  intro p e s m args below meth c s₁ B hml hv
  obtain ⟨rfl, hsz, hP, hK, hD0, hN⟩ := hv
  have hx := B.exec
  have hb := B.bytes
  have hr := B.returns
  have ht : ∀ w ∈ lw_good, w.before _ s = true := fun w h => atoms_spec (ws := wq yX7_signOf cX7_signOf 3 (some .int)) B.pre w (wq_mem h)
  have hown : s.vm.findClass RX7 = some m.cls := findClass_of_methodNamed B.named
  have hlocks := B.notSynchronized
  subst hsz
  have hD := hD0.self (sz := s.heap.size)
  generalize hAe : va_A ([wM cI cJ aM jM uM] : List va_W).flatten s.heap.size = A at hD ⊢
  have hA : ∀ q : Nat, s.heap.size ≤ q → A q := fun q h => by rw [← hAe]; exact Or.inr h
  have hS : va_S A s.heap s.heap [] := va_S.rf
  have hl := lv_entry ([.ref aM, .int p1]) (n := 3) (Nat.le_of_ble_eq_true rfl)
  rw [lg_entry_eq]
  generalize (lg_sl ([.ref aM, .int p1]) ++ List.replicate (3 - (lg_sl ([.ref aM, .int p1])).length) Slot.unset).toArray = ls at hl ⊢
  have hl : lv_has ls 3 [(0, .ref aM), (1, .int p1)] := hl
  generalize hQ : MQ below _ _ s _ _ _ = Q
  generalize hH : s.heap = H at hP ⊢
  have hS : va_S A s.heap H [] := by rw [← hH]; exact va_S.rf
  show W p l e ({ frames := 0, cells := 0, slots := 0, locals := 0 } : Room) s m ([.ref aM, .int p1] : List Value).toArray below meth c H [] 0 0 Q (F0 m 0 ls [])
  unfold f_X7_signOf at hm
  refine lv_iconst (v := (0 : Int32)) hx hb dX7_signOf_0 (by decide) ?_
  refine lv_istore_n (lv' := [(2, .int (0 : Int32)), (0, .ref aM), (1, .int p1)]) hx hb dX7_signOf_1 rfl hl (by decide) rfl (fun ls hl => ?_)
  obtain ⟨K31_3, eK31_3, hm⟩ := bnd_ex hm
  have X31_3 : ∀ (x2 : Int32) (H : Heap) (locs : List Loc) (ls : Array Slot), K31_3 x2 = some o → va_P (dC, dI) vwCl ([wM cI cJ aM jM uM] : List va_W).flatten H → va_D A ([wM cI cJ aM jM uM] : List va_W).flatten → va_S A s.heap H locs → lv_has ls 3 [(0, .ref aM), (1, .int p1), (2, .int x2)] → W p l e ({ frames := 0, cells := 0, slots := 0, locals := 0 } : Room) s m ([.ref aM, .int p1] : List Value).toArray below meth c H locs 0 0 Q (F0 m 31 ls []) := by
    intro x2 H locs ls hm hP hD hS hl
    have hm := ap1 eK31_3 hm
    refine lv_iload_n hx hb dX7_signOf_31 rfl (lv_at hl 2 rfl) ?_
    rw [← hQ]
    exact W.iret (v := x2) hx hb hr (fun t ht1 hW => ⟨⟨_, (), rfl, hm, by rw [ht1]; exact hP, hD⟩, hS.F ht1⟩) hS.2.2 dX7_signOf_32
  have LP2 : ∀ (n2 : Nat) (x1 : Int32) (H : Heap) (locs : List Loc) (ls : Array Slot), f_X7_signOf_L2 uM p1 n2 K31_3 x1 = some o → va_P (dC, dI) vwCl ([wM cI cJ aM jM uM] : List va_W).flatten H → va_D A ([wM cI cJ aM jM uM] : List va_W).flatten → va_S A s.heap H locs → lv_has ls 3 [(0, .ref aM), (1, .int p1), (2, .int x1)] → W p l e ({ frames := 0, cells := 0, slots := 0, locals := 0 } : Room) s m ([.ref aM, .int p1] : List Value).toArray below meth c H locs 0 0 Q (F0 m 2 ls []) := by
    intro n2
    induction n2 with
    | zero => intro x1 H locs ls hm; exact nomatch (show (none : Option _) = some _ from hm)
    | succ n2 ih2 =>
      intro x1 H locs ls hm hP hD hS hl
      unfold f_X7_signOf_L2 at hm
      refine lv_iload_n hx hb dX7_signOf_2 rfl (lv_at hl 1 rfl) ?_
      refine lv_aload_n hx hb dX7_signOf_3 rfl (lv_at hl 0 rfl) ?_
      refine va_get (D := (dC, dI)) (ci := 8) (v := .ref (jM 9)) (C := RX7) (T := TX7) (N := 34) hx hb ht inX7 hown hK hP 0 rfl rfl 9 (by decide) (ht _ kw_20) (fun _ h9 => h9) rfl dX7_signOf_4 ?_
      refine lv_bipush (v := (32 : Int32)) hx hb dX7_signOf_7 (by decide) ?_
      refine lv_iload_n hx hb dX7_signOf_9 rfl (lv_at hl 2 rfl) ?_
      refine lv_iadd hx hb dX7_signOf_10 ?_
      obtain ⟨g4, hm⟩ := gdi_of hm
      refine va_iald hx hb hK hP 4 0 rfl rfl g4 dX7_signOf_11 ?_
      refine lv_aload_n hx hb dX7_signOf_12 rfl (lv_at hl 0 rfl) ?_
      refine va_get (D := (dC, dI)) (ci := 8) (v := .ref (jM 8)) (C := RX7) (T := TX7) (N := 34) hx hb ht inX7 hown hK hP 0 rfl rfl 8 (by decide) (ht _ kw_18) (fun _ h9 => h9) rfl dX7_signOf_13 ?_
      refine lv_bipush (v := (32 : Int32)) hx hb dX7_signOf_16 (by decide) ?_
      refine lv_iload_n hx hb dX7_signOf_18 rfl (lv_at hl 2 rfl) ?_
      refine lv_iadd hx hb dX7_signOf_19 ?_
      obtain ⟨g5, hm⟩ := gdi_of hm
      refine va_iald hx hb hK hP 3 0 rfl rfl g5 dX7_signOf_20 ?_
      refine lv_iadd hx hb dX7_signOf_21 ?_
      refine lv_icmp_lt (tgt := 31) hx hb dX7_signOf_22 (by decide) (fun c6 => ?_) (fun c6 => ?_)
      · have hm := ite_t c6 hm
        exact X31_3 x1 _ _ _ hm hP hD hS (lv_sub hl [0, 1, 2] rfl)
      · have hm := ite_f c6 hm
        obtain ⟨x7, ex7, hm⟩ := bnd_ex hm
        refine lv_iinc (v := x7) (lv' := [(2, .int x7), (0, .ref aM), (1, .int p1)]) hx hb dX7_signOf_25 hl (k := 2) rfl (by rw [ex7]; exact congrArg _ (by decide)) (by decide) rfl (fun ls hl => ?_)
        refine lv_goto (tgt := 2) hx hb dX7_signOf_28 (by decide) ?_
        exact ih2 x7 _ _ _ hm hP hD hS (lv_sub hl [1, 2, 0] rfl)
  exact LP2 FU (0 : Int32) _ _ _ hm hP hD hS (lv_sub hl [1, 2, 0] rfl)

def f_X7_readBytes_L39 : Nat → (Int64 → OS → Option (OS)) → Int64 → OS → Option (OS)
  | 0, _, _, _ => none
  | n39 + 1, K71_10, y6, u7 =>
    if (8388608 : Int64) ≤ y6 then (
    K71_10 y6 u7) else (
    if (u7.1 27) = (0 : Int32) then (
    oC2 (f_X7_next u7) fun u16 r17 =>
    bnd ((y6 <<< (((8 : Int32)).toInt64 &&& (63 : Int64))) ||| (r17).toInt64) fun y19 =>
    f_X7_readBytes_L39 n39 K71_10 y19 u16) else (
    K71_10 y6 u7))

def f_X7_readBytes (uM : OS) (p1 : Int32) (p2 : Int32) (p3 : Int32) : Option (OS) :=
  gdi p1 4 <|
  bnd (uM.2.2.1 33 (p1).toNatClampNeg) fun y2 =>
  gdi (1 : Int32) 2 <|
  bnd (uM.2.1 10 ((1 : Int32)).toNatClampNeg) fun x4 =>
  bnd ((((p2).toInt64 * (y2 >>> ((x4).toInt64 &&& (63 : Int64)))) + (y2 &&& (((1 : Int64) <<< ((x4).toInt64 &&& (63 : Int64))) - (1 : Int64)))) - (p3).toInt64) fun y5 =>
  bnd (fun (y8 : Int64) (u9 : OS) =>
  if (u9.1 27) = (0 : Int32) then (
  gdi p1 4 <|
  bnd (sL u9 33 p1 y8) fun u13 =>
  some u13) else (
  some u9)) fun K71_10 =>
  f_X7_readBytes_L39 FU K71_10 y5 uM

set_option maxHeartbeats 4000000 in
set_option maxRecDepth 100000 in
theorem c_X7_readBytes (l : Launch) (dC : Nat → ClassId) (dI : Nat → Nat → Nat) (cI cJ : ClassId) (aM : Nat) (jM : Nat → Nat) (sz : Nat) (uM : OS) (p1 : Int32) (p2 : Int32) (p3 : Int32) (o : OS) (hm : f_X7_readBytes uM p1 p2 p3 = some o) : Met l yX7_readBytes (wq yX7_readBytes cX7_readBytes 7 none) ({ frames := 2, cells := 0, slots := 0, locals := 41 } : Room) (va_Pc [.ref aM, .int p1, .int p2, .int p3] (pcW dC dI cI cJ sz ([wM cI cJ aM jM uM] : List va_W).flatten)) (va_Qv (S := OS) (fun u => some u = some o) (fun (u : OS) t => va_P (dC, dI) vwCl ([wM cI cJ aM jM u] : List va_W).flatten t.heap ∧ va_D (va_A ([wM cI cJ aM jM uM] : List va_W).flatten sz) ([wM cI cJ aM jM u] : List va_W).flatten) (va_A ([wM cI cJ aM jM uM] : List va_W).flatten sz)) 0 0 (va_A ([wM cI cJ aM jM uM] : List va_W).flatten sz) := by
  refine Met.ofW (cc := cX7_readBytes) (maxL := 7) (ret := none) (by decide) rfl ?_
  intro p e s m args below meth c s₁ B hml hv
  obtain ⟨rfl, hsz, hP, hK, hD0, hN⟩ := hv
  have hx := B.exec
  have hb := B.bytes
  have hr := B.returns
  have ht : ∀ w ∈ lw_good, w.before _ s = true := fun w h => atoms_spec (ws := wq yX7_readBytes cX7_readBytes 7 none) B.pre w (wq_mem h)
  have hown : s.vm.findClass RX7 = some m.cls := findClass_of_methodNamed B.named
  have hlocks := B.notSynchronized
  subst hsz
  have hD := hD0.self (sz := s.heap.size)
  generalize hAe : va_A ([wM cI cJ aM jM uM] : List va_W).flatten s.heap.size = A at hD ⊢
  have hA : ∀ q : Nat, s.heap.size ≤ q → A q := fun q h => by rw [← hAe]; exact Or.inr h
  have hS : va_S A s.heap s.heap [] := va_S.rf
  have hl := lv_entry ([.ref aM, .int p1, .int p2, .int p3]) (n := 7) (Nat.le_of_ble_eq_true rfl)
  rw [lg_entry_eq]
  generalize (lg_sl ([.ref aM, .int p1, .int p2, .int p3]) ++ List.replicate (7 - (lg_sl ([.ref aM, .int p1, .int p2, .int p3])).length) Slot.unset).toArray = ls at hl ⊢
  have hl : lv_has ls 7 [(0, .ref aM), (1, .int p1), (2, .int p2), (3, .int p3)] := hl
  generalize hQ : MQ below _ _ s _ _ _ = Q
  generalize hH : s.heap = H at hP ⊢
  have hS : va_S A s.heap H [] := by rw [← hH]; exact va_S.rf
  show W p l e ({ frames := 2, cells := 0, slots := 0, locals := 41 } : Room) s m ([.ref aM, .int p1, .int p2, .int p3] : List Value).toArray below meth c H [] 0 0 Q (F0 m 0 ls [])
  unfold f_X7_readBytes at hm
  refine lv_aload_n hx hb dX7_readBytes_0 rfl (lv_at hl 0 rfl) ?_
  refine va_get (D := (dC, dI)) (ci := 8) (v := .ref (jM 33)) (C := RX7) (T := TX7) (N := 34) hx hb ht inX7 hown hK hP 0 rfl rfl 33 (by decide) (ht _ kw_111) (fun _ h9 => h9) rfl dX7_readBytes_1 ?_
  refine lv_iload_n hx hb dX7_readBytes_4 rfl (lv_at hl 1 rfl) ?_
  obtain ⟨g1, hm⟩ := gdi_of hm
  refine va_lald hx hb hK hP 14 1 rfl rfl g1 dX7_readBytes_5 ?_
  refine lv_topl (fun y2 ey2 => ?_)
  have hm := bnd_nm ey2 hm
  refine lv_lstore (lv' := [(4, .long y2), (0, .ref aM), (1, .int p1), (2, .int p2), (3, .int p3)]) hx hb dX7_readBytes_6 hl (by decide) rfl (fun ls hl => ?_)
  refine lv_aload_n hx hb dX7_readBytes_8 rfl (lv_at hl 1 rfl) ?_
  refine va_get (D := (dC, dI)) (ci := 8) (v := .ref (jM 10)) (C := RX7) (T := TX7) (N := 34) hx hb ht inX7 hown hK hP 0 rfl rfl 10 (by decide) (ht _ kw_19) (fun _ h9 => h9) rfl dX7_readBytes_9 ?_
  refine lv_iconst (v := (1 : Int32)) hx hb dX7_readBytes_12 (by decide) ?_
  obtain ⟨g3, hm⟩ := gdi_of hm
  refine va_iald hx hb hK hP 5 0 rfl rfl g3 dX7_readBytes_13 ?_
  refine lv_topi (fun x4 ex4 => ?_)
  have hm := bnd_nm ex4 hm
  refine lv_istore (lv' := [(6, .int x4), (4, .long y2), (0, .ref aM), (1, .int p1), (2, .int p2), (3, .int p3)]) hx hb dX7_readBytes_14 hl (by decide) rfl (fun ls hl => ?_)
  refine lv_iload_n hx hb dX7_readBytes_16 rfl (lv_at hl 4 rfl) ?_
  refine lv_i2l hx hb dX7_readBytes_17 rfl ?_
  refine lv_lload hx hb dX7_readBytes_18 (lv_at hl 1 rfl) ?_
  refine lv_iload hx hb dX7_readBytes_20 (lv_at hl 0 rfl) ?_
  refine lv_lshr hx hb dX7_readBytes_22 rfl ?_
  refine lv_lmul hx hb dX7_readBytes_23 ?_
  refine lv_lload hx hb dX7_readBytes_24 (lv_at hl 1 rfl) ?_
  refine lv_lconst (v := (1 : Int64)) hx hb dX7_readBytes_26 (by decide) ?_
  refine lv_iload hx hb dX7_readBytes_27 (lv_at hl 0 rfl) ?_
  refine lv_lshl hx hb dX7_readBytes_29 rfl ?_
  refine lv_lconst (v := (1 : Int64)) hx hb dX7_readBytes_30 (by decide) ?_
  refine lv_lsub hx hb dX7_readBytes_31 ?_
  refine lv_land hx hb dX7_readBytes_32 ?_
  refine lv_ladd hx hb dX7_readBytes_33 ?_
  refine lv_iload_n hx hb dX7_readBytes_34 rfl (lv_at hl 5 rfl) ?_
  refine lv_i2l hx hb dX7_readBytes_35 rfl ?_
  refine lv_lsub hx hb dX7_readBytes_36 ?_
  refine lv_topl (fun y5 ey5 => ?_)
  have hm := bnd_nm ey5 hm
  refine lv_lstore (lv' := [(4, .long y5), (6, .int x4), (0, .ref aM), (1, .int p1), (2, .int p2), (3, .int p3)]) hx hb dX7_readBytes_37 hl (by decide) rfl (fun ls hl => ?_)
  obtain ⟨K71_10, eK71_10, hm⟩ := bnd_ex hm
  have X71_10 : ∀ (y8 : Int64) (u9 : OS) (H : Heap) (locs : List Loc) (ls : Array Slot), K71_10 y8 u9 = some o → va_P (dC, dI) vwCl ([wM cI cJ aM jM u9] : List va_W).flatten H → va_D A ([wM cI cJ aM jM u9] : List va_W).flatten → va_S A s.heap H locs → lv_has ls 7 [(0, .ref aM), (1, .int p1), (2, .int p2), (3, .int p3), (4, .long y8), (6, .int x4)] → W p l e ({ frames := 2, cells := 0, slots := 0, locals := 41 } : Room) s m ([.ref aM, .int p1, .int p2, .int p3] : List Value).toArray below meth c H locs 0 0 Q (F0 m 71 ls []) := by
    intro y8 u9 H locs ls hm hP hD hS hl
    have hm := ap2 eK71_10 hm
    refine lv_aload_n hx hb dX7_readBytes_71 rfl (lv_at hl 0 rfl) ?_
    refine va_get (D := (dC, dI)) (ci := 8) (v := .int (u9.1 27)) (C := RX7) (T := TX7) (N := 34) hx hb ht inX7 hown hK hP 0 rfl rfl 27 (by decide) (ht _ kw_95) (fun _ h9 => h9) rfl dX7_readBytes_72 ?_
    refine lv_if_ne (tgt := 86) hx hb dX7_readBytes_75 (by decide) (fun c11 => ?_) (fun c11 => ?_)
    · have hm := ite_f c11 hm
      rw [← hQ]
      exact W.vret hx hb hr (fun t ht1 hW => ⟨⟨u9, rfl, hm, by rw [ht1]; exact hP, hD⟩, hS.F ht1⟩) hS.2.2 dX7_readBytes_86
    · have hm := ite_t c11 hm
      refine lv_aload_n hx hb dX7_readBytes_78 rfl (lv_at hl 0 rfl) ?_
      refine va_get (D := (dC, dI)) (ci := 8) (v := .ref (jM 33)) (C := RX7) (T := TX7) (N := 34) hx hb ht inX7 hown hK hP 0 rfl rfl 33 (by decide) (ht _ kw_111) (fun _ h9 => h9) rfl dX7_readBytes_79 ?_
      refine lv_iload_n hx hb dX7_readBytes_82 rfl (lv_at hl 1 rfl) ?_
      refine lv_lload hx hb dX7_readBytes_83 (lv_at hl 4 rfl) ?_
      obtain ⟨g12, hm⟩ := gdi_of hm
      refine va_last hx hb hK hP hD hS 14 1 rfl rfl g12 dX7_readBytes_85 (fun H locs hP hD hS => ?_)
      obtain ⟨u13, eu13, hm⟩ := bnd_ex hm
      have hP : va_P (dC, dI) vwCl ([wM cI cJ aM jM u13] : List va_W).flatten H := by rw [eu13]; exact hP
      have hD : va_D A ([wM cI cJ aM jM u13] : List va_W).flatten := by rw [eu13]; exact hD
      rw [← hQ]
      exact W.vret hx hb hr (fun t ht1 hW => ⟨⟨u13, rfl, hm, by rw [ht1]; exact hP, hD⟩, hS.F ht1⟩) hS.2.2 dX7_readBytes_86
  have LP39 : ∀ (n39 : Nat) (y6 : Int64) (u7 : OS) (H : Heap) (locs : List Loc) (ls : Array Slot), f_X7_readBytes_L39 n39 K71_10 y6 u7 = some o → va_P (dC, dI) vwCl ([wM cI cJ aM jM u7] : List va_W).flatten H → va_D A ([wM cI cJ aM jM u7] : List va_W).flatten → va_S A s.heap H locs → lv_has ls 7 [(0, .ref aM), (1, .int p1), (2, .int p2), (3, .int p3), (4, .long y6), (6, .int x4)] → W p l e ({ frames := 2, cells := 0, slots := 0, locals := 41 } : Room) s m ([.ref aM, .int p1, .int p2, .int p3] : List Value).toArray below meth c H locs 0 0 Q (F0 m 39 ls []) := by
    intro n39
    induction n39 with
    | zero => intro y6 u7 H locs ls hm; exact nomatch (show (none : Option _) = some _ from hm)
    | succ n39 ih39 =>
      intro y6 u7 H locs ls hm hP hD hS hl
      unfold f_X7_readBytes_L39 at hm
      refine lv_lload hx hb dX7_readBytes_39 (lv_at hl 4 rfl) ?_
      refine lv_ldc2 (v := (8388608 : Int64)) hx hb hown (ht _ kw_30) dX7_readBytes_41 ?_
      refine W.lcmp hx hb dX7_readBytes_44 ?_
      refine lv_if_ge (tgt := 71) hx hb dX7_readBytes_45 (by decide) (fun c14 => ?_) (fun c14 => ?_)
      · have c14 := lgc_ge.mp c14
        have hm := ite_t c14 hm
        exact X71_10 y6 u7 _ _ _ hm hP hD hS (lv_sub hl [0, 1, 2, 3, 4, 5] rfl)
      · have c14 := mt lgc_ge.mpr c14
        have hm := ite_f c14 hm
        refine lv_aload_n hx hb dX7_readBytes_48 rfl (lv_at hl 0 rfl) ?_
        refine va_get (D := (dC, dI)) (ci := 8) (v := .int (u7.1 27)) (C := RX7) (T := TX7) (N := 34) hx hb ht inX7 hown hK hP 0 rfl rfl 27 (by decide) (ht _ kw_95) (fun _ h9 => h9) rfl dX7_readBytes_49 ?_
        refine lv_if_ne (tgt := 71) hx hb dX7_readBytes_52 (by decide) (fun c15 => ?_) (fun c15 => ?_)
        · have hm := ite_f c15 hm
          exact X71_10 y6 u7 _ _ _ hm hP hD hS (lv_sub hl [0, 1, 2, 3, 4, 5] rfl)
        · have hm := ite_t c15 hm
          refine lv_lload hx hb dX7_readBytes_55 (lv_at hl 4 rfl) ?_
          refine lv_bipush (v := (8 : Int32)) hx hb dX7_readBytes_57 (by decide) ?_
          refine lv_lshl hx hb dX7_readBytes_59 rfl ?_
          refine lv_aload_n hx hb dX7_readBytes_60 rfl (lv_at hl 0 rfl) ?_
          have hPc : va_P (dC, dI) vwCl ([wM cI cJ aM jM u7] : List va_W).flatten _ := hP
          have hDc : va_D A ([wM cI cJ aM jM u7] : List va_W).flatten := hD
          have hFc := va_freeF (fc := ([wM cI cJ aM jM u7] : List va_W)) hD hS hA [0] rfl
          obtain ⟨u16o, r17o, e18, hm⟩ := oC2_of hm
          refine va_calli (va_runV (As := []) (rest := [.long (y6 <<< (((8 : Int32)).toInt64 &&& (63 : Int64)))]) ⟨hx, hb, hml, hown, ht⟩ (c_X7_next l dC dI cI cJ aM jM H.size u7 (u16o, r17o) e18) (cwV 0 ht (gdV kw_104 kw_102 kw_103 kw_7 kw_101) rfl rfl rfl ⟨rfl, nd_X7_next⟩ ⟨Nat.le_of_ble_eq_true rfl, Nat.le_of_ble_eq_true rfl⟩) ⟨pcW_blind, va_recv hK hPc (ci := 8) (q0 := 0) rfl rfl, pcW_pre hPc hK hDc hN⟩ rfl rfl hl.1 rfl (lv_room (Nat.le_of_ble_eq_true rfl)) dX7_readBytes_61 ⟨Nat.zero_le _, Nat.zero_le _⟩) hS (fun q _ z => hFc q z) hFc (fun r17 uu t H1 locs ht1 hvm hw hB hz1 hk1 hS => ?_)
          obtain ⟨u16, rfl⟩ : ∃ z, z = uu := ⟨_, rfl⟩
          obtain ⟨hP1, hD1⟩ := hB
          rw [ht1] at hP1
          obtain ⟨q0, q1⟩ := inj2 hw
          subst q0
          subst q1
          have hP : va_P (dC, dI) vwCl ([wM cI cJ aM jM u16] : List va_W).flatten H1 := hP1
          have hD : va_D A ([wM cI cJ aM jM u16] : List va_W).flatten := hD1.weaken (fun _ q _ z => hFc q.1 z)
          generalize H1 = H at hP hS ⊢
          refine lv_i2l hx hb dX7_readBytes_64 rfl ?_
          refine lv_lor hx hb dX7_readBytes_65 ?_
          refine lv_topl (fun y19 ey19 => ?_)
          have hm := bnd_nm ey19 hm
          refine lv_lstore (lv' := [(4, .long y19), (0, .ref aM), (1, .int p1), (2, .int p2), (3, .int p3), (6, .int x4)]) hx hb dX7_readBytes_66 hl (by decide) rfl (fun ls hl => ?_)
          refine lv_goto (tgt := 39) hx hb dX7_readBytes_68 (by decide) ?_
          exact ih39 y19 u16 _ _ _ hm hP hD hS (lv_sub hl [1, 2, 3, 4, 0, 5] rfl)
  exact LP39 FU y5 uM _ _ _ hm hP hD hS (lv_sub hl [2, 3, 4, 5, 0, 1] rfl)

def f_X7_readWords_L39 : Nat → (Int64 → OS → Option (OS)) → Int64 → OS → Option (OS)
  | 0, _, _, _ => none
  | n39 + 1, K71_10, y6, u7 =>
    if (2147483648 : Int64) ≤ y6 then (
    K71_10 y6 u7) else (
    if (u7.1 27) = (0 : Int32) then (
    oC2 (f_X7_nextWide u7 (4 : Int32)) fun u16 r17 =>
    bnd ((y6 <<< (((32 : Int32)).toInt64 &&& (63 : Int64))) ||| r17) fun y19 =>
    f_X7_readWords_L39 n39 K71_10 y19 u16) else (
    K71_10 y6 u7))

def f_X7_readWords (uM : OS) (p1 : Int32) (p2 : Int32) (p3 : Int32) : Option (OS) :=
  gdi p1 4 <|
  bnd (uM.2.2.1 33 (p1).toNatClampNeg) fun y2 =>
  gdi (1 : Int32) 2 <|
  bnd (uM.2.1 10 ((1 : Int32)).toNatClampNeg) fun x4 =>
  bnd ((((p2).toInt64 * (y2 >>> ((x4).toInt64 &&& (63 : Int64)))) + (y2 &&& (((1 : Int64) <<< ((x4).toInt64 &&& (63 : Int64))) - (1 : Int64)))) - (p3).toInt64) fun y5 =>
  bnd (fun (y8 : Int64) (u9 : OS) =>
  if (u9.1 27) = (0 : Int32) then (
  gdi p1 4 <|
  bnd (sL u9 33 p1 y8) fun u13 =>
  some u13) else (
  some u9)) fun K71_10 =>
  f_X7_readWords_L39 FU K71_10 y5 uM

set_option maxHeartbeats 4000000 in
set_option maxRecDepth 100000 in
theorem c_X7_readWords (l : Launch) (dC : Nat → ClassId) (dI : Nat → Nat → Nat) (cI cJ : ClassId) (aM : Nat) (jM : Nat → Nat) (sz : Nat) (uM : OS) (p1 : Int32) (p2 : Int32) (p3 : Int32) (o : OS) (hm : f_X7_readWords uM p1 p2 p3 = some o) : Met l yX7_readWords (wq yX7_readWords cX7_readWords 7 none) ({ frames := 3, cells := 0, slots := 0, locals := 65 } : Room) (va_Pc [.ref aM, .int p1, .int p2, .int p3] (pcW dC dI cI cJ sz ([wM cI cJ aM jM uM] : List va_W).flatten)) (va_Qv (S := OS) (fun u => some u = some o) (fun (u : OS) t => va_P (dC, dI) vwCl ([wM cI cJ aM jM u] : List va_W).flatten t.heap ∧ va_D (va_A ([wM cI cJ aM jM uM] : List va_W).flatten sz) ([wM cI cJ aM jM u] : List va_W).flatten) (va_A ([wM cI cJ aM jM uM] : List va_W).flatten sz)) 0 0 (va_A ([wM cI cJ aM jM uM] : List va_W).flatten sz) := by
  refine Met.ofW (cc := cX7_readWords) (maxL := 7) (ret := none) (by decide) rfl ?_
  intro p e s m args below meth c s₁ B hml hv
  obtain ⟨rfl, hsz, hP, hK, hD0, hN⟩ := hv
  have hx := B.exec
  have hb := B.bytes
  have hr := B.returns
  have ht : ∀ w ∈ lw_good, w.before _ s = true := fun w h => atoms_spec (ws := wq yX7_readWords cX7_readWords 7 none) B.pre w (wq_mem h)
  have hown : s.vm.findClass RX7 = some m.cls := findClass_of_methodNamed B.named
  have hlocks := B.notSynchronized
  subst hsz
  have hD := hD0.self (sz := s.heap.size)
  generalize hAe : va_A ([wM cI cJ aM jM uM] : List va_W).flatten s.heap.size = A at hD ⊢
  have hA : ∀ q : Nat, s.heap.size ≤ q → A q := fun q h => by rw [← hAe]; exact Or.inr h
  have hS : va_S A s.heap s.heap [] := va_S.rf
  have hl := lv_entry ([.ref aM, .int p1, .int p2, .int p3]) (n := 7) (Nat.le_of_ble_eq_true rfl)
  rw [lg_entry_eq]
  generalize (lg_sl ([.ref aM, .int p1, .int p2, .int p3]) ++ List.replicate (7 - (lg_sl ([.ref aM, .int p1, .int p2, .int p3])).length) Slot.unset).toArray = ls at hl ⊢
  have hl : lv_has ls 7 [(0, .ref aM), (1, .int p1), (2, .int p2), (3, .int p3)] := hl
  generalize hQ : MQ below _ _ s _ _ _ = Q
  generalize hH : s.heap = H at hP ⊢
  have hS : va_S A s.heap H [] := by rw [← hH]; exact va_S.rf
  show W p l e ({ frames := 3, cells := 0, slots := 0, locals := 65 } : Room) s m ([.ref aM, .int p1, .int p2, .int p3] : List Value).toArray below meth c H [] 0 0 Q (F0 m 0 ls [])
  unfold f_X7_readWords at hm
  refine lv_aload_n hx hb dX7_readWords_0 rfl (lv_at hl 0 rfl) ?_
  refine va_get (D := (dC, dI)) (ci := 8) (v := .ref (jM 33)) (C := RX7) (T := TX7) (N := 34) hx hb ht inX7 hown hK hP 0 rfl rfl 33 (by decide) (ht _ kw_111) (fun _ h9 => h9) rfl dX7_readWords_1 ?_
  refine lv_iload_n hx hb dX7_readWords_4 rfl (lv_at hl 1 rfl) ?_
  obtain ⟨g1, hm⟩ := gdi_of hm
  refine va_lald hx hb hK hP 14 1 rfl rfl g1 dX7_readWords_5 ?_
  refine lv_topl (fun y2 ey2 => ?_)
  have hm := bnd_nm ey2 hm
  refine lv_lstore (lv' := [(4, .long y2), (0, .ref aM), (1, .int p1), (2, .int p2), (3, .int p3)]) hx hb dX7_readWords_6 hl (by decide) rfl (fun ls hl => ?_)
  refine lv_aload_n hx hb dX7_readWords_8 rfl (lv_at hl 1 rfl) ?_
  refine va_get (D := (dC, dI)) (ci := 8) (v := .ref (jM 10)) (C := RX7) (T := TX7) (N := 34) hx hb ht inX7 hown hK hP 0 rfl rfl 10 (by decide) (ht _ kw_19) (fun _ h9 => h9) rfl dX7_readWords_9 ?_
  refine lv_iconst (v := (1 : Int32)) hx hb dX7_readWords_12 (by decide) ?_
  obtain ⟨g3, hm⟩ := gdi_of hm
  refine va_iald hx hb hK hP 5 0 rfl rfl g3 dX7_readWords_13 ?_
  refine lv_topi (fun x4 ex4 => ?_)
  have hm := bnd_nm ex4 hm
  refine lv_istore (lv' := [(6, .int x4), (4, .long y2), (0, .ref aM), (1, .int p1), (2, .int p2), (3, .int p3)]) hx hb dX7_readWords_14 hl (by decide) rfl (fun ls hl => ?_)
  refine lv_iload_n hx hb dX7_readWords_16 rfl (lv_at hl 4 rfl) ?_
  refine lv_i2l hx hb dX7_readWords_17 rfl ?_
  refine lv_lload hx hb dX7_readWords_18 (lv_at hl 1 rfl) ?_
  refine lv_iload hx hb dX7_readWords_20 (lv_at hl 0 rfl) ?_
  refine lv_lshr hx hb dX7_readWords_22 rfl ?_
  refine lv_lmul hx hb dX7_readWords_23 ?_
  refine lv_lload hx hb dX7_readWords_24 (lv_at hl 1 rfl) ?_
  refine lv_lconst (v := (1 : Int64)) hx hb dX7_readWords_26 (by decide) ?_
  refine lv_iload hx hb dX7_readWords_27 (lv_at hl 0 rfl) ?_
  refine lv_lshl hx hb dX7_readWords_29 rfl ?_
  refine lv_lconst (v := (1 : Int64)) hx hb dX7_readWords_30 (by decide) ?_
  refine lv_lsub hx hb dX7_readWords_31 ?_
  refine lv_land hx hb dX7_readWords_32 ?_
  refine lv_ladd hx hb dX7_readWords_33 ?_
  refine lv_iload_n hx hb dX7_readWords_34 rfl (lv_at hl 5 rfl) ?_
  refine lv_i2l hx hb dX7_readWords_35 rfl ?_
  refine lv_lsub hx hb dX7_readWords_36 ?_
  refine lv_topl (fun y5 ey5 => ?_)
  have hm := bnd_nm ey5 hm
  refine lv_lstore (lv' := [(4, .long y5), (6, .int x4), (0, .ref aM), (1, .int p1), (2, .int p2), (3, .int p3)]) hx hb dX7_readWords_37 hl (by decide) rfl (fun ls hl => ?_)
  obtain ⟨K71_10, eK71_10, hm⟩ := bnd_ex hm
  have X71_10 : ∀ (y8 : Int64) (u9 : OS) (H : Heap) (locs : List Loc) (ls : Array Slot), K71_10 y8 u9 = some o → va_P (dC, dI) vwCl ([wM cI cJ aM jM u9] : List va_W).flatten H → va_D A ([wM cI cJ aM jM u9] : List va_W).flatten → va_S A s.heap H locs → lv_has ls 7 [(0, .ref aM), (1, .int p1), (2, .int p2), (3, .int p3), (4, .long y8), (6, .int x4)] → W p l e ({ frames := 3, cells := 0, slots := 0, locals := 65 } : Room) s m ([.ref aM, .int p1, .int p2, .int p3] : List Value).toArray below meth c H locs 0 0 Q (F0 m 71 ls []) := by
    intro y8 u9 H locs ls hm hP hD hS hl
    have hm := ap2 eK71_10 hm
    refine lv_aload_n hx hb dX7_readWords_71 rfl (lv_at hl 0 rfl) ?_
    refine va_get (D := (dC, dI)) (ci := 8) (v := .int (u9.1 27)) (C := RX7) (T := TX7) (N := 34) hx hb ht inX7 hown hK hP 0 rfl rfl 27 (by decide) (ht _ kw_95) (fun _ h9 => h9) rfl dX7_readWords_72 ?_
    refine lv_if_ne (tgt := 86) hx hb dX7_readWords_75 (by decide) (fun c11 => ?_) (fun c11 => ?_)
    · have hm := ite_f c11 hm
      rw [← hQ]
      exact W.vret hx hb hr (fun t ht1 hW => ⟨⟨u9, rfl, hm, by rw [ht1]; exact hP, hD⟩, hS.F ht1⟩) hS.2.2 dX7_readWords_86
    · have hm := ite_t c11 hm
      refine lv_aload_n hx hb dX7_readWords_78 rfl (lv_at hl 0 rfl) ?_
      refine va_get (D := (dC, dI)) (ci := 8) (v := .ref (jM 33)) (C := RX7) (T := TX7) (N := 34) hx hb ht inX7 hown hK hP 0 rfl rfl 33 (by decide) (ht _ kw_111) (fun _ h9 => h9) rfl dX7_readWords_79 ?_
      refine lv_iload_n hx hb dX7_readWords_82 rfl (lv_at hl 1 rfl) ?_
      refine lv_lload hx hb dX7_readWords_83 (lv_at hl 4 rfl) ?_
      obtain ⟨g12, hm⟩ := gdi_of hm
      refine va_last hx hb hK hP hD hS 14 1 rfl rfl g12 dX7_readWords_85 (fun H locs hP hD hS => ?_)
      obtain ⟨u13, eu13, hm⟩ := bnd_ex hm
      have hP : va_P (dC, dI) vwCl ([wM cI cJ aM jM u13] : List va_W).flatten H := by rw [eu13]; exact hP
      have hD : va_D A ([wM cI cJ aM jM u13] : List va_W).flatten := by rw [eu13]; exact hD
      rw [← hQ]
      exact W.vret hx hb hr (fun t ht1 hW => ⟨⟨u13, rfl, hm, by rw [ht1]; exact hP, hD⟩, hS.F ht1⟩) hS.2.2 dX7_readWords_86
  have LP39 : ∀ (n39 : Nat) (y6 : Int64) (u7 : OS) (H : Heap) (locs : List Loc) (ls : Array Slot), f_X7_readWords_L39 n39 K71_10 y6 u7 = some o → va_P (dC, dI) vwCl ([wM cI cJ aM jM u7] : List va_W).flatten H → va_D A ([wM cI cJ aM jM u7] : List va_W).flatten → va_S A s.heap H locs → lv_has ls 7 [(0, .ref aM), (1, .int p1), (2, .int p2), (3, .int p3), (4, .long y6), (6, .int x4)] → W p l e ({ frames := 3, cells := 0, slots := 0, locals := 65 } : Room) s m ([.ref aM, .int p1, .int p2, .int p3] : List Value).toArray below meth c H locs 0 0 Q (F0 m 39 ls []) := by
    intro n39
    induction n39 with
    | zero => intro y6 u7 H locs ls hm; exact nomatch (show (none : Option _) = some _ from hm)
    | succ n39 ih39 =>
      intro y6 u7 H locs ls hm hP hD hS hl
      unfold f_X7_readWords_L39 at hm
      refine lv_lload hx hb dX7_readWords_39 (lv_at hl 4 rfl) ?_
      refine lv_ldc2 (v := (2147483648 : Int64)) hx hb hown (ht _ kw_11) dX7_readWords_41 ?_
      refine W.lcmp hx hb dX7_readWords_44 ?_
      refine lv_if_ge (tgt := 71) hx hb dX7_readWords_45 (by decide) (fun c14 => ?_) (fun c14 => ?_)
      · have c14 := lgc_ge.mp c14
        have hm := ite_t c14 hm
        exact X71_10 y6 u7 _ _ _ hm hP hD hS (lv_sub hl [0, 1, 2, 3, 4, 5] rfl)
      · have c14 := mt lgc_ge.mpr c14
        have hm := ite_f c14 hm
        refine lv_aload_n hx hb dX7_readWords_48 rfl (lv_at hl 0 rfl) ?_
        refine va_get (D := (dC, dI)) (ci := 8) (v := .int (u7.1 27)) (C := RX7) (T := TX7) (N := 34) hx hb ht inX7 hown hK hP 0 rfl rfl 27 (by decide) (ht _ kw_95) (fun _ h9 => h9) rfl dX7_readWords_49 ?_
        refine lv_if_ne (tgt := 71) hx hb dX7_readWords_52 (by decide) (fun c15 => ?_) (fun c15 => ?_)
        · have hm := ite_f c15 hm
          exact X71_10 y6 u7 _ _ _ hm hP hD hS (lv_sub hl [0, 1, 2, 3, 4, 5] rfl)
        · have hm := ite_t c15 hm
          refine lv_lload hx hb dX7_readWords_55 (lv_at hl 4 rfl) ?_
          refine lv_bipush (v := (32 : Int32)) hx hb dX7_readWords_57 (by decide) ?_
          refine lv_lshl hx hb dX7_readWords_59 rfl ?_
          refine lv_aload_n hx hb dX7_readWords_60 rfl (lv_at hl 0 rfl) ?_
          refine lv_iconst (v := (4 : Int32)) hx hb dX7_readWords_61 (by decide) ?_
          have hPc : va_P (dC, dI) vwCl ([wM cI cJ aM jM u7] : List va_W).flatten _ := hP
          have hDc : va_D A ([wM cI cJ aM jM u7] : List va_W).flatten := hD
          have hFc := va_freeF (fc := ([wM cI cJ aM jM u7] : List va_W)) hD hS hA [0] rfl
          obtain ⟨u16o, r17o, e18, hm⟩ := oC2_of hm
          refine va_calll (va_runV (As := [.int (4 : Int32)]) (rest := [.long (y6 <<< (((32 : Int32)).toInt64 &&& (63 : Int64)))]) ⟨hx, hb, hml, hown, ht⟩ (c_X7_nextWide l dC dI cI cJ aM jM H.size u7 (4 : Int32) (u16o, r17o) e18) (cwV 1 ht (gdV kw_115 kw_113 kw_114 kw_7 kw_112) rfl rfl rfl ⟨rfl, nd_X7_nextWide⟩ ⟨Nat.le_of_ble_eq_true rfl, Nat.le_of_ble_eq_true rfl⟩) ⟨pcW_blind, va_recv hK hPc (ci := 8) (q0 := 0) rfl rfl, pcW_pre hPc hK hDc hN⟩ rfl rfl hl.1 rfl (lv_room (Nat.le_of_ble_eq_true rfl)) dX7_readWords_62 ⟨Nat.zero_le _, Nat.zero_le _⟩) hS (fun q _ z => hFc q z) hFc (fun r17 uu t H1 locs ht1 hvm hw hB hz1 hk1 hS => ?_)
          obtain ⟨u16, rfl⟩ : ∃ z, z = uu := ⟨_, rfl⟩
          obtain ⟨hP1, hD1⟩ := hB
          rw [ht1] at hP1
          obtain ⟨q0, q1⟩ := inj2 hw
          subst q0
          subst q1
          have hP : va_P (dC, dI) vwCl ([wM cI cJ aM jM u16] : List va_W).flatten H1 := hP1
          have hD : va_D A ([wM cI cJ aM jM u16] : List va_W).flatten := hD1.weaken (fun _ q _ z => hFc q.1 z)
          generalize H1 = H at hP hS ⊢
          refine lv_lor hx hb dX7_readWords_65 ?_
          refine lv_topl (fun y19 ey19 => ?_)
          have hm := bnd_nm ey19 hm
          refine lv_lstore (lv' := [(4, .long y19), (0, .ref aM), (1, .int p1), (2, .int p2), (3, .int p3), (6, .int x4)]) hx hb dX7_readWords_66 hl (by decide) rfl (fun ls hl => ?_)
          refine lv_goto (tgt := 39) hx hb dX7_readWords_68 (by decide) ?_
          exact ih39 y19 u16 _ _ _ hm hP hD hS (lv_sub hl [1, 2, 3, 4, 0, 5] rfl)
  exact LP39 FU y5 uM _ _ _ hm hP hD hS (lv_sub hl [2, 3, 4, 5, 0, 1] rfl)

def f_X7_readSides_L14 (p1 : Int32) (x2 : Int32) : Nat → (Int32 → Int32 → OS → Option (OS × Int32)) → Int32 → Int32 → OS → Option (OS × Int32)
  | 0, _, _, _, _ => none
  | n14 + 1, K142_9, x3, x4, u5 =>
    if (5 : Int32) ≤ x3 then (
    K142_9 x4 x3 u5) else (
    if (u5.1 27) = (0 : Int32) then (
    oC1 (f_X7_laySides u5 (1 : Int32) x4 x3) fun u12 =>
    bnd (fun (x14 : Int32) =>
    bnd (fun (x16 : Int32) (u17 : OS) =>
    bnd (((2 : Int32) * x4) + x16) fun x19 =>
    bnd (x3 + (1 : Int32)) fun x20 =>
    f_X7_readSides_L14 p1 x2 n14 K142_9 x20 x19 u17) fun K129_18 =>
    if (u12.1 23) ≤ (0 : Int32) then (
    K129_18 x14 u12) else (
    if (u12.1 22) ≤ (u12.1 23) then (
    K129_18 x14 u12) else (
    oC1 (f_X7_sideChance u12 x2) fun r23 =>
    gdi p1 4 <|
    bnd (fun (x26 : Int32) =>
    bnd (fun (x28 : Int32) =>
    bnd (fun (x30 : Int32) =>
    oC1 (f_X7_readBytes u12 p1 x28 x30) fun u32 =>
    K129_18 x26 u32) fun K126_31 =>
    if x26 = (0 : Int32) then (
    K126_31 (0 : Int32)) else (
    K126_31 r23)) fun K115_29 =>
    if x26 = (0 : Int32) then (
    K115_29 r23) else (
    K115_29 (x2 - r23))) fun K97_27 =>
    if (r23).toInt64 ≤ ((u12.2.2.1 33 (p1).toNatClampNeg) &&& ((x2 - (1 : Int32))).toInt64) then (
    K97_27 (1 : Int32)) else (
    K97_27 (0 : Int32))))) fun K47_15 =>
    if (u12.1 23) ≤ (0 : Int32) then (
    K47_15 (1 : Int32)) else (
    K47_15 (0 : Int32))) else (
    K142_9 x4 x3 u5))

def f_X7_readSides (uM : OS) (p1 : Int32) : Option (OS × Int32) :=
  gdi (1 : Int32) 2 <|
  bnd ((1 : Int32) <<< ((uM.2.1 10 ((1 : Int32)).toNatClampNeg) &&& (31 : Int32))) fun x2 =>
  bnd (fun (x6 : Int32) (x7 : Int32) (u8 : OS) =>
  some (u8, x6)) fun K142_9 =>
  f_X7_readSides_L14 p1 x2 FU K142_9 (0 : Int32) (0 : Int32) uM

set_option maxHeartbeats 4000000 in
set_option maxRecDepth 100000 in
theorem c_X7_readSides (l : Launch) (dC : Nat → ClassId) (dI : Nat → Nat → Nat) (cI cJ : ClassId) (aM : Nat) (jM : Nat → Nat) (sz : Nat) (uM : OS) (p1 : Int32) (o : OS × Int32) (hm : f_X7_readSides uM p1 = some o) : Met l yX7_readSides (wq yX7_readSides cX7_readSides 7 (some .int)) ({ frames := 3, cells := 0, slots := 0, locals := 67 } : Room) (va_Pc [.ref aM, .int p1] (pcW dC dI cI cJ sz ([wM cI cJ aM jM uM] : List va_W).flatten)) (va_Qi (S := OS) (fun r u => some (u, r) = some o) (fun (u : OS) t => va_P (dC, dI) vwCl ([wM cI cJ aM jM u] : List va_W).flatten t.heap ∧ va_D (va_A ([wM cI cJ aM jM uM] : List va_W).flatten sz) ([wM cI cJ aM jM u] : List va_W).flatten) (va_A ([wM cI cJ aM jM uM] : List va_W).flatten sz)) 0 0 (va_A ([wM cI cJ aM jM uM] : List va_W).flatten sz) := by
  refine Met.ofW (cc := cX7_readSides) (maxL := 7) (ret := (some .int)) (by decide) rfl ?_
  intro p e s m args below meth c s₁ B hml hv
  obtain ⟨rfl, hsz, hP, hK, hD0, hN⟩ := hv
  have hx := B.exec
  have hb := B.bytes
  have hr := B.returns
  have ht : ∀ w ∈ lw_good, w.before _ s = true := fun w h => atoms_spec (ws := wq yX7_readSides cX7_readSides 7 (some .int)) B.pre w (wq_mem h)
  have hown : s.vm.findClass RX7 = some m.cls := findClass_of_methodNamed B.named
  have hlocks := B.notSynchronized
  subst hsz
  have hD := hD0.self (sz := s.heap.size)
  generalize hAe : va_A ([wM cI cJ aM jM uM] : List va_W).flatten s.heap.size = A at hD ⊢
  have hA : ∀ q : Nat, s.heap.size ≤ q → A q := fun q h => by rw [← hAe]; exact Or.inr h
  have hS : va_S A s.heap s.heap [] := va_S.rf
  have hl := lv_entry ([.ref aM, .int p1]) (n := 7) (Nat.le_of_ble_eq_true rfl)
  rw [lg_entry_eq]
  generalize (lg_sl ([.ref aM, .int p1]) ++ List.replicate (7 - (lg_sl ([.ref aM, .int p1])).length) Slot.unset).toArray = ls at hl ⊢
  have hl : lv_has ls 7 [(0, .ref aM), (1, .int p1)] := hl
  generalize hQ : MQ below _ _ s _ _ _ = Q
  generalize hH : s.heap = H at hP ⊢
  have hS : va_S A s.heap H [] := by rw [← hH]; exact va_S.rf
  show W p l e ({ frames := 3, cells := 0, slots := 0, locals := 67 } : Room) s m ([.ref aM, .int p1] : List Value).toArray below meth c H [] 0 0 Q (F0 m 0 ls [])
  unfold f_X7_readSides at hm
  refine lv_iconst (v := (1 : Int32)) hx hb dX7_readSides_0 (by decide) ?_
  refine lv_aload_n hx hb dX7_readSides_1 rfl (lv_at hl 0 rfl) ?_
  refine va_get (D := (dC, dI)) (ci := 8) (v := .ref (jM 10)) (C := RX7) (T := TX7) (N := 34) hx hb ht inX7 hown hK hP 0 rfl rfl 10 (by decide) (ht _ kw_19) (fun _ h9 => h9) rfl dX7_readSides_2 ?_
  refine lv_iconst (v := (1 : Int32)) hx hb dX7_readSides_5 (by decide) ?_
  obtain ⟨g1, hm⟩ := gdi_of hm
  refine va_iald hx hb hK hP 5 0 rfl rfl g1 dX7_readSides_6 ?_
  refine lv_ishl hx hb dX7_readSides_7 ?_
  refine lv_topi (fun x2 ex2 => ?_)
  have hm := bnd_nm ex2 hm
  refine lv_istore_n (lv' := [(2, .int x2), (0, .ref aM), (1, .int p1)]) hx hb dX7_readSides_8 rfl hl (by decide) rfl (fun ls hl => ?_)
  refine lv_iconst (v := (0 : Int32)) hx hb dX7_readSides_9 (by decide) ?_
  refine lv_istore_n (lv' := [(3, .int (0 : Int32)), (2, .int x2), (0, .ref aM), (1, .int p1)]) hx hb dX7_readSides_10 rfl hl (by decide) rfl (fun ls hl => ?_)
  refine lv_iconst (v := (0 : Int32)) hx hb dX7_readSides_11 (by decide) ?_
  refine lv_istore (lv' := [(4, .int (0 : Int32)), (3, .int (0 : Int32)), (2, .int x2), (0, .ref aM), (1, .int p1)]) hx hb dX7_readSides_12 hl (by decide) rfl (fun ls hl => ?_)
  obtain ⟨K142_9, eK142_9, hm⟩ := bnd_ex hm
  have X142_9 : ∀ (x6 : Int32) (x7 : Int32) (u8 : OS) (H : Heap) (locs : List Loc) (ls : Array Slot), K142_9 x6 x7 u8 = some o → va_P (dC, dI) vwCl ([wM cI cJ aM jM u8] : List va_W).flatten H → va_D A ([wM cI cJ aM jM u8] : List va_W).flatten → va_S A s.heap H locs → lv_has ls 7 [(0, .ref aM), (1, .int p1), (2, .int x2), (3, .int x6), (4, .int x7)] → W p l e ({ frames := 3, cells := 0, slots := 0, locals := 67 } : Room) s m ([.ref aM, .int p1] : List Value).toArray below meth c H locs 0 0 Q (F0 m 142 ls []) := by
    intro x6 x7 u8 H locs ls hm hP hD hS hl
    have hm := ap3 eK142_9 hm
    refine lv_iload_n hx hb dX7_readSides_142 rfl (lv_at hl 3 rfl) ?_
    rw [← hQ]
    exact W.iret (v := x6) hx hb hr (fun t ht1 hW => ⟨⟨_, u8, rfl, hm, by rw [ht1]; exact hP, hD⟩, hS.F ht1⟩) hS.2.2 dX7_readSides_143
  have LP14 : ∀ (n14 : Nat) (x3 : Int32) (x4 : Int32) (u5 : OS) (H : Heap) (locs : List Loc) (ls : Array Slot), f_X7_readSides_L14 p1 x2 n14 K142_9 x3 x4 u5 = some o → va_P (dC, dI) vwCl ([wM cI cJ aM jM u5] : List va_W).flatten H → va_D A ([wM cI cJ aM jM u5] : List va_W).flatten → va_S A s.heap H locs → lv_has ls 7 [(0, .ref aM), (1, .int p1), (2, .int x2), (3, .int x4), (4, .int x3)] → W p l e ({ frames := 3, cells := 0, slots := 0, locals := 67 } : Room) s m ([.ref aM, .int p1] : List Value).toArray below meth c H locs 0 0 Q (F0 m 14 ls []) := by
    intro n14
    induction n14 with
    | zero => intro x3 x4 u5 H locs ls hm; exact nomatch (show (none : Option _) = some _ from hm)
    | succ n14 ih14 =>
      intro x3 x4 u5 H locs ls hm hP hD hS hl
      unfold f_X7_readSides_L14 at hm
      refine lv_iload hx hb dX7_readSides_14 (lv_at hl 4 rfl) ?_
      refine lv_iconst (v := (5 : Int32)) hx hb dX7_readSides_16 (by decide) ?_
      refine lv_icmp_ge (tgt := 142) hx hb dX7_readSides_17 (by decide) (fun c10 => ?_) (fun c10 => ?_)
      · have hm := ite_t c10 hm
        exact X142_9 x4 x3 u5 _ _ _ hm hP hD hS (lv_sub hl [0, 1, 2, 3, 4] rfl)
      · have hm := ite_f c10 hm
        refine lv_aload_n hx hb dX7_readSides_20 rfl (lv_at hl 0 rfl) ?_
        refine va_get (D := (dC, dI)) (ci := 8) (v := .int (u5.1 27)) (C := RX7) (T := TX7) (N := 34) hx hb ht inX7 hown hK hP 0 rfl rfl 27 (by decide) (ht _ kw_95) (fun _ h9 => h9) rfl dX7_readSides_21 ?_
        refine lv_if_ne (tgt := 142) hx hb dX7_readSides_24 (by decide) (fun c11 => ?_) (fun c11 => ?_)
        · have hm := ite_f c11 hm
          exact X142_9 x4 x3 u5 _ _ _ hm hP hD hS (lv_sub hl [0, 1, 2, 3, 4] rfl)
        · have hm := ite_t c11 hm
          refine lv_aload_n hx hb dX7_readSides_27 rfl (lv_at hl 0 rfl) ?_
          refine lv_iconst (v := (1 : Int32)) hx hb dX7_readSides_28 (by decide) ?_
          refine lv_iload_n hx hb dX7_readSides_29 rfl (lv_at hl 3 rfl) ?_
          refine lv_iload hx hb dX7_readSides_30 (lv_at hl 4 rfl) ?_
          have hPc : va_P (dC, dI) vwCl ([wM cI cJ aM jM u5] : List va_W).flatten _ := hP
          have hDc : va_D A ([wM cI cJ aM jM u5] : List va_W).flatten := hD
          have hFc := va_freeF (fc := ([wM cI cJ aM jM u5] : List va_W)) hD hS hA [0] rfl
          obtain ⟨u12o, e13, hm⟩ := oC1_of hm
          refine va_callv (va_runV (As := [.int (1 : Int32), .int x4, .int x3]) (rest := []) ⟨hx, hb, hml, hown, ht⟩ (c_X7_laySides l dC dI cI cJ aM jM H.size u5 (1 : Int32) x4 x3 u12o e13) (cwV 3 ht (gdV kw_53 kw_51 kw_52 kw_7 kw_50) rfl rfl rfl ⟨rfl, nd_X7_laySides⟩ ⟨Nat.le_of_ble_eq_true rfl, Nat.le_of_ble_eq_true rfl⟩) ⟨pcW_blind, va_recv hK hPc (ci := 8) (q0 := 0) rfl rfl, pcW_pre hPc hK hDc hN⟩ rfl rfl hl.1 rfl (lv_room (Nat.le_of_ble_eq_true rfl)) dX7_readSides_32 ⟨Nat.zero_le _, Nat.zero_le _⟩) hS (fun q _ z => hFc q z) hFc (fun uu t H1 locs ht1 hvm hw hB hz1 hk1 hS => ?_)
          obtain ⟨u12, rfl⟩ : ∃ z, z = uu := ⟨_, rfl⟩
          obtain ⟨hP1, hD1⟩ := hB
          rw [ht1] at hP1
          obtain rfl : u12 = u12o := Option.some.inj hw
          have hP : va_P (dC, dI) vwCl ([wM cI cJ aM jM u12] : List va_W).flatten H1 := hP1
          have hD : va_D A ([wM cI cJ aM jM u12] : List va_W).flatten := hD1.weaken (fun _ q _ z => hFc q.1 z)
          generalize H1 = H at hP hS ⊢
          refine lv_aload_n hx hb dX7_readSides_35 rfl (lv_at hl 0 rfl) ?_
          refine va_get (D := (dC, dI)) (ci := 8) (v := .int (u12.1 23)) (C := RX7) (T := TX7) (N := 34) hx hb ht inX7 hown hK hP 0 rfl rfl 23 (by decide) (ht _ kw_49) (fun _ h9 => h9) rfl dX7_readSides_36 ?_
          obtain ⟨K47_15, eK47_15, hm⟩ := bnd_ex hm
          have J47_15 : ∀ (x14 : Int32) (H : Heap) (locs : List Loc) (ls : Array Slot), K47_15 x14 = some o → va_P (dC, dI) vwCl ([wM cI cJ aM jM u12] : List va_W).flatten H → va_D A ([wM cI cJ aM jM u12] : List va_W).flatten → va_S A s.heap H locs → lv_has ls 7 [(0, .ref aM), (1, .int p1), (2, .int x2), (3, .int x4), (4, .int x3)] → W p l e ({ frames := 3, cells := 0, slots := 0, locals := 67 } : Room) s m ([.ref aM, .int p1] : List Value).toArray below meth c H locs 0 0 Q (F0 m 47 ls [.int x14]) := by
            intro x14 H locs ls hm hP hD hS hl
            have hm := ap1 eK47_15 hm
            refine lv_istore (lv' := [(5, .int x14), (0, .ref aM), (1, .int p1), (2, .int x2), (3, .int x4), (4, .int x3)]) hx hb dX7_readSides_47 hl (by decide) rfl (fun ls hl => ?_)
            refine lv_aload_n hx hb dX7_readSides_49 rfl (lv_at hl 1 rfl) ?_
            refine va_get (D := (dC, dI)) (ci := 8) (v := .int (u12.1 23)) (C := RX7) (T := TX7) (N := 34) hx hb ht inX7 hown hK hP 0 rfl rfl 23 (by decide) (ht _ kw_49) (fun _ h9 => h9) rfl dX7_readSides_50 ?_
            obtain ⟨K129_18, eK129_18, hm⟩ := bnd_ex hm
            have J129_18 : ∀ (x16 : Int32) (u17 : OS) (H : Heap) (locs : List Loc) (ls : Array Slot), K129_18 x16 u17 = some o → va_P (dC, dI) vwCl ([wM cI cJ aM jM u17] : List va_W).flatten H → va_D A ([wM cI cJ aM jM u17] : List va_W).flatten → va_S A s.heap H locs → lv_has ls 7 [(0, .ref aM), (1, .int p1), (2, .int x2), (3, .int x4), (4, .int x3), (5, .int x16)] → W p l e ({ frames := 3, cells := 0, slots := 0, locals := 67 } : Room) s m ([.ref aM, .int p1] : List Value).toArray below meth c H locs 0 0 Q (F0 m 129 ls []) := by
              intro x16 u17 H locs ls hm hP hD hS hl
              have hm := ap2 eK129_18 hm
              refine lv_iconst (v := (2 : Int32)) hx hb dX7_readSides_129 (by decide) ?_
              refine lv_iload_n hx hb dX7_readSides_130 rfl (lv_at hl 3 rfl) ?_
              refine lv_imul hx hb dX7_readSides_131 ?_
              refine lv_iload hx hb dX7_readSides_132 (lv_at hl 5 rfl) ?_
              refine lv_iadd hx hb dX7_readSides_134 ?_
              refine lv_topi (fun x19 ex19 => ?_)
              have hm := bnd_nm ex19 hm
              refine lv_istore_n (lv' := [(3, .int x19), (0, .ref aM), (1, .int p1), (2, .int x2), (4, .int x3), (5, .int x16)]) hx hb dX7_readSides_135 rfl hl (by decide) rfl (fun ls hl => ?_)
              obtain ⟨x20, ex20, hm⟩ := bnd_ex hm
              refine lv_iinc (v := x20) (lv' := [(4, .int x20), (3, .int x19), (0, .ref aM), (1, .int p1), (2, .int x2), (5, .int x16)]) hx hb dX7_readSides_136 hl (k := 4) rfl (by rw [ex20]; exact congrArg _ (by decide)) (by decide) rfl (fun ls hl => ?_)
              refine lv_goto (tgt := 14) hx hb dX7_readSides_139 (by decide) ?_
              exact ih14 x20 x19 u17 _ _ _ hm hP hD hS (lv_sub hl [2, 3, 4, 1, 0] rfl)
            refine lv_if_le (tgt := 129) hx hb dX7_readSides_53 (by decide) (fun c21 => ?_) (fun c21 => ?_)
            · have hm := ite_t c21 hm
              exact J129_18 x14 u12 _ _ _ hm hP hD hS (lv_sub hl [1, 2, 3, 4, 5, 0] rfl)
            · have hm := ite_f c21 hm
              refine lv_aload_n hx hb dX7_readSides_56 rfl (lv_at hl 1 rfl) ?_
              refine va_get (D := (dC, dI)) (ci := 8) (v := .int (u12.1 23)) (C := RX7) (T := TX7) (N := 34) hx hb ht inX7 hown hK hP 0 rfl rfl 23 (by decide) (ht _ kw_49) (fun _ h9 => h9) rfl dX7_readSides_57 ?_
              refine lv_aload_n hx hb dX7_readSides_60 rfl (lv_at hl 1 rfl) ?_
              refine va_get (D := (dC, dI)) (ci := 8) (v := .int (u12.1 22)) (C := RX7) (T := TX7) (N := 34) hx hb ht inX7 hown hK hP 0 rfl rfl 22 (by decide) (ht _ kw_48) (fun _ h9 => h9) rfl dX7_readSides_61 ?_
              refine lv_icmp_ge (tgt := 129) hx hb dX7_readSides_64 (by decide) (fun c22 => ?_) (fun c22 => ?_)
              · have hm := ite_t c22 hm
                exact J129_18 x14 u12 _ _ _ hm hP hD hS (lv_sub hl [1, 2, 3, 4, 5, 0] rfl)
              · have hm := ite_f c22 hm
                refine lv_aload_n hx hb dX7_readSides_67 rfl (lv_at hl 1 rfl) ?_
                refine lv_iload_n hx hb dX7_readSides_68 rfl (lv_at hl 3 rfl) ?_
                have hPc : va_P (dC, dI) vwCl ([wM cI cJ aM jM u12] : List va_W).flatten _ := hP
                have hDc : va_D A ([wM cI cJ aM jM u12] : List va_W).flatten := hD
                have hFc := va_freeF (fc := ([wM cI cJ aM jM u12] : List va_W)) hD hS hA [0] rfl
                obtain ⟨r23o, e24, hm⟩ := oC1_of hm
                refine va_calli (va_runV (As := [.int x2]) (rest := []) ⟨hx, hb, hml, hown, ht⟩ (c_X7_sideChance l dC dI cI cJ aM jM H.size u12 x2 r23o e24) (cwV 1 ht (gdV kw_57 kw_55 kw_56 kw_7 kw_54) rfl rfl rfl ⟨rfl, nd_X7_sideChance⟩ ⟨Nat.le_of_ble_eq_true rfl, Nat.le_of_ble_eq_true rfl⟩) ⟨pcW_blind, va_recv hK hPc (ci := 8) (q0 := 0) rfl rfl, pcW_pre hPc hK hDc hN⟩ rfl rfl hl.1 rfl (lv_room (Nat.le_of_ble_eq_true rfl)) dX7_readSides_69 ⟨Nat.zero_le _, Nat.zero_le _⟩) hS (fun q _ z => hFc q z) hFc (fun r23 uu t H1 locs ht1 hvm hw hB hz1 hk1 hS => ?_)
                obtain ⟨⟩ := uu
                obtain ⟨hP1, hD1⟩ := hB
                rw [ht1] at hP1
                obtain rfl : r23 = r23o := Option.some.inj hw
                have hP : va_P (dC, dI) vwCl ([wM cI cJ aM jM u12] : List va_W).flatten H1 := hP1
                have hD : va_D A ([wM cI cJ aM jM u12] : List va_W).flatten := hD1.weaken (fun _ q _ z => hFc q.1 z)
                generalize H1 = H at hP hS ⊢
                refine lv_istore (lv' := [(6, .int r23), (5, .int x14), (0, .ref aM), (1, .int p1), (2, .int x2), (3, .int x4), (4, .int x3)]) hx hb dX7_readSides_72 hl (by decide) rfl (fun ls hl => ?_)
                refine lv_aload_n hx hb dX7_readSides_74 rfl (lv_at hl 2 rfl) ?_
                refine va_get (D := (dC, dI)) (ci := 8) (v := .ref (jM 33)) (C := RX7) (T := TX7) (N := 34) hx hb ht inX7 hown hK hP 0 rfl rfl 33 (by decide) (ht _ kw_111) (fun _ h9 => h9) rfl dX7_readSides_75 ?_
                refine lv_iload_n hx hb dX7_readSides_78 rfl (lv_at hl 3 rfl) ?_
                obtain ⟨g25, hm⟩ := gdi_of hm
                refine va_lald hx hb hK hP 14 1 rfl rfl g25 dX7_readSides_79 ?_
                refine lv_iload_n hx hb dX7_readSides_80 rfl (lv_at hl 4 rfl) ?_
                refine lv_iconst (v := (1 : Int32)) hx hb dX7_readSides_81 (by decide) ?_
                refine lv_isub hx hb dX7_readSides_82 ?_
                refine lv_i2l hx hb dX7_readSides_83 rfl ?_
                refine lv_land hx hb dX7_readSides_84 ?_
                refine lv_iload hx hb dX7_readSides_85 (lv_at hl 0 rfl) ?_
                refine lv_i2l hx hb dX7_readSides_87 rfl ?_
                refine W.lcmp hx hb dX7_readSides_88 ?_
                obtain ⟨K97_27, eK97_27, hm⟩ := bnd_ex hm
                have J97_27 : ∀ (x26 : Int32) (H : Heap) (locs : List Loc) (ls : Array Slot), K97_27 x26 = some o → va_P (dC, dI) vwCl ([wM cI cJ aM jM u12] : List va_W).flatten H → va_D A ([wM cI cJ aM jM u12] : List va_W).flatten → va_S A s.heap H locs → lv_has ls 7 [(0, .ref aM), (1, .int p1), (2, .int x2), (3, .int x4), (4, .int x3), (5, .int x14), (6, .int r23)] → W p l e ({ frames := 3, cells := 0, slots := 0, locals := 67 } : Room) s m ([.ref aM, .int p1] : List Value).toArray below meth c H locs 0 0 Q (F0 m 97 ls [.int x26]) := by
                  intro x26 H locs ls hm hP hD hS hl
                  have hm := ap1 eK97_27 hm
                  refine lv_istore (lv' := [(5, .int x26), (0, .ref aM), (1, .int p1), (2, .int x2), (3, .int x4), (4, .int x3), (6, .int r23)]) hx hb dX7_readSides_97 hl (by decide) rfl (fun ls hl => ?_)
                  refine lv_aload_n hx hb dX7_readSides_99 rfl (lv_at hl 1 rfl) ?_
                  refine lv_iload_n hx hb dX7_readSides_100 rfl (lv_at hl 2 rfl) ?_
                  refine lv_iload hx hb dX7_readSides_101 (lv_at hl 0 rfl) ?_
                  obtain ⟨K115_29, eK115_29, hm⟩ := bnd_ex hm
                  have J115_29 : ∀ (x28 : Int32) (H : Heap) (locs : List Loc) (ls : Array Slot), K115_29 x28 = some o → va_P (dC, dI) vwCl ([wM cI cJ aM jM u12] : List va_W).flatten H → va_D A ([wM cI cJ aM jM u12] : List va_W).flatten → va_S A s.heap H locs → lv_has ls 7 [(0, .ref aM), (1, .int p1), (2, .int x2), (3, .int x4), (4, .int x3), (5, .int x26), (6, .int r23)] → W p l e ({ frames := 3, cells := 0, slots := 0, locals := 67 } : Room) s m ([.ref aM, .int p1] : List Value).toArray below meth c H locs 0 0 Q (F0 m 115 ls [.int x28, .int p1, .ref aM]) := by
                    intro x28 H locs ls hm hP hD hS hl
                    have hm := ap1 eK115_29 hm
                    refine lv_iload hx hb dX7_readSides_115 (lv_at hl 5 rfl) ?_
                    obtain ⟨K126_31, eK126_31, hm⟩ := bnd_ex hm
                    have J126_31 : ∀ (x30 : Int32) (H : Heap) (locs : List Loc) (ls : Array Slot), K126_31 x30 = some o → va_P (dC, dI) vwCl ([wM cI cJ aM jM u12] : List va_W).flatten H → va_D A ([wM cI cJ aM jM u12] : List va_W).flatten → va_S A s.heap H locs → lv_has ls 7 [(0, .ref aM), (1, .int p1), (2, .int x2), (3, .int x4), (4, .int x3), (5, .int x26), (6, .int r23)] → W p l e ({ frames := 3, cells := 0, slots := 0, locals := 67 } : Room) s m ([.ref aM, .int p1] : List Value).toArray below meth c H locs 0 0 Q (F0 m 126 ls [.int x30, .int x28, .int p1, .ref aM]) := by
                      intro x30 H locs ls hm hP hD hS hl
                      have hm := ap1 eK126_31 hm
                      have hPc : va_P (dC, dI) vwCl ([wM cI cJ aM jM u12] : List va_W).flatten _ := hP
                      have hDc : va_D A ([wM cI cJ aM jM u12] : List va_W).flatten := hD
                      have hFc := va_freeF (fc := ([wM cI cJ aM jM u12] : List va_W)) hD hS hA [0] rfl
                      obtain ⟨u32o, e33, hm⟩ := oC1_of hm
                      refine va_callv (va_runV (As := [.int p1, .int x28, .int x30]) (rest := []) ⟨hx, hb, hml, hown, ht⟩ (c_X7_readBytes l dC dI cI cJ aM jM H.size u12 p1 x28 x30 u32o e33) (cwV 3 ht (gdV kw_119 kw_117 kw_118 kw_7 kw_116) rfl rfl rfl ⟨rfl, nd_X7_readBytes⟩ ⟨Nat.le_of_ble_eq_true rfl, Nat.le_of_ble_eq_true rfl⟩) ⟨pcW_blind, va_recv hK hPc (ci := 8) (q0 := 0) rfl rfl, pcW_pre hPc hK hDc hN⟩ rfl rfl hl.1 rfl (lv_room (Nat.le_of_ble_eq_true rfl)) dX7_readSides_126 ⟨Nat.zero_le _, Nat.zero_le _⟩) hS (fun q _ z => hFc q z) hFc (fun uu t H1 locs ht1 hvm hw hB hz1 hk1 hS => ?_)
                      obtain ⟨u32, rfl⟩ : ∃ z, z = uu := ⟨_, rfl⟩
                      obtain ⟨hP1, hD1⟩ := hB
                      rw [ht1] at hP1
                      obtain rfl : u32 = u32o := Option.some.inj hw
                      have hP : va_P (dC, dI) vwCl ([wM cI cJ aM jM u32] : List va_W).flatten H1 := hP1
                      have hD : va_D A ([wM cI cJ aM jM u32] : List va_W).flatten := hD1.weaken (fun _ q _ z => hFc q.1 z)
                      generalize H1 = H at hP hS ⊢
                      exact J129_18 x26 u32 _ _ _ hm hP hD hS (lv_sub hl [0, 1, 2, 3, 4, 5] rfl)
                    refine lv_if_ne (tgt := 124) hx hb dX7_readSides_117 (by decide) (fun c34 => ?_) (fun c34 => ?_)
                    · have hm := ite_f c34 hm
                      refine lv_iload hx hb dX7_readSides_124 (lv_at hl 6 rfl) ?_
                      exact J126_31 r23 _ _ _ hm hP hD hS (lv_sub hl [0, 1, 2, 3, 4, 5, 6] rfl)
                    · have hm := ite_t c34 hm
                      refine lv_iconst (v := (0 : Int32)) hx hb dX7_readSides_120 (by decide) ?_
                      refine lv_goto (tgt := 126) hx hb dX7_readSides_121 (by decide) ?_
                      exact J126_31 (0 : Int32) _ _ _ hm hP hD hS (lv_sub hl [0, 1, 2, 3, 4, 5, 6] rfl)
                  refine lv_if_ne (tgt := 111) hx hb dX7_readSides_103 (by decide) (fun c35 => ?_) (fun c35 => ?_)
                  · have hm := ite_f c35 hm
                    refine lv_iload_n hx hb dX7_readSides_111 rfl (lv_at hl 3 rfl) ?_
                    refine lv_iload hx hb dX7_readSides_112 (lv_at hl 6 rfl) ?_
                    refine lv_isub hx hb dX7_readSides_114 ?_
                    exact J115_29 (x2 - r23) _ _ _ hm hP hD hS (lv_sub hl [1, 2, 3, 4, 5, 0, 6] rfl)
                  · have hm := ite_t c35 hm
                    refine lv_iload hx hb dX7_readSides_106 (lv_at hl 6 rfl) ?_
                    refine lv_goto (tgt := 115) hx hb dX7_readSides_108 (by decide) ?_
                    exact J115_29 r23 _ _ _ hm hP hD hS (lv_sub hl [1, 2, 3, 4, 5, 0, 6] rfl)
                refine lv_if_ge (tgt := 96) hx hb dX7_readSides_89 (by decide) (fun c36 => ?_) (fun c36 => ?_)
                · have c36 := lgc_ge.mp c36
                  have hm := ite_t c36 hm
                  refine lv_iconst (v := (1 : Int32)) hx hb dX7_readSides_96 (by decide) ?_
                  exact J97_27 (1 : Int32) _ _ _ hm hP hD hS (lv_sub hl [2, 3, 4, 5, 6, 1, 0] rfl)
                · have c36 := mt lgc_ge.mpr c36
                  have hm := ite_f c36 hm
                  refine lv_iconst (v := (0 : Int32)) hx hb dX7_readSides_92 (by decide) ?_
                  refine lv_goto (tgt := 97) hx hb dX7_readSides_93 (by decide) ?_
                  exact J97_27 (0 : Int32) _ _ _ hm hP hD hS (lv_sub hl [2, 3, 4, 5, 6, 1, 0] rfl)
          refine lv_if_le (tgt := 46) hx hb dX7_readSides_39 (by decide) (fun c37 => ?_) (fun c37 => ?_)
          · have hm := ite_t c37 hm
            refine lv_iconst (v := (1 : Int32)) hx hb dX7_readSides_46 (by decide) ?_
            exact J47_15 (1 : Int32) _ _ _ hm hP hD hS (lv_sub hl [0, 1, 2, 3, 4] rfl)
          · have hm := ite_f c37 hm
            refine lv_iconst (v := (0 : Int32)) hx hb dX7_readSides_42 (by decide) ?_
            refine lv_goto (tgt := 47) hx hb dX7_readSides_43 (by decide) ?_
            exact J47_15 (0 : Int32) _ _ _ hm hP hD hS (lv_sub hl [0, 1, 2, 3, 4] rfl)
  exact LP14 FU (0 : Int32) (0 : Int32) uM _ _ _ hm hP hD hS (lv_sub hl [3, 4, 2, 1, 0] rfl)

def f_L_spread (uX : OS) (uS : OS) (uY : OS) (p2 : Int32) : Option ((OS × OS × Int32) × Nat × Nat) :=
  oA2 (f_X6_spread uX uS p2) fun u1 r3 kc5 ks5 =>
  addc kc5 ks5 <|
  gdi (0 : Int32) 1 <|
  bnd (sL uY 0 (0 : Int32) (r3).toInt64) fun u8 =>
  some ((u1, u8, (0 : Int32)), 0, 0)

set_option maxHeartbeats 4000000 in
set_option maxRecDepth 100000 in
theorem c_L_spread (l : Launch) (dC : Nat → ClassId) (dI : Nat → Nat → Nat) (cI cJ : ClassId) (aX : Nat) (jX : Nat → Nat) (aS : Nat) (jS : Nat → Nat) (jY : Nat → Nat) (aL : Nat) (aW : Nat) (aR : Nat) (aO : Nat) (sz : Nat) (uX : OS) (uS : OS) (uY : OS) (p2 : Int32) (o : OS × OS × Int32) (mc ms : Nat) (hm : f_L_spread uX uS uY p2 = some (o, mc, ms)) : Met l yL_spread (wqW yL_spread cL_spread 4 (some .int) [(0, 9, 12, 13)]) ({ frames := 8, cells := mc, slots := ms, locals := 140 } : Room) (va_Pc [.ref aX, .int p2, .ref (jY 0)] (pcW dC dI cI cJ sz ([wX cI cJ aX jX aL aS aW aR aO uX, wS cI cJ aS jS uS, wY cI cJ jY uY] : List va_W).flatten)) (va_Qi (S := OS × OS) (fun r u => some (u.1, u.2, r) = some o) (fun (u : OS × OS) t => ∃ hhS : Nat → Nat, va_P (dC, dI) vwCl ([wX cI cJ aX jX aL aS aW aR aO uX, wS cI cJ aS hhS u.1, wY cI cJ jY u.2] : List va_W).flatten t.heap ∧ va_D (va_A ([wX cI cJ aX jX aL aS aW aR aO uX, wS cI cJ aS jS uS, wY cI cJ jY uY] : List va_W).flatten sz) ([wX cI cJ aX jX aL aS aW aR aO uX, wS cI cJ aS hhS u.1, wY cI cJ jY u.2] : List va_W).flatten) (va_A ([wX cI cJ aX jX aL aS aW aR aO uX, wS cI cJ aS jS uS, wY cI cJ jY uY] : List va_W).flatten sz)) mc ms (va_A ([wX cI cJ aX jX aL aS aW aR aO uX, wS cI cJ aS jS uS, wY cI cJ jY uY] : List va_W).flatten sz) := by
  refine va_MetW (hh := [(0, 9, 12, 13)]) (cc := cL_spread) (maxL := 4) (ret := (some .int)) (by decide) rfl ?_
  intro p e s m args below meth c s₁ B hml hv
  obtain ⟨rfl, hsz, hP, hK, hD0, hN⟩ := hv
  have hx := B.exec
  have hb := B.bytes
  have hr := B.returns
  have ht : ∀ w ∈ lw_good, w.before _ s = true := fun w h => atoms_spec (ws := wqW yL_spread cL_spread 4 (some .int) [(0, 9, 12, 13)]) B.pre w (wqW_mem h)
  have hown : s.vm.findClass RL = some m.cls := findClass_of_methodNamed B.named
  have hlocks := B.notSynchronized
  subst hsz
  have hD := hD0.self (sz := s.heap.size)
  generalize hAe : va_A ([wX cI cJ aX jX aL aS aW aR aO uX, wS cI cJ aS jS uS, wY cI cJ jY uY] : List va_W).flatten s.heap.size = A at hD ⊢
  have hA : ∀ q : Nat, s.heap.size ≤ q → A q := fun q h => by rw [← hAe]; exact Or.inr h
  have hS : va_S A s.heap s.heap [] := va_S.rf
  have hl := lv_entry ([.ref aX, .int p2, .ref (jY 0)]) (n := 4) (Nat.le_of_ble_eq_true rfl)
  rw [lg_entry_eq]
  generalize (lg_sl ([.ref aX, .int p2, .ref (jY 0)]) ++ List.replicate (4 - (lg_sl ([.ref aX, .int p2, .ref (jY 0)])).length) Slot.unset).toArray = ls at hl ⊢
  have hl : lv_has ls 4 [(0, .ref aX), (1, .int p2), (2, .ref (jY 0))] := hl
  generalize hQ : MQ below _ _ s _ _ _ = Q
  generalize hH : s.heap = H at hP ⊢
  have hS : va_S A s.heap H [] := by rw [← hH]; exact va_S.rf
  obtain ⟨ce, hce⟩ := ex_eq (0 : Nat)
  obtain ⟨sl, hsl⟩ := ex_eq (0 : Nat)
  obtain ⟨kc, hkc⟩ := ex_eq mc
  obtain ⟨ks, hks⟩ := ex_eq ms
  rw [← hkc, ← hks] at hm
  have hc1 : ce + kc = mc := by omega
  have hc2 : sl + ks = ms := by omega
  suffices hw : W p l e ({ frames := 8, cells := mc, slots := ms, locals := 140 } : Room) s m ([.ref aX, .int p2, .ref (jY 0)] : List Value).toArray below meth c H [] ce sl Q (F0 m 0 ls []) by rw [hce, hsl] at hw; exact hw
  clear hce hsl hkc hks
  unfold f_L_spread at hm
  refine lv_aload_n hx hb dL_spread_0 rfl (lv_at hl 2 rfl) ?_
  refine lv_iconst (v := (0 : Int32)) hx hb dL_spread_1 (by decide) ?_
  refine lv_aload_n hx hb dL_spread_2 rfl (lv_at hl 0 rfl) ?_
  refine lv_iload_n hx hb dL_spread_3 rfl (lv_at hl 1 rfl) ?_
  have hPc : va_P (dC, dI) vwCl ([wX cI cJ aX jX aL aS aW aR aO uX, wS cI cJ aS jS uS] : List va_W).flatten _ := hP.subF [0, 1] rfl
  have hDc : va_D A ([wX cI cJ aX jX aL aS aW aR aO uX, wS cI cJ aS jS uS] : List va_W).flatten := hD.subF [0, 1] (by decide) rfl
  have hFc := va_freeF (fc := ([wX cI cJ aX jX aL aS aW aR aO uX, wS cI cJ aS jS uS] : List va_W)) hD hS hA [0, 1] rfl
  obtain ⟨u1o, r3o, kc5, ks5, e4, hm⟩ := oA2_of hm
  obtain ⟨kcq6, ksq6, hm, hkcq6, hksq6⟩ := addc_of hm
  refine va_calli (va_runV (As := [.int p2]) (rest := [.int (0 : Int32), .ref (jY 0)]) ⟨hx, hb, hml, hown, ht⟩ (c_X6_spread l dC dI cI cJ aX jX aS jS aL aW aR aO H.size uX uS p2 (u1o, r3o) kc5 ks5 e4) (cwV 1 ht (gdV kw_486 kw_484 kw_485 kw_161 kw_483) rfl rfl rfl ⟨rfl, nd_X6_spread⟩ ⟨Nat.le_of_ble_eq_true rfl, Nat.le_of_ble_eq_true rfl⟩) ⟨pcW_blind, va_recv hK hPc (ci := 7) (q0 := 0) rfl rfl, pcW_pre hPc hK hDc hN⟩ rfl rfl hl.1 rfl (lv_room (Nat.le_of_ble_eq_true rfl)) dL_spread_4 ⟨cle hc1 hkcq6, cle hc2 hksq6⟩) hS (fun q _ z => hFc q z) hFc (fun r3 uu t H1 locs ht1 hvm hw hB hz1 hk1 hS => ?_)
  obtain ⟨u1, rfl⟩ : ∃ z, z = uu := ⟨_, rfl⟩
  obtain ⟨h2, hP1, hD1⟩ := hB
  rw [ht1] at hP1
  obtain ⟨q0, q1⟩ := inj2 hw
  subst q0
  subst q1
  obtain ⟨hP, hD⟩ := va_joinF (fr := ([wY cI cJ jY uY] : List va_W)) (f1 := ([wX cI cJ aX jX aL aS aW aR aO uX, wS cI cJ aS h2 u1] : List va_W)) hP hD [0, 1] [2] rfl rfl (by decide) (by decide) hk1 hFc hP1 hD1
  have hP : va_P (dC, dI) vwCl ([wX cI cJ aX jX aL aS aW aR aO uX, wS cI cJ aS h2 u1, wY cI cJ jY uY] : List va_W).flatten H1 := hP.subF [1, 2, 0] rfl
  have hD : va_D A ([wX cI cJ aX jX aL aS aW aR aO uX, wS cI cJ aS h2 u1, wY cI cJ jY uY] : List va_W).flatten := hD.subF [1, 2, 0] (by decide) rfl
  generalize H1 = H at hP hS ⊢
  have hc1 := cadd hc1 hkcq6
  have hc2 := cadd hc2 hksq6
  refine lv_i2l hx hb dL_spread_7 rfl ?_
  obtain ⟨g7, hm⟩ := gdi_of hm
  refine va_last hx hb hK hP hD hS 11 1 rfl rfl g7 dL_spread_8 (fun H locs hP hD hS => ?_)
  obtain ⟨u8, eu8, hm⟩ := bnd_ex hm
  have hP : va_P (dC, dI) vwCl ([wX cI cJ aX jX aL aS aW aR aO uX, wS cI cJ aS h2 u1, wY cI cJ jY u8] : List va_W).flatten H := by rw [eu8]; exact hP
  have hD : va_D A ([wX cI cJ aX jX aL aS aW aR aO uX, wS cI cJ aS h2 u1, wY cI cJ jY u8] : List va_W).flatten := by rw [eu8]; exact hD
  refine lv_goto (tgt := 15) hx hb dL_spread_9 (by decide) ?_
  refine lv_iconst (v := (0 : Int32)) hx hb dL_spread_15 (by decide) ?_
  obtain ⟨hmz, hz1, hz2⟩ := ret0 hm
  subst hz1
  subst hz2
  refine W.cs (cells' := mc) (slots' := ms) hc1 hc2 ?_
  rw [← hQ]
  exact W.iret (v := (0 : Int32)) hx hb hr (fun t ht1 hW => ⟨⟨_, (u1, u8), rfl, hmz, h2, by rw [ht1]; exact hP, hD⟩, hS.F ht1⟩) hS.2.2 dL_spread_16

theorem Met_pre {l : Launch} {y : MethodName} {ws : List Cond} {rm : Room} {Pc Pc' : Array Value → State → Prop} {Qc : Array Value → State → Outcome → State → Prop} {mc ms : Nat} {free : Addr → Prop} (h : ∀ a U, Pc' a U → Pc a U) (hM : Met l y ws rm Pc Qc mc ms free) : Met l y ws rm Pc' Qc mc ms free := fun p e ha hc hk s m args below hf happ hP hK => hM p e ha hc hk s m args below hf happ (h _ _ hP) hK
def f_Lspread (uX uS uY : OS) (p1 : Int32) : Option ((OS × OS × Int32) × Nat × Nat) := if p1 < (0 : Int32) ∨ ¬ p1 < (uS.1 1) then some ((uS, uY, (1 : Int32)), 1, 6) else f_L_spread uX uS uY p1
set_option maxHeartbeats 4000000 in
set_option maxRecDepth 100000 in
theorem c_Lspread (l : Launch) (hfl : l.flags = pinnedFlags ++ [noTraceFlag]) (dC : Nat → ClassId) (dI : Nat → Nat → Nat) (cI cJ : ClassId) (aX : Nat) (jX : Nat → Nat) (aS : Nat) (jS : Nat → Nat) (jY : Nat → Nat) (aL aW aR aO : Nat) (sz : Nat) (uX uS uY : OS) (p1 : Int32) (o : OS × OS × Int32) (mc ms : Nat) (hm : f_Lspread uX uS uY p1 = some (o, mc, ms)) : Met l yL_spread (wqW yL_spread cL_spread 4 (some .int) [(0, 9, 12, 13)]) ({ frames := 8, cells := mc, slots := ms, locals := 140 } : Room) (va_Pc [.ref aX, .int p1, .ref (jY 0)] (pcT dC dI cI cJ sz ([wX cI cJ aX jX aL aS aW aR aO uX, wS cI cJ aS jS uS, wY cI cJ jY uY] : List va_W).flatten)) (va_Qi (S := OS × OS) (fun r u => some (u.1, u.2, r) = some o) (fun (u : OS × OS) t => ∃ hhS : Nat → Nat, va_P (dC, dI) vwCl ([wX cI cJ aX jX aL aS aW aR aO uX, wS cI cJ aS hhS u.1, wY cI cJ jY u.2] : List va_W).flatten t.heap ∧ va_D (va_A ([wX cI cJ aX jX aL aS aW aR aO uX, wS cI cJ aS jS uS, wY cI cJ jY uY] : List va_W).flatten sz) ([wX cI cJ aX jX aL aS aW aR aO uX, wS cI cJ aS hhS u.1, wY cI cJ jY u.2] : List va_W).flatten) (va_A ([wX cI cJ aX jX aL aS aW aR aO uX, wS cI cJ aS jS uS, wY cI cJ jY uY] : List va_W).flatten sz)) mc ms (va_A ([wX cI cJ aX jX aL aS aW aR aO uX, wS cI cJ aS jS uS, wY cI cJ jY uY] : List va_W).flatten sz) := by
  unfold f_Lspread at hm
  by_cases hbad : p1 < (0 : Int32) ∨ ¬ p1 < (uS.1 1)
  · have hm := ite_t hbad hm
    cases hm
    refine va_MetW (hh := [(0, 9, 12, 13)]) (cc := cL_spread) (maxL := 4) (ret := (some .int)) (by decide) rfl ?_
    intro p e s m args below meth c s₁ B hml hv
    obtain ⟨rfl, ⟨hsz, hP, hK, hD0, hN⟩, hTH⟩ := hv
    have hx := B.exec
    have hb := B.bytes
    have hr := B.returns
    have ht : ∀ w ∈ lw_good, w.before _ s = true := fun w h => atoms_spec (ws := wqW yL_spread cL_spread 4 (some .int) [(0, 9, 12, 13)]) B.pre w (wqW_mem h)
    have hcw : (Cond.codeWith yL_spread cL_spread 4 (some .int) [(0, 9, 12, 13)]).before _ s = true := atoms_spec (ws := wqW yL_spread cL_spread 4 (some .int) [(0, 9, 12, 13)]) B.pre _ List.mem_cons_self
    have hown : s.vm.findClass RL = some m.cls := findClass_of_methodNamed B.named
    have hlocks := B.notSynchronized
    obtain ⟨xe, htab, x1, x2, x3, x4⟩ : ∃ xe, c.exceptionTable.toList = [xe] ∧ xe.startPc = 0 ∧ xe.endPc = 9 ∧ xe.handlerPc = 12 ∧ xe.catchType = 13 := by
      obtain ⟨m9, meth', c', hn9, hm', hc', -, -, htb, -, -, -⟩ := Cond.codeWith_spec hcw
      cases B.named.symm.trans hn9
      have e1 : meth = meth' := Option.some.inj (B.method.symm.trans hm')
      subst e1
      have e2 : c = c' := by
        have X := Stand.of_body B
        exact Option.some.inj (X.code.symm.trans hc')
      subst e2
      cases hlist : c.exceptionTable.toList with
      | nil => rw [hlist] at htb; cases htb
      | cons xe r =>
        rw [hlist] at htb
        cases r with
        | cons y r => exact absurd (congrArg List.length htb) (by simp)
        | nil =>
          simp only [List.map_cons, List.map_nil, List.cons.injEq, Prod.mk.injEq, and_true] at htb
          exact ⟨xe, rfl, htb.1, htb.2.1, htb.2.2.1, htb.2.2.2⟩
    subst hsz
    have hD := hD0.self (sz := s.heap.size)
    generalize hAe : va_A ([wX cI cJ aX jX aL aS aW aR aO uX, wS cI cJ aS jS uS, wY cI cJ jY uY] : List va_W).flatten s.heap.size = A at hD ⊢
    have hl := lv_entry ([.ref aX, .int p1, .ref (jY 0)]) (n := 4) (Nat.le_of_ble_eq_true rfl)
    rw [lg_entry_eq]
    generalize (lg_sl ([.ref aX, .int p1, .ref (jY 0)]) ++ List.replicate (4 - (lg_sl ([.ref aX, .int p1, .ref (jY 0)])).length) Slot.unset).toArray = ls at hl ⊢
    have hl : lv_has ls 4 [(0, .ref aX), (1, .int p1), (2, .ref (jY 0))] := hl
    generalize hQ : MQ below _ _ s _ _ _ = Q
    show W p l e ({ frames := 8, cells := 1, slots := 6, locals := 140 } : Room) s m ([.ref aX, .int p1, .ref (jY 0)] : List Value).toArray below meth c s.heap [] 0 0 Q (F0 m 0 ls [])
    refine lv_aload_n hx hb dL_spread_0 rfl (lv_at hl 2 rfl) ?_
    refine lv_iconst (v := (0 : Int32)) hx hb dL_spread_1 (by decide) ?_
    refine lv_aload_n hx hb dL_spread_2 rfl (lv_at hl 0 rfl) ?_
    refine lv_iload_n hx hb dL_spread_3 rfl (lv_at hl 1 rfl) ?_
    have hPc : va_P (dC, dI) vwCl ([wX cI cJ aX jX aL aS aW aR aO uX, wS cI cJ aS jS uS] : List va_W).flatten _ := hP.subF [0, 1] rfl
    have hDc : va_D A ([wX cI cJ aX jX aL aS aW aR aO uX, wS cI cJ aS jS uS] : List va_W).flatten := hD.subF [0, 1] (by decide) rfl
    refine va_callT (As := [.int p1]) (rest := [.int (0 : Int32), .ref (jY 0)]) ⟨hx, hb, hml, hown, ht⟩ (c_spreadT l hfl dC dI cI cJ aX jX aS jS aL aW aR aO s.heap.size uX uS p1 hbad) (cwV 1 ht (gdV kw_L7 kw_isp kw_ssp kw_inX6 kw_csp) rfl rfl rfl ⟨rfl, nd_X6_spread⟩ ⟨Nat.le_of_ble_eq_true rfl, Nat.le_of_ble_eq_true rfl⟩) ⟨pcT_blind, va_recv hK hPc (ci := 7) (q0 := 0) rfl rfl, pcT_pre hPc hK hDc hN hTH (fun _ _ => rfl)⟩ rfl rfl hl.1 rfl (lv_room (Nat.le_of_ble_eq_true rfl)) dL_spread_4 ⟨Nat.le_refl _, Nat.le_refl _⟩ htab (by simp [covers, x1, x2]) x4 (by decide) x3 (ht _ kw_L13) (fun x H1 hx1 hsz1 hkeep => ?_)
    refine W.eq (g2 := F0 m 12 ls [.ref x]) rfl ?_
    refine lv_astore_n (lv' := [(3, .ref x), (0, .ref aX), (1, .int p1), (2, .ref (jY 0))]) hx hb dL_spread_12 rfl hl (by decide) rfl (fun ls hl => ?_)
    refine lv_iconst (v := (1 : Int32)) hx hb dL_spread_13 (by decide) ?_
    have hP1 := hP.kept (H1 := H1) (fun k q hq => hkeep q.1 (hP k q hq).lt)
    have hS : va_S A s.heap H1 [] := ⟨hsz1, fun q hq _ => hkeep q hq, fun _ h => by cases h⟩
    refine W.cs (cells' := 1) (slots' := 6) rfl rfl ?_
    rw [← hQ]
    exact W.iret (v := (1 : Int32)) hx hb hr (fun t ht1 hW => ⟨⟨_, (uS, uY), rfl, rfl, jS, by rw [ht1]; exact hP1, hD⟩, hS.F ht1⟩) hS.2.2 dL_spread_14
  · have hm := ite_f hbad hm
    exact Met_pre (fun a U h => ⟨h.1, h.2.1⟩) (c_L_spread l dC dI cI cJ aX jX aS jS jY aL aW aR aO sz uX uS uY p1 o mc ms hm)

theorem fl_step {f : Nat → Int32} {i : Nat} {v : Int32} : upd (flI i f v) i v = flI (i + 1) f v := by
  funext j
  by_cases c : j = i
  · subst c; simp [upd, flI]
  · by_cases d : j < i
    · simp [upd, flI, c, d, show j < i + 1 by omega]
    · simp [upd, flI, c, d, show ¬ j < i + 1 by omega]
theorem fl_stepL {f : Nat → Int64} {i : Nat} {v : Int64} : vp_updL (flL i f v) i v = flL (i + 1) f v := by
  funext j
  by_cases c : j = i
  · subst c; simp [vp_updL, flL]
  · by_cases d : j < i
    · simp [vp_updL, flL, c, d, show j < i + 1 by omega]
    · simp [vp_updL, flL, c, d, show ¬ j < i + 1 by omega]
theorem fl_0 {f : Nat → Int32} {v : Int32} : flI 0 f v = f := by funext j; simp [flI]
theorem fl_0L {f : Nat → Int64} {v : Int64} : flL 0 f v = f := by funext j; simp [flL]
set_option maxHeartbeats 4000000 in
set_option maxRecDepth 100000 in
theorem c_fillI (l : Launch) (dC : Nat → ClassId) (dI : Nat → Nat → Nat) (cI cJ : ClassId) (q0 sz n : Nat) (hn : n < 2 ^ 31) (f : Nat → Int32) (v : Int32) : Met l yJ7_fill_53178 (wq yJ7_fill_53178 cJ7_fill_53178 4 none) ({ frames := 0, cells := 0, slots := 0, locals := 0 } : Room) (va_Pc [.ref q0, .int v] (pcW dC dI cI cJ sz [(q0, .inl (cI, n, .inl f))])) (va_Qv (S := Nat → Int32) (fun g => g = flI n f v) (fun g t => va_P (dC, dI) vwCl [(q0, .inl (cI, n, .inl g))] t.heap ∧ va_D (va_A [(q0, .inl (cI, n, .inl f))] sz) [(q0, .inl (cI, n, .inl g))]) (va_A [(q0, .inl (cI, n, .inl f))] sz)) 0 0 (va_A [(q0, .inl (cI, n, .inl f))] sz) := by
  refine Met.ofW (cc := cJ7_fill_53178) (maxL := 4) (ret := none) (by decide) rfl ?_
  intro p e s m args below meth c s₁ B hml hv
  obtain ⟨rfl, hsz, hP, hK, hD0, hN⟩ := hv
  have hx := B.exec
  have hb := B.bytes
  have hr := B.returns
  have hlocks := B.notSynchronized
  subst hsz
  have hD := hD0.self (sz := s.heap.size)
  generalize hAe : va_A [(q0, .inl (cI, n, .inl f))] s.heap.size = A at hD ⊢
  have hA : ∀ q : Nat, s.heap.size ≤ q → A q := fun q h => by rw [← hAe]; exact Or.inr h
  have hl := lv_entry ([.ref q0, .int v]) (n := 4) (Nat.le_of_ble_eq_true rfl)
  rw [lg_entry_eq]
  generalize (lg_sl ([.ref q0, .int v]) ++ List.replicate (4 - (lg_sl ([.ref q0, .int v])).length) Slot.unset).toArray = ls at hl ⊢
  have hl : lv_has ls 4 [(0, .ref q0), (1, .int v)] := hl
  generalize hQ : MQ below _ _ s _ _ _ = Q
  generalize hH : s.heap = H at hP ⊢
  have hS : va_S A s.heap H [] := by rw [← hH]; exact va_S.rf
  show W p l e ({ frames := 0, cells := 0, slots := 0, locals := 0 } : Room) s m ([.ref q0, .int v] : List Value).toArray below meth c H [] 0 0 Q (F0 m 0 ls [])
  refine lv_iconst (v := (0 : Int32)) hx hb dJ7_fill_53178_0 (by decide) ?_
  refine lv_istore_n (lv' := [(2, .int (0 : Int32)), (0, .ref q0), (1, .int v)]) hx hb dJ7_fill_53178_1 rfl hl (by decide) rfl (fun ls hl => ?_)
  refine lv_aload_n hx hb dJ7_fill_53178_2 rfl (lv_at hl 1 rfl) ?_
  refine va_alen (v := (nI n)) hx hb hK hP 0 0 rfl rfl rfl dJ7_fill_53178_3 ?_
  refine lv_istore_n (lv' := [(3, .int (nI n)), (2, .int (0 : Int32)), (0, .ref q0), (1, .int v)]) hx hb dJ7_fill_53178_4 rfl hl (by decide) rfl (fun ls hl => ?_)
  have LP : ∀ (k i : Nat), i ≤ n → n + 1 ≤ i + k → ∀ (H : Heap) (locs : List Loc) (ls : Array Slot), va_P (dC, dI) vwCl [(q0, .inl (cI, n, .inl (flI i f v)))] H → va_D A [(q0, .inl (cI, n, .inl (flI i f v)))] → va_S A s.heap H locs → lv_has ls 4 [(0, .ref q0), (1, .int v), (2, .int (nI i)), (3, .int (nI n))] → W p l e ({ frames := 0, cells := 0, slots := 0, locals := 0 } : Room) s m ([.ref q0, .int v] : List Value).toArray below meth c H locs 0 0 Q (F0 m 5 ls []) := by
    intro k
    induction k with
    | zero => intro i h1 h2; exact absurd h2 (by omega)
    | succ k ih =>
      intro i hi hk H locs ls hP hD hS hl
      refine lv_iload_n hx hb dJ7_fill_53178_5 rfl (lv_at hl 2 rfl) ?_
      refine lv_iload_n hx hb dJ7_fill_53178_6 rfl (lv_at hl 3 rfl) ?_
      refine lv_icmp_ge (tgt := 20) hx hb dJ7_fill_53178_7 (by decide) (fun c1 => ?_) (fun c1 => ?_)
      · have hin : i = n := by
          have := (nI_leI hn (by omega : i < 2 ^ 31)).mp c1
          omega
        subst hin
        rw [← hQ]
        exact W.vret hx hb hr (fun t ht1 hW => ⟨⟨_, rfl, rfl, by rw [ht1]; exact hP, hD⟩, hS.F ht1⟩) hS.2.2 dJ7_fill_53178_20
      · have hlt : i < n := by
          rcases Nat.lt_or_ge i n with q | q
          · exact q
          · exact absurd ((nI_leI hn (by omega : i < 2 ^ 31)).mpr q) c1
        refine lv_aload_n hx hb dJ7_fill_53178_10 rfl (lv_at hl 0 rfl) ?_
        refine lv_iload_n hx hb dJ7_fill_53178_11 rfl (lv_at hl 2 rfl) ?_
        refine lv_iload_n hx hb dJ7_fill_53178_12 rfl (lv_at hl 1 rfl) ?_
        refine va_iast hx hb hK hP hD hS 0 0 rfl rfl (vp_in_nI hlt hn) dJ7_fill_53178_13 (fun H locs hP hD hS => ?_)
        have hP : va_P (dC, dI) vwCl [(q0, .inl (cI, n, .inl (flI (i + 1) f v)))] H := by
          have h2 := hP
          rw [nI_clamp (by omega : i < 2 ^ 31), fl_step] at h2
          exact h2
        have hD : va_D A [(q0, .inl (cI, n, .inl (flI (i + 1) f v)))] := by
          have h2 := hD
          rw [nI_clamp (by omega : i < 2 ^ 31), fl_step] at h2
          exact h2
        refine lv_iinc (v := nI (i + 1)) (lv' := [(2, .int (nI (i + 1))), (0, .ref q0), (1, .int v), (3, .int (nI n))]) hx hb dJ7_fill_53178_14 hl (k := 2) rfl (nI_1 i) (by decide) rfl (fun ls hl => ?_)
        refine lv_goto (tgt := 5) hx hb dJ7_fill_53178_17 (by decide) ?_
        exact ih (i + 1) hlt (by omega) _ _ _ hP hD hS (lv_sub hl [1, 2, 0, 3] rfl)
  exact LP (n + 1) 0 (Nat.zero_le _) (by omega) _ _ _ (by rw [fl_0]; exact hP) (by rw [fl_0]; exact hD) hS (lv_sub hl [2, 3, 1, 0] rfl)
set_option maxHeartbeats 4000000 in
set_option maxRecDepth 100000 in
theorem c_fillL (l : Launch) (dC : Nat → ClassId) (dI : Nat → Nat → Nat) (cI cJ : ClassId) (q0 sz n : Nat) (hn : n < 2 ^ 31) (f : Nat → Int64) (v : Int64) : Met l yJ7_fill_d0a16 (wq yJ7_fill_d0a16 cJ7_fill_d0a16 5 none) ({ frames := 0, cells := 0, slots := 0, locals := 0 } : Room) (va_Pc [.ref q0, .long v] (pcW dC dI cI cJ sz [(q0, .inl (cJ, n, .inr (.inl f)))])) (va_Qv (S := Nat → Int64) (fun g => g = flL n f v) (fun g t => va_P (dC, dI) vwCl [(q0, .inl (cJ, n, .inr (.inl g)))] t.heap ∧ va_D (va_A [(q0, .inl (cJ, n, .inr (.inl f)))] sz) [(q0, .inl (cJ, n, .inr (.inl g)))]) (va_A [(q0, .inl (cJ, n, .inr (.inl f)))] sz)) 0 0 (va_A [(q0, .inl (cJ, n, .inr (.inl f)))] sz) := by
  refine Met.ofW (cc := cJ7_fill_d0a16) (maxL := 5) (ret := none) (by decide) rfl ?_
  intro p e s m args below meth c s₁ B hml hv
  obtain ⟨rfl, hsz, hP, hK, hD0, hN⟩ := hv
  have hx := B.exec
  have hb := B.bytes
  have hr := B.returns
  have hlocks := B.notSynchronized
  subst hsz
  have hD := hD0.self (sz := s.heap.size)
  generalize hAe : va_A [(q0, .inl (cJ, n, .inr (.inl f)))] s.heap.size = A at hD ⊢
  have hA : ∀ q : Nat, s.heap.size ≤ q → A q := fun q h => by rw [← hAe]; exact Or.inr h
  have hl := lv_entry ([.ref q0, .long v]) (n := 5) (Nat.le_of_ble_eq_true rfl)
  rw [lg_entry_eq]
  generalize (lg_sl ([.ref q0, .long v]) ++ List.replicate (5 - (lg_sl ([.ref q0, .long v])).length) Slot.unset).toArray = ls at hl ⊢
  have hl : lv_has ls 5 [(0, .ref q0), (1, .long v)] := hl
  generalize hQ : MQ below _ _ s _ _ _ = Q
  generalize hH : s.heap = H at hP ⊢
  have hS : va_S A s.heap H [] := by rw [← hH]; exact va_S.rf
  show W p l e ({ frames := 0, cells := 0, slots := 0, locals := 0 } : Room) s m ([.ref q0, .long v] : List Value).toArray below meth c H [] 0 0 Q (F0 m 0 ls [])
  refine lv_iconst (v := (0 : Int32)) hx hb dJ7_fill_d0a16_0 (by decide) ?_
  refine lv_istore_n (lv' := [(3, .int (0 : Int32)), (0, .ref q0), (1, .long v)]) hx hb dJ7_fill_d0a16_1 rfl hl (by decide) rfl (fun ls hl => ?_)
  refine lv_aload_n hx hb dJ7_fill_d0a16_2 rfl (lv_at hl 1 rfl) ?_
  refine va_alen (v := (nI n)) hx hb hK hP 0 1 rfl rfl rfl dJ7_fill_d0a16_3 ?_
  refine lv_istore (lv' := [(4, .int (nI n)), (3, .int (0 : Int32)), (0, .ref q0), (1, .long v)]) hx hb dJ7_fill_d0a16_4 hl (by decide) rfl (fun ls hl => ?_)
  have LP : ∀ (k i : Nat), i ≤ n → n + 1 ≤ i + k → ∀ (H : Heap) (locs : List Loc) (ls : Array Slot), va_P (dC, dI) vwCl [(q0, .inl (cJ, n, .inr (.inl (flL i f v))))] H → va_D A [(q0, .inl (cJ, n, .inr (.inl (flL i f v))))] → va_S A s.heap H locs → lv_has ls 5 [(0, .ref q0), (1, .long v), (3, .int (nI i)), (4, .int (nI n))] → W p l e ({ frames := 0, cells := 0, slots := 0, locals := 0 } : Room) s m ([.ref q0, .long v] : List Value).toArray below meth c H locs 0 0 Q (F0 m 6 ls []) := by
    intro k
    induction k with
    | zero => intro i h1 h2; exact absurd h2 (by omega)
    | succ k ih =>
      intro i hi hk H locs ls hP hD hS hl
      refine lv_iload_n hx hb dJ7_fill_d0a16_6 rfl (lv_at hl 2 rfl) ?_
      refine lv_iload hx hb dJ7_fill_d0a16_7 (lv_at hl 3 rfl) ?_
      refine lv_icmp_ge (tgt := 22) hx hb dJ7_fill_d0a16_9 (by decide) (fun c1 => ?_) (fun c1 => ?_)
      · have hin : i = n := by
          have := (nI_leI hn (by omega : i < 2 ^ 31)).mp c1
          omega
        subst hin
        rw [← hQ]
        exact W.vret hx hb hr (fun t ht1 hW => ⟨⟨_, rfl, rfl, by rw [ht1]; exact hP, hD⟩, hS.F ht1⟩) hS.2.2 dJ7_fill_d0a16_22
      · have hlt : i < n := by
          rcases Nat.lt_or_ge i n with q | q
          · exact q
          · exact absurd ((nI_leI hn (by omega : i < 2 ^ 31)).mpr q) c1
        refine lv_aload_n hx hb dJ7_fill_d0a16_12 rfl (lv_at hl 0 rfl) ?_
        refine lv_iload_n hx hb dJ7_fill_d0a16_13 rfl (lv_at hl 2 rfl) ?_
        refine lv_lload_n hx hb dJ7_fill_d0a16_14 rfl (lv_at hl 1 rfl) ?_
        refine va_last hx hb hK hP hD hS 0 1 rfl rfl (vp_in_nI hlt hn) dJ7_fill_d0a16_15 (fun H locs hP hD hS => ?_)
        have hP : va_P (dC, dI) vwCl [(q0, .inl (cJ, n, .inr (.inl (flL (i + 1) f v))))] H := by
          have h2 := hP
          rw [nI_clamp (by omega : i < 2 ^ 31), fl_stepL] at h2
          exact h2
        have hD : va_D A [(q0, .inl (cJ, n, .inr (.inl (flL (i + 1) f v))))] := by
          have h2 := hD
          rw [nI_clamp (by omega : i < 2 ^ 31), fl_stepL] at h2
          exact h2
        refine lv_iinc (v := nI (i + 1)) (lv' := [(3, .int (nI (i + 1))), (0, .ref q0), (1, .long v), (4, .int (nI n))]) hx hb dJ7_fill_d0a16_16 hl (k := 2) rfl (nI_1 i) (by decide) rfl (fun ls hl => ?_)
        refine lv_goto (tgt := 6) hx hb dJ7_fill_d0a16_19 (by decide) ?_
        exact ih (i + 1) hlt (by omega) _ _ _ hP hD hS (lv_sub hl [1, 2, 0, 3] rfl)
  exact LP (n + 1) 0 (Nat.zero_le _) (by omega) _ _ _ (by rw [fl_0L]; exact hP) (by rw [fl_0L]; exact hD) hS (lv_sub hl [2, 3, 1, 0] rfl)
set_option maxHeartbeats 4000000 in
set_option maxRecDepth 100000 in
theorem c_copyOf (l : Launch) (dC : Nat → ClassId) (dI : Nat → Nat → Nat) (cI cJ : ClassId) (q0 sz n : Nat) (hn : n < 2 ^ 31) (f : Nat → Int32) (k : Int32) (hk0 : ¬ k < 0) (hkb : k.toNatClampNeg * componentBytes .int ≤ 536870912) (hne : k.toNatClampNeg ≠ n) : Met l yJ7_copyOf_59c91 (wq yJ7_copyOf_59c91 cJ7_copyOf_59c91 3 (some (.array .int))) ({ frames := 1, cells := 1, slots := k.toNatClampNeg, locals := 58 } : Room) (va_Pc [.ref q0, .int k] (pcW dC dI cI cJ sz [(q0, .inl (cI, n, .inl f))])) (va_Qr (S := Unit) (fun _ => True) (fun _ a t => va_P (dC, dI) vwCl [(a, .inl (cI, k.toNatClampNeg, .inl (cpf f n k.toNatClampNeg)))] t.heap ∧ va_D (va_A [(q0, .inl (cI, n, .inl f))] sz) [(a, .inl (cI, k.toNatClampNeg, .inl (cpf f n k.toNatClampNeg)))]) (va_A [(q0, .inl (cI, n, .inl f))] sz)) 1 k.toNatClampNeg (va_A [(q0, .inl (cI, n, .inl f))] sz) := by
  refine Met.ofW (cc := cJ7_copyOf_59c91) (maxL := 3) (ret := some (.array .int)) (by decide) rfl ?_
  intro p e s m args below meth c s₁ B hml hv
  obtain ⟨rfl, hsz, hP, hK, hD0, hN⟩ := hv
  have hx := B.exec
  have hb := B.bytes
  have hr := B.returns
  have ht : ∀ w ∈ lw_good, w.before _ s = true := fun w h => atoms_spec (ws := wq yJ7_copyOf_59c91 cJ7_copyOf_59c91 3 (some (.array .int))) B.pre w (wq_mem h)
  have hown : s.vm.findClass RJ7 = some m.cls := findClass_of_methodNamed B.named
  have hlocks := B.notSynchronized
  subst hsz
  have hD := hD0.self (sz := s.heap.size)
  generalize hAe : va_A [(q0, .inl (cI, n, .inl f))] s.heap.size = A at hD ⊢
  have hA : ∀ q : Nat, s.heap.size ≤ q → A q := fun q h => by rw [← hAe]; exact Or.inr h
  have hl := lv_entry ([.ref q0, .int k]) (n := 3) (Nat.le_of_ble_eq_true rfl)
  rw [lg_entry_eq]
  generalize (lg_sl ([.ref q0, .int k]) ++ List.replicate (3 - (lg_sl ([.ref q0, .int k])).length) Slot.unset).toArray = ls at hl ⊢
  have hl : lv_has ls 3 [(0, .ref q0), (1, .int k)] := hl
  generalize hQ : MQ below _ _ s _ _ _ = Q
  generalize hH : s.heap = H at hP ⊢
  have hS : va_S A s.heap H [] := by rw [← hH]; exact va_S.rf
  show W p l e ({ frames := 1, cells := 1, slots := k.toNatClampNeg, locals := 58 } : Room) s m ([.ref q0, .int k] : List Value).toArray below meth c H [] 0 0 Q (F0 m 0 ls [])
  obtain ⟨j, hj, ej⟩ := nI_of hk0
  have ejn : k.toNatClampNeg = j := by rw [ej, nI_clamp hj]
  refine lv_iload_n hx hb dJ7_copyOf_59c91_0 rfl (lv_at hl 1 rfl) ?_
  refine lv_aload_n hx hb dJ7_copyOf_59c91_1 rfl (lv_at hl 0 rfl) ?_
  refine va_alen (v := (nI n)) hx hb hK hP 0 0 rfl rfl rfl dJ7_copyOf_59c91_2 ?_
  refine lv_icmp_ne (tgt := 14) hx hb dJ7_copyOf_59c91_3 (by decide) (fun c1 => ?_) (fun c1 => absurd (by rw [c1, nI_clamp hn]) hne)
  refine lv_iload_n hx hb dJ7_copyOf_59c91_14 rfl (lv_at hl 1 rfl) ?_
  refine va_newa (atype := .int) (a0 := (k.toNatClampNeg, .inl (fun _ => 0))) hx hb (ht _ kw_aI) rfl hK hP hD hS hA (vpc_i k.toNatClampNeg) hk0 rfl hkb (Nat.le_refl 1) (by show 0 + k.toNatClampNeg ≤ k.toNatClampNeg; omega) dJ7_copyOf_59c91_15 (fun q1 cA H hKn hP hD hS => ?_)
  obtain rfl := cA_eq hK hKn
  refine lv_astore_n (lv' := [(2, .ref q1), (0, .ref q0), (1, .int k)]) hx hb dJ7_copyOf_59c91_17 rfl hl (by decide) rfl (fun ls hl => ?_)
  refine lv_aload_n hx hb dJ7_copyOf_59c91_18 rfl (lv_at hl 1 rfl) ?_
  refine lv_iconst (v := (0 : Int32)) hx hb dJ7_copyOf_59c91_19 (by decide) ?_
  refine lv_aload_n hx hb dJ7_copyOf_59c91_20 rfl (lv_at hl 0 rfl) ?_
  refine lv_iconst (v := (0 : Int32)) hx hb dJ7_copyOf_59c91_21 (by decide) ?_
  refine lv_aload_n hx hb dJ7_copyOf_59c91_22 rfl (lv_at hl 1 rfl) ?_
  refine va_alen (v := (nI n)) hx hb hK hP 0 0 rfl rfl rfl dJ7_copyOf_59c91_23 ?_
  refine lv_iload_n hx hb dJ7_copyOf_59c91_24 rfl (lv_at hl 2 rfl) ?_
  refine va_mmin hx hb (hml.trans hl.1.symm) hown (ht _ kw_c304) (ht _ kw_minS) (ht _ kw_mathI) (ht _ kw_minC) (Nat.le_of_ble_eq_true rfl) (Nat.le_of_ble_eq_true rfl) (Nat.le_refl 1) (by show 0 + k.toNatClampNeg ≤ k.toNatClampNeg; omega) dJ7_copyOf_59c91_25 ?_
  have emin : (if k < nI n then k else nI n) = nI (if j < n then j else n) := by
    rw [ej]
    by_cases c2 : j < n
    · rw [if_pos ((nI_ltI hj hn).mpr c2), if_pos c2]
    · rw [if_neg (fun q => c2 ((nI_ltI hj hn).mp q)), if_neg c2]
  have hmb : (if j < n then j else n) < 2 ^ 31 := by by_cases c2 : j < n <;> simp [c2] <;> omega
  rw [emin]
  refine va_copyi hx hb (hml.trans hl.1.symm) hown (ht _ kw_c150) (ht _ kw_acN) (ht _ kw_acS) (ht _ kw_sysI) hK hP hD hS 0 1 0 0 rfl rfl rfl rfl rfl (by decide) (by decide) (nI_pos hmb) (by rw [nI_clamp hmb]; show 0 + _ ≤ n; by_cases c2 : j < n <;> simp [c2] <;> omega) (by rw [nI_clamp hmb]; show 0 + _ ≤ k.toNatClampNeg; rw [ejn]; by_cases c2 : j < n <;> simp [c2] <;> omega) (fun _ _ => rfl) (Nat.le_of_ble_eq_true rfl) (by show _ ≤ 58; decide +kernel) dJ7_copyOf_59c91_28 (fun H locs hP hD hS => ?_)
  have hP : va_P (dC, dI) vwCl [(q0, .inl (cI, n, .inl f)), (q1, .inl (cI, k.toNatClampNeg, .inl (cpf f n k.toNatClampNeg)))] H := by
    have h2 := hP
    rw [nI_clamp hmb] at h2
    rw [show cpf f n k.toNatClampNeg = va_cpy f (fun _ => 0) 0 0 (if j < n then j else n) by rw [cpf, ejn]]
    exact h2
  have hD : va_D A [(q0, .inl (cI, n, .inl f)), (q1, .inl (cI, k.toNatClampNeg, .inl (cpf f n k.toNatClampNeg)))] := by
    have h2 := hD
    rw [nI_clamp hmb] at h2
    rw [show cpf f n k.toNatClampNeg = va_cpy f (fun _ => 0) 0 0 (if j < n then j else n) by rw [cpf, ejn]]
    exact h2
  have hP := hP.sub (ws' := [(q1, .inl (cI, k.toNatClampNeg, .inl (cpf f n k.toNatClampNeg)))]) [1] rfl
  have hD := hD.sub (ws' := [(q1, .inl (cI, k.toNatClampNeg, .inl (cpf f n k.toNatClampNeg)))]) [1] (by decide) rfl
  refine lv_aload_n hx hb dJ7_copyOf_59c91_31 rfl (lv_at hl 0 rfl) ?_
  refine W.cs (cells' := 1) (slots' := k.toNatClampNeg) rfl (Nat.zero_add _) ?_
  rw [← hQ]
  exact W.aret (v := .ref q1) hx hb hr (Or.inr ⟨_, rfl⟩) (Or.inr ⟨_, rfl⟩) (fun t ht1 hW => ⟨⟨(), q1, rfl, trivial, by rw [ht1]; exact hP, hD⟩, hS.F ht1⟩) hS.2.2 dJ7_copyOf_59c91_32
set_option maxHeartbeats 4000000 in
set_option maxRecDepth 100000 in
theorem c_withRoom (l : Launch) (dC : Nat → ClassId) (dI : Nat → Nat → Nat) (cI cJ : ClassId) (q0 sz n0 : Nat) (f : Nat → Int32) (ln lim : Int32) (n1 : Nat) (f1 : Nat → Int32) (mc ms : Nat) (hm : f_withRoom n0 f ln lim = some ((n1, f1), mc, ms)) : Met l yX6_withRoom (wq yX6_withRoom cX6_withRoom 3 (some (.array .int))) ({ frames := 2, cells := mc, slots := ms, locals := 80 } : Room) (va_Pc [.ref q0, .int ln, .int lim] (pcW dC dI cI cJ sz [(q0, .inl (cI, n0, .inl f))])) (va_Qr (S := Unit) (fun _ => True) (fun _ a t => va_P (dC, dI) vwCl [(a, .inl (cI, n1, .inl f1))] t.heap ∧ va_D (va_A [(q0, .inl (cI, n0, .inl f))] sz) [(a, .inl (cI, n1, .inl f1))]) (va_A [(q0, .inl (cI, n0, .inl f))] sz)) mc ms (va_A [(q0, .inl (cI, n0, .inl f))] sz) := by
  refine Met.ofW (cc := cX6_withRoom) (maxL := 3) (ret := some (.array .int)) (by decide) rfl ?_
  intro p e s m args below meth c s₁ B hml hv
  obtain ⟨rfl, hsz, hP, hK, hD0, hN⟩ := hv
  have hx := B.exec
  have hb := B.bytes
  have hr := B.returns
  have ht : ∀ w ∈ lw_good, w.before _ s = true := fun w h => atoms_spec (ws := wq yX6_withRoom cX6_withRoom 3 (some (.array .int))) B.pre w (wq_mem h)
  have hown : s.vm.findClass RX6 = some m.cls := findClass_of_methodNamed B.named
  have hlocks := B.notSynchronized
  subst hsz
  have hD := hD0.self (sz := s.heap.size)
  generalize hAe : va_A [(q0, .inl (cI, n0, .inl f))] s.heap.size = A at hD ⊢
  have hA : ∀ q : Nat, s.heap.size ≤ q → A q := fun q h => by rw [← hAe]; exact Or.inr h
  have hl := lv_entry ([.ref q0, .int ln, .int lim]) (n := 3) (Nat.le_of_ble_eq_true rfl)
  rw [lg_entry_eq]
  generalize (lg_sl ([.ref q0, .int ln, .int lim]) ++ List.replicate (3 - (lg_sl ([.ref q0, .int ln, .int lim])).length) Slot.unset).toArray = ls at hl ⊢
  have hl : lv_has ls 3 [(0, .ref q0), (1, .int ln), (2, .int lim)] := hl
  generalize hQ : MQ below _ _ s _ _ _ = Q
  generalize hH : s.heap = H at hP ⊢
  have hS : va_S A s.heap H [] := by rw [← hH]; exact va_S.rf
  show W p l e ({ frames := 2, cells := mc, slots := ms, locals := 80 } : Room) s m ([.ref q0, .int ln, .int lim] : List Value).toArray below meth c H [] 0 0 Q (F0 m 0 ls [])
  unfold f_withRoom at hm
  refine lv_iload_n hx hb dX6_withRoom_0 rfl (lv_at hl 1 rfl) ?_
  refine lv_aload_n hx hb dX6_withRoom_1 rfl (lv_at hl 0 rfl) ?_
  refine va_alen (v := (nI n0)) hx hb hK hP 0 0 rfl rfl rfl dX6_withRoom_2 ?_
  refine lv_icmp_lt (tgt := 11) hx hb dX6_withRoom_3 (by decide) (fun c1 => ?_) (fun c1 => ?_)
  · have hm := ite_t c1 hm
    cases hm
    refine lv_aload_n hx hb dX6_withRoom_11 rfl (lv_at hl 0 rfl) ?_
    rw [← hQ]
    exact W.aret (v := .ref q0) hx hb hr (Or.inr ⟨_, rfl⟩) (Or.inr ⟨_, rfl⟩) (fun t ht1 hW => ⟨⟨(), q0, rfl, trivial, by rw [ht1]; exact hP, hD⟩, hS.F ht1⟩) hS.2.2 dX6_withRoom_12
  · have hm := ite_f c1 hm
    refine lv_iload_n hx hb dX6_withRoom_6 rfl (lv_at hl 1 rfl) ?_
    refine lv_iload_n hx hb dX6_withRoom_7 rfl (lv_at hl 2 rfl) ?_
    refine lv_icmp_lt (tgt := 13) hx hb dX6_withRoom_8 (by decide) (fun c2 => ?_) (fun c2 => ?_)
    · have hm := ite_t c2 hm
      obtain ⟨k, ek, hm⟩ := bnd_ex hm
      by_cases c3 : k < 0 ∨ 536870912 < k.toNatClampNeg * 4 ∨ k.toNatClampNeg = n0 ∨ 2 ^ 31 ≤ n0
      · have hm := ite_t c3 hm
        cases hm
      · have hm := ite_f c3 hm
        cases hm
        refine lv_aload_n hx hb dX6_withRoom_13 rfl (lv_at hl 0 rfl) ?_
        refine lv_iconst (v := (2 : Int32)) hx hb dX6_withRoom_14 (by decide) ?_
        refine lv_iload_n hx hb dX6_withRoom_15 rfl (lv_at hl 1 rfl) ?_
        refine lv_imul hx hb dX6_withRoom_16 ?_
        refine lv_iload_n hx hb dX6_withRoom_17 rfl (lv_at hl 2 rfl) ?_
        refine va_mmin hx hb (hml.trans hl.1.symm) hown (ht _ kw_x615) (ht _ kw_minS) (ht _ kw_mathI) (ht _ kw_minC) (Nat.le_of_ble_eq_true rfl) (Nat.le_of_ble_eq_true rfl) (Nat.zero_le _) (Nat.zero_le _) dX6_withRoom_18 ?_
        rw [← ek]
        have hFc := va_free (wc := [(q0, .inl (cI, n0, .inl f))]) hD hS hA [0] rfl
        refine va_callr (va_runS (As := [.ref q0, .int k]) (rest := []) ⟨hx, hb, hml, hown, ht⟩ (c_copyOf l dC dI cI cJ q0 H.size n0 (by omega) f k (fun q => c3 (Or.inl q)) (by show _ * 4 ≤ _; omega) (fun q => c3 (Or.inr (Or.inr (Or.inl q))))) (va_cwS 2 ht (gdS kw_x6176 kw_cpS kw_arI kw_cpC) rfl rfl rfl nd_J7_copyOf_59c91 ⟨Nat.le_of_ble_eq_true rfl, Nat.le_of_ble_eq_true rfl⟩) ⟨pcW_blind, pcW_pre hP hK hD hN⟩ rfl rfl hl.1 rfl (lv_room (Nat.le_of_ble_eq_true rfl)) dX6_withRoom_21 ⟨Nat.le_refl _, by show 0 + k.toNatClampNeg ≤ k.toNatClampNeg; omega⟩) hS (fun q _ z => hFc q z) hFc (fun uu ra t H1 locs ht1 hvm hw hB hz1 hk1 hS => ?_)
        obtain ⟨hP1, hD1⟩ := hB
        rw [ht1] at hP1
        have hD1 := hD1.weaken (fun _ q _ z => hFc q.1 z)
        refine W.cs (cells' := 1) (slots' := k.toNatClampNeg) rfl (Nat.zero_add _) ?_
        rw [← hQ]
        exact W.aret (v := .ref ra) hx hb hr (Or.inr ⟨_, rfl⟩) (Or.inr ⟨_, rfl⟩) (fun t ht1 hW => ⟨⟨(), ra, rfl, trivial, by rw [ht1]; exact hP1, hD1⟩, hS.F ht1⟩) hS.2.2 dX6_withRoom_24
    · have hm := ite_f c2 hm
      cases hm
      refine lv_aload_n hx hb dX6_withRoom_11 rfl (lv_at hl 0 rfl) ?_
      rw [← hQ]
      exact W.aret (v := .ref q0) hx hb hr (Or.inr ⟨_, rfl⟩) (Or.inr ⟨_, rfl⟩) (fun t ht1 hW => ⟨⟨(), q0, rfl, trivial, by rw [ht1]; exact hP, hD⟩, hS.F ht1⟩) hS.2.2 dX6_withRoom_12

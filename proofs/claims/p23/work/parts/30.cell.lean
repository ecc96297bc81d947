theorem th_any {w : Cond} {s : State} {A A' : Array Value} (hb : thB w = true) (h : w.before A s = true) : w.before A' s = true := by
  cases w with
  | castable a b => exact va_tabs rfl rfl h
  | declares y => exact va_tabs rfl rfl h
  | laysStatic o n d => exact h
  | _ => exact word_at (State.WarmedH.refl s) (good_of_word hb) h
theorem th_tbl : ∀ w ∈ thW, w ∈ lw_tbl := by decide +kernel
theorem nw_tbl : ∀ w ∈ nwL, w ∈ lw_tbl := by decide +kernel
theorem th_s1 : Cond.laysStatic thT "UNASSIGNED_STACK" thS ∈ lw_tbl := by decide +kernel
theorem th_s2 : Cond.laysStatic thT "SUPPRESSED_SENTINEL" thL ∈ lw_tbl := by decide +kernel
theorem th_str : Cond.stringRef RX6 138 "no such place" ∈ lw_tbl := by decide +kernel
theorem exact_ref {t : Term} {C : String} {A : Array Value} {s : State} (h : (Cond.exactly t C).before A s = true) : ∃ q, t.eval A s none [] s = some (.ref q) := by
  cases hv : t.eval A s none [] s with
  | none => simp [Cond.before, Cond.holds, Cond.value, hv] at h
  | some w =>
    cases w with
    | ref q => exact ⟨q, rfl⟩
    | null => cases hf : s.vm.findClass C <;> simp [Cond.before, Cond.holds, Cond.value, hv, hf] at h
    | _ => simp [Cond.before, Cond.holds, Cond.value, hv] at h
def pcX (b L : Nat) (xs : Nat → Int32) (sz : Nat) (U : State) : Prop := U.heap.size = sz ∧ b < sz ∧ va_X b L xs U U.heap
theorem pcX_blind {b L : Nat} {xs : Nat → Int32} {sz : Nat} {av : List Value} : FrameBlind (va_Pc av (pcX b L xs sz)) := fun a U g mk q => by
  obtain ⟨q0, q1, q2, q3⟩ := q
  exact ⟨q0, q1, q2, va_X.moved (u := U) (U := U.calling g mk a) (Vm.Alike.refl U.vm) q3⟩
def f_cell (L : Nat) (xs : Nat → Int32) (k : Int32) : Int32 := if Int32.ofNat L ≤ k then (0 : Int32) else xs k.toNatClampNeg
set_option maxHeartbeats 4000000 in
set_option maxRecDepth 100000 in
theorem c_cell (l : Launch) (b L : Nat) (xs : Nat → Int32) (sz : Nat) (k : Int32) (hk0 : ¬ k < 0) (hL : L < 2 ^ 31) : Met l yL_cell (wq yL_cell cL_cell 2 (some .int)) ({ frames := 0, cells := 0, slots := 0, locals := 0 } : Room) (va_Pc [.ref b, .int k] (pcX b L xs sz)) (va_Qi (S := Unit) (fun r _ => r = f_cell L xs k) (fun _ _ => True) (fun q : Nat => sz ≤ q)) 0 0 (fun q : Nat => sz ≤ q) := by
  refine Met.ofW (cc := cL_cell) (maxL := 2) (ret := (some .int)) (by decide) rfl ?_
  intro p e s m args below meth c s₁ B hml hv
  obtain ⟨rfl, hsz, hbl, hX⟩ := hv
  have hx := B.exec
  have hb := B.bytes
  have hr := B.returns
  have hlocks := B.notSynchronized
  subst hsz
  have hbA : ¬ (fun q : Nat => s.heap.size ≤ q) b := Nat.not_le.mpr hbl
  have hS : va_S (fun q : Nat => s.heap.size ≤ q) s.heap s.heap [] := va_S.rf
  have hl := lv_entry ([.ref b, .int k]) (n := 2) (Nat.le_of_ble_eq_true rfl)
  rw [lg_entry_eq]
  generalize (lg_sl ([.ref b, .int k]) ++ List.replicate (2 - (lg_sl ([.ref b, .int k])).length) Slot.unset).toArray = ls at hl ⊢
  have hl : lv_has ls 2 [(0, .ref b), (1, .int k)] := hl
  refine lv_iload_n hx hb dL_cell_0 rfl (lv_at hl 1 rfl) ?_
  refine lv_aload_n hx hb dL_cell_1 rfl (lv_at hl 0 rfl) ?_
  refine va_slen hx hb hX hbl hbA hS dL_cell_2 ?_
  refine lv_icmp_ge (tgt := 12) hx hb dL_cell_3 (by decide) (fun c1 => ?_) (fun c1 => ?_)
  · refine lv_iconst (v := (0 : Int32)) hx hb dL_cell_12 (by decide) ?_
    exact W.iret (v := (0 : Int32)) hx hb hr (fun t ht1 hW => ⟨⟨_, (), rfl, by unfold f_cell; rw [if_pos c1], trivial⟩, hS.F ht1⟩) hS.2.2 dL_cell_13
  · refine lv_aload_n hx hb dL_cell_6 rfl (lv_at hl 0 rfl) ?_
    refine lv_iload_n hx hb dL_cell_7 rfl (lv_at hl 1 rfl) ?_
    have hin : vp_in k L := by
      obtain ⟨j, hj, e1⟩ := nI_of hk0
      rw [e1]
      refine vp_in_nI ?_ hL
      rcases Nat.lt_or_ge j L with q | q
      · exact q
      · exact absurd (by rw [e1]; exact (nI_leI hL hj).mpr q : Int32.ofNat L ≤ k) c1
    refine va_sld hx hb hX hbl hbA hS hin dL_cell_8 ?_
    refine lv_goto (tgt := 13) hx hb dL_cell_9 (by decide) ?_
    exact W.iret (v := xs k.toNatClampNeg) hx hb hr (fun t ht1 hW => ⟨⟨_, (), rfl, by unfold f_cell; rw [if_neg c1], trivial⟩, hS.F ht1⟩) hS.2.2 dL_cell_13

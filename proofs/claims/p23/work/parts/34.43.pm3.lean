theorem tn32 {x : Int32} (h : 0 ≤ x.toInt) : (x.toBitVec.toNat : Int) = x.toInt := by
  have h4 := BitVec.toInt_eq_toNat_cond x.toBitVec
  have h6 := x.toBitVec.isLt
  have h2 : x.toInt = x.toBitVec.toInt := rfl
  rw [← h2] at h4
  by_cases c : 2 * x.toBitVec.toNat < 2 ^ 32
  · rw [if_pos c] at h4; omega
  · rw [if_neg c] at h4; omega
theorem it32 {x : Int32} (h : x.toBitVec.toNat < 2147483648) : x.toInt = (x.toBitVec.toNat : Int) := by
  have h4 := BitVec.toInt_eq_toNat_cond x.toBitVec
  have h2 : x.toInt = x.toBitVec.toInt := rfl
  rw [← h2, if_pos (by omega)] at h4
  exact h4
theorem xor32 {a b : Int32} (h1 : 0 ≤ a.toInt) (h2 : a.toInt ≤ 255) (h3 : 0 ≤ b.toInt) (h4 : b.toInt ≤ 255) : 0 ≤ (a ^^^ b).toInt ∧ (a ^^^ b).toInt ≤ 255 := by
  have e1 := tn32 h1
  have e2 := tn32 h3
  have e3 : (a ^^^ b).toBitVec.toNat < 2 ^ 8 := by
    rw [Int32.toBitVec_xor, BitVec.toNat_xor]
    exact Nat.xor_lt_two_pow (by omega) (by omega)
  have e4 := it32 (x := a ^^^ b) (by omega)
  omega
theorem or32 {a b : Int32} (h1 : 0 ≤ a.toInt) (h2 : a.toInt ≤ 255) (h3 : 0 ≤ b.toInt) (h4 : b.toInt ≤ 255) : 0 ≤ (a ||| b).toInt ∧ (a ||| b).toInt ≤ 255 := by
  have e1 := tn32 h1
  have e2 := tn32 h3
  have e3 : (a ||| b).toBitVec.toNat < 2 ^ 8 := by
    rw [Int32.toBitVec_or, BitVec.toNat_or]
    exact Nat.or_lt_two_pow (by omega) (by omega)
  have e4 := it32 (x := a ||| b) (by omega)
  omega
theorem byte32 (a : Int32) : 0 ≤ (a &&& (255 : Int32)).toInt ∧ (a &&& (255 : Int32)).toInt ≤ 255 := and32 a 255 (by decide)
theorem bit32 (a : Int32) : (a &&& (1 : Int32)) = 0 ∨ (a &&& (1 : Int32)) = 1 := by
  have h := and32 a 1 (by decide)
  rw [li_1] at h
  rcases (show (a &&& (1 : Int32)).toInt = 0 ∨ (a &&& (1 : Int32)).toInt = 1 by omega) with e | e
  · exact Or.inl (Int32.toInt_inj.mp (by rw [e, li_0]))
  · exact Or.inr (Int32.toInt_inj.mp (by rw [e, li_1]))
theorem div32 {a b : Int32} (ha : 0 ≤ a.toInt) (hb : 0 < b.toInt) : (a / b).toInt = a.toInt / b.toInt := by
  rw [Int32.toInt_div_of_ne_right a b (fun e => by rw [e, lim_1] at hb; omega), Int.tdiv_eq_ediv_of_nonneg ha]
theorem rem32 {a b : Int32} (ha : 0 ≤ a.toInt) (hb : 0 < b.toInt) : (a - a / b * b).toInt = a.toInt % b.toInt := by
  have e := div32 ha hb
  have h1 := i32_hi a
  have h2 : 0 ≤ a.toInt / b.toInt * b.toInt := Int.mul_nonneg (Int.ediv_nonneg ha (by omega)) (by omega)
  have h3 : a.toInt / b.toInt * b.toInt ≤ a.toInt := Int.ediv_mul_le _ (by omega)
  have e2 : (a / b * b).toInt = a.toInt / b.toInt * b.toInt := by
    rw [mul32 (by rw [e]; omega) (by rw [e]; omega), e]
  rw [sub32 (by rw [e2]; omega) (by rw [e2]; omega), e2, Int.emod_def, Int.mul_comm]
theorem IM_out {g : GH} {u : OS} {i v : Int32} (h : IM g u) (h0 : 0 ≤ v.toInt) (h1 : v.toInt ≤ 255) : IM g (sA u 14 i v) := by
  obtain ⟨h0', h2, h3, h4, h5, h10, h7, h15, h14, h18, h25, h32, h11, h13⟩ := h
  refine ⟨h0', h2, h3, h4, h5, h10, h7, h15, ?_, h18, h25, h32, h11, h13⟩
  intro j
  show 0 ≤ (upd (u.2.1 14) i.toNatClampNeg v j).toInt ∧ (upd (u.2.1 14) i.toNatClampNeg v j).toInt ≤ 255
  unfold upd
  by_cases e : j = i.toNatClampNeg
  · rw [if_pos e]; exact ⟨h0, h1⟩
  · rw [if_neg e]; exact h14 j
theorem IM_15 {g : GH} {u : OS} {v : Int32} (h : IM g u) (h0 : 0 ≤ v.toInt) (h1 : v.toInt ≤ 20000) : IM g (sF u 15 v) := by
  obtain ⟨h0', h2, h3, h4, h5, h10, h7, h15, h14, h18, h25, h32, h11, h13⟩ := h
  exact ⟨h0', h2, h3, h4, h5, h10, h7, ⟨h0, h1⟩, h14, h18, h25, h32, h11, h13⟩
theorem IM_o {g : GH} {u : OS} (h : IM g u) : 0 ≤ (u.1 15).toInt ∧ (u.1 15).toInt ≤ 20000 := h.2.2.2.2.2.2.2.1
-- what putting out leaves as it was
def PO (u v : OS) : Prop := (∀ k, k ≠ 15 → k ≠ 21 → v.1 k = u.1 k) ∧ (∀ k, k ≠ 14 → v.2.1 k = u.2.1 k) ∧ v.2.2 = u.2.2
theorem PO.rf {u : OS} : PO u u := ⟨fun _ _ _ => rfl, fun _ _ => rfl, rfl⟩
theorem PO.tr {u v w : OS} (h1 : PO u v) (h2 : PO v w) : PO u w := ⟨fun k a b => (h2.1 k a b).trans (h1.1 k a b), fun k a => (h2.2.1 k a).trans (h1.2.1 k a), h2.2.2.trans h1.2.2⟩
theorem s_X7_putByte {g : GH} (u : OS) (p : Int32) (h : IM g u) (ho : (u.1 15).toInt < 20000) : ok (f_X7_putByte u p) (fun v => IM g v ∧ PO u v ∧ (v.1 15).toInt = (u.1 15).toInt + 1 ∧ v.1 21 = u.1 21) := by
  have h15 := IM_o h
  unfold f_X7_putByte
  have e1 := inc32 (x := u.1 15) (by omega)
  have b := byte32 p
  refine ok_gdi h15.1 (by omega) (ok_bnd (ok_bnd (ok_some ⟨?_, ?_, e1, rfl⟩)))
  · exact IM_15 (IM_out h b.1 b.2) (by show 0 ≤ (u.1 15 + (1 : Int32)).toInt; omega) (by show (u.1 15 + (1 : Int32)).toInt ≤ 20000; omega)
  · refine ⟨fun k a _ => ?_, fun k a => ?_, rfl⟩
    · show va_up u.1 15 _ k = u.1 k
      unfold va_up; rw [if_neg a]
    · show va_up u.2.1 14 _ k = u.2.1 k
      unfold va_up; rw [if_neg a]
theorem s_X7_spoil {g : GH} (u : OS) (p q : Int32) (h : IM g u) : ok (f_X7_spoil u p q) (fun q => IM g q.1) := by
  have h15 := IM_o h
  have h14 := h.2.2.2.2.2.2.2.2.1
  unfold f_X7_spoil
  refine ok_bnd (ok_ite (fun _ => ok_some h) (fun c => ok_ite (fun _ => ok_some h) (fun c2 => ok_ite (fun _ => ok_some h) (fun c3 => ok_ite (fun c4 => ?_) (fun _ => ok_some h)))))
  have c2 : ¬ u.1 15 ≤ p := c2
  have g1 : 0 ≤ p.toInt := by clear h14; ((try simp only [Int32.lt_iff_toInt_lt, Int32.le_iff_toInt_le, Int32.not_lt, Int32.not_le, li_0, li_1, li_2, li_3, li_4, li_5, li_6, li_7, li_8, li_10, li_12, li_15, li_16, li_20, li_30, li_31, li_32, li_33, li_63, li_64, li_128, li_255, li_256, li_1000, li_4096, li_8000, li_8192, li_20000, li_65535, li_65536, li_70000, li_1000000, lim_1, lim_2, lim_3, lim_10] at *) <;> omega)
  have g2 : p.toInt < 20000 := by clear h14; ((try simp only [Int32.lt_iff_toInt_lt, Int32.le_iff_toInt_le, Int32.not_lt, Int32.not_le, li_0, li_1, li_2, li_3, li_4, li_5, li_6, li_7, li_8, li_10, li_12, li_15, li_16, li_20, li_30, li_31, li_32, li_33, li_63, li_64, li_128, li_255, li_256, li_1000, li_4096, li_8000, li_8192, li_20000, li_65535, li_65536, li_70000, li_1000000, lim_1, lim_2, lim_3, lim_10] at *) <;> omega)
  have q1 : 0 ≤ q.toInt := by clear h14; ((try simp only [Int32.lt_iff_toInt_lt, Int32.le_iff_toInt_le, Int32.not_lt, Int32.not_le, li_0, li_1, li_2, li_3, li_4, li_5, li_6, li_7, li_8, li_10, li_12, li_15, li_16, li_20, li_30, li_31, li_32, li_33, li_63, li_64, li_128, li_255, li_256, li_1000, li_4096, li_8000, li_8192, li_20000, li_65535, li_65536, li_70000, li_1000000, lim_1, lim_2, lim_3, lim_10] at *) <;> omega)
  have q2 : q.toInt ≤ 255 := by clear h14; ((try simp only [Int32.lt_iff_toInt_lt, Int32.le_iff_toInt_le, Int32.not_lt, Int32.not_le, li_0, li_1, li_2, li_3, li_4, li_5, li_6, li_7, li_8, li_10, li_12, li_15, li_16, li_20, li_30, li_31, li_32, li_33, li_63, li_64, li_128, li_255, li_256, li_1000, li_4096, li_8000, li_8192, li_20000, li_65535, li_65536, li_70000, li_1000000, lim_1, lim_2, lim_3, lim_10] at *) <;> omega)
  have x := xor32 (h14 p.toNatClampNeg).1 (h14 p.toNatClampNeg).2 q1 q2
  exact ok_gdi g1 g2 (ok_gdi g1 g2 (ok_bnd (ok_gdi g1 g2 (ok_some (IM_out (IM_1 h) x.1 x.2)))))
theorem s_X7_cut {g : GH} (u : OS) (p : Int32) (h : IM g u) : ok (f_X7_cut u p) (fun q => IM g q.1) := by
  have h15 := IM_o h
  unfold f_X7_cut
  refine ok_bnd (ok_ite (fun _ => ok_some h) (fun c => ok_ite (fun c2 => ok_bnd (ok_some ?_)) (fun _ => ok_some h)))
  have c2 : p ≤ u.1 15 := c2
  have c3 : p.toInt ≤ (u.1 15).toInt := by ((try simp only [Int32.lt_iff_toInt_lt, Int32.le_iff_toInt_le, Int32.not_lt, Int32.not_le, li_0, li_1, li_2, li_3, li_4, li_5, li_6, li_7, li_8, li_10, li_12, li_15, li_16, li_20, li_30, li_31, li_32, li_33, li_63, li_64, li_128, li_255, li_256, li_1000, li_4096, li_8000, li_8192, li_20000, li_65535, li_65536, li_70000, li_1000000, lim_1, lim_2, lim_3, lim_10] at *) <;> omega)
  have c4 : 0 ≤ p.toInt := by ((try simp only [Int32.lt_iff_toInt_lt, Int32.le_iff_toInt_le, Int32.not_lt, Int32.not_le, li_0, li_1, li_2, li_3, li_4, li_5, li_6, li_7, li_8, li_10, li_12, li_15, li_16, li_20, li_30, li_31, li_32, li_33, li_63, li_64, li_128, li_255, li_256, li_1000, li_4096, li_8000, li_8192, li_20000, li_65535, li_65536, li_70000, li_1000000, lim_1, lim_2, lim_3, lim_10] at *) <;> omega)
  have e : (u.1 15 - p).toInt = (u.1 15).toInt - p.toInt := sub32 (by omega) (by omega)
  exact IM_15 (IM_1 h) (by show 0 ≤ (u.1 15 - p).toInt; omega) (by show (u.1 15 - p).toInt ≤ 20000; omega)
theorem s_X7_octet {g : GH} (u : OS) (p : Int32) (h : IM g u) : ok (f_X7_octet u p) (fun q => IM g q.1) := by
  unfold f_X7_octet
  refine ok_bnd (ok_ite (fun c => ok_oC1 (s_X7_putByte _ p (IM_1 h) ?_) (fun v hv => ok_some hv.1)) (fun _ => ok_some h))
  have c : u.1 15 < (8000 : Int32) := c
  show (u.1 15).toInt < 20000
  ((try simp only [Int32.lt_iff_toInt_lt, Int32.le_iff_toInt_le, Int32.not_lt, Int32.not_le, li_0, li_1, li_2, li_3, li_4, li_5, li_6, li_7, li_8, li_10, li_12, li_15, li_16, li_20, li_30, li_31, li_32, li_33, li_63, li_64, li_128, li_255, li_256, li_1000, li_4096, li_8000, li_8192, li_20000, li_65535, li_65536, li_70000, li_1000000, lim_1, lim_2, lim_3, lim_10] at *) <;> omega)

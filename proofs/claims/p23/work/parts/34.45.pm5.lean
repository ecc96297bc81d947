-- ===== the spread: every place is written, and no sign has more places than shares =====
def cw (f : Nat → Int32) (w : Nat → Bool) (s : Int32) : Nat → Nat
  | 0 => 0
  | n + 1 => cw f w s n + if w n = true ∧ f n = s then 1 else 0
theorem cw_upd {f g : Nat → Int32} {w z : Nat → Bool} {i : Nat} {v s : Int32} (hg : ∀ j, g j = if j = i then v else f j) (hz : ∀ j, z j = if j = i then true else w j) : ∀ n : Nat, cw g z s n ≤ cw f w s n + if v = s then 1 else 0
  | 0 => Nat.zero_le _
  | n + 1 => by
    have key : ∀ m : Nat, m ≤ i → cw g z s m = cw f w s m := by
      intro m
      induction m with
      | zero => intro _; rfl
      | succ m ih =>
        intro hm
        unfold cw
        have e : ¬ m = i := by omega
        rw [ih (by omega), hg m, hz m, if_neg e, if_neg e]
    have h := cw_upd (s := s) hg hz n
    by_cases e : n = i
    · subst e
      unfold cw
      rw [key n (Nat.le_refl _), hg n, hz n, if_pos rfl, if_pos rfl]
      by_cases q : v = s
      · rw [if_pos ⟨rfl, q⟩, if_pos q]
        by_cases r : w n = true ∧ f n = s
        · rw [if_pos r]; omega
        · rw [if_neg r]; omega
      · rw [if_neg (fun r => q r.2), if_neg q]
        omega
    · unfold cw
      rw [hg n, hz n, if_neg e, if_neg e]
      omega
theorem cw_mono (f : Nat → Int32) (w : Nat → Bool) (s : Int32) : ∀ (d m : Nat), cw f w s m ≤ cw f w s (m + d)
  | 0, m => Nat.le_refl _
  | d + 1, m => by
    have h := cw_mono f w s d m
    show cw f w s m ≤ cw f w s (m + d) + _
    omega
theorem cw_all {f : Nat → Int32} {w : Nat → Bool} {s : Int32} : ∀ n : Nat, (∀ i, i < n → w i = true) → cw f (fun _ => true) s n = cw f w s n
  | 0 => fun _ => rfl
  | n + 1 => fun h => by
    unfold cw
    rw [cw_all n (fun i hi => h i (by omega)), h n (by omega)]
def stp (N : Nat) : Nat := N / 2 + N / 8 + 3
def two (N : Nat) : Prop := N = 32 ∨ N = 64 ∨ N = 128 ∨ N = 256 ∨ N = 512 ∨ N = 1024 ∨ N = 2048 ∨ N = 4096
theorem stp_inv {N : Nat} (h : two N) : ∃ v, v * stp N % N = 1 % N := by
  rcases h with rfl | rfl | rfl | rfl | rfl | rfl | rfl | rfl
  · exact ⟨7, by decide⟩
  · exact ⟨3, by decide⟩
  · exact ⟨91, by decide⟩
  · exact ⟨11, by decide⟩
  · exact ⟨363, by decide⟩
  · exact ⟨43, by decide⟩
  · exact ⟨1451, by decide⟩
  · exact ⟨171, by decide⟩
theorem stp_all {N : Nat} (h : two N) (i : Nat) (hi : i < N) : ∃ j, j < N ∧ j * stp N % N = i := by
  obtain ⟨v, hv⟩ := stp_inv h
  refine ⟨i * v % N, Nat.mod_lt _ (by omega), ?_⟩
  rw [Nat.mod_mul_mod, Nat.mul_assoc, Nat.mul_mod, hv, ← Nat.mul_mod, Nat.mul_one, Nat.mod_eq_of_lt hi]

def i_Y : OS := (fun _ => 0, fun _ _ => 0, fun _ _ => 0, fun _ => 0)
theorem law_pure (xs : Nat → Int32) (L : Nat) (hL : L ≤ 1537) (v : Int32) : ∃ kc ks, f_law xs L i_X6 (i_X0 ((1 : Int32) <<< ((mlog v) &&& (31 : Int32)))) (i_X4 (mlog v)) i_X5 i_X2 i_X3 (i_X4 (5 : Int32)) i_X1 (i_X7 (clg v)) i_Y (1 : Int32) = some ((1 : Int32), kc, ks) ∧ kc ≤ 600000 ∧ ks ≤ 7000000 := by
  sorry

theorem pure_main (xs : Nat → Int32) (L : Nat) (hL : L ≤ 3584) : F_L_law_18 xs L fuel 0 sg0 = some () := by
  sorry

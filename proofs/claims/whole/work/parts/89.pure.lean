theorem law_pure (L : Nat) (xs : Nat → Int32) (hL : L ≤ 3584) : mW_law L xs 0 xz_K xz_F xz_I xz_J = some (1 : Int32) := by
  sorry

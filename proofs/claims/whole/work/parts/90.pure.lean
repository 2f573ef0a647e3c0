theorem lw_pure (xs : Nat → Int32) (L : Nat) (hL : L ≤ 3072) : ∃ n fu, fL_h18 n xs L fu 0 C00 R00 = some 1 := sorry

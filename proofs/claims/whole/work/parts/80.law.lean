/-! the law, run by the abstract machine -/
theorem zlaw_true (L : Nat) (xs : Nat → Int32) (hL : L ≤ 384) : ∃ n g', zex n 164 0 0 0 (zpad (zmx 164) (zal0 [.ref 0])) [] (zg0 L xs) = some (some (.int 1), g') := by
  sorry

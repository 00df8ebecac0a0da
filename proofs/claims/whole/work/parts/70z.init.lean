/-! the law up to its loop -/
theorem zinit (Ln : Nat) (xs : Nat → Int32) {r : zRs} (hk : zEv 164 18 68 1604 [some (.ref 0), some (.ref 1), some (.ref 44), some (.int 0)] [] (zGs Ln ziI33 (ziA59 xs)) r) : zEv 164 0 0 0 (zpad (zmx 164) (zal0 [.ref 0])) [] (zg0 Ln xs) r := by
  refine zin_13_L_law Ln xs ?_
  rw [ziC_eq, ziL_eq, ziF_eq]
  exact hk

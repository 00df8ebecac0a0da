/-! methods' names -/
/-- of each method: a plain name, its class, its parameters -/
def zmisc (y : Nat) : Bool := plainName (znm y).cls && decide ((znm y).cls ≠ "java/lang/invoke/MethodHandle") && decide ((znm y).cls ≠ "java/lang/invoke/VarHandle") && decide ((znm y).cls = zow y) && decide ((parseMethodDescriptor (znm y).desc).map (fun d => d.parameters.length) = some (znp.getD y 0)) && decide (zon.getD y 0 < 12) && decide (zml.getD y 0 = zmx y)
set_option maxRecDepth 20000 in
theorem zmisc_ok : ∀ y, y < 165 → zmisc y = true := by
  intro y h
  exact List.all_eq_true.mp (show (List.range 165).all zmisc = true by decide +kernel) y (List.mem_range.mpr h)

/-! THE ABSTRACT MACHINE TELLS THE TRUTH: what zex says of a method, the machine does -/
section zS7
variable {p : Program} {l : Launch} {e : Env} {R : Room} {s : State} {m : MethodId} {args : Array Value} {below : List Frame} {meth : Method} {c : Code} {Q : State → Prop}
variable {D : va_G} {cy : Nat → ClassId} {b bs Ln : Nat} {xs : Nat → Int32} {y pc k sl : Nat} {H : Heap} {locs : List Loc} {ls : Array Slot} {L : zLc} {g : zSg} {st : List Value}
theorem zs_step {call : Nat → List Value → zSg → Option zRs} {en : zEn} {out : zOut} (C : zCx p R s m args meth c D cy b bs Ln xs y) (hA : zAt s D cy b bs Ln xs y k sl H locs ls L g) (he : zat y pc = some en) (hcall : ∀ z as g q, call z as g = some q → z < 165 → z ≠ 164 → zMet l D cy b bs Ln xs z as g q)
    (hs : zstep call (zal.getD y (0, 0)) en pc k sl L st g = some out) (kk : zTo p l e R s m args below meth c Q D cy b bs Ln xs y out) : zG p l e R s m args below meth c Q b bs H locs k sl pc ls st := by
  obtain ⟨hy, e1, hd, hc, hl⟩ := zat_ok he
  obtain ⟨e0, ins, len, ax⟩ := en
  simp only at e1 hd
  subst e1
  cases ins
  case iconst n => replace hl : len = 1 := of_decide_eq_true hl; subst hl; exact zs_iconst C hA hd hs kk
  case bipush n => replace hl : len = 2 := of_decide_eq_true hl; subst hl; exact zs_bipush C hA hd hs kk
  case sipush n => replace hl : len = 3 := of_decide_eq_true hl; subst hl; exact zs_sipush C hA hd hs kk
  case lconst n => replace hl : len = 1 := of_decide_eq_true hl; subst hl; exact zs_lconst C hA hd hs kk
  case ldc_w i =>
    replace hl : len = 3 := of_decide_eq_true hl; subst hl
    simp only [zchk, decide_eq_true_eq] at hc
    exact zs_ldc_w C hA hd (zKT_in hc) hs kk
  case ldc2_w i =>
    replace hl : len = 3 := of_decide_eq_true hl; subst hl
    simp only [zchk, decide_eq_true_eq] at hc
    exact zs_ldc2_w C hA hd (zKT_in hc) hs kk
  case iload i => replace hl : len = 2 := of_decide_eq_true hl; subst hl; exact zs_iload C hA hd hs kk
  case iload_n i => replace hl : len = 1 := of_decide_eq_true hl; subst hl; exact zs_iload_n C hA hd hs kk
  case aload i => replace hl : len = 2 := of_decide_eq_true hl; subst hl; exact zs_aload C hA hd hs kk
  case aload_n i => replace hl : len = 1 := of_decide_eq_true hl; subst hl; exact zs_aload_n C hA hd hs kk
  case lload i => replace hl : len = 2 := of_decide_eq_true hl; subst hl; exact zs_lload C hA hd hs kk
  case lload_n i => replace hl : len = 1 := of_decide_eq_true hl; subst hl; exact zs_lload_n C hA hd hs kk
  case istore i => replace hl : len = 2 := of_decide_eq_true hl; subst hl; exact zs_istore C hA hd hs kk
  case istore_n i => replace hl : len = 1 := of_decide_eq_true hl; subst hl; exact zs_istore_n C hA hd hs kk
  case astore i => replace hl : len = 2 := of_decide_eq_true hl; subst hl; exact zs_astore C hA hd hs kk
  case astore_n i => replace hl : len = 1 := of_decide_eq_true hl; subst hl; exact zs_astore_n C hA hd hs kk
  case iinc i n => replace hl : len = 3 := of_decide_eq_true hl; subst hl; exact zs_iinc C hA hd hs kk
  case iadd => replace hl : len = 1 := of_decide_eq_true hl; subst hl; exact zs_iadd C hA hd hs kk
  case isub => replace hl : len = 1 := of_decide_eq_true hl; subst hl; exact zs_isub C hA hd hs kk
  case imul => replace hl : len = 1 := of_decide_eq_true hl; subst hl; exact zs_imul C hA hd hs kk
  case idiv => replace hl : len = 1 := of_decide_eq_true hl; subst hl; exact zs_idiv C hA hd hs kk
  case irem => replace hl : len = 1 := of_decide_eq_true hl; subst hl; exact zs_irem C hA hd hs kk
  case iand => replace hl : len = 1 := of_decide_eq_true hl; subst hl; exact zs_iand C hA hd hs kk
  case ior => replace hl : len = 1 := of_decide_eq_true hl; subst hl; exact zs_ior C hA hd hs kk
  case ixor => replace hl : len = 1 := of_decide_eq_true hl; subst hl; exact zs_ixor C hA hd hs kk
  case ishl => replace hl : len = 1 := of_decide_eq_true hl; subst hl; exact zs_ishl C hA hd hs kk
  case ishr => replace hl : len = 1 := of_decide_eq_true hl; subst hl; exact zs_ishr C hA hd hs kk
  case iushr => replace hl : len = 1 := of_decide_eq_true hl; subst hl; exact zs_iushr C hA hd hs kk
  case ineg => replace hl : len = 1 := of_decide_eq_true hl; subst hl; exact zs_ineg C hA hd hs kk
  case i2l => replace hl : len = 1 := of_decide_eq_true hl; subst hl; exact zs_i2l C hA hd hs kk
  case i2b => replace hl : len = 1 := of_decide_eq_true hl; subst hl; exact zs_i2b C hA hd hs kk
  case i2s => replace hl : len = 1 := of_decide_eq_true hl; subst hl; exact zs_i2s C hA hd hs kk
  case ladd => replace hl : len = 1 := of_decide_eq_true hl; subst hl; exact zs_ladd C hA hd hs kk
  case lsub => replace hl : len = 1 := of_decide_eq_true hl; subst hl; exact zs_lsub C hA hd hs kk
  case lcmp => replace hl : len = 1 := of_decide_eq_true hl; subst hl; exact zs_lcmp C hA hd hs kk
  case dup => replace hl : len = 1 := of_decide_eq_true hl; subst hl; exact zs_dup C hA hd hs kk
  case dup2 => replace hl : len = 1 := of_decide_eq_true hl; subst hl; exact zs_dup2 C hA hd hs kk
  case ifCond cd off =>
    simp only [zlenok, Bool.and_eq_true, decide_eq_true_eq] at hl
    obtain ⟨h1, h2⟩ := hl
    subst h1
    exact zs_if C hA hd h2 hs kk
  case if_icmp cd off =>
    simp only [zlenok, Bool.and_eq_true, decide_eq_true_eq] at hl
    obtain ⟨h1, h2⟩ := hl
    subst h1
    exact zs_icmp C hA hd h2 hs kk
  case goto off => replace hl : len = 3 := of_decide_eq_true hl; subst hl; exact zs_goto C hA hd hs kk
  case lookupswitch d ps => exact zs_lookupswitch C hA hd hc hs kk
  case tableswitch d lo hi offs =>
    simp only [zchk, decide_eq_true_eq] at hc
    exact zs_tableswitch C hA hd hc hs kk
  case getfield i =>
    replace hl : len = 3 := of_decide_eq_true hl; subst hl
    simp only [zchk, Bool.and_eq_true, decide_eq_true_eq] at hc
    exact zs_getfield C hA hd hc.1.1.1.1 hc.1.1.1.2 hc.1.1.2 hc.1.2 hs kk
  case putfield i =>
    replace hl : len = 3 := of_decide_eq_true hl; subst hl
    simp only [zchk, Bool.and_eq_true, Bool.or_eq_true, Bool.not_eq_true', decide_eq_true_eq] at hc
    exact zs_putfield C hA hd hc.1.1.1.1.1 hc.1.1.1.1.2 hc.1.1.1.2 hc.1.1.2 hc.2 hs kk
  case iaload => replace hl : len = 1 := of_decide_eq_true hl; subst hl; exact zs_iaload C hA hd hs kk
  case baload => replace hl : len = 1 := of_decide_eq_true hl; subst hl; exact zs_baload C hA hd hs kk
  case aaload => replace hl : len = 1 := of_decide_eq_true hl; subst hl; exact zs_aaload C hA hd hs kk
  case iastore => replace hl : len = 1 := of_decide_eq_true hl; subst hl; exact zs_iastore C hA hd hs kk
  case bastore => replace hl : len = 1 := of_decide_eq_true hl; subst hl; exact zs_bastore C hA hd hs kk
  case aastore => replace hl : len = 1 := of_decide_eq_true hl; subst hl; exact zs_aastore C hA hd hs kk
  case arraylength => replace hl : len = 1 := of_decide_eq_true hl; subst hl; exact zs_arraylength C hA hd hs kk
  case new i =>
    replace hl : len = 3 := of_decide_eq_true hl; subst hl
    simp only [zchk, Bool.and_eq_true, decide_eq_true_eq] at hc
    exact zs_new C hA hd hc.1.1 hc.1.2 hc.2 hs kk
  case newarray t =>
    replace hl : len = 2 := of_decide_eq_true hl; subst hl
    simp only [zchk, Bool.and_eq_true, Bool.or_eq_true, decide_eq_true_eq] at hc
    exact zs_newarray C hA hd hc hs kk
  case anewarray i =>
    replace hl : len = 3 := of_decide_eq_true hl; subst hl
    simp only [zchk, decide_eq_true_eq] at hc
    exact zs_anewarray C hA hd hc hs kk
  case invokevirtual i =>
    replace hl : len = 3 := of_decide_eq_true hl; subst hl
    simp only [zchk, Bool.and_eq_true, decide_eq_true_eq] at hc
    exact zs_invokevirtual C hA hd hc.1.1.1.1.1.1.1 hc.1.1.1.1.1.1.2 hc.1.1.1.1.1.2 hc.1.1.1.1.2 (by simpa using hc.1.1.1.2) hc.1.1.2 hc.1.2 hc.2 hcall hs kk
  case invokestatic i =>
    replace hl : len = 3 := of_decide_eq_true hl; subst hl
    simp only [zchk] at hc
    split at hc
    · next h0 =>
      simp only [Bool.and_eq_true, decide_eq_true_eq] at hc
      exact zs_invokestatic0 C hA hd h0 hc.1.1.1.1.1 hc.1.1.1.1.2 hc.1.1.1.2 hc.1.1.2 hc.1.2 hc.2 hcall hs kk
    · next h0 =>
      simp only [Bool.and_eq_true, decide_eq_true_eq] at hc
      exact zs_max C hA hd h0 hc.1.1 hc.1.2 hc.2 hs kk
    · next h0 =>
      simp only [Bool.and_eq_true, decide_eq_true_eq] at hc
      exact zs_min C hA hd h0 hc.1.1 hc.1.2 hc.2 hs kk
    · next h0 =>
      simp only [Bool.and_eq_true, decide_eq_true_eq] at hc
      exact zs_copy C hA hd h0 hc.1.1 hc.1.2 hc.2 hs kk
    · cases hc
  case invokespecial i =>
    replace hl : len = 3 := of_decide_eq_true hl; subst hl
    simp only [zchk] at hc
    split at hc
    · next h0 =>
      simp only [Bool.and_eq_true, decide_eq_true_eq] at hc
      exact zs_invokespecial0 C hA hd h0 hc.1.1 hc.1.2 hc.2 hs kk
    · next h0 =>
      simp only [Bool.and_eq_true, decide_eq_true_eq] at hc
      exact zs_invokespecial1 C hA hd h0 hc.1.1.1.1.1.1.1 hc.1.1.1.1.1.1.2 hc.1.1.1.1.1.2 hc.1.1.1.1.2 hc.1.1.1.2 hc.1.1.2 hc.1.2 hc.2 hcall hs kk
    · next h0 =>
      simp only [Bool.and_eq_true, decide_eq_true_eq] at hc
      exact zs_invokespecial2 C hA hd h0 hc.1.1.1.1.1.1.1 hc.1.1.1.1.1.1.2 hc.1.1.1.1.1.2 hc.1.1.1.1.2 hc.1.1.1.2 hc.1.1.2 hc.1.2 hc.2 hcall hs kk
    · cases hc
  case ireturn =>
    replace hl : len = 1 := of_decide_eq_true hl; subst hl
    simp only [zchk, Bool.and_eq_true, Bool.or_eq_true, decide_eq_true_eq] at hc
    exact zs_ireturn hA hd hc hs kk
  case lreturn =>
    replace hl : len = 1 := of_decide_eq_true hl; subst hl
    simp only [zchk, decide_eq_true_eq] at hc
    exact zs_lreturn hA hd hc hs kk
  case return_ =>
    replace hl : len = 1 := of_decide_eq_true hl; subst hl
    simp only [zchk, decide_eq_true_eq] at hc
    exact zs_return hA hd hc hs kk
  all_goals (simp [zstep] at hs)
/-- so many steps, from any point of a method -/
theorem zs_run {n : Nat} (hcall : ∀ n', n' < n → ∀ z as g q, (zal0 as).length ≤ zml.getD z 0 → zex n' z 0 0 0 (zpad (zml.getD z 0) (zal0 as)) [] g = some q → z < 165 → z ≠ 164 → zMet l D cy b bs Ln xs z as g q) (C : zCx p R s m args meth c D cy b bs Ln xs y) {r : zRs} (kk : zTo p l e R s m args below meth c Q D cy b bs Ln xs y (.inr r)) :
    ∀ n', n' ≤ n → ∀ (pc k sl : Nat) (L : zLc) (st : List Value) (g : zSg) (H : Heap) (locs : List Loc) (ls : Array Slot), zAt s D cy b bs Ln xs y k sl H locs ls L g → zex n' y pc k sl L st g = some r → zG p l e R s m args below meth c Q b bs H locs k sl pc ls st := by
  intro n'
  induction n' with
  | zero => intro _ pc k sl L st g H locs ls hA h; simp [zex] at h
  | succ n' ih =>
    intro hn pc k sl L st g H locs ls hA h
    unfold zex at h
    split at h
    · cases h
    · next en he =>
      split at h
      · cases h
      · next f hf =>
        exact zs_step C hA he (fun z as g q hq hz h4 => by
          split at hq
          · next hlen => exact hcall n' (by omega) z as g q hlen hq hz h4
          · cases hq) hf (fun H locs ls hA' => ih (by omega) _ _ _ _ _ _ H locs ls hA' h)
      · next r' hf =>
        cases h
        exact zs_step C hA he (fun z as g q hq hz h4 => by
          split at hq
          · next hlen => exact hcall n' (by omega) z as g q hlen hq hz h4
          · cases hq) hf kk
end zS7

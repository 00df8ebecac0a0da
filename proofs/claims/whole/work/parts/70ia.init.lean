/-! a reference put into a field; a field read -/
theorem zEv.pfr {y pc k sl o c fk v i e0 N m1 m2 : Nat} {C Ln : Nat → Nat} {F : Nat → Nat → Nat} {I A : Nat → Nat → Int32} {L : zLc} {st : List Value} {r : zRs} (he : zat y pc = some (e0, .putfield i, 3, [c, fk, 1, m1, m2])) (hC : C o = c) (hv : 0 < v) (hk : zEv y (pc + 3) k sl L st (N, C, Ln, va_up F o (va_up (F o) fk v), I, A) r) : zEv y pc k sl L (.ref v :: .ref o :: st) (N, C, Ln, F, I, A) r :=
  zEv.step he (fun call => by
    simp only [zstep]
    rw [if_pos ⟨hC, rfl, hv⟩]) hk

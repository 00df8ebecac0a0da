/-! .. Object's constructor, Math, rows copied; returns -/
section zS6
variable {p : Program} {l : Launch} {e : Env} {R : Room} {s : State} {m : MethodId} {args : Array Value} {below : List Frame} {meth : Method} {c : Code} {Q : State → Prop}
variable {D : va_G} {cy : Nat → ClassId} {b bs Ln : Nat} {xs : Nat → Int32} {y pc k sl : Nat} {H : Heap} {locs : List Loc} {ls : Array Slot} {L : zLc} {g : zSg} {st : List Value} {ax : List Nat}
theorem zs_invokespecial0 {al : Nat × Nat} {call : Nat → List Value → zSg → Option zRs} {e0 i : Nat} {out : zOut} (C : zCx p R s m args meth c D cy b bs Ln xs y) (hA : zAt s D cy b bs Ln xs y k sl H locs ls L g) (hd : decode (zby y) pc = .ok (.invokespecial i, 3)) (h0 : zx ax 0 = 0) (hM : zMT[zx ax 1]? = some (zon.getD y 0, i, 1000)) (hf1 : 1 ≤ zfr y) (hl1 : 20 ≤ zlo y) (hs : zstep call al (e0, .invokespecial i, 3, ax) pc k sl L st g = some out) (kk : zTo p l e R s m args below meth c Q D cy b bs Ln xs y out) : zG p l e R s m args below meth c Q b bs H locs k sl pc ls st := by
  obtain ⟨⟨hx, hb, hml, hown, hret, hlocks, hname⟩, hts, hK, hN, hX, hfr, hlo, hal⟩ := C
  simp only [zstep, h0] at hs
  unfold zr1 at hs
  split at hs
  · next o r =>
    dsimp only at hs
    split at hs
    · next hc =>
      cases hs
      have hl : Cond.methodLink (zow y) i objectInit ∈ zW := zMT_in hM
      refine W.objInit (a := zad b bs o) (rest := r.map (zv b bs)) hx hb hown (hts _ hl) (hts _ (zspec_in _ (by simp))) (hts _ (zspec_in _ (by simp))) rfl (by rw [hml]; exact hA.1.1) rfl hd (Nat.le_trans hf1 hfr) ?_ ?_
      · have h2 := zrest (st := (Value.ref o :: r).map (zv b bs)) (pc := pc) (ls := ls) (m := m) (b := b) (bs := bs) hc
        have h3 : zlo y ≤ R.locals := hlo
        refine Nat.le_trans (Nat.add_le_add_right ?_ 12) (Nat.le_trans (by omega : 8 + 12 ≤ zlo y) h3)
        exact h2
      · exact kk H locs ls hA
    · cases hs
  · cases hs
theorem zs_max {al : Nat × Nat} {call : Nat → List Value → zSg → Option zRs} {e0 i : Nat} {out : zOut} (C : zCx p R s m args meth c D cy b bs Ln xs y) (hA : zAt s D cy b bs Ln xs y k sl H locs ls L g) (hd : decode (zby y) pc = .ok (.invokestatic i, 3)) (h0 : zx ax 0 = 1) (hM : zMT[zx ax 1]? = some (zon.getD y 0, i, 1001)) (hf1 : 1 ≤ zfr y) (hl1 : 21 ≤ zlo y) (hs : zstep call al (e0, .invokestatic i, 3, ax) pc k sl L st g = some out) (kk : zTo p l e R s m args below meth c Q D cy b bs Ln xs y out) : zG p l e R s m args below meth c Q b bs H locs k sl pc ls st := by
  obtain ⟨⟨hx, hb, hml, hown, hret, hlocks, hname⟩, hts, hK, hN, hX, hfr, hlo, hal⟩ := C
  simp only [zstep, h0] at hs
  unfold zi2 at hs
  split at hs
  · next y0 x0 r =>
    dsimp only at hs
    split at hs
    · next hc =>
      cases hs
      have hl : Cond.methodLink (zow y) i Lib.Math.max.name ∈ zW := zMT_in hM
      exact va_mmax hx hb (by rw [hml]; exact hA.1.1.symm) hown (hts _ hl) (hts _ (zspec_in _ (by simp))) (hts _ (zspec_in _ (by simp))) (hts _ (zspec_in _ (by simp))) (Nat.le_trans hf1 hfr) (by rw [zv_cats]; omega) (Nat.le_trans hA.2.2.2.2.1 hal.1) (Nat.le_trans hA.2.2.2.2.2 hal.2) hd (kk H locs ls hA)
    · cases hs
  · cases hs
theorem zs_min {al : Nat × Nat} {call : Nat → List Value → zSg → Option zRs} {e0 i : Nat} {out : zOut} (C : zCx p R s m args meth c D cy b bs Ln xs y) (hA : zAt s D cy b bs Ln xs y k sl H locs ls L g) (hd : decode (zby y) pc = .ok (.invokestatic i, 3)) (h0 : zx ax 0 = 2) (hM : zMT[zx ax 1]? = some (zon.getD y 0, i, 1002)) (hf1 : 1 ≤ zfr y) (hl1 : 21 ≤ zlo y) (hs : zstep call al (e0, .invokestatic i, 3, ax) pc k sl L st g = some out) (kk : zTo p l e R s m args below meth c Q D cy b bs Ln xs y out) : zG p l e R s m args below meth c Q b bs H locs k sl pc ls st := by
  obtain ⟨⟨hx, hb, hml, hown, hret, hlocks, hname⟩, hts, hK, hN, hX, hfr, hlo, hal⟩ := C
  simp only [zstep, h0] at hs
  unfold zi2 at hs
  split at hs
  · next y0 x0 r =>
    dsimp only at hs
    split at hs
    · next hc =>
      cases hs
      have hl : Cond.methodLink (zow y) i Lib.Math.min.name ∈ zW := zMT_in hM
      exact va_mmin hx hb (by rw [hml]; exact hA.1.1.symm) hown (hts _ hl) (hts _ (zspec_in _ (by simp))) (hts _ (zspec_in _ (by simp))) (hts _ (zspec_in _ (by simp))) (Nat.le_trans hf1 hfr) (by rw [zv_cats]; omega) (Nat.le_trans hA.2.2.2.2.1 hal.1) (Nat.le_trans hA.2.2.2.2.2 hal.2) hd (kk H locs ls hA)
    · cases hs
  · cases hs
theorem zs_copy {al : Nat × Nat} {call : Nat → List Value → zSg → Option zRs} {e0 i : Nat} {out : zOut} (C : zCx p R s m args meth c D cy b bs Ln xs y) (hA : zAt s D cy b bs Ln xs y k sl H locs ls L g) (hd : decode (zby y) pc = .ok (.invokestatic i, 3)) (h0 : zx ax 0 = 3) (hM : zMT[zx ax 1]? = some (zon.getD y 0, i, 1003)) (hf1 : 1 ≤ zfr y) (hl1 : 8 + (nativeFrameWords "java/lang/System" "arraycopy" 5 + 11) ≤ zlo y) (hs : zstep call al (e0, .invokestatic i, 3, ax) pc k sl L st g = some out) (kk : zTo p l e R s m args below meth c Q D cy b bs Ln xs y out) : zG p l e R s m args below meth c Q b bs H locs k sl pc ls st := by
  obtain ⟨⟨hx, hb, hml, hown, hret, hlocks, hname⟩, hts, hK, hN, hX, hfr, hlo, hal⟩ := C
  simp only [zstep, h0] at hs
  split at hs
  · next n dp d sp s0 r =>
    split at hs
    · next hc =>
      cases hs
      obtain ⟨c1, c2, c3, c4, c5, c6, c7, c8⟩ := hc
      have hl : Cond.methodLink (zow y) i arraycopyName ∈ zW := zMT_in hM
      obtain ⟨s1, s2, s3⟩ := hA.2.1.at (i := s0) (by omega)
      obtain ⟨d1, d2, d3⟩ := hA.2.1.at (i := d) (by omega)
      rw [zce_100 c2] at s3
      rw [zce_100 c3] at d3
      show W p l e R s m args below meth c H locs k sl Q (F0 m pc ls (.int n :: .int dp :: .ref (zad b bs d) :: .int sp :: .ref (zad b bs s0) :: r.map (zv b bs)))
      rw [zad_pos s1, zad_pos d1]
      refine va_copyi hx hb (by rw [hml]; exact hA.1.1.symm) hown (hts _ hl) (hts _ (zspec_in _ (by simp))) (hts _ (zspec_in _ (by simp))) (hts _ (zspec_in _ (by simp))) hK hA.2.1.2.1 (zws_D cy bs g) hA.2.2.1 (s0 - 1) (d - 1) 0 0 (ty := .int) s3 d3 rfl rfl rfl c4 c5 c6 c7 c8 (fun i hi => rfl) (Nat.le_trans hf1 hfr) (by rw [zv_cats]; omega) hd (fun H1 locs1 hP1 _ hS1 => kk H1 locs1 ls ⟨hA.1, ?_, hS1, hA.2.2.2⟩)
      refine hA.2.1.put d1 rfl rfl rfl (va_up_ne _ _ (by omega)) ?_ (fun j hj => zce_congr rfl rfl (va_up_ne _ _ hj) rfl rfl) hP1
      rw [zce_100 (by exact c3)]
      simp [zA, zLn, va_up]
    · cases hs
  · cases hs
theorem zs_ireturn {call : Nat → List Value → zSg → Option zRs} {e0 : Nat} {out : zOut} (hA : zAt s D cy b bs Ln xs y k sl H locs ls L g) (hd : decode (zby y) pc = .ok (.ireturn, 1)) (hr : (zx ax 0 = 1 ∧ zrt y = some .boolean) ∨ (zx ax 0 = 0 ∧ zrt y = some .int)) (hs : zstep call (zal.getD y (0, 0)) (e0, .ireturn, 1, ax) pc k sl L st g = some out) (kk : zTo p l e R s m args below meth c Q D cy b bs Ln xs y out) : zG p l e R s m args below meth c Q b bs H locs k sl pc ls st := by
  simp only [zstep] at hs
  split at hs
  · next v =>
    split at hs
    · next hc =>
      cases hs
      refine kk pc k sl H locs ls hA.2.1 hA.2.2.1 hc.2.2.1 hc.2.2.2 hA.2.2.2.1 hc.2.1 (Or.inl ⟨v, rfl, hd, ?_⟩)
      rcases hr with ⟨h1, h2⟩ | ⟨h1, h2⟩
      · refine Or.inr ⟨h2, ?_⟩
        rcases hc.1 with h | h | h
        · omega
        · exact Or.inl h
        · exact Or.inr h
      · exact Or.inl h2
    · cases hs
  · cases hs
theorem zs_lreturn {call : Nat → List Value → zSg → Option zRs} {e0 : Nat} {out : zOut} (hA : zAt s D cy b bs Ln xs y k sl H locs ls L g) (hd : decode (zby y) pc = .ok (.lreturn, 1)) (hr : zrt y = some .long) (hs : zstep call (zal.getD y (0, 0)) (e0, .lreturn, 1, ax) pc k sl L st g = some out) (kk : zTo p l e R s m args below meth c Q D cy b bs Ln xs y out) : zG p l e R s m args below meth c Q b bs H locs k sl pc ls st := by
  simp only [zstep] at hs
  split at hs
  · next v =>
    split at hs
    · next hc =>
      cases hs
      exact kk pc k sl H locs ls hA.2.1 hA.2.2.1 hc.2.1 hc.2.2 hA.2.2.2.1 hc.1 (Or.inr (Or.inl ⟨v, rfl, hd, hr⟩))
    · cases hs
  · cases hs
theorem zs_return {call : Nat → List Value → zSg → Option zRs} {e0 : Nat} {out : zOut} (hA : zAt s D cy b bs Ln xs y k sl H locs ls L g) (hd : decode (zby y) pc = .ok (.return_, 1)) (hr : zrt y = none) (hs : zstep call (zal.getD y (0, 0)) (e0, .return_, 1, ax) pc k sl L st g = some out) (kk : zTo p l e R s m args below meth c Q D cy b bs Ln xs y out) : zG p l e R s m args below meth c Q b bs H locs k sl pc ls st := by
  simp only [zstep] at hs
  split at hs
  · split at hs
    · next hc =>
      cases hs
      exact kk pc k sl H locs ls hA.2.1 hA.2.2.1 hc.2.1 hc.2.2 hA.2.2.2.1 hc.1 (Or.inr (Or.inr ⟨rfl, hd, hr⟩))
    · cases hs
  · cases hs
end zS6

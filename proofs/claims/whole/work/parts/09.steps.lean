/-! a step of the abstract machine is a step of the machine: loads, stores, sums, jumps -/
section zS2
variable {p : Program} {l : Launch} {e : Env} {R : Room} {s : State} {m : MethodId} {args : Array Value} {below : List Frame} {meth : Method} {c : Code} {Q : State → Prop}
variable {D : va_G} {cy : Nat → ClassId} {b bs Ln : Nat} {xs : Nat → Int32} {y pc k sl : Nat} {H : Heap} {locs : List Loc} {ls : Array Slot} {L : zLc} {g : zSg} {st : List Value} {ax : List Nat}
theorem zs_iconst {al : Nat × Nat} {call : Nat → List Value → zSg → Option zRs} {e0 : Nat} {n : Int} {out : zOut} (C : zCx p R s m args meth c D cy b bs Ln xs y) (hA : zAt s D cy b bs Ln xs y k sl H locs ls L g) (hd : decode (zby y) pc = .ok (.iconst n, 1)) (hs : zstep call al (e0, .iconst n, 1, ax) pc k sl L st g = some out) (kk : zTo p l e R s m args below meth c Q D cy b bs Ln xs y out) : zG p l e R s m args below meth c Q b bs H locs k sl pc ls st := by
  obtain ⟨⟨hx, hb, hml, hown, hret, hlocks, hname⟩, hts, hK, hN, hX, hfr, hlo, hal⟩ := C
  simp only [zstep] at hs
  cases hs
  exact lv_iconst hx hb hd rfl (kk H locs ls hA)
theorem zs_bipush {al : Nat × Nat} {call : Nat → List Value → zSg → Option zRs} {e0 : Nat} {n : Int} {out : zOut} (C : zCx p R s m args meth c D cy b bs Ln xs y) (hA : zAt s D cy b bs Ln xs y k sl H locs ls L g) (hd : decode (zby y) pc = .ok (.bipush n, 2)) (hs : zstep call al (e0, .bipush n, 2, ax) pc k sl L st g = some out) (kk : zTo p l e R s m args below meth c Q D cy b bs Ln xs y out) : zG p l e R s m args below meth c Q b bs H locs k sl pc ls st := by
  obtain ⟨⟨hx, hb, hml, hown, hret, hlocks, hname⟩, hts, hK, hN, hX, hfr, hlo, hal⟩ := C
  simp only [zstep] at hs
  cases hs
  exact lv_bipush hx hb hd rfl (kk H locs ls hA)
theorem zs_sipush {al : Nat × Nat} {call : Nat → List Value → zSg → Option zRs} {e0 : Nat} {n : Int} {out : zOut} (C : zCx p R s m args meth c D cy b bs Ln xs y) (hA : zAt s D cy b bs Ln xs y k sl H locs ls L g) (hd : decode (zby y) pc = .ok (.sipush n, 3)) (hs : zstep call al (e0, .sipush n, 3, ax) pc k sl L st g = some out) (kk : zTo p l e R s m args below meth c Q D cy b bs Ln xs y out) : zG p l e R s m args below meth c Q b bs H locs k sl pc ls st := by
  obtain ⟨⟨hx, hb, hml, hown, hret, hlocks, hname⟩, hts, hK, hN, hX, hfr, hlo, hal⟩ := C
  simp only [zstep] at hs
  cases hs
  exact lv_sipush hx hb hd rfl (kk H locs ls hA)
theorem zs_lconst {al : Nat × Nat} {call : Nat → List Value → zSg → Option zRs} {e0 : Nat} {n : Fin 2} {out : zOut} (C : zCx p R s m args meth c D cy b bs Ln xs y) (hA : zAt s D cy b bs Ln xs y k sl H locs ls L g) (hd : decode (zby y) pc = .ok (.lconst n, 1)) (hs : zstep call al (e0, .lconst n, 1, ax) pc k sl L st g = some out) (kk : zTo p l e R s m args below meth c Q D cy b bs Ln xs y out) : zG p l e R s m args below meth c Q b bs H locs k sl pc ls st := by
  obtain ⟨⟨hx, hb, hml, hown, hret, hlocks, hname⟩, hts, hK, hN, hX, hfr, hlo, hal⟩ := C
  simp only [zstep] at hs
  cases hs
  exact lv_lconst hx hb hd rfl (kk H locs ls hA)
theorem zs_ldc_w {al : Nat × Nat} {call : Nat → List Value → zSg → Option zRs} {e0 : Nat} {i : Nat} {out : zOut} (C : zCx p R s m args meth c D cy b bs Ln xs y) (hA : zAt s D cy b bs Ln xs y k sl H locs ls L g) (hd : decode (zby y) pc = .ok (.ldc_w i, 3)) (hw : Jvm.Cond.constant (zow y) i (Int32.ofInt (zsgn ax)) ∈ zW) (hs : zstep call al (e0, .ldc_w i, 3, ax) pc k sl L st g = some out) (kk : zTo p l e R s m args below meth c Q D cy b bs Ln xs y out) : zG p l e R s m args below meth c Q b bs H locs k sl pc ls st := by
  obtain ⟨⟨hx, hb, hml, hown, hret, hlocks, hname⟩, hts, hK, hN, hX, hfr, hlo, hal⟩ := C
  simp only [zstep] at hs
  cases hs
  exact lv_ldcw hx hb hown (hts _ hw) hd (kk H locs ls hA)
theorem zs_ldc2_w {al : Nat × Nat} {call : Nat → List Value → zSg → Option zRs} {e0 : Nat} {i : Nat} {out : zOut} (C : zCx p R s m args meth c D cy b bs Ln xs y) (hA : zAt s D cy b bs Ln xs y k sl H locs ls L g) (hd : decode (zby y) pc = .ok (.ldc2_w i, 3)) (hw : Jvm.Cond.constantLong (zow y) i (Int64.ofInt (zsgn ax)) ∈ zW) (hs : zstep call al (e0, .ldc2_w i, 3, ax) pc k sl L st g = some out) (kk : zTo p l e R s m args below meth c Q D cy b bs Ln xs y out) : zG p l e R s m args below meth c Q b bs H locs k sl pc ls st := by
  obtain ⟨⟨hx, hb, hml, hown, hret, hlocks, hname⟩, hts, hK, hN, hX, hfr, hlo, hal⟩ := C
  simp only [zstep] at hs
  cases hs
  exact lv_ldc2 hx hb hown (hts _ hw) hd (kk H locs ls hA)
theorem zs_iload {al : Nat × Nat} {call : Nat → List Value → zSg → Option zRs} {e0 : Nat} {i : Nat} {out : zOut} (C : zCx p R s m args meth c D cy b bs Ln xs y) (hA : zAt s D cy b bs Ln xs y k sl H locs ls L g) (hd : decode (zby y) pc = .ok (.iload i, 2)) (hs : zstep call al (e0, .iload i, 2, ax) pc k sl L st g = some out) (kk : zTo p l e R s m args below meth c Q D cy b bs Ln xs y out) : zG p l e R s m args below meth c Q b bs H locs k sl pc ls st := by
  obtain ⟨⟨hx, hb, hml, hown, hret, hlocks, hname⟩, hts, hK, hN, hX, hfr, hlo, hal⟩ := C
  simp only [zstep] at hs
  split at hs
  · next x hx0 =>
    cases hs
    exact lv_iload hx hb hd (hA.1.2.2.2 _ _ hx0) (kk H locs ls hA)
  · cases hs
theorem zs_iload_n {al : Nat × Nat} {call : Nat → List Value → zSg → Option zRs} {e0 : Nat} {i : Fin 4} {out : zOut} (C : zCx p R s m args meth c D cy b bs Ln xs y) (hA : zAt s D cy b bs Ln xs y k sl H locs ls L g) (hd : decode (zby y) pc = .ok (.iload_n i, 1)) (hs : zstep call al (e0, .iload_n i, 1, ax) pc k sl L st g = some out) (kk : zTo p l e R s m args below meth c Q D cy b bs Ln xs y out) : zG p l e R s m args below meth c Q b bs H locs k sl pc ls st := by
  obtain ⟨⟨hx, hb, hml, hown, hret, hlocks, hname⟩, hts, hK, hN, hX, hfr, hlo, hal⟩ := C
  simp only [zstep] at hs
  split at hs
  · next x hx0 =>
    cases hs
    exact lv_iload_n hx hb hd rfl (hA.1.2.2.2 _ _ hx0) (kk H locs ls hA)
  · cases hs
theorem zs_aload {al : Nat × Nat} {call : Nat → List Value → zSg → Option zRs} {e0 : Nat} {i : Nat} {out : zOut} (C : zCx p R s m args meth c D cy b bs Ln xs y) (hA : zAt s D cy b bs Ln xs y k sl H locs ls L g) (hd : decode (zby y) pc = .ok (.aload i, 2)) (hs : zstep call al (e0, .aload i, 2, ax) pc k sl L st g = some out) (kk : zTo p l e R s m args below meth c Q D cy b bs Ln xs y out) : zG p l e R s m args below meth c Q b bs H locs k sl pc ls st := by
  obtain ⟨⟨hx, hb, hml, hown, hret, hlocks, hname⟩, hts, hK, hN, hX, hfr, hlo, hal⟩ := C
  simp only [zstep] at hs
  split at hs
  · next x hx0 =>
    cases hs
    exact lv_aload hx hb hd (hA.1.2.2.2 _ _ hx0) (kk H locs ls hA)
  · cases hs
theorem zs_aload_n {al : Nat × Nat} {call : Nat → List Value → zSg → Option zRs} {e0 : Nat} {i : Fin 4} {out : zOut} (C : zCx p R s m args meth c D cy b bs Ln xs y) (hA : zAt s D cy b bs Ln xs y k sl H locs ls L g) (hd : decode (zby y) pc = .ok (.aload_n i, 1)) (hs : zstep call al (e0, .aload_n i, 1, ax) pc k sl L st g = some out) (kk : zTo p l e R s m args below meth c Q D cy b bs Ln xs y out) : zG p l e R s m args below meth c Q b bs H locs k sl pc ls st := by
  obtain ⟨⟨hx, hb, hml, hown, hret, hlocks, hname⟩, hts, hK, hN, hX, hfr, hlo, hal⟩ := C
  simp only [zstep] at hs
  split at hs
  · next x hx0 =>
    cases hs
    exact lv_aload_n hx hb hd rfl (hA.1.2.2.2 _ _ hx0) (kk H locs ls hA)
  · cases hs
theorem zs_lload {al : Nat × Nat} {call : Nat → List Value → zSg → Option zRs} {e0 : Nat} {i : Nat} {out : zOut} (C : zCx p R s m args meth c D cy b bs Ln xs y) (hA : zAt s D cy b bs Ln xs y k sl H locs ls L g) (hd : decode (zby y) pc = .ok (.lload i, 2)) (hs : zstep call al (e0, .lload i, 2, ax) pc k sl L st g = some out) (kk : zTo p l e R s m args below meth c Q D cy b bs Ln xs y out) : zG p l e R s m args below meth c Q b bs H locs k sl pc ls st := by
  obtain ⟨⟨hx, hb, hml, hown, hret, hlocks, hname⟩, hts, hK, hN, hX, hfr, hlo, hal⟩ := C
  simp only [zstep] at hs
  split at hs
  · next x hx0 =>
    cases hs
    exact lv_lload hx hb hd (hA.1.2.2.2 _ _ hx0) (kk H locs ls hA)
  · cases hs
theorem zs_lload_n {al : Nat × Nat} {call : Nat → List Value → zSg → Option zRs} {e0 : Nat} {i : Fin 4} {out : zOut} (C : zCx p R s m args meth c D cy b bs Ln xs y) (hA : zAt s D cy b bs Ln xs y k sl H locs ls L g) (hd : decode (zby y) pc = .ok (.lload_n i, 1)) (hs : zstep call al (e0, .lload_n i, 1, ax) pc k sl L st g = some out) (kk : zTo p l e R s m args below meth c Q D cy b bs Ln xs y out) : zG p l e R s m args below meth c Q b bs H locs k sl pc ls st := by
  obtain ⟨⟨hx, hb, hml, hown, hret, hlocks, hname⟩, hts, hK, hN, hX, hfr, hlo, hal⟩ := C
  simp only [zstep] at hs
  split at hs
  · next x hx0 =>
    cases hs
    exact lv_lload_n hx hb hd rfl (hA.1.2.2.2 _ _ hx0) (kk H locs ls hA)
  · cases hs
theorem zs_istore {al : Nat × Nat} {call : Nat → List Value → zSg → Option zRs} {e0 : Nat} {i : Nat} {out : zOut} (C : zCx p R s m args meth c D cy b bs Ln xs y) (hA : zAt s D cy b bs Ln xs y k sl H locs ls L g) (hd : decode (zby y) pc = .ok (.istore i, 2)) (hs : zstep call al (e0, .istore i, 2, ax) pc k sl L st g = some out) (kk : zTo p l e R s m args below meth c Q D cy b bs Ln xs y out) : zG p l e R s m args below meth c Q b bs H locs k sl pc ls st := by
  obtain ⟨⟨hx, hb, hml, hown, hret, hlocks, hname⟩, hts, hK, hN, hX, hfr, hlo, hal⟩ := C
  simp only [zstep] at hs
  unfold zi1 at hs
  split at hs
  · next x r =>
    split at hs
    · next hi =>
      cases hs
      exact lv_istore hx hb hd hA.1.has (by rw [← hA.1.2.2.1]; exact hi) rfl (fun ls' hl' => kk H locs ls' (hA.st1 hi hl'))
    · cases hs
  · cases hs
theorem zs_istore_n {al : Nat × Nat} {call : Nat → List Value → zSg → Option zRs} {e0 : Nat} {i : Fin 4} {out : zOut} (C : zCx p R s m args meth c D cy b bs Ln xs y) (hA : zAt s D cy b bs Ln xs y k sl H locs ls L g) (hd : decode (zby y) pc = .ok (.istore_n i, 1)) (hs : zstep call al (e0, .istore_n i, 1, ax) pc k sl L st g = some out) (kk : zTo p l e R s m args below meth c Q D cy b bs Ln xs y out) : zG p l e R s m args below meth c Q b bs H locs k sl pc ls st := by
  obtain ⟨⟨hx, hb, hml, hown, hret, hlocks, hname⟩, hts, hK, hN, hX, hfr, hlo, hal⟩ := C
  simp only [zstep] at hs
  unfold zi1 at hs
  split at hs
  · next x r =>
    split at hs
    · next hi =>
      cases hs
      exact lv_istore_n hx hb hd rfl hA.1.has (by rw [← hA.1.2.2.1]; exact hi) rfl (fun ls' hl' => kk H locs ls' (hA.st1 hi hl'))
    · cases hs
  · cases hs
theorem zs_astore {al : Nat × Nat} {call : Nat → List Value → zSg → Option zRs} {e0 : Nat} {i : Nat} {out : zOut} (C : zCx p R s m args meth c D cy b bs Ln xs y) (hA : zAt s D cy b bs Ln xs y k sl H locs ls L g) (hd : decode (zby y) pc = .ok (.astore i, 2)) (hs : zstep call al (e0, .astore i, 2, ax) pc k sl L st g = some out) (kk : zTo p l e R s m args below meth c Q D cy b bs Ln xs y out) : zG p l e R s m args below meth c Q b bs H locs k sl pc ls st := by
  obtain ⟨⟨hx, hb, hml, hown, hret, hlocks, hname⟩, hts, hK, hN, hX, hfr, hlo, hal⟩ := C
  simp only [zstep] at hs
  unfold zr1 at hs
  split at hs
  · next x r =>
    split at hs
    · next hi =>
      cases hs
      exact lv_astore hx hb hd hA.1.has (by rw [← hA.1.2.2.1]; exact hi) rfl (fun ls' hl' => kk H locs ls' (hA.st1 hi hl'))
    · cases hs
  · cases hs
theorem zs_astore_n {al : Nat × Nat} {call : Nat → List Value → zSg → Option zRs} {e0 : Nat} {i : Fin 4} {out : zOut} (C : zCx p R s m args meth c D cy b bs Ln xs y) (hA : zAt s D cy b bs Ln xs y k sl H locs ls L g) (hd : decode (zby y) pc = .ok (.astore_n i, 1)) (hs : zstep call al (e0, .astore_n i, 1, ax) pc k sl L st g = some out) (kk : zTo p l e R s m args below meth c Q D cy b bs Ln xs y out) : zG p l e R s m args below meth c Q b bs H locs k sl pc ls st := by
  obtain ⟨⟨hx, hb, hml, hown, hret, hlocks, hname⟩, hts, hK, hN, hX, hfr, hlo, hal⟩ := C
  simp only [zstep] at hs
  unfold zr1 at hs
  split at hs
  · next x r =>
    split at hs
    · next hi =>
      cases hs
      exact lv_astore_n hx hb hd rfl hA.1.has (by rw [← hA.1.2.2.1]; exact hi) rfl (fun ls' hl' => kk H locs ls' (hA.st1 hi hl'))
    · cases hs
  · cases hs
theorem zs_iinc {al : Nat × Nat} {call : Nat → List Value → zSg → Option zRs} {e0 : Nat} {i : Nat} {n : Int} {out : zOut} (C : zCx p R s m args meth c D cy b bs Ln xs y) (hA : zAt s D cy b bs Ln xs y k sl H locs ls L g) (hd : decode (zby y) pc = .ok (.iinc i n, 3)) (hs : zstep call al (e0, .iinc i n, 3, ax) pc k sl L st g = some out) (kk : zTo p l e R s m args below meth c Q D cy b bs Ln xs y out) : zG p l e R s m args below meth c Q b bs H locs k sl pc ls st := by
  obtain ⟨⟨hx, hb, hml, hown, hret, hlocks, hname⟩, hts, hK, hN, hX, hfr, hlo, hal⟩ := C
  simp only [zstep] at hs
  split at hs
  · next x hx0 =>
    split at hs
    · next hi =>
      cases hs
      obtain ⟨kq, hkq⟩ := List.getElem?_of_mem (List.mem_map.mpr ⟨(i, Value.int x), zas_mem.mpr hx0, rfl⟩ : (i, zv b bs (Value.int x)) ∈ (zas L).map (fun q => (q.1, zv b bs q.2)))
      exact lv_iinc hx hb hd hA.1.has hkq rfl (by rw [← hA.1.2.2.1]; exact hi) rfl (fun ls' hl' => kk H locs ls' (hA.st1 hi hl'))
    · cases hs
  · cases hs
theorem zs_iadd {al : Nat × Nat} {call : Nat → List Value → zSg → Option zRs} {e0 : Nat} {out : zOut} (C : zCx p R s m args meth c D cy b bs Ln xs y) (hA : zAt s D cy b bs Ln xs y k sl H locs ls L g) (hd : decode (zby y) pc = .ok (.iadd, 1)) (hs : zstep call al (e0, .iadd, 1, ax) pc k sl L st g = some out) (kk : zTo p l e R s m args below meth c Q D cy b bs Ln xs y out) : zG p l e R s m args below meth c Q b bs H locs k sl pc ls st := by
  obtain ⟨⟨hx, hb, hml, hown, hret, hlocks, hname⟩, hts, hK, hN, hX, hfr, hlo, hal⟩ := C
  simp only [zstep] at hs
  unfold zi2 at hs
  split at hs
  · cases hs
    exact lv_iadd hx hb hd (kk H locs ls hA)
  · cases hs
theorem zs_isub {al : Nat × Nat} {call : Nat → List Value → zSg → Option zRs} {e0 : Nat} {out : zOut} (C : zCx p R s m args meth c D cy b bs Ln xs y) (hA : zAt s D cy b bs Ln xs y k sl H locs ls L g) (hd : decode (zby y) pc = .ok (.isub, 1)) (hs : zstep call al (e0, .isub, 1, ax) pc k sl L st g = some out) (kk : zTo p l e R s m args below meth c Q D cy b bs Ln xs y out) : zG p l e R s m args below meth c Q b bs H locs k sl pc ls st := by
  obtain ⟨⟨hx, hb, hml, hown, hret, hlocks, hname⟩, hts, hK, hN, hX, hfr, hlo, hal⟩ := C
  simp only [zstep] at hs
  unfold zi2 at hs
  split at hs
  · cases hs
    exact lv_isub hx hb hd (kk H locs ls hA)
  · cases hs
theorem zs_imul {al : Nat × Nat} {call : Nat → List Value → zSg → Option zRs} {e0 : Nat} {out : zOut} (C : zCx p R s m args meth c D cy b bs Ln xs y) (hA : zAt s D cy b bs Ln xs y k sl H locs ls L g) (hd : decode (zby y) pc = .ok (.imul, 1)) (hs : zstep call al (e0, .imul, 1, ax) pc k sl L st g = some out) (kk : zTo p l e R s m args below meth c Q D cy b bs Ln xs y out) : zG p l e R s m args below meth c Q b bs H locs k sl pc ls st := by
  obtain ⟨⟨hx, hb, hml, hown, hret, hlocks, hname⟩, hts, hK, hN, hX, hfr, hlo, hal⟩ := C
  simp only [zstep] at hs
  unfold zi2 at hs
  split at hs
  · cases hs
    exact lv_imul hx hb hd (kk H locs ls hA)
  · cases hs
theorem zs_iand {al : Nat × Nat} {call : Nat → List Value → zSg → Option zRs} {e0 : Nat} {out : zOut} (C : zCx p R s m args meth c D cy b bs Ln xs y) (hA : zAt s D cy b bs Ln xs y k sl H locs ls L g) (hd : decode (zby y) pc = .ok (.iand, 1)) (hs : zstep call al (e0, .iand, 1, ax) pc k sl L st g = some out) (kk : zTo p l e R s m args below meth c Q D cy b bs Ln xs y out) : zG p l e R s m args below meth c Q b bs H locs k sl pc ls st := by
  obtain ⟨⟨hx, hb, hml, hown, hret, hlocks, hname⟩, hts, hK, hN, hX, hfr, hlo, hal⟩ := C
  simp only [zstep] at hs
  unfold zi2 at hs
  split at hs
  · cases hs
    exact lv_iand hx hb hd (kk H locs ls hA)
  · cases hs
theorem zs_ior {al : Nat × Nat} {call : Nat → List Value → zSg → Option zRs} {e0 : Nat} {out : zOut} (C : zCx p R s m args meth c D cy b bs Ln xs y) (hA : zAt s D cy b bs Ln xs y k sl H locs ls L g) (hd : decode (zby y) pc = .ok (.ior, 1)) (hs : zstep call al (e0, .ior, 1, ax) pc k sl L st g = some out) (kk : zTo p l e R s m args below meth c Q D cy b bs Ln xs y out) : zG p l e R s m args below meth c Q b bs H locs k sl pc ls st := by
  obtain ⟨⟨hx, hb, hml, hown, hret, hlocks, hname⟩, hts, hK, hN, hX, hfr, hlo, hal⟩ := C
  simp only [zstep] at hs
  unfold zi2 at hs
  split at hs
  · cases hs
    exact lv_ior hx hb hd (kk H locs ls hA)
  · cases hs
theorem zs_ixor {al : Nat × Nat} {call : Nat → List Value → zSg → Option zRs} {e0 : Nat} {out : zOut} (C : zCx p R s m args meth c D cy b bs Ln xs y) (hA : zAt s D cy b bs Ln xs y k sl H locs ls L g) (hd : decode (zby y) pc = .ok (.ixor, 1)) (hs : zstep call al (e0, .ixor, 1, ax) pc k sl L st g = some out) (kk : zTo p l e R s m args below meth c Q D cy b bs Ln xs y out) : zG p l e R s m args below meth c Q b bs H locs k sl pc ls st := by
  obtain ⟨⟨hx, hb, hml, hown, hret, hlocks, hname⟩, hts, hK, hN, hX, hfr, hlo, hal⟩ := C
  simp only [zstep] at hs
  unfold zi2 at hs
  split at hs
  · cases hs
    exact lv_ixor hx hb hd (kk H locs ls hA)
  · cases hs
theorem zs_ishl {al : Nat × Nat} {call : Nat → List Value → zSg → Option zRs} {e0 : Nat} {out : zOut} (C : zCx p R s m args meth c D cy b bs Ln xs y) (hA : zAt s D cy b bs Ln xs y k sl H locs ls L g) (hd : decode (zby y) pc = .ok (.ishl, 1)) (hs : zstep call al (e0, .ishl, 1, ax) pc k sl L st g = some out) (kk : zTo p l e R s m args below meth c Q D cy b bs Ln xs y out) : zG p l e R s m args below meth c Q b bs H locs k sl pc ls st := by
  obtain ⟨⟨hx, hb, hml, hown, hret, hlocks, hname⟩, hts, hK, hN, hX, hfr, hlo, hal⟩ := C
  simp only [zstep] at hs
  unfold zi2 at hs
  split at hs
  · cases hs
    exact lv_ishl hx hb hd (kk H locs ls hA)
  · cases hs
theorem zs_ishr {al : Nat × Nat} {call : Nat → List Value → zSg → Option zRs} {e0 : Nat} {out : zOut} (C : zCx p R s m args meth c D cy b bs Ln xs y) (hA : zAt s D cy b bs Ln xs y k sl H locs ls L g) (hd : decode (zby y) pc = .ok (.ishr, 1)) (hs : zstep call al (e0, .ishr, 1, ax) pc k sl L st g = some out) (kk : zTo p l e R s m args below meth c Q D cy b bs Ln xs y out) : zG p l e R s m args below meth c Q b bs H locs k sl pc ls st := by
  obtain ⟨⟨hx, hb, hml, hown, hret, hlocks, hname⟩, hts, hK, hN, hX, hfr, hlo, hal⟩ := C
  simp only [zstep] at hs
  unfold zi2 at hs
  split at hs
  · cases hs
    exact lv_ishr hx hb hd (kk H locs ls hA)
  · cases hs
theorem zs_iushr {al : Nat × Nat} {call : Nat → List Value → zSg → Option zRs} {e0 : Nat} {out : zOut} (C : zCx p R s m args meth c D cy b bs Ln xs y) (hA : zAt s D cy b bs Ln xs y k sl H locs ls L g) (hd : decode (zby y) pc = .ok (.iushr, 1)) (hs : zstep call al (e0, .iushr, 1, ax) pc k sl L st g = some out) (kk : zTo p l e R s m args below meth c Q D cy b bs Ln xs y out) : zG p l e R s m args below meth c Q b bs H locs k sl pc ls st := by
  obtain ⟨⟨hx, hb, hml, hown, hret, hlocks, hname⟩, hts, hK, hN, hX, hfr, hlo, hal⟩ := C
  simp only [zstep] at hs
  unfold zi2 at hs
  split at hs
  · cases hs
    exact lv_iushr hx hb hd rfl (kk H locs ls hA)
  · cases hs
theorem zs_idiv {al : Nat × Nat} {call : Nat → List Value → zSg → Option zRs} {e0 : Nat} {out : zOut} (C : zCx p R s m args meth c D cy b bs Ln xs y) (hA : zAt s D cy b bs Ln xs y k sl H locs ls L g) (hd : decode (zby y) pc = .ok (.idiv, 1)) (hs : zstep call al (e0, .idiv, 1, ax) pc k sl L st g = some out) (kk : zTo p l e R s m args below meth c Q D cy b bs Ln xs y out) : zG p l e R s m args below meth c Q b bs H locs k sl pc ls st := by
  obtain ⟨⟨hx, hb, hml, hown, hret, hlocks, hname⟩, hts, hK, hN, hX, hfr, hlo, hal⟩ := C
  simp only [zstep] at hs
  unfold zi2 at hs
  split at hs
  · dsimp only at hs
    split at hs
    · cases hs
    · next h0 =>
      cases hs
      exact lv_idiv hx hb hd h0 (kk H locs ls hA)
  · cases hs
theorem zs_irem {al : Nat × Nat} {call : Nat → List Value → zSg → Option zRs} {e0 : Nat} {out : zOut} (C : zCx p R s m args meth c D cy b bs Ln xs y) (hA : zAt s D cy b bs Ln xs y k sl H locs ls L g) (hd : decode (zby y) pc = .ok (.irem, 1)) (hs : zstep call al (e0, .irem, 1, ax) pc k sl L st g = some out) (kk : zTo p l e R s m args below meth c Q D cy b bs Ln xs y out) : zG p l e R s m args below meth c Q b bs H locs k sl pc ls st := by
  obtain ⟨⟨hx, hb, hml, hown, hret, hlocks, hname⟩, hts, hK, hN, hX, hfr, hlo, hal⟩ := C
  simp only [zstep] at hs
  unfold zi2 at hs
  split at hs
  · dsimp only at hs
    split at hs
    · cases hs
    · next h0 =>
      cases hs
      exact lv_irem hx hb hd h0 (kk H locs ls hA)
  · cases hs
theorem zs_ineg {al : Nat × Nat} {call : Nat → List Value → zSg → Option zRs} {e0 : Nat} {out : zOut} (C : zCx p R s m args meth c D cy b bs Ln xs y) (hA : zAt s D cy b bs Ln xs y k sl H locs ls L g) (hd : decode (zby y) pc = .ok (.ineg, 1)) (hs : zstep call al (e0, .ineg, 1, ax) pc k sl L st g = some out) (kk : zTo p l e R s m args below meth c Q D cy b bs Ln xs y out) : zG p l e R s m args below meth c Q b bs H locs k sl pc ls st := by
  obtain ⟨⟨hx, hb, hml, hown, hret, hlocks, hname⟩, hts, hK, hN, hX, hfr, hlo, hal⟩ := C
  simp only [zstep] at hs
  unfold zi1 at hs
  split at hs
  · cases hs
    exact lv_ineg hx hb hd (kk H locs ls hA)
  · cases hs
theorem zs_i2l {al : Nat × Nat} {call : Nat → List Value → zSg → Option zRs} {e0 : Nat} {out : zOut} (C : zCx p R s m args meth c D cy b bs Ln xs y) (hA : zAt s D cy b bs Ln xs y k sl H locs ls L g) (hd : decode (zby y) pc = .ok (.i2l, 1)) (hs : zstep call al (e0, .i2l, 1, ax) pc k sl L st g = some out) (kk : zTo p l e R s m args below meth c Q D cy b bs Ln xs y out) : zG p l e R s m args below meth c Q b bs H locs k sl pc ls st := by
  obtain ⟨⟨hx, hb, hml, hown, hret, hlocks, hname⟩, hts, hK, hN, hX, hfr, hlo, hal⟩ := C
  simp only [zstep] at hs
  unfold zi1 at hs
  split at hs
  · cases hs
    exact lv_i2l hx hb hd rfl (kk H locs ls hA)
  · cases hs
theorem zs_i2b {al : Nat × Nat} {call : Nat → List Value → zSg → Option zRs} {e0 : Nat} {out : zOut} (C : zCx p R s m args meth c D cy b bs Ln xs y) (hA : zAt s D cy b bs Ln xs y k sl H locs ls L g) (hd : decode (zby y) pc = .ok (.i2b, 1)) (hs : zstep call al (e0, .i2b, 1, ax) pc k sl L st g = some out) (kk : zTo p l e R s m args below meth c Q D cy b bs Ln xs y out) : zG p l e R s m args below meth c Q b bs H locs k sl pc ls st := by
  obtain ⟨⟨hx, hb, hml, hown, hret, hlocks, hname⟩, hts, hK, hN, hX, hfr, hlo, hal⟩ := C
  simp only [zstep] at hs
  unfold zi1 at hs
  split at hs
  · cases hs
    exact lv_i2b hx hb hd rfl (kk H locs ls hA)
  · cases hs
theorem zs_i2s {al : Nat × Nat} {call : Nat → List Value → zSg → Option zRs} {e0 : Nat} {out : zOut} (C : zCx p R s m args meth c D cy b bs Ln xs y) (hA : zAt s D cy b bs Ln xs y k sl H locs ls L g) (hd : decode (zby y) pc = .ok (.i2s, 1)) (hs : zstep call al (e0, .i2s, 1, ax) pc k sl L st g = some out) (kk : zTo p l e R s m args below meth c Q D cy b bs Ln xs y out) : zG p l e R s m args below meth c Q b bs H locs k sl pc ls st := by
  obtain ⟨⟨hx, hb, hml, hown, hret, hlocks, hname⟩, hts, hK, hN, hX, hfr, hlo, hal⟩ := C
  simp only [zstep] at hs
  unfold zi1 at hs
  split at hs
  · cases hs
    exact lv_i2s hx hb hd rfl (kk H locs ls hA)
  · cases hs
theorem zs_ladd {al : Nat × Nat} {call : Nat → List Value → zSg → Option zRs} {e0 : Nat} {out : zOut} (C : zCx p R s m args meth c D cy b bs Ln xs y) (hA : zAt s D cy b bs Ln xs y k sl H locs ls L g) (hd : decode (zby y) pc = .ok (.ladd, 1)) (hs : zstep call al (e0, .ladd, 1, ax) pc k sl L st g = some out) (kk : zTo p l e R s m args below meth c Q D cy b bs Ln xs y out) : zG p l e R s m args below meth c Q b bs H locs k sl pc ls st := by
  obtain ⟨⟨hx, hb, hml, hown, hret, hlocks, hname⟩, hts, hK, hN, hX, hfr, hlo, hal⟩ := C
  simp only [zstep] at hs
  unfold zl2 at hs
  split at hs
  · cases hs
    exact lv_ladd hx hb hd (kk H locs ls hA)
  · cases hs
theorem zs_lsub {al : Nat × Nat} {call : Nat → List Value → zSg → Option zRs} {e0 : Nat} {out : zOut} (C : zCx p R s m args meth c D cy b bs Ln xs y) (hA : zAt s D cy b bs Ln xs y k sl H locs ls L g) (hd : decode (zby y) pc = .ok (.lsub, 1)) (hs : zstep call al (e0, .lsub, 1, ax) pc k sl L st g = some out) (kk : zTo p l e R s m args below meth c Q D cy b bs Ln xs y out) : zG p l e R s m args below meth c Q b bs H locs k sl pc ls st := by
  obtain ⟨⟨hx, hb, hml, hown, hret, hlocks, hname⟩, hts, hK, hN, hX, hfr, hlo, hal⟩ := C
  simp only [zstep] at hs
  unfold zl2 at hs
  split at hs
  · cases hs
    exact lv_lsub hx hb hd (kk H locs ls hA)
  · cases hs
theorem zs_lcmp {al : Nat × Nat} {call : Nat → List Value → zSg → Option zRs} {e0 : Nat} {out : zOut} (C : zCx p R s m args meth c D cy b bs Ln xs y) (hA : zAt s D cy b bs Ln xs y k sl H locs ls L g) (hd : decode (zby y) pc = .ok (.lcmp, 1)) (hs : zstep call al (e0, .lcmp, 1, ax) pc k sl L st g = some out) (kk : zTo p l e R s m args below meth c Q D cy b bs Ln xs y out) : zG p l e R s m args below meth c Q b bs H locs k sl pc ls st := by
  obtain ⟨⟨hx, hb, hml, hown, hret, hlocks, hname⟩, hts, hK, hN, hX, hfr, hlo, hal⟩ := C
  simp only [zstep] at hs
  unfold zl2 at hs
  split at hs
  · cases hs
    exact W.lcmp hx hb hd (kk H locs ls hA)
  · cases hs
theorem zs_dup {al : Nat × Nat} {call : Nat → List Value → zSg → Option zRs} {e0 : Nat} {out : zOut} (C : zCx p R s m args meth c D cy b bs Ln xs y) (hA : zAt s D cy b bs Ln xs y k sl H locs ls L g) (hd : decode (zby y) pc = .ok (.dup, 1)) (hs : zstep call al (e0, .dup, 1, ax) pc k sl L st g = some out) (kk : zTo p l e R s m args below meth c Q D cy b bs Ln xs y out) : zG p l e R s m args below meth c Q b bs H locs k sl pc ls st := by
  obtain ⟨⟨hx, hb, hml, hown, hret, hlocks, hname⟩, hts, hK, hN, hX, hfr, hlo, hal⟩ := C
  simp only [zstep] at hs
  split at hs
  · next v r =>
    split at hs
    · next hv =>
      cases hs
      exact lv_dup hx hb hd ((zv_cat b bs v).trans hv) (kk H locs ls hA)
    · cases hs
  · cases hs
theorem zs_dup2 {al : Nat × Nat} {call : Nat → List Value → zSg → Option zRs} {e0 : Nat} {out : zOut} (C : zCx p R s m args meth c D cy b bs Ln xs y) (hA : zAt s D cy b bs Ln xs y k sl H locs ls L g) (hd : decode (zby y) pc = .ok (.dup2, 1)) (hs : zstep call al (e0, .dup2, 1, ax) pc k sl L st g = some out) (kk : zTo p l e R s m args below meth c Q D cy b bs Ln xs y out) : zG p l e R s m args below meth c Q b bs H locs k sl pc ls st := by
  obtain ⟨⟨hx, hb, hml, hown, hret, hlocks, hname⟩, hts, hK, hN, hX, hfr, hlo, hal⟩ := C
  simp only [zstep] at hs
  split at hs
  · next v w r =>
    split at hs
    · next hv =>
      cases hs
      exact lv_dup2_11 hx hb hd ((zv_cat b bs v).trans hv.1) ((zv_cat b bs w).trans hv.2) (kk H locs ls hA)
    · cases hs
  · cases hs
theorem zjmp_spec {α : Type} {off : Int} {f : Nat → Option α} {x : α} (h : zjmp pc off f = some x) : ∃ t : Nat, (pc : Int) + off = (t : Int) ∧ f t = some x := by
  unfold zjmp at h
  split at h
  · next h0 => exact ⟨((pc : Int) + off).toNat, (Int.toNat_of_nonneg h0).symm, h⟩
  · cases h
theorem zs_goto {al : Nat × Nat} {call : Nat → List Value → zSg → Option zRs} {e0 : Nat} {off : Int} {out : zOut} (C : zCx p R s m args meth c D cy b bs Ln xs y) (hA : zAt s D cy b bs Ln xs y k sl H locs ls L g) (hd : decode (zby y) pc = .ok (.goto off, 3)) (hs : zstep call al (e0, .goto off, 3, ax) pc k sl L st g = some out) (kk : zTo p l e R s m args below meth c Q D cy b bs Ln xs y out) : zG p l e R s m args below meth c Q b bs H locs k sl pc ls st := by
  obtain ⟨⟨hx, hb, hml, hown, hret, hlocks, hname⟩, hts, hK, hN, hX, hfr, hlo, hal⟩ := C
  simp only [zstep] at hs
  obtain ⟨t, ht, h1⟩ := zjmp_spec hs
  cases h1
  exact lv_goto hx hb hd ht (kk H locs ls hA)
theorem zs_if {al : Nat × Nat} {call : Nat → List Value → zSg → Option zRs} {e0 : Nat} {cd : ClassFile.Cond} {off : Int} {out : zOut} (C : zCx p R s m args meth c D cy b bs Ln xs y) (hA : zAt s D cy b bs Ln xs y k sl H locs ls L g) (hd : decode (zby y) pc = .ok (.ifCond cd off, 3)) (hj : 0 ≤ (pc : Int) + off) (hs : zstep call al (e0, .ifCond cd off, 3, ax) pc k sl L st g = some out) (kk : zTo p l e R s m args below meth c Q D cy b bs Ln xs y out) : zG p l e R s m args below meth c Q b bs H locs k sl pc ls st := by
  obtain ⟨⟨hx, hb, hml, hown, hret, hlocks, hname⟩, hts, hK, hN, hX, hfr, hlo, hal⟩ := C
  simp only [zstep] at hs
  unfold zi1 at hs
  split at hs
  · next x0 r =>
    dsimp only at hs
    cases cd
    · by_cases hc : zcnd .eq x0 0 = true
      · rw [if_pos hc] at hs
        obtain ⟨t, ht, h1⟩ := zjmp_spec hs
        cases h1
        exact lv_if_eq hx hb hd ht (fun _ => kk H locs ls hA) (fun h => absurd (of_decide_eq_true hc) h)
      · rw [if_neg hc] at hs
        cases hs
        exact lv_if_eq (tgt := ((pc : Int) + off).toNat) hx hb hd (Int.toNat_of_nonneg hj).symm (fun h => absurd (decide_eq_true h) hc) (fun _ => kk H locs ls hA)
    · by_cases hc : zcnd .ne x0 0 = true
      · rw [if_pos hc] at hs
        obtain ⟨t, ht, h1⟩ := zjmp_spec hs
        cases h1
        exact lv_if_ne hx hb hd ht (fun _ => kk H locs ls hA) (fun h => absurd h (of_decide_eq_true hc))
      · rw [if_neg hc] at hs
        cases hs
        exact lv_if_ne (tgt := ((pc : Int) + off).toNat) hx hb hd (Int.toNat_of_nonneg hj).symm (fun h => absurd (decide_eq_true h) hc) (fun _ => kk H locs ls hA)
    · by_cases hc : zcnd .lt x0 0 = true
      · rw [if_pos hc] at hs
        obtain ⟨t, ht, h1⟩ := zjmp_spec hs
        cases h1
        exact lv_if_lt hx hb hd ht (fun _ => kk H locs ls hA) (fun h => absurd (of_decide_eq_true hc) h)
      · rw [if_neg hc] at hs
        cases hs
        exact lv_if_lt (tgt := ((pc : Int) + off).toNat) hx hb hd (Int.toNat_of_nonneg hj).symm (fun h => absurd (decide_eq_true h) hc) (fun _ => kk H locs ls hA)
    · by_cases hc : zcnd .ge x0 0 = true
      · rw [if_pos hc] at hs
        obtain ⟨t, ht, h1⟩ := zjmp_spec hs
        cases h1
        exact lv_if_ge hx hb hd ht (fun _ => kk H locs ls hA) (fun h => absurd (of_decide_eq_true hc) h)
      · rw [if_neg hc] at hs
        cases hs
        exact lv_if_ge (tgt := ((pc : Int) + off).toNat) hx hb hd (Int.toNat_of_nonneg hj).symm (fun h => absurd (decide_eq_true h) hc) (fun _ => kk H locs ls hA)
    · by_cases hc : zcnd .gt x0 0 = true
      · rw [if_pos hc] at hs
        obtain ⟨t, ht, h1⟩ := zjmp_spec hs
        cases h1
        exact lv_if_gt hx hb hd ht (fun _ => kk H locs ls hA) (fun h => absurd (of_decide_eq_true hc) h)
      · rw [if_neg hc] at hs
        cases hs
        exact lv_if_gt (tgt := ((pc : Int) + off).toNat) hx hb hd (Int.toNat_of_nonneg hj).symm (fun h => absurd (decide_eq_true h) hc) (fun _ => kk H locs ls hA)
    · by_cases hc : zcnd .le x0 0 = true
      · rw [if_pos hc] at hs
        obtain ⟨t, ht, h1⟩ := zjmp_spec hs
        cases h1
        exact lv_if_le hx hb hd ht (fun _ => kk H locs ls hA) (fun h => absurd (of_decide_eq_true hc) h)
      · rw [if_neg hc] at hs
        cases hs
        exact lv_if_le (tgt := ((pc : Int) + off).toNat) hx hb hd (Int.toNat_of_nonneg hj).symm (fun h => absurd (decide_eq_true h) hc) (fun _ => kk H locs ls hA)
  · cases hs
theorem zs_icmp {al : Nat × Nat} {call : Nat → List Value → zSg → Option zRs} {e0 : Nat} {cd : ClassFile.Cond} {off : Int} {out : zOut} (C : zCx p R s m args meth c D cy b bs Ln xs y) (hA : zAt s D cy b bs Ln xs y k sl H locs ls L g) (hd : decode (zby y) pc = .ok (.if_icmp cd off, 3)) (hj : 0 ≤ (pc : Int) + off) (hs : zstep call al (e0, .if_icmp cd off, 3, ax) pc k sl L st g = some out) (kk : zTo p l e R s m args below meth c Q D cy b bs Ln xs y out) : zG p l e R s m args below meth c Q b bs H locs k sl pc ls st := by
  obtain ⟨⟨hx, hb, hml, hown, hret, hlocks, hname⟩, hts, hK, hN, hX, hfr, hlo, hal⟩ := C
  simp only [zstep] at hs
  unfold zi2 at hs
  split at hs
  · next y0 x0 r =>
    dsimp only at hs
    cases cd
    · by_cases hc : zcnd .eq x0 y0 = true
      · rw [if_pos hc] at hs
        obtain ⟨t, ht, h1⟩ := zjmp_spec hs
        cases h1
        exact lv_icmp_eq hx hb hd ht (fun _ => kk H locs ls hA) (fun h => absurd (of_decide_eq_true hc) h)
      · rw [if_neg hc] at hs
        cases hs
        exact lv_icmp_eq (tgt := ((pc : Int) + off).toNat) hx hb hd (Int.toNat_of_nonneg hj).symm (fun h => absurd (decide_eq_true h) hc) (fun _ => kk H locs ls hA)
    · by_cases hc : zcnd .ne x0 y0 = true
      · rw [if_pos hc] at hs
        obtain ⟨t, ht, h1⟩ := zjmp_spec hs
        cases h1
        exact lv_icmp_ne hx hb hd ht (fun _ => kk H locs ls hA) (fun h => absurd h (of_decide_eq_true hc))
      · rw [if_neg hc] at hs
        cases hs
        exact lv_icmp_ne (tgt := ((pc : Int) + off).toNat) hx hb hd (Int.toNat_of_nonneg hj).symm (fun h => absurd (decide_eq_true h) hc) (fun _ => kk H locs ls hA)
    · by_cases hc : zcnd .lt x0 y0 = true
      · rw [if_pos hc] at hs
        obtain ⟨t, ht, h1⟩ := zjmp_spec hs
        cases h1
        exact lv_icmp_lt hx hb hd ht (fun _ => kk H locs ls hA) (fun h => absurd (of_decide_eq_true hc) h)
      · rw [if_neg hc] at hs
        cases hs
        exact lv_icmp_lt (tgt := ((pc : Int) + off).toNat) hx hb hd (Int.toNat_of_nonneg hj).symm (fun h => absurd (decide_eq_true h) hc) (fun _ => kk H locs ls hA)
    · by_cases hc : zcnd .ge x0 y0 = true
      · rw [if_pos hc] at hs
        obtain ⟨t, ht, h1⟩ := zjmp_spec hs
        cases h1
        exact lv_icmp_ge hx hb hd ht (fun _ => kk H locs ls hA) (fun h => absurd (of_decide_eq_true hc) h)
      · rw [if_neg hc] at hs
        cases hs
        exact lv_icmp_ge (tgt := ((pc : Int) + off).toNat) hx hb hd (Int.toNat_of_nonneg hj).symm (fun h => absurd (decide_eq_true h) hc) (fun _ => kk H locs ls hA)
    · by_cases hc : zcnd .gt x0 y0 = true
      · rw [if_pos hc] at hs
        obtain ⟨t, ht, h1⟩ := zjmp_spec hs
        cases h1
        exact lv_icmp_gt hx hb hd ht (fun _ => kk H locs ls hA) (fun h => absurd (of_decide_eq_true hc) h)
      · rw [if_neg hc] at hs
        cases hs
        exact lv_icmp_gt (tgt := ((pc : Int) + off).toNat) hx hb hd (Int.toNat_of_nonneg hj).symm (fun h => absurd (decide_eq_true h) hc) (fun _ => kk H locs ls hA)
    · by_cases hc : zcnd .le x0 y0 = true
      · rw [if_pos hc] at hs
        obtain ⟨t, ht, h1⟩ := zjmp_spec hs
        cases h1
        exact lv_icmp_le hx hb hd ht (fun _ => kk H locs ls hA) (fun h => absurd (of_decide_eq_true hc) h)
      · rw [if_neg hc] at hs
        cases hs
        exact lv_icmp_le (tgt := ((pc : Int) + off).toNat) hx hb hd (Int.toNat_of_nonneg hj).symm (fun h => absurd (decide_eq_true h) hc) (fun _ => kk H locs ls hA)
  · cases hs
theorem zsw_lookup (x d : Int) : ∀ ps : List (Int × Int), Op.lookupswitch.offset ps d x = zsw x d ps
  | [] => rfl
  | (a, o) :: t => by
    rw [Op.lookupswitch.offset_cons]
    simp only [zsw]
    by_cases h : x = a
    · subst h; simp
    · have h2 : ¬ a = x := fun q => h q.symm
      first | rw [if_neg h, if_neg h, zsw_lookup x d t] | rw [if_neg h2, if_neg h, zsw_lookup x d t]
theorem zs_lookupswitch {al : Nat × Nat} {call : Nat → List Value → zSg → Option zRs} {e0 : Nat} {d : Int} {ps : Array (Int × Int)} {len : Nat} {out : zOut} (C : zCx p R s m args meth c D cy b bs Ln xs y) (hA : zAt s D cy b bs Ln xs y k sl H locs ls L g) (hd : decode (zby y) pc = .ok (.lookupswitch d ps, len)) (hp : (ps.toList.zip (ps.toList.drop 1)).all (fun (a, next) => a.1 < next.1) = true) (hs : zstep call al (e0, .lookupswitch d ps, len, ax) pc k sl L st g = some out) (kk : zTo p l e R s m args below meth c Q D cy b bs Ln xs y out) : zG p l e R s m args below meth c Q b bs H locs k sl pc ls st := by
  obtain ⟨⟨hx, hb, hml, hown, hret, hlocks, hname⟩, hts, hK, hN, hX, hfr, hlo, hal⟩ := C
  simp only [zstep] at hs
  unfold zi1 at hs
  split at hs
  · obtain ⟨t, ht, h1⟩ := zjmp_spec hs
    cases h1
    exact lv_lookup hx hb hd hp (zsw_lookup _ _ _) ht (kk H locs ls hA)
  · cases hs
theorem zsw_keys (x d : Int) : ∀ (lo : Int) (os : List Int), (x < lo ∨ lo + os.length ≤ x → zsw x d (zkeys lo os) = d) ∧ (lo ≤ x → x < lo + os.length → os[(x - lo).toNat]? = some (zsw x d (zkeys lo os)))
  | lo, [] => ⟨fun _ => rfl, fun h1 h2 => by simp at h2; omega⟩
  | lo, o :: t => by
    obtain ⟨i1, i2⟩ := zsw_keys x d (lo + 1) t
    refine ⟨fun h => ?_, fun h1 h2 => ?_⟩
    · simp only [zkeys, zsw, List.length_cons] at h ⊢
      rw [if_neg (by omega)]
      exact i1 (by omega)
    · simp only [zkeys, zsw, List.length_cons] at h2 ⊢
      by_cases hx : x = lo
      · subst hx; simp
      · rw [if_neg hx, show (x - lo).toNat = (x - (lo + 1)).toNat + 1 by omega, List.getElem?_cons_succ]
        exact i2 (by omega) (by omega)
theorem zs_tableswitch {al : Nat × Nat} {call : Nat → List Value → zSg → Option zRs} {e0 : Nat} {d lo hi : Int} {offs : Array Int} {len : Nat} {out : zOut} (C : zCx p R s m args meth c D cy b bs Ln xs y) (hA : zAt s D cy b bs Ln xs y k sl H locs ls L g) (hd : decode (zby y) pc = .ok (.tableswitch d lo hi offs, len)) (hh : hi = lo + offs.size - 1) (hs : zstep call al (e0, .tableswitch d lo hi offs, len, ax) pc k sl L st g = some out) (kk : zTo p l e R s m args below meth c Q D cy b bs Ln xs y out) : zG p l e R s m args below meth c Q b bs H locs k sl pc ls st := by
  obtain ⟨⟨hx, hb, hml, hown, hret, hlocks, hname⟩, hts, hK, hN, hX, hfr, hlo, hal⟩ := C
  simp only [zstep] at hs
  unfold zi1 at hs
  split at hs
  · next x r =>
    obtain ⟨t, ht, h1⟩ := zjmp_spec hs
    cases h1
    obtain ⟨k1, k2⟩ := zsw_keys x.toInt d lo offs.toList
    by_cases hq : x.toInt < lo ∨ hi < x.toInt
    · rw [k1 (by rw [Array.length_toList]; omega)] at ht
      exact lv_tableOut hx hb hd hq ht (kk H locs ls hA)
    · have h3 := k2 (by omega) (by rw [Array.length_toList]; omega)
      rw [Array.getElem?_toList] at h3
      exact lv_tableIn hx hb hd (fun q => hq (Or.inl q)) (fun q => hq (Or.inr q)) h3 ht (kk H locs ls hA)
  · cases hs
end zS2

/-! RUNS of the abstract machine, without counting steps -/
theorem zstep_mono {call call' : Nat → List Value → zSg → Option zRs} (h : ∀ z as g q, call z as g = some q → call' z as g = some q) {al : Nat × Nat} {en : zEn} {pc k sl : Nat} {L : zLc} {st : List Value} {g : zSg} {out : zOut} (hs : zstep call al en pc k sl L st g = some out) : zstep call' al en pc k sl L st g = some out := by
  obtain ⟨e0, ins, len, ax⟩ := en
  have hcal : ∀ {np z : Nat} {as r : List Value}, (if k + (zal.getD z (0, 0)).1 ≤ al.1 ∧ sl + (zal.getD z (0, 0)).2 ≤ al.2 ∧ zcs r ≤ 8 then
      match call z as g with
      | some (some v, g') => some (.inl (np, k + (zal.getD z (0, 0)).1, sl + (zal.getD z (0, 0)).2, L, v :: r, g'))
      | some (none, g') => some (.inl (np, k + (zal.getD z (0, 0)).1, sl + (zal.getD z (0, 0)).2, L, r, g'))
      | none => none
    else none : Option zOut) = some out → (if k + (zal.getD z (0, 0)).1 ≤ al.1 ∧ sl + (zal.getD z (0, 0)).2 ≤ al.2 ∧ zcs r ≤ 8 then
      match call' z as g with
      | some (some v, g') => some (.inl (np, k + (zal.getD z (0, 0)).1, sl + (zal.getD z (0, 0)).2, L, v :: r, g'))
      | some (none, g') => some (.inl (np, k + (zal.getD z (0, 0)).1, sl + (zal.getD z (0, 0)).2, L, r, g'))
      | none => none
    else none : Option zOut) = some out := by
    intro np z as r hq
    obtain ⟨c1, c2, c3, q, hq2, rfl⟩ := zcal_spec hq
    rw [if_pos ⟨c1, c2, c3⟩, h _ _ _ _ hq2]
    obtain ⟨q1, q2⟩ := q
    cases q1 <;> rfl
  cases ins
  case invokevirtual i =>
    simp only [zstep] at hs ⊢
    unfold zr1 at hs ⊢
    split at hs
    · next o r hdr =>
      dsimp only at hs ⊢
      split at hs
      · next hc => rw [if_pos hc]; exact hcal hs
      · cases hs
    · cases hs
  case invokestatic i =>
    simp only [zstep] at hs ⊢
    split at hs
    · next h0 =>
      split at hs
      · next hc => rw [if_pos hc]; exact hcal hs
      · cases hs
    all_goals exact hs
  case invokespecial i =>
    simp only [zstep] at hs ⊢
    split at hs
    · exact hs
    · unfold zr1 at hs ⊢
      split at hs
      · next o r hdr =>
        dsimp only at hs ⊢
        split at hs
        · next hc => rw [if_pos hc]; exact hcal hs
        · cases hs
      · cases hs
  all_goals exact hs
theorem zex_mono : ∀ (n : Nat) (y pc k sl : Nat) (L : zLc) (st : List Value) (g : zSg) (r : zRs), zex n y pc k sl L st g = some r → zex (n + 1) y pc k sl L st g = some r := by
  intro n
  induction n with
  | zero => intro y pc k sl L st g r h; simp [zex] at h
  | succ n ih =>
    intro y pc k sl L st g r h
    unfold zex at h ⊢
    split at h
    · cases h
    · next en he =>
      split at h
      · cases h
      · next f hf =>
        rw [zstep_mono (fun z as g q hq => by
          split at hq
          · next hl => rw [if_pos hl]; exact ih _ _ _ _ _ _ _ _ hq
          · cases hq) hf]
        exact ih _ _ _ _ _ _ _ _ h
      · next r' hf =>
        rw [zstep_mono (fun z as g q hq => by
          split at hq
          · next hl => rw [if_pos hl]; exact ih _ _ _ _ _ _ _ _ hq
          · cases hq) hf]
        exact h
theorem zex_le {n n' : Nat} (hn : n ≤ n') {y pc k sl : Nat} {L : zLc} {st : List Value} {g : zSg} {r : zRs} (h : zex n y pc k sl L st g = some r) : zex n' y pc k sl L st g = some r := by
  induction hn with
  | refl => exact h
  | step _ ih => exact zex_mono _ _ _ _ _ _ _ _ _ ih
/-- from this point of method y, its end is r -/
def zEv (y pc k sl : Nat) (L : zLc) (st : List Value) (g : zSg) (r : zRs) : Prop := ∃ n, zex n y pc k sl L st g = some r
theorem zEv.lift {y pc k sl pc' k' sl' : Nat} {L L' : zLc} {st st' : List Value} {g g' : zSg} {r : zRs} (j : Nat) (h : ∀ n, zex (n + j) y pc k sl L st g = zex n y pc' k' sl' L' st' g') (hk : zEv y pc' k' sl' L' st' g' r) : zEv y pc k sl L st g r := by
  obtain ⟨n, hn⟩ := hk
  exact ⟨n + j, (h n).trans hn⟩
theorem zEv.ret {y pc k sl : Nat} {L : zLc} {st : List Value} {g : zSg} {r : zRs} (h : zex 1 y pc k sl L st g = some r) : zEv y pc k sl L st g r := ⟨1, h⟩
/-- a step of the machine that isn't a call -/
theorem zEv.step {y pc k sl : Nat} {L : zLc} {st : List Value} {g : zSg} {r : zRs} {en : zEn} {f : zCf} (he : zat y pc = some en) (hs : ∀ call, zstep call (zal.getD y (0, 0)) en pc k sl L st g = some (.inl f)) (hk : zEv y f.1 f.2.1 f.2.2.1 f.2.2.2.1 f.2.2.2.2.1 f.2.2.2.2.2 r) : zEv y pc k sl L st g r := by
  obtain ⟨n, hn⟩ := hk
  refine ⟨n + 1, ?_⟩
  unfold zex
  rw [he]
  dsimp only
  rw [hs]
  exact hn
def zcK (np k sl : Nat) (L : zLc) (r : List Value) (o : Option zRs) : Option zOut := match o with
  | some (some v, g') => some (.inl (np, k, sl, L, v :: r, g'))
  | some (none, g') => some (.inl (np, k, sl, L, r, g'))
  | none => none
theorem zEv.call {y pc k sl np k' sl' z : Nat} {L : zLc} {st as r : List Value} {g : zSg} {q R : zRs} {en : zEn} (he : zat y pc = some en) (hs : ∀ call, zstep call (zal.getD y (0, 0)) en pc k sl L st g = zcK np k' sl' L r (call z as g)) (hl : (zal0 as).length ≤ zml.getD z 0) (hc : zEv z 0 0 0 (zpad (zml.getD z 0) (zal0 as)) [] g q) (hk : zEv y np k' sl' L (q.1.toList ++ r) q.2 R) : zEv y pc k sl L st g R := by
  obtain ⟨n1, h1⟩ := hc
  obtain ⟨n2, h2⟩ := hk
  refine ⟨(n1 + n2) + 1, ?_⟩
  unfold zex
  rw [he]
  dsimp only
  rw [hs, if_pos hl, zex_le (Nat.le_add_right n1 n2) h1]
  obtain ⟨q1, q2⟩ := q
  cases q1 with
  | none => exact zex_le (Nat.le_add_left n2 n1) h2
  | some v => exact zex_le (Nat.le_add_left n2 n1) h2
/-- reads and writes of rows, where the index is within -/
theorem zEv.iald {y pc k sl a : Nat} {i : Int32} {L : zLc} {st : List Value} {g : zSg} {r : zRs} {e0 : Nat} (he : zat y pc = some (e0, .iaload, 1, [])) (hc : zC g a = 100 ∨ zC g a = 103) (hi : zin i (zLn g a) = true) (hk : zEv y (pc + 1) k sl L (.int (zA g a i.toNatClampNeg) :: st) g r) : zEv y pc k sl L (.int i :: .ref a :: st) g r :=
  zEv.step he (fun call => by simp only [zstep]; rw [if_pos ⟨hc, hi⟩]) hk
theorem zEv.bald {y pc k sl a : Nat} {i : Int32} {L : zLc} {st : List Value} {g : zSg} {r : zRs} {e0 : Nat} (he : zat y pc = some (e0, .baload, 1, [])) (hc : zC g a = 101) (hi : zin i (zLn g a) = true) (hk : zEv y (pc + 1) k sl L (.int (zA g a i.toNatClampNeg) :: st) g r) : zEv y pc k sl L (.int i :: .ref a :: st) g r :=
  zEv.step he (fun call => by simp only [zstep]; rw [if_pos ⟨hc, hi⟩]) hk
theorem zEv.aald {y pc k sl a : Nat} {i : Int32} {L : zLc} {st : List Value} {g : zSg} {r : zRs} {e0 : Nat} (he : zat y pc = some (e0, .aaload, 1, [])) (hc : zC g a = 102) (hi : zin i (zLn g a) = true) (hz : 0 < zF g a i.toNatClampNeg) (hk : zEv y (pc + 1) k sl L (.ref (zF g a i.toNatClampNeg) :: st) g r) : zEv y pc k sl L (.int i :: .ref a :: st) g r :=
  zEv.step he (fun call => by simp only [zstep]; rw [if_pos ⟨hc, hi, hz⟩]) hk
theorem zEv.iast {y pc k sl a : Nat} {x i : Int32} {L : zLc} {st : List Value} {g : zSg} {r : zRs} {e0 : Nat} (he : zat y pc = some (e0, .iastore, 1, [])) (hc : zC g a = 100) (hi : zin i (zLn g a) = true) (hk : zEv y (pc + 1) k sl L st (zN g, zC g, zLn g, zF g, zI g, va_up (zA g) a (upd (zA g a) i.toNatClampNeg x)) r) : zEv y pc k sl L (.int x :: .int i :: .ref a :: st) g r :=
  zEv.step he (fun call => by simp only [zstep]; rw [if_pos ⟨hc, hi⟩]) hk
theorem zEv.bast {y pc k sl a : Nat} {x i : Int32} {L : zLc} {st : List Value} {g : zSg} {r : zRs} {e0 : Nat} (he : zat y pc = some (e0, .bastore, 1, [])) (hc : zC g a = 101) (hi : zin i (zLn g a) = true) (hk : zEv y (pc + 1) k sl L st (zN g, zC g, zLn g, zF g, zI g, va_up (zA g) a (upd (zA g a) i.toNatClampNeg (vp_nar .boolean x))) r) : zEv y pc k sl L (.int x :: .int i :: .ref a :: st) g r :=
  zEv.step he (fun call => by simp only [zstep]; rw [if_pos ⟨hc, hi⟩]) hk
theorem zEv.br {y pc k sl : Nat} {cd : ClassFile.Cond} {off : Int} {tgt : Nat} {x1 x2 : Int32} {L : zLc} {st : List Value} {g : zSg} {r : zRs} {e0 : Nat} (he : zat y pc = some (e0, .if_icmp cd off, 3, [])) (ht : (pc : Int) + off = (tgt : Int)) (kt : zcnd cd x1 x2 = true → zEv y tgt k sl L st g r) (kf : zcnd cd x1 x2 = false → zEv y (pc + 3) k sl L st g r) : zEv y pc k sl L (.int x2 :: .int x1 :: st) g r := by
  cases hc : zcnd cd x1 x2 with
  | true => exact zEv.step he (fun call => by simp only [zstep, zi2, zjmp]; rw [if_pos hc, if_pos (by omega)]) (by show zEv y (((pc : Int) + off).toNat) k sl L st g r; rw [ht]; exact kt hc)
  | false => exact zEv.step he (fun call => by simp only [zstep, zi2]; rw [if_neg (by rw [hc]; decide)]) (kf hc)
theorem zEv.br0 {y pc k sl : Nat} {cd : ClassFile.Cond} {off : Int} {tgt : Nat} {x1 : Int32} {L : zLc} {st : List Value} {g : zSg} {r : zRs} {e0 : Nat} (he : zat y pc = some (e0, .ifCond cd off, 3, [])) (ht : (pc : Int) + off = (tgt : Int)) (kt : zcnd cd x1 0 = true → zEv y tgt k sl L st g r) (kf : zcnd cd x1 0 = false → zEv y (pc + 3) k sl L st g r) : zEv y pc k sl L (.int x1 :: st) g r := by
  cases hc : zcnd cd x1 0 with
  | true => exact zEv.step he (fun call => by simp only [zstep, zi1, zjmp]; rw [if_pos hc, if_pos (by omega)]) (by show zEv y (((pc : Int) + off).toNat) k sl L st g r; rw [ht]; exact kt hc)
  | false => exact zEv.step he (fun call => by simp only [zstep, zi1]; rw [if_neg (by rw [hc]; decide)]) (kf hc)
theorem zEv.swl {y pc k sl : Nat} {d off : Int} {ps : Array (Int × Int)} {len tgt : Nat} {x : Int32} {L : zLc} {st : List Value} {g : zSg} {r : zRs} {e0 : Nat} (he : zat y pc = some (e0, .lookupswitch d ps, len, [])) (ho : zsw x.toInt d ps.toList = off) (ht : (pc : Int) + off = (tgt : Int)) (hk : zEv y tgt k sl L st g r) : zEv y pc k sl L (.int x :: st) g r :=
  zEv.step he (fun call => by simp only [zstep, zi1, zjmp]; rw [ho, if_pos (by omega)]) (by show zEv y (((pc : Int) + off).toNat) k sl L st g r; rw [ht]; exact hk)
theorem zEv.swt {y pc k sl : Nat} {d lo hi off : Int} {offs : Array Int} {len tgt : Nat} {x : Int32} {L : zLc} {st : List Value} {g : zSg} {r : zRs} {e0 : Nat} (he : zat y pc = some (e0, .tableswitch d lo hi offs, len, [])) (ho : zsw x.toInt d (zkeys lo offs.toList) = off) (ht : (pc : Int) + off = (tgt : Int)) (hk : zEv y tgt k sl L st g r) : zEv y pc k sl L (.int x :: st) g r :=
  zEv.step he (fun call => by simp only [zstep, zi1, zjmp]; rw [ho, if_pos (by omega)]) (by show zEv y (((pc : Int) + off).toNat) k sl L st g r; rw [ht]; exact hk)
theorem zEv.idiv {y pc k sl : Nat} {x1 x2 : Int32} {L : zLc} {st : List Value} {g : zSg} {r : zRs} {e0 : Nat} (he : zat y pc = some (e0, .idiv, 1, [])) (h0 : ¬ x2 = 0) (hk : zEv y (pc + 1) k sl L (.int (x1 / x2) :: st) g r) : zEv y pc k sl L (.int x2 :: .int x1 :: st) g r :=
  zEv.step he (fun call => by simp only [zstep, zi2]; rw [if_neg h0]) hk
theorem zEv.irem {y pc k sl : Nat} {x1 x2 : Int32} {L : zLc} {st : List Value} {g : zSg} {r : zRs} {e0 : Nat} (he : zat y pc = some (e0, .irem, 1, [])) (h0 : ¬ x2 = 0) (hk : zEv y (pc + 1) k sl L (.int (x1 - x1 / x2 * x2) :: st) g r) : zEv y pc k sl L (.int x2 :: .int x1 :: st) g r :=
  zEv.step he (fun call => by simp only [zstep, zi2]; rw [if_neg h0]) hk
theorem zEv.copy {y pc k sl mi s0 d : Nat} {n dp sp : Int32} {L : zLc} {r0 : List Value} {g : zSg} {r : zRs} {e0 i : Nat} (he : zat y pc = some (e0, .invokestatic i, 3, [3, mi])) (hs : zC g s0 = 100) (hd : zC g d = 100) (h1 : ¬ n < 0) (h2 : ¬ dp < 0) (h3 : ¬ sp < 0) (h4 : sp.toNatClampNeg + n.toNatClampNeg ≤ zLn g s0) (h5 : dp.toNatClampNeg + n.toNatClampNeg ≤ zLn g d) (hz : zcs r0 ≤ 8) (hk : zEv y (pc + 3) k sl L r0 (zN g, zC g, zLn g, zF g, zI g, va_up (zA g) d (va_cpy (zA g s0) (zA g d) sp.toNatClampNeg dp.toNatClampNeg n.toNatClampNeg)) r) : zEv y pc k sl L (.int n :: .int dp :: .ref d :: .int sp :: .ref s0 :: r0) g r :=
  zEv.step he (fun call => by
    simp only [zstep, zx, List.getD_cons_zero]
    rw [if_pos ⟨hz, hs, hd, h3, h2, h1, h4, h5⟩]) hk
theorem zEv.iinc {y pc k sl i : Nat} {n : Int} {x : Int32} {L L' : zLc} {st : List Value} {g : zSg} {r : zRs} {e0 : Nat} (he : zat y pc = some (e0, .iinc i n, 3, [])) (hg : zget L i = some (.int x)) (hl : i < L.length) (hL : zst L i (.int (x + Int32.ofInt n)) = L') (hk : zEv y (pc + 3) k sl L' st g r) : zEv y pc k sl L st g r :=
  zEv.step he (fun call => by simp only [zstep]; rw [hg]; simp only []; rw [if_pos hl, hL]) hk

/-! what a method asks, by program (wip/whole/gen_wp.py) -/
def SL_X8_least_r44_12 (Ln : Nat) (I : Nat → Nat → Int32) (Q : Int32 → (Nat → Nat → Int32) → Prop) : Int32 × (Nat → Nat → Int32) → Prop
  | (v1, A) => zSem 138 12 0 0 [some (.ref 44), some (.int v1), none, none, none, none, none] [] (zGs Ln I A) (fun r => ∃ x A1, r = (some (.int x), zGs Ln I A1) ∧ Q x A1)
def SL_X8_least_r44_47 (Ln : Nat) (I : Nat → Nat → Int32) (Q : Int32 → (Nat → Nat → Int32) → Prop) : Int32 × (Nat → Nat → Int32) → Prop
  | (v1, A) => ∀  (j2 : Option Int32) (j3 : Option Int32) (j4 : Option Int32) (j5 : Option Int32) (j6 : Option Int32), zSem 138 47 0 0 [some (.ref 44), some (.int v1), (Option.map Value.int j2), (Option.map Value.int j3), (Option.map Value.int j4), (Option.map Value.int j5), (Option.map Value.int j6)] [] (zGs Ln I A) (fun r => ∃ x A1, r = (some (.int x), zGs Ln I A1) ∧ Q x A1)
def SL_X8_least_r44_59 (Ln : Nat) (I : Nat → Nat → Int32) (v1 : Int32) (v2 : Int32) (Q : Int32 → (Nat → Nat → Int32) → Prop) : Int32 × (Nat → Nat → Int32) → Prop
  | (v3, A) => ∀  (j4 : Option Int32) (j5 : Option Int32) (j6 : Option Int32), zSem 138 59 0 0 [some (.ref 44), some (.int v1), some (.int v2), some (.int v3), (Option.map Value.int j4), (Option.map Value.int j5), (Option.map Value.int j6)] [] (zGs Ln I A) (fun r => ∃ x A1, r = (some (.int x), zGs Ln I A1) ∧ Q x A1)
def SL_X8_least_r44_173 (Ln : Nat) (I : Nat → Nat → Int32) (v1 : Int32) (v2 : Int32) (Q : Int32 → (Nat → Nat → Int32) → Prop) : Int32 × (Nat → Nat → Int32) → Prop
  | (v3, A) => ∀  (j4 : Option Int32) (j5 : Option Int32) (j6 : Option Int32), zSem 138 173 0 0 [some (.ref 44), some (.int v1), some (.int v2), some (.int v3), (Option.map Value.int j4), (Option.map Value.int j5), (Option.map Value.int j6)] [] (zGs Ln I A) (fun r => ∃ x A1, r = (some (.int x), zGs Ln I A1) ∧ Q x A1)
def L_X8_least_r44_173 (Ln : Nat) (I : Nat → Nat → Int32) (v1 : Int32) (v2 : Int32) (K47 : Int32 × (Nat → Nat → Int32) → Prop) (Q : Int32 → (Nat → Nat → Int32) → Prop) : Int32 × (Nat → Nat → Int32) → (Int32 × (Nat → Nat → Int32) → Prop) → Prop
  | (v3, A), K173 => ((W_X8_all_r44 Ln I A  (fun (r4 : Int32) => (((r4 : Int32) < v3 → ((K47 ((v1 + (Int32.ofInt (-1))), A)))) ∧ (¬ ((r4 : Int32) < v3) → ((zin v3 64 = true) ∧ (zin v3 64 = true) ∧ (K173 ((v3 + 1), (zw A 60 ((v3).toNatClampNeg) (A 59 (v3).toNatClampNeg))))))))))
set_option maxRecDepth 100000 in
theorem TL_X8_least_r44_173 {Ln : Nat} {I : Nat → Nat → Int32} {v1 : Int32} {v2 : Int32} {K47 : Int32 × (Nat → Nat → Int32) → Prop} {Q : Int32 → (Nat → Nat → Int32) → Prop} (hK47 : ∀ p, K47 p → SL_X8_least_r44_47 Ln I  Q p) : ∀ p, zLoop (L_X8_least_r44_173 Ln I v1 v2 K47 Q) p → SL_X8_least_r44_173 Ln I v1 v2 Q p := by
  refine zLoop.sound (Sem := SL_X8_least_r44_173 Ln I v1 v2 Q) ?_
  rintro ⟨v3, A⟩ K173 hK173 h0
  intro j4 j5 j6
  show zSem 138 173 0 0 [some (.ref 44), some (.int v1), some (.int v2), some (.int v3), (Option.map Value.int j4), (Option.map Value.int j5), (Option.map Value.int j6)] [] (zGs Ln I A) (fun r => ∃ x A1, r = (some (.int x), zGs Ln I A1) ∧ Q x A1)
  change ((W_X8_all_r44 Ln I A  (fun (r4 : Int32) => (((r4 : Int32) < v3 → ((K47 ((v1 + (Int32.ofInt (-1))), A)))) ∧ (¬ ((r4 : Int32) < v3) → ((zin v3 64 = true) ∧ (zin v3 64 = true) ∧ (K173 ((v3 + 1), (zw A 60 ((v3).toNatClampNeg) (A 59 (v3).toNatClampNeg)))))))))) at h0
  obtain ⟨_, h1, r4, rfl, h2⟩ := T_X8_all_r44 Ln _ _ _ h0
  refine zS1 (fun r he => B_X8_least_r44_173 Ln _ _ _ _ _ j4 j5 j6  h1 rfl he) ?_
  obtain ⟨h4, h5⟩ := h2
  by_cases h3 : (r4 : Int32) < v3
  · refine zS1 (fun r he => B_X8_least_r44_178_s2 Ln _ _ _ _ _ j4 j5 j6 _ _  (fun _ => he) (fun n => absurd h3 n)) ?_
    have h4 := h4 h3
    refine zS1 (fun r he => B_X8_least_r44_199 Ln _ _ _ _ _ j4 j5 j6  he) ?_
    have q := hK47 _ h4
    exact q (some _) (some _) j4 j5 j6
  · refine zS1 (fun r he => B_X8_least_r44_178_s2 Ln _ _ _ _ _ j4 j5 j6 _ _  (fun n => absurd n h3) (fun _ => he)) ?_
    have h5 := h5 h3
    obtain ⟨h6, h7⟩ := h5
    obtain ⟨h8, h9⟩ := h7
    refine zS1 (fun r he => B_X8_least_r44_181 Ln _ _ _ _ _ j4 j5 j6 h6 h8 he) ?_
    have q := hK173 _ h9
    exact q j4 j5 j6
def SL_X8_least_r44_75 (Ln : Nat) (I A : Nat → Nat → Int32) (v1 : Int32) (v2 : Int32) (v3 : Int32) (Q : Int32 → (Nat → Nat → Int32) → Prop) : Int32 × Int32 → Prop
  | (v4, v5) => ∀  (j6 : Option Int32), zSem 138 75 0 0 [some (.ref 44), some (.int v1), some (.int v2), some (.int v3), some (.int v4), some (.int v5), (Option.map Value.int j6)] [] (zGs Ln I A) (fun r => ∃ x A1, r = (some (.int x), zGs Ln I A1) ∧ Q x A1)
def L_X8_least_r44_75 (Ln : Nat) (I A : Nat → Nat → Int32) (v1 : Int32) (v2 : Int32) (v3 : Int32) (K47 : Int32 × (Nat → Nat → Int32) → Prop) (K59 : Int32 × (Nat → Nat → Int32) → Prop) (Q : Int32 → (Nat → Nat → Int32) → Prop) : Int32 × Int32 → (Int32 × Int32 → Prop) → Prop
  | (v4, v5), K75 => ((W_X8_all_r44 Ln I A  (fun (r5 : Int32) => (((r5 : Int32) < v5 → ((zin v3 64 = true) ∧ (K59 ((v3 + 1), (zw A 59 ((v3).toNatClampNeg) v4))))) ∧ (¬ ((r5 : Int32) < v5) → ((zin v5 64 = true) ∧ (((A 61 (v5).toNatClampNeg) : Int32) = 0 → ((K75 (v4, (v5 + 1))))) ∧ (¬ (((A 61 (v5).toNatClampNeg) : Int32) = 0) → ((((v5 &&& v3) : Int32) ≠ 0 → ((K75 (v4, (v5 + 1))))) ∧ (¬ (((v5 &&& v3) : Int32) ≠ 0) → ((((v5 &&& (v2 ^^^ ((-1)))) : Int32) ≠ 0 → ((K75 (v4, (v5 + 1))))) ∧ (¬ (((v5 &&& (v2 ^^^ ((-1)))) : Int32) ≠ 0) → ((W_X8_bits Ln I A ((v2 &&& (v3 ^^^ ((-1)))) &&& (v5 ^^^ ((-1)))) (fun (r6 : Int32) => ((zin (v3 ||| v5) 64 = true) ∧ ((v4 : Int32) ≤ (r6 + (A 60 (v3 ||| v5).toNatClampNeg)) → (∀ x7 : Int32, x7 = r6 + (A 60 (v3 ||| v5).toNatClampNeg) → ((((K75 (v4, (v5 + 1)))))))) ∧ (¬ ((v4 : Int32) ≤ (r6 + (A 60 (v3 ||| v5).toNatClampNeg))) → (∀ x8 : Int32, x8 = r6 + (A 60 (v3 ||| v5).toNatClampNeg) → ((((K75 (x8, (v5 + 1)))))))))))))))))))))))
set_option maxRecDepth 100000 in
theorem TL_X8_least_r44_75 {Ln : Nat} {I A : Nat → Nat → Int32} {v1 : Int32} {v2 : Int32} {v3 : Int32} {K47 : Int32 × (Nat → Nat → Int32) → Prop} {K59 : Int32 × (Nat → Nat → Int32) → Prop} {Q : Int32 → (Nat → Nat → Int32) → Prop} (hK47 : ∀ p, K47 p → SL_X8_least_r44_47 Ln I  Q p) (hK59 : ∀ p, K59 p → SL_X8_least_r44_59 Ln I v1 v2 Q p) : ∀ p, zLoop (L_X8_least_r44_75 Ln I A v1 v2 v3 K47 K59 Q) p → SL_X8_least_r44_75 Ln I A v1 v2 v3 Q p := by
  refine zLoop.sound (Sem := SL_X8_least_r44_75 Ln I A v1 v2 v3 Q) ?_
  rintro ⟨v4, v5⟩ K75 hK75 h0
  intro j6
  show zSem 138 75 0 0 [some (.ref 44), some (.int v1), some (.int v2), some (.int v3), some (.int v4), some (.int v5), (Option.map Value.int j6)] [] (zGs Ln I A) (fun r => ∃ x A1, r = (some (.int x), zGs Ln I A1) ∧ Q x A1)
  change ((W_X8_all_r44 Ln I A  (fun (r5 : Int32) => (((r5 : Int32) < v5 → ((zin v3 64 = true) ∧ (K59 ((v3 + 1), (zw A 59 ((v3).toNatClampNeg) v4))))) ∧ (¬ ((r5 : Int32) < v5) → ((zin v5 64 = true) ∧ (((A 61 (v5).toNatClampNeg) : Int32) = 0 → ((K75 (v4, (v5 + 1))))) ∧ (¬ (((A 61 (v5).toNatClampNeg) : Int32) = 0) → ((((v5 &&& v3) : Int32) ≠ 0 → ((K75 (v4, (v5 + 1))))) ∧ (¬ (((v5 &&& v3) : Int32) ≠ 0) → ((((v5 &&& (v2 ^^^ ((-1)))) : Int32) ≠ 0 → ((K75 (v4, (v5 + 1))))) ∧ (¬ (((v5 &&& (v2 ^^^ ((-1)))) : Int32) ≠ 0) → ((W_X8_bits Ln I A ((v2 &&& (v3 ^^^ ((-1)))) &&& (v5 ^^^ ((-1)))) (fun (r6 : Int32) => ((zin (v3 ||| v5) 64 = true) ∧ ((v4 : Int32) ≤ (r6 + (A 60 (v3 ||| v5).toNatClampNeg)) → (∀ x7 : Int32, x7 = r6 + (A 60 (v3 ||| v5).toNatClampNeg) → ((((K75 (v4, (v5 + 1)))))))) ∧ (¬ ((v4 : Int32) ≤ (r6 + (A 60 (v3 ||| v5).toNatClampNeg))) → (∀ x8 : Int32, x8 = r6 + (A 60 (v3 ||| v5).toNatClampNeg) → ((((K75 (x8, (v5 + 1))))))))))))))))))))))) at h0
  obtain ⟨_, h1, r5, rfl, h2⟩ := T_X8_all_r44 Ln _ _ _ h0
  refine zS1 (fun r he => B_X8_least_r44_75 Ln _ _ _ _ _ _ _ j6  h1 rfl he) ?_
  obtain ⟨h4, h5⟩ := h2
  by_cases h3 : (r5 : Int32) < v5
  · refine zS1 (fun r he => B_X8_least_r44_81_s2 Ln _ _ _ _ _ _ _ j6 _ _  (fun _ => he) (fun n => absurd h3 n)) ?_
    have h4 := h4 h3
    obtain ⟨h6, h7⟩ := h4
    refine zS1 (fun r he => B_X8_least_r44_157 Ln _ _ _ _ _ _ _ j6 h6 he) ?_
    have q := hK59 _ h7
    exact q (some _) (some _) j6
  · refine zS1 (fun r he => B_X8_least_r44_81_s2 Ln _ _ _ _ _ _ _ j6 _ _  (fun n => absurd n h3) (fun _ => he)) ?_
    have h5 := h5 h3
    obtain ⟨h8, h9⟩ := h5
    obtain ⟨h11, h12⟩ := h9
    by_cases h10 : ((A 61 (v5).toNatClampNeg) : Int32) = 0
    · refine zS1 (fun r he => B_X8_least_r44_84 Ln _ _ _ _ _ _ _ j6 h8 (fun _ => he) (fun n => absurd h10 n)) ?_
      have h11 := h11 h10
      refine zS1 (fun r he => B_X8_least_r44_151 Ln _ _ _ _ _ _ _ j6  he) ?_
      have q := hK75 _ h11
      exact q j6
    · refine zS1 (fun r he => B_X8_least_r44_84 Ln _ _ _ _ _ _ _ j6 h8 (fun n => absurd n h10) (fun _ => he)) ?_
      have h12 := h12 h10
      obtain ⟨h14, h15⟩ := h12
      by_cases h13 : ((v5 &&& v3) : Int32) ≠ 0
      · refine zS1 (fun r he => B_X8_least_r44_94 Ln _ _ _ _ _ _ _ j6  (fun _ => he) (fun n => absurd h13 n)) ?_
        have h14 := h14 h13
        refine zS1 (fun r he => B_X8_least_r44_151 Ln _ _ _ _ _ _ _ j6  he) ?_
        have q := hK75 _ h14
        exact q j6
      · refine zS1 (fun r he => B_X8_least_r44_94 Ln _ _ _ _ _ _ _ j6  (fun n => absurd n h13) (fun _ => he)) ?_
        have h15 := h15 h13
        obtain ⟨h17, h18⟩ := h15
        by_cases h16 : ((v5 &&& (v2 ^^^ ((-1)))) : Int32) ≠ 0
        · refine zS1 (fun r he => B_X8_least_r44_101 Ln _ _ _ _ _ _ _ j6  (fun _ => he) (fun n => absurd h16 n)) ?_
          have h17 := h17 h16
          refine zS1 (fun r he => B_X8_least_r44_151 Ln _ _ _ _ _ _ _ j6  he) ?_
          have q := hK75 _ h17
          exact q j6
        · refine zS1 (fun r he => B_X8_least_r44_101 Ln _ _ _ _ _ _ _ j6  (fun n => absurd n h16) (fun _ => he)) ?_
          have h18 := h18 h16
          obtain ⟨_, h19, r6, rfl, h20⟩ := T_X8_bits Ln _ _ _ _ h18
          refine zS1 (fun r he => B_X8_least_r44_110 Ln _ _ _ _ _ _ _ j6  h19 rfl he) ?_
          obtain ⟨h21, h22⟩ := h20
          obtain ⟨h24, h25⟩ := h22
          by_cases h23 : (v4 : Int32) ≤ (r6 + (A 60 (v3 ||| v5).toNatClampNeg))
          · refine zS1 (fun r he => B_X8_least_r44_123_s1 Ln _ _ _ _ _ _ _ j6 _ h21 (fun _ => he) (fun n => absurd h23 n)) ?_
            have h24 := h24 h23
            have h26 := h24 _ rfl
            refine zS1 (fun r he => B_X8_least_r44_147 Ln _ _ _ _ _ _ _ _  he) ?_
            refine zS1 (fun r he => B_X8_least_r44_149_s1 Ln _ _ _ _ _ _ _ _ _  he) ?_
            refine zS1 (fun r he => B_X8_least_r44_151 Ln _ _ _ _ _ _ _ (some _)  he) ?_
            have q := hK75 _ h26
            exact q (some _)
          · refine zS1 (fun r he => B_X8_least_r44_123_s1 Ln _ _ _ _ _ _ _ j6 _ h21 (fun n => absurd n h23) (fun _ => he)) ?_
            have h25 := h25 h23
            have h27 := h25 _ rfl
            refine zS1 (fun r he => B_X8_least_r44_142 Ln _ _ _ _ _ _ _ _  he) ?_
            refine zS1 (fun r he => B_X8_least_r44_149_s1 Ln _ _ _ _ _ _ _ _ _  he) ?_
            refine zS1 (fun r he => B_X8_least_r44_151 Ln _ _ _ _ _ _ _ (some _)  he) ?_
            have q := hK75 _ h27
            exact q (some _)
def L_X8_least_r44_59 (Ln : Nat) (I : Nat → Nat → Int32) (v1 : Int32) (v2 : Int32) (K47 : Int32 × (Nat → Nat → Int32) → Prop) (Q : Int32 → (Nat → Nat → Int32) → Prop) : Int32 × (Nat → Nat → Int32) → (Int32 × (Nat → Nat → Int32) → Prop) → Prop
  | (v3, A), K59 => ((W_X8_all_r44 Ln I A  (fun (r3 : Int32) => (((r3 : Int32) < v3 → ((zLoop (L_X8_least_r44_173 Ln I v1 v2 K47 Q) (0, A)))) ∧ (¬ ((r3 : Int32) < v3) → ((zLoop (L_X8_least_r44_75 Ln I A v1 v2 v3 K47 K59 Q) (9999, 0))))))))
set_option maxRecDepth 100000 in
theorem TL_X8_least_r44_59 {Ln : Nat} {I : Nat → Nat → Int32} {v1 : Int32} {v2 : Int32} {K47 : Int32 × (Nat → Nat → Int32) → Prop} {Q : Int32 → (Nat → Nat → Int32) → Prop} (hK47 : ∀ p, K47 p → SL_X8_least_r44_47 Ln I  Q p) : ∀ p, zLoop (L_X8_least_r44_59 Ln I v1 v2 K47 Q) p → SL_X8_least_r44_59 Ln I v1 v2 Q p := by
  refine zLoop.sound (Sem := SL_X8_least_r44_59 Ln I v1 v2 Q) ?_
  rintro ⟨v3, A⟩ K59 hK59 h0
  intro j4 j5 j6
  show zSem 138 59 0 0 [some (.ref 44), some (.int v1), some (.int v2), some (.int v3), (Option.map Value.int j4), (Option.map Value.int j5), (Option.map Value.int j6)] [] (zGs Ln I A) (fun r => ∃ x A1, r = (some (.int x), zGs Ln I A1) ∧ Q x A1)
  change ((W_X8_all_r44 Ln I A  (fun (r3 : Int32) => (((r3 : Int32) < v3 → ((zLoop (L_X8_least_r44_173 Ln I v1 v2 K47 Q) (0, A)))) ∧ (¬ ((r3 : Int32) < v3) → ((zLoop (L_X8_least_r44_75 Ln I A v1 v2 v3 K47 K59 Q) (9999, 0)))))))) at h0
  obtain ⟨_, h1, r3, rfl, h2⟩ := T_X8_all_r44 Ln _ _ _ h0
  refine zS1 (fun r he => B_X8_least_r44_59 Ln _ _ _ _ _ j4 j5 j6  h1 rfl he) ?_
  obtain ⟨h4, h5⟩ := h2
  by_cases h3 : (r3 : Int32) < v3
  · refine zS1 (fun r he => B_X8_least_r44_64_s2 Ln _ _ _ _ _ j4 j5 j6 _ _  (fun _ => he) (fun n => absurd h3 n)) ?_
    have h4 := h4 h3
    refine zS1 (fun r he => B_X8_least_r44_171 Ln _ _ _ _ _ j4 j5 j6  he) ?_
    exact TL_X8_least_r44_173 hK47 _ h4 j4 j5 j6
  · refine zS1 (fun r he => B_X8_least_r44_64_s2 Ln _ _ _ _ _ j4 j5 j6 _ _  (fun n => absurd n h3) (fun _ => he)) ?_
    have h5 := h5 h3
    refine zS1 (fun r he => B_X8_least_r44_67 Ln _ _ _ _ _ j4 j5 j6  he) ?_
    exact TL_X8_least_r44_75 hK47 hK59 _ h5 j6
def L_X8_least_r44_47 (Ln : Nat) (I : Nat → Nat → Int32) (Q : Int32 → (Nat → Nat → Int32) → Prop) : Int32 × (Nat → Nat → Int32) → (Int32 × (Nat → Nat → Int32) → Prop) → Prop
  | (v1, A), K47 => (((v1 : Int32) < 0 → (Q (A 60 0) A)) ∧ (¬ ((v1 : Int32) < 0) → ((W_X8_cameBy_r44 Ln I A v1 (fun (r2 : Int32) => ((zLoop (L_X8_least_r44_59 Ln I v1 r2 K47 Q) (0, A))))))))
set_option maxRecDepth 100000 in
theorem TL_X8_least_r44_47 {Ln : Nat} {I : Nat → Nat → Int32} {Q : Int32 → (Nat → Nat → Int32) → Prop} : ∀ p, zLoop (L_X8_least_r44_47 Ln I   Q) p → SL_X8_least_r44_47 Ln I  Q p := by
  refine zLoop.sound (Sem := SL_X8_least_r44_47 Ln I  Q) ?_
  rintro ⟨v1, A⟩ K47 hK47 h0
  intro j2 j3 j4 j5 j6
  show zSem 138 47 0 0 [some (.ref 44), some (.int v1), (Option.map Value.int j2), (Option.map Value.int j3), (Option.map Value.int j4), (Option.map Value.int j5), (Option.map Value.int j6)] [] (zGs Ln I A) (fun r => ∃ x A1, r = (some (.int x), zGs Ln I A1) ∧ Q x A1)
  change (((v1 : Int32) < 0 → (Q (A 60 0) A)) ∧ (¬ ((v1 : Int32) < 0) → ((W_X8_cameBy_r44 Ln I A v1 (fun (r2 : Int32) => ((zLoop (L_X8_least_r44_59 Ln I v1 r2 K47 Q) (0, A)))))))) at h0
  obtain ⟨h2, h3⟩ := h0
  by_cases h1 : (v1 : Int32) < 0
  · refine zS1 (fun r he => B_X8_least_r44_47 Ln _ _ _ j2 j3 j4 j5 j6  (fun _ => he) (fun n => absurd h1 n)) ?_
    have h2 := h2 h1
    exact ⟨_, B_X8_least_r44_205 Ln _ _ _ j2 j3 j4 j5 j6 , _, _, rfl, h2⟩
  · refine zS1 (fun r he => B_X8_least_r44_47 Ln _ _ _ j2 j3 j4 j5 j6  (fun n => absurd n h1) (fun _ => he)) ?_
    have h3 := h3 h1
    obtain ⟨_, h4, r2, rfl, h5⟩ := T_X8_cameBy_r44 Ln _ _ _ _ h3
    refine zS1 (fun r he => B_X8_least_r44_51 Ln _ _ _ j2 j3 j4 j5 j6  h4 rfl he) ?_
    refine zS1 (fun r he => B_X8_least_r44_56_s1 Ln _ _ _ j2 j3 j4 j5 j6 _  he) ?_
    exact TL_X8_least_r44_59 hK47 _ h5 j4 j5 j6
def L_X8_least_r44_12 (Ln : Nat) (I : Nat → Nat → Int32) (Q : Int32 → (Nat → Nat → Int32) → Prop) : Int32 × (Nat → Nat → Int32) → (Int32 × (Nat → Nat → Int32) → Prop) → Prop
  | (v1, A), K12 => ((W_X8_all_r44 Ln I A  (fun (r1 : Int32) => (((r1 : Int32) < v1 → ((zLoop (L_X8_least_r44_47 Ln I  Q) (59, A)))) ∧ (¬ ((r1 : Int32) < v1) → ((W_X8_mayCross_r44 Ln I A v1 (fun (r9 : Int32) => ((zin v1 64 = true) ∧ (zin v1 64 = true) ∧ (K12 ((v1 + 1), (zw (zw A 61 ((v1).toNatClampNeg) (vp_nar .boolean r9)) 60 ((v1).toNatClampNeg) 0))))))))))))
set_option maxRecDepth 100000 in
theorem TL_X8_least_r44_12 {Ln : Nat} {I : Nat → Nat → Int32} {Q : Int32 → (Nat → Nat → Int32) → Prop} : ∀ p, zLoop (L_X8_least_r44_12 Ln I   Q) p → SL_X8_least_r44_12 Ln I  Q p := by
  refine zLoop.sound (Sem := SL_X8_least_r44_12 Ln I  Q) ?_
  rintro ⟨v1, A⟩ K12 hK12 h0
  show zSem 138 12 0 0 [some (.ref 44), some (.int v1), none, none, none, none, none] [] (zGs Ln I A) (fun r => ∃ x A1, r = (some (.int x), zGs Ln I A1) ∧ Q x A1)
  change ((W_X8_all_r44 Ln I A  (fun (r1 : Int32) => (((r1 : Int32) < v1 → ((zLoop (L_X8_least_r44_47 Ln I  Q) (59, A)))) ∧ (¬ ((r1 : Int32) < v1) → ((W_X8_mayCross_r44 Ln I A v1 (fun (r9 : Int32) => ((zin v1 64 = true) ∧ (zin v1 64 = true) ∧ (K12 ((v1 + 1), (zw (zw A 61 ((v1).toNatClampNeg) (vp_nar .boolean r9)) 60 ((v1).toNatClampNeg) 0)))))))))))) at h0
  obtain ⟨_, h1, r1, rfl, h2⟩ := T_X8_all_r44 Ln _ _ _ h0
  refine zS1 (fun r he => B_X8_least_r44_12 Ln _ _ _  h1 rfl he) ?_
  obtain ⟨h4, h5⟩ := h2
  by_cases h3 : (r1 : Int32) < v1
  · refine zS1 (fun r he => B_X8_least_r44_17_s2 Ln _ _ _ _ _  (fun _ => he) (fun n => absurd h3 n)) ?_
    have h4 := h4 h3
    refine zS1 (fun r he => B_X8_least_r44_44 Ln _ _ _  he) ?_
    exact TL_X8_least_r44_47  _ h4 none none none none none
  · refine zS1 (fun r he => B_X8_least_r44_17_s2 Ln _ _ _ _ _  (fun n => absurd n h3) (fun _ => he)) ?_
    have h5 := h5 h3
    obtain ⟨_, h6, r9, rfl, h7⟩ := T_X8_mayCross_r44 Ln _ _ _ _ h5
    refine zS1 (fun r he => B_X8_least_r44_20 Ln _ _ _  h6 rfl he) ?_
    obtain ⟨h8, h9⟩ := h7
    obtain ⟨h10, h11⟩ := h9
    refine zS1 (fun r he => B_X8_least_r44_30_s3 Ln _ _ _ _ _ h8 h10 he) ?_
    have q := hK12 _ h11
    exact q
def W_X8_least_r44 (Ln : Nat) (I A : Nat → Nat → Int32) (Q : Int32 → (Nat → Nat → Int32) → Prop) : Prop := ((((I 44 4) : Int32) ≠ 0 → ((zLoop (L_X8_least_r44_12 Ln I  Q) (0, A)))) ∧ (¬ (((I 44 4) : Int32) ≠ 0) → (Q (-3) A)))
set_option maxRecDepth 100000 in
theorem T_X8_least_r44 (Ln : Nat) (I A : Nat → Nat → Int32) (Q : Int32 → (Nat → Nat → Int32) → Prop) (h0 : W_X8_least_r44 Ln I A Q) : zSem 138 0 0 0 [some (.ref 44), none, none, none, none, none, none] [] (zGs Ln I A) (fun r => ∃ x A1, r = (some (.int x), zGs Ln I A1) ∧ Q x A1) := by
  unfold W_X8_least_r44 at h0
  obtain ⟨h2, h3⟩ := h0
  by_cases h1 : ((I 44 4) : Int32) ≠ 0
  · refine zS1 (fun r he => B_X8_least_r44_0 Ln _ _   (fun _ => he) (fun n => absurd h1 n)) ?_
    have h2 := h2 h1
    refine zS1 (fun r he => B_X8_least_r44_10 Ln _ _   he) ?_
    exact TL_X8_least_r44_12  _ h2
  · refine zS1 (fun r he => B_X8_least_r44_0 Ln _ _   (fun n => absurd n h1) (fun _ => he)) ?_
    have h3 := h3 h1
    exact ⟨_, B_X8_least_r44_7 Ln _ _  , _, _, rfl, h3⟩
def SL_X8_laws_r44_35 (Ln : Nat) (v1 : Int32) (v2 : Int32) (Q : Int32 → (Nat → Nat → Int32) → (Nat → Nat → Int32) → Prop) : Int32 × Int32 × (Nat → Nat → Int32) × (Nat → Nat → Int32) → Prop
  | (v3, v4, I, A) => ∀  (j5 : Option Int32) (j6 : Option Int32), zSem 139 35 0 0 [some (.ref 44), some (.int v1), some (.int v2), some (.int v3), some (.int v4), (Option.map Value.int j5), (Option.map Value.int j6)] [] (zGs Ln I A) (fun r => ∃ x I1 A1, r = (some (.int x), zGs Ln I1 A1) ∧ Q x I1 A1)
def SL_X8_laws_r44_57 (Ln : Nat) (I A : Nat → Nat → Int32) (v1 : Int32) (v2 : Int32) (v3 : Int32) (v4 : Int32) (Q : Int32 → (Nat → Nat → Int32) → (Nat → Nat → Int32) → Prop) : Int32 × Int32 → Prop
  | (v5, v6) => zSem 139 57 0 0 [some (.ref 44), some (.int v1), some (.int v2), some (.int v3), some (.int v4), some (.int v5), some (.int v6)] [] (zGs Ln I A) (fun r => ∃ x I1 A1, r = (some (.int x), zGs Ln I1 A1) ∧ Q x I1 A1)
def L_X8_laws_r44_57 (Ln : Nat) (I A : Nat → Nat → Int32) (v1 : Int32) (v2 : Int32) (v3 : Int32) (v4 : Int32) (K35 : Int32 × Int32 × (Nat → Nat → Int32) × (Nat → Nat → Int32) → Prop) (Q : Int32 → (Nat → Nat → Int32) → (Nat → Nat → Int32) → Prop) : Int32 × Int32 → (Int32 × Int32 → Prop) → Prop
  | (v5, v6), K57 => ((((I 44 4) : Int32) ≤ v6 → (((v5 : Int32) = 0 → (((K35 ((v3 ||| 0), (v4 + 1), I, A))))) ∧ (¬ ((v5 : Int32) = 0) → (((K35 ((v3 ||| (1 <<< (v4 &&& 31))), (v4 + 1), I, A))))))) ∧ (¬ (((I 44 4) : Int32) ≤ v6) → (((v5 : Int32) = 0 → (((K57 (0, (v6 + 1)))))) ∧ (¬ ((v5 : Int32) = 0) → ((W_X8_waitOf_r44 Ln I A v6 (fun (r4 : Int32) => (((v1 : Int32) < r4 → (((K57 (0, (v6 + 1)))))) ∧ (¬ ((v1 : Int32) < r4) → (((K57 (1, (v6 + 1))))))))))))))
set_option maxRecDepth 100000 in
theorem TL_X8_laws_r44_57 {Ln : Nat} {I A : Nat → Nat → Int32} {v1 : Int32} {v2 : Int32} {v3 : Int32} {v4 : Int32} {K35 : Int32 × Int32 × (Nat → Nat → Int32) × (Nat → Nat → Int32) → Prop} {Q : Int32 → (Nat → Nat → Int32) → (Nat → Nat → Int32) → Prop} (hK35 : ∀ p, K35 p → SL_X8_laws_r44_35 Ln  v1 v2 Q p) : ∀ p, zLoop (L_X8_laws_r44_57 Ln I A v1 v2 v3 v4 K35 Q) p → SL_X8_laws_r44_57 Ln I A v1 v2 v3 v4 Q p := by
  refine zLoop.sound (Sem := SL_X8_laws_r44_57 Ln I A v1 v2 v3 v4 Q) ?_
  rintro ⟨v5, v6⟩ K57 hK57 h0
  show zSem 139 57 0 0 [some (.ref 44), some (.int v1), some (.int v2), some (.int v3), some (.int v4), some (.int v5), some (.int v6)] [] (zGs Ln I A) (fun r => ∃ x I1 A1, r = (some (.int x), zGs Ln I1 A1) ∧ Q x I1 A1)
  change ((((I 44 4) : Int32) ≤ v6 → (((v5 : Int32) = 0 → (((K35 ((v3 ||| 0), (v4 + 1), I, A))))) ∧ (¬ ((v5 : Int32) = 0) → (((K35 ((v3 ||| (1 <<< (v4 &&& 31))), (v4 + 1), I, A))))))) ∧ (¬ (((I 44 4) : Int32) ≤ v6) → (((v5 : Int32) = 0 → (((K57 (0, (v6 + 1)))))) ∧ (¬ ((v5 : Int32) = 0) → ((W_X8_waitOf_r44 Ln I A v6 (fun (r4 : Int32) => (((v1 : Int32) < r4 → (((K57 (0, (v6 + 1)))))) ∧ (¬ ((v1 : Int32) < r4) → (((K57 (1, (v6 + 1)))))))))))))) at h0
  obtain ⟨h2, h3⟩ := h0
  by_cases h1 : ((I 44 4) : Int32) ≤ v6
  · refine zS1 (fun r he => B_X8_laws_r44_57 Ln _ _ _ _ _ _ _ _  (fun _ => he) (fun n => absurd h1 n)) ?_
    have h2 := h2 h1
    obtain ⟨h5, h6⟩ := h2
    by_cases h4 : (v5 : Int32) = 0
    · refine zS1 (fun r he => B_X8_laws_r44_94 Ln _ _ _ _ _ _ _ _  (fun _ => he) (fun n => absurd h4 n)) ?_
      have h5 := h5 h4
      refine zS1 (fun r he => B_X8_laws_r44_107_s1 Ln _ _ _ _ _ _ _ _ _  he) ?_
      refine zS1 (fun r he => B_X8_laws_r44_108_s2 Ln _ _ _ _ _ _ _ _ _ _  he) ?_
      have q := hK35 _ h5
      exact q (some _) (some _)
    · refine zS1 (fun r he => B_X8_laws_r44_94 Ln _ _ _ _ _ _ _ _  (fun n => absurd n h4) (fun _ => he)) ?_
      have h6 := h6 h4
      refine zS1 (fun r he => B_X8_laws_r44_100_s1 Ln _ _ _ _ _ _ _ _ _  he) ?_
      refine zS1 (fun r he => B_X8_laws_r44_108_s2 Ln _ _ _ _ _ _ _ _ _ _  he) ?_
      have q := hK35 _ h6
      exact q (some _) (some _)
  · refine zS1 (fun r he => B_X8_laws_r44_57 Ln _ _ _ _ _ _ _ _  (fun n => absurd n h1) (fun _ => he)) ?_
    have h3 := h3 h1
    obtain ⟨h8, h9⟩ := h3
    by_cases h7 : (v5 : Int32) = 0
    · refine zS1 (fun r he => B_X8_laws_r44_66 Ln _ _ _ _ _ _ _ _  (fun _ => he) (fun n => absurd h7 n)) ?_
      have h8 := h8 h7
      refine zS1 (fun r he => B_X8_laws_r44_85 Ln _ _ _ _ _ _ _ _  he) ?_
      refine zS1 (fun r he => B_X8_laws_r44_86_s1 Ln _ _ _ _ _ _ _ _ _  he) ?_
      have q := hK57 _ h8
      exact q
    · refine zS1 (fun r he => B_X8_laws_r44_66 Ln _ _ _ _ _ _ _ _  (fun n => absurd n h7) (fun _ => he)) ?_
      have h9 := h9 h7
      obtain ⟨_, h10, r4, rfl, h11⟩ := T_X8_waitOf_r44 Ln _ _ _ _ h9
      refine zS1 (fun r he => B_X8_laws_r44_71 Ln _ _ _ _ _ _ _ _  h10 rfl he) ?_
      obtain ⟨h13, h14⟩ := h11
      by_cases h12 : (v1 : Int32) < r4
      · refine zS1 (fun r he => B_X8_laws_r44_77_s1 Ln _ _ _ _ _ _ _ _ _  (fun _ => he) (fun n => absurd h12 n)) ?_
        have h13 := h13 h12
        refine zS1 (fun r he => B_X8_laws_r44_85 Ln _ _ _ _ _ _ _ _  he) ?_
        refine zS1 (fun r he => B_X8_laws_r44_86_s1 Ln _ _ _ _ _ _ _ _ _  he) ?_
        have q := hK57 _ h13
        exact q
      · refine zS1 (fun r he => B_X8_laws_r44_77_s1 Ln _ _ _ _ _ _ _ _ _  (fun n => absurd n h12) (fun _ => he)) ?_
        have h14 := h14 h12
        refine zS1 (fun r he => B_X8_laws_r44_81 Ln _ _ _ _ _ _ _ _  he) ?_
        refine zS1 (fun r he => B_X8_laws_r44_86_s1 Ln _ _ _ _ _ _ _ _ _  he) ?_
        have q := hK57 _ h14
        exact q
def L_X8_laws_r44_35 (Ln : Nat) (v1 : Int32) (v2 : Int32) (Q : Int32 → (Nat → Nat → Int32) → (Nat → Nat → Int32) → Prop) : Int32 × Int32 × (Nat → Nat → Int32) × (Nat → Nat → Int32) → (Int32 × Int32 × (Nat → Nat → Int32) × (Nat → Nat → Int32) → Prop) → Prop
  | (v3, v4, I, A), K35 => (((3 : Int32) ≤ v4 → (Q v3 (zp I 44 10 v2) A)) ∧ (¬ ((3 : Int32) ≤ v4) → ((W_X8_goAll_r44 Ln (zp I 44 10 v4) A  (fun (I2 : Nat → Nat → Int32) (A3 : Nat → Nat → Int32) => ((zLoop (L_X8_laws_r44_57 Ln I2 A3 v1 v2 v3 v4 K35 Q) (1, 0))))))))
set_option maxRecDepth 100000 in
theorem TL_X8_laws_r44_35 {Ln : Nat} {v1 : Int32} {v2 : Int32} {Q : Int32 → (Nat → Nat → Int32) → (Nat → Nat → Int32) → Prop} : ∀ p, zLoop (L_X8_laws_r44_35 Ln  v1 v2  Q) p → SL_X8_laws_r44_35 Ln  v1 v2 Q p := by
  refine zLoop.sound (Sem := SL_X8_laws_r44_35 Ln  v1 v2 Q) ?_
  rintro ⟨v3, v4, I, A⟩ K35 hK35 h0
  intro j5 j6
  show zSem 139 35 0 0 [some (.ref 44), some (.int v1), some (.int v2), some (.int v3), some (.int v4), (Option.map Value.int j5), (Option.map Value.int j6)] [] (zGs Ln I A) (fun r => ∃ x I1 A1, r = (some (.int x), zGs Ln I1 A1) ∧ Q x I1 A1)
  change (((3 : Int32) ≤ v4 → (Q v3 (zp I 44 10 v2) A)) ∧ (¬ ((3 : Int32) ≤ v4) → ((W_X8_goAll_r44 Ln (zp I 44 10 v4) A  (fun (I2 : Nat → Nat → Int32) (A3 : Nat → Nat → Int32) => ((zLoop (L_X8_laws_r44_57 Ln I2 A3 v1 v2 v3 v4 K35 Q) (1, 0)))))))) at h0
  obtain ⟨h2, h3⟩ := h0
  by_cases h1 : (3 : Int32) ≤ v4
  · refine zS1 (fun r he => B_X8_laws_r44_35 Ln _ _ _ _ _ _ j5 j6  (fun _ => he) (fun n => absurd h1 n)) ?_
    have h2 := h2 h1
    exact ⟨_, B_X8_laws_r44_116 Ln _ _ _ _ _ _ j5 j6 , _, _, _, rfl, h2⟩
  · refine zS1 (fun r he => B_X8_laws_r44_35 Ln _ _ _ _ _ _ j5 j6  (fun n => absurd n h1) (fun _ => he)) ?_
    have h3 := h3 h1
    obtain ⟨_, h4, I2, A3, rfl, h5⟩ := T_X8_goAll_r44 Ln _ _ _ h3
    refine zS1 (fun r he => B_X8_laws_r44_41 Ln _ _ _ _ _ _ j5 j6  h4 rfl he) ?_
    refine zS1 (fun r he => B_X8_laws_r44_51 Ln _ _ _ _ _ _ j5 j6  he) ?_
    exact TL_X8_laws_r44_57 hK35 _ h5
def W_X8_laws_r44 (Ln : Nat) (I A : Nat → Nat → Int32) (v1 : Int32) (Q : Int32 → (Nat → Nat → Int32) → (Nat → Nat → Int32) → Prop) : Prop := ((W_X8_in Ln I A (Int32.toInt64 v1) 0 60 (fun (r1 : Int32) => (((r1 : Int32) ≠ 0 → ((((I 44 4) : Int32) ≠ 0 → ((zLoop (L_X8_laws_r44_35 Ln v1 (I 44 10)  Q) (0, 0, I, A)))) ∧ (¬ (((I 44 4) : Int32) ≠ 0) → (Q (-3) I A)))) ∧ (¬ ((r1 : Int32) ≠ 0) → (Q (-2) I A))))))
set_option maxRecDepth 100000 in
theorem T_X8_laws_r44 (Ln : Nat) (I A : Nat → Nat → Int32) (v1 : Int32) (Q : Int32 → (Nat → Nat → Int32) → (Nat → Nat → Int32) → Prop) (h0 : W_X8_laws_r44 Ln I A v1 Q) : zSem 139 0 0 0 [some (.ref 44), some (.int v1), none, none, none, none, none] [] (zGs Ln I A) (fun r => ∃ x I1 A1, r = (some (.int x), zGs Ln I1 A1) ∧ Q x I1 A1) := by
  unfold W_X8_laws_r44 at h0
  obtain ⟨_, h1, r1, rfl, h2⟩ := T_X8_in Ln _ _ _ _ _ _ h0
  refine zS1 (fun r he => B_X8_laws_r44_0 Ln _ _ _  h1 rfl he) ?_
  obtain ⟨h4, h5⟩ := h2
  by_cases h3 : (r1 : Int32) ≠ 0
  · refine zS1 (fun r he => B_X8_laws_r44_9_s1 Ln _ _ _ _  (fun _ => he) (fun n => absurd h3 n)) ?_
    have h4 := h4 h3
    obtain ⟨h7, h8⟩ := h4
    by_cases h6 : ((I 44 4) : Int32) ≠ 0
    · refine zS1 (fun r he => B_X8_laws_r44_15 Ln _ _ _  (fun _ => he) (fun n => absurd h6 n)) ?_
      have h7 := h7 h6
      refine zS1 (fun r he => B_X8_laws_r44_25 Ln _ _ _  he) ?_
      exact TL_X8_laws_r44_35  _ h7 none none
    · refine zS1 (fun r he => B_X8_laws_r44_15 Ln _ _ _  (fun n => absurd n h6) (fun _ => he)) ?_
      have h8 := h8 h6
      exact ⟨_, B_X8_laws_r44_22 Ln _ _ _ , _, _, _, rfl, h8⟩
  · refine zS1 (fun r he => B_X8_laws_r44_9_s1 Ln _ _ _ _  (fun n => absurd n h3) (fun _ => he)) ?_
    have h5 := h5 h3
    exact ⟨_, B_X8_laws_r44_12 Ln _ _ _ , _, _, _, rfl, h5⟩
def SL_X8_gain_r44_34 (Ln : Nat) (v1 : Int32) (Q : Int32 → (Nat → Nat → Int32) → (Nat → Nat → Int32) → Prop) : Int32 × Int32 × Int32 × (Nat → Nat → Int32) × (Nat → Nat → Int32) → Prop
  | (v2, v3, v4, I, A) => ∀  (j5 : Option Int32) (j6 : Option Int32) (j7 : Option Int32), zSem 140 34 0 0 [some (.ref 44), some (.int v1), some (.int v2), some (.int v3), some (.int v4), (Option.map Value.int j5), (Option.map Value.int j6), (Option.map Value.int j7)] [] (zGs Ln I A) (fun r => ∃ x I1 A1, r = (some (.int x), zGs Ln I1 A1) ∧ Q x I1 A1)
def J_X8_gain_r44_129_s1 (Ln : Nat) (I A : Nat → Nat → Int32) (v1 : Int32) (v2 : Int32) (v3 : Int32) (v4 : Int32) (v5 : Int32) (v6 : Int32) (v7 : Int32) (s0 : Int32) (K34 : Int32 × Int32 × Int32 × (Nat → Nat → Int32) × (Nat → Nat → Int32) → Prop) (Q : Int32 → (Nat → Nat → Int32) → (Nat → Nat → Int32) → Prop) : Prop := ((W_X8_lend_r44 Ln I A v6 v5 1 (fun (A11 : Nat → Nat → Int32) => ((K34 (v2, s0, (v4 + 1), I, A11))))))
set_option maxRecDepth 100000 in
theorem TJ_X8_gain_r44_129_s1 {Ln : Nat} {I A : Nat → Nat → Int32} {v1 : Int32} {v2 : Int32} {v3 : Int32} {v4 : Int32} {v5 : Int32} {v6 : Int32} {v7 : Int32} {s0 : Int32} {K34 : Int32 × Int32 × Int32 × (Nat → Nat → Int32) × (Nat → Nat → Int32) → Prop} {Q : Int32 → (Nat → Nat → Int32) → (Nat → Nat → Int32) → Prop} (hK34 : ∀ p, K34 p → SL_X8_gain_r44_34 Ln  v1 Q p) (h0 : J_X8_gain_r44_129_s1 Ln I A v1 v2 v3 v4 v5 v6 v7 s0 K34 Q) : zSem 140 129 0 0 [some (.ref 44), some (.int v1), some (.int v2), some (.int v3), some (.int v4), some (.int v5), some (.int v6), some (.int v7)] [.int s0] (zGs Ln I A) (fun r => ∃ x I1 A1, r = (some (.int x), zGs Ln I1 A1) ∧ Q x I1 A1) := by
  unfold J_X8_gain_r44_129_s1 at h0
  obtain ⟨_, h1, A11, rfl, h2⟩ := T_X8_lend_r44 Ln _ _ _ _ _ _ h0
  refine zS1 (fun r he => B_X8_gain_r44_129_s1 Ln _ _ _ _ _ _ _ _ _ _  h1 rfl he) ?_
  refine zS1 (fun r he => B_X8_gain_r44_139 Ln _ _ _ _ _ _ _ _ (some _)  he) ?_
  have q := hK34 _ h2
  exact q (some _) (some _) (some _)
def J_X8_gain_r44_116_s1 (Ln : Nat) (I A : Nat → Nat → Int32) (v1 : Int32) (v2 : Int32) (v3 : Int32) (v4 : Int32) (v5 : Int32) (v6 : Int32) (v7 : Int32) (s0 : Int32) (K34 : Int32 × Int32 × Int32 × (Nat → Nat → Int32) × (Nat → Nat → Int32) → Prop) (Q : Int32 → (Nat → Nat → Int32) → (Nat → Nat → Int32) → Prop) : Prop := (((v3 : Int32) ≤ v7 → ((J_X8_gain_r44_129_s1 Ln I A v1 s0 v3 v4 v5 v6 v7 v3 K34 Q))) ∧ (¬ ((v3 : Int32) ≤ v7) → ((J_X8_gain_r44_129_s1 Ln I A v1 s0 v3 v4 v5 v6 v7 v7 K34 Q))))
set_option maxRecDepth 100000 in
theorem TJ_X8_gain_r44_116_s1 {Ln : Nat} {I A : Nat → Nat → Int32} {v1 : Int32} {v2 : Int32} {v3 : Int32} {v4 : Int32} {v5 : Int32} {v6 : Int32} {v7 : Int32} {s0 : Int32} {K34 : Int32 × Int32 × Int32 × (Nat → Nat → Int32) × (Nat → Nat → Int32) → Prop} {Q : Int32 → (Nat → Nat → Int32) → (Nat → Nat → Int32) → Prop} (hK34 : ∀ p, K34 p → SL_X8_gain_r44_34 Ln  v1 Q p) (h0 : J_X8_gain_r44_116_s1 Ln I A v1 v2 v3 v4 v5 v6 v7 s0 K34 Q) : zSem 140 116 0 0 [some (.ref 44), some (.int v1), some (.int v2), some (.int v3), some (.int v4), some (.int v5), some (.int v6), some (.int v7)] [.int s0] (zGs Ln I A) (fun r => ∃ x I1 A1, r = (some (.int x), zGs Ln I1 A1) ∧ Q x I1 A1) := by
  unfold J_X8_gain_r44_116_s1 at h0
  obtain ⟨h2, h3⟩ := h0
  by_cases h1 : (v3 : Int32) ≤ v7
  · refine zS1 (fun r he => B_X8_gain_r44_116_s1 Ln _ _ _ _ _ _ _ _ _ _  (fun _ => he) (fun n => absurd h1 n)) ?_
    have h2 := h2 h1
    refine zS1 (fun r he => B_X8_gain_r44_128 Ln _ _ _ _ _ _ _ _ _  he) ?_
    exact TJ_X8_gain_r44_129_s1 hK34 h2
  · refine zS1 (fun r he => B_X8_gain_r44_116_s1 Ln _ _ _ _ _ _ _ _ _ _  (fun n => absurd n h1) (fun _ => he)) ?_
    have h3 := h3 h1
    refine zS1 (fun r he => B_X8_gain_r44_123 Ln _ _ _ _ _ _ _ _ _  he) ?_
    exact TJ_X8_gain_r44_129_s1 hK34 h3
def L_X8_gain_r44_34 (Ln : Nat) (v1 : Int32) (Q : Int32 → (Nat → Nat → Int32) → (Nat → Nat → Int32) → Prop) : Int32 × Int32 × Int32 × (Nat → Nat → Int32) × (Nat → Nat → Int32) → (Int32 × Int32 × Int32 × (Nat → Nat → Int32) × (Nat → Nat → Int32) → Prop) → Prop
  | (v2, v3, v4, I, A), K34 => (((((I 44 4) * (I 44 4)) : Int32) ≤ v4 → (((v1 : Int32) ≠ 0 → ((Q v3 I A))) ∧ (¬ ((v1 : Int32) ≠ 0) → ((Q v2 I A))))) ∧ (¬ ((((I 44 4) * (I 44 4)) : Int32) ≤ v4) → ((¬ (I 44 4) = 0) ∧ (¬ (I 44 4) = 0) ∧ (((v4 / (I 44 4)) : Int32) = (v4 - v4 / (I 44 4) * (I 44 4)) → ((K34 (v2, v3, (v4 + 1), I, A)))) ∧ (¬ (((v4 / (I 44 4)) : Int32) = (v4 - v4 / (I 44 4) * (I 44 4))) → (∀ x5 : Int32, x5 = v4 - v4 / (I 44 4) * (I 44 4) → ((zin (v4 / (I 44 4)) 6 = true) ∧ (((A 49 ((v4 / (I 44 4))).toNatClampNeg) : Int32) ≤ 0 → ((K34 (v2, v3, (v4 + 1), I, A)))) ∧ (¬ (((A 49 ((v4 / (I 44 4))).toNatClampNeg) : Int32) ≤ 0) → (∀ x6 : Int32, x6 = (v4 / (I 44 4)) → ((W_X8_lend_r44 Ln I A x6 x5 1 (fun (A7 : Nat → Nat → Int32) => ((W_X8_waitsOfAll_r44 Ln I A7  (fun (r8 : Int32) (I9 : Nat → Nat → Int32) (A10 : Nat → Nat → Int32) => (((v3 : Int32) ≤ r8 → ((J_X8_gain_r44_116_s1 Ln I9 A10 v1 v2 v3 v4 x6 x5 r8 v2 K34 Q))) ∧ (¬ ((v3 : Int32) ≤ r8) → ((J_X8_gain_r44_116_s1 Ln I9 A10 v1 v2 v3 v4 x6 x5 r8 ((10 * x6) + x5) K34 Q))))))))))))))))))
set_option maxRecDepth 100000 in
theorem TL_X8_gain_r44_34 {Ln : Nat} {v1 : Int32} {Q : Int32 → (Nat → Nat → Int32) → (Nat → Nat → Int32) → Prop} : ∀ p, zLoop (L_X8_gain_r44_34 Ln  v1  Q) p → SL_X8_gain_r44_34 Ln  v1 Q p := by
  refine zLoop.sound (Sem := SL_X8_gain_r44_34 Ln  v1 Q) ?_
  rintro ⟨v2, v3, v4, I, A⟩ K34 hK34 h0
  intro j5 j6 j7
  show zSem 140 34 0 0 [some (.ref 44), some (.int v1), some (.int v2), some (.int v3), some (.int v4), (Option.map Value.int j5), (Option.map Value.int j6), (Option.map Value.int j7)] [] (zGs Ln I A) (fun r => ∃ x I1 A1, r = (some (.int x), zGs Ln I1 A1) ∧ Q x I1 A1)
  change (((((I 44 4) * (I 44 4)) : Int32) ≤ v4 → (((v1 : Int32) ≠ 0 → ((Q v3 I A))) ∧ (¬ ((v1 : Int32) ≠ 0) → ((Q v2 I A))))) ∧ (¬ ((((I 44 4) * (I 44 4)) : Int32) ≤ v4) → ((¬ (I 44 4) = 0) ∧ (¬ (I 44 4) = 0) ∧ (((v4 / (I 44 4)) : Int32) = (v4 - v4 / (I 44 4) * (I 44 4)) → ((K34 (v2, v3, (v4 + 1), I, A)))) ∧ (¬ (((v4 / (I 44 4)) : Int32) = (v4 - v4 / (I 44 4) * (I 44 4))) → (∀ x5 : Int32, x5 = v4 - v4 / (I 44 4) * (I 44 4) → ((zin (v4 / (I 44 4)) 6 = true) ∧ (((A 49 ((v4 / (I 44 4))).toNatClampNeg) : Int32) ≤ 0 → ((K34 (v2, v3, (v4 + 1), I, A)))) ∧ (¬ (((A 49 ((v4 / (I 44 4))).toNatClampNeg) : Int32) ≤ 0) → (∀ x6 : Int32, x6 = (v4 / (I 44 4)) → ((W_X8_lend_r44 Ln I A x6 x5 1 (fun (A7 : Nat → Nat → Int32) => ((W_X8_waitsOfAll_r44 Ln I A7  (fun (r8 : Int32) (I9 : Nat → Nat → Int32) (A10 : Nat → Nat → Int32) => (((v3 : Int32) ≤ r8 → ((J_X8_gain_r44_116_s1 Ln I9 A10 v1 v2 v3 v4 x6 x5 r8 v2 K34 Q))) ∧ (¬ ((v3 : Int32) ≤ r8) → ((J_X8_gain_r44_116_s1 Ln I9 A10 v1 v2 v3 v4 x6 x5 r8 ((10 * x6) + x5) K34 Q)))))))))))))))))) at h0
  obtain ⟨h2, h3⟩ := h0
  by_cases h1 : (((I 44 4) * (I 44 4)) : Int32) ≤ v4
  · refine zS1 (fun r he => B_X8_gain_r44_34 Ln _ _ _ _ _ _ j5 j6 j7  (fun _ => he) (fun n => absurd h1 n)) ?_
    have h2 := h2 h1
    obtain ⟨h5, h6⟩ := h2
    by_cases h4 : (v1 : Int32) ≠ 0
    · refine zS1 (fun r he => B_X8_gain_r44_145 Ln _ _ _ _ _ _ j5 j6 j7  (fun _ => he) (fun n => absurd h4 n)) ?_
      have h5 := h5 h4
      refine zS1 (fun r he => B_X8_gain_r44_153 Ln _ _ _ _ _ _ j5 j6 j7  he) ?_
      exact ⟨_, B_X8_gain_r44_154_s1 Ln _ _ _ _ _ _ j5 j6 j7 _ , _, _, _, rfl, h5⟩
    · refine zS1 (fun r he => B_X8_gain_r44_145 Ln _ _ _ _ _ _ j5 j6 j7  (fun n => absurd n h4) (fun _ => he)) ?_
      have h6 := h6 h4
      refine zS1 (fun r he => B_X8_gain_r44_149 Ln _ _ _ _ _ _ j5 j6 j7  he) ?_
      exact ⟨_, B_X8_gain_r44_154_s1 Ln _ _ _ _ _ _ j5 j6 j7 _ , _, _, _, rfl, h6⟩
  · refine zS1 (fun r he => B_X8_gain_r44_34 Ln _ _ _ _ _ _ j5 j6 j7  (fun n => absurd n h1) (fun _ => he)) ?_
    have h3 := h3 h1
    obtain ⟨h7, h8⟩ := h3
    obtain ⟨h9, h10⟩ := h8
    obtain ⟨h12, h13⟩ := h10
    by_cases h11 : ((v4 / (I 44 4)) : Int32) = (v4 - v4 / (I 44 4) * (I 44 4))
    · refine zS1 (fun r he => B_X8_gain_r44_48 Ln _ _ _ _ _ _ j5 j6 j7 h7 h9 (fun _ => he) (fun n => absurd h11 n)) ?_
      have h12 := h12 h11
      refine zS1 (fun r he => B_X8_gain_r44_139 Ln _ _ _ _ _ _ _ _ j7  he) ?_
      have q := hK34 _ h12
      exact q (some _) (some _) j7
    · refine zS1 (fun r he => B_X8_gain_r44_48 Ln _ _ _ _ _ _ j5 j6 j7 h7 h9 (fun n => absurd n h11) (fun _ => he)) ?_
      have h13 := h13 h11
      have h14 := h13 _ rfl
      obtain ⟨h15, h16⟩ := h14
      obtain ⟨h18, h19⟩ := h16
      by_cases h17 : ((A 49 ((v4 / (I 44 4))).toNatClampNeg) : Int32) ≤ 0
      · refine zS1 (fun r he => B_X8_gain_r44_73 Ln _ _ _ _ _ _ _ _ j7 h15 (fun _ => he) (fun n => absurd h17 n)) ?_
        have h18 := h18 h17
        refine zS1 (fun r he => B_X8_gain_r44_139 Ln _ _ _ _ _ _ _ _ j7  he) ?_
        have q := hK34 _ h18
        exact q (some _) (some _) j7
      · refine zS1 (fun r he => B_X8_gain_r44_73 Ln _ _ _ _ _ _ _ _ j7 h15 (fun n => absurd n h17) (fun _ => he)) ?_
        have h19 := h19 h17
        have h20 := h19 _ rfl
        obtain ⟨_, h21, A7, rfl, h22⟩ := T_X8_lend_r44 Ln _ _ _ _ _ _ h20
        refine zS1 (fun r he => B_X8_gain_r44_83 Ln _ _ _ _ _ _ _ _ j7  h21 rfl he) ?_
        obtain ⟨_, h23, r8, I9, A10, rfl, h24⟩ := T_X8_waitsOfAll_r44 Ln _ _ _ h22
        refine zS1 (fun r he => B_X8_gain_r44_92 Ln _ _ _ _ _ _ _ _ j7  h23 rfl he) ?_
        obtain ⟨h26, h27⟩ := h24
        by_cases h25 : (v3 : Int32) ≤ r8
        · refine zS1 (fun r he => B_X8_gain_r44_96_s1 Ln _ _ _ _ _ _ _ _ j7 _  (fun _ => he) (fun n => absurd h25 n)) ?_
          have h26 := h26 h25
          refine zS1 (fun r he => B_X8_gain_r44_115 Ln _ _ _ _ _ _ _ _ _  he) ?_
          exact TJ_X8_gain_r44_116_s1 hK34 h26
        · refine zS1 (fun r he => B_X8_gain_r44_96_s1 Ln _ _ _ _ _ _ _ _ j7 _  (fun n => absurd n h25) (fun _ => he)) ?_
          have h27 := h27 h25
          refine zS1 (fun r he => B_X8_gain_r44_104 Ln _ _ _ _ _ _ _ _ _  he) ?_
          exact TJ_X8_gain_r44_116_s1 hK34 h27
def W_X8_gain_r44 (Ln : Nat) (I A : Nat → Nat → Int32) (v1 : Int32) (Q : Int32 → (Nat → Nat → Int32) → (Nat → Nat → Int32) → Prop) : Prop := ((W_X8_in Ln I A (Int32.toInt64 v1) 0 1 (fun (r1 : Int32) => (((r1 : Int32) ≠ 0 → ((((I 44 4) : Int32) ≠ 0 → ((W_X8_waitsOfAll_r44 Ln I A  (fun (r2 : Int32) (I3 : Nat → Nat → Int32) (A4 : Nat → Nat → Int32) => ((zLoop (L_X8_gain_r44_34 Ln v1  Q) ((-9), r2, 0, I3, A4))))))) ∧ (¬ (((I 44 4) : Int32) ≠ 0) → (Q (-3) I A)))) ∧ (¬ ((r1 : Int32) ≠ 0) → (Q (-2) I A))))))
set_option maxRecDepth 100000 in
theorem T_X8_gain_r44 (Ln : Nat) (I A : Nat → Nat → Int32) (v1 : Int32) (Q : Int32 → (Nat → Nat → Int32) → (Nat → Nat → Int32) → Prop) (h0 : W_X8_gain_r44 Ln I A v1 Q) : zSem 140 0 0 0 [some (.ref 44), some (.int v1), none, none, none, none, none, none] [] (zGs Ln I A) (fun r => ∃ x I1 A1, r = (some (.int x), zGs Ln I1 A1) ∧ Q x I1 A1) := by
  unfold W_X8_gain_r44 at h0
  obtain ⟨_, h1, r1, rfl, h2⟩ := T_X8_in Ln _ _ _ _ _ _ h0
  refine zS1 (fun r he => B_X8_gain_r44_0 Ln _ _ _  h1 rfl he) ?_
  obtain ⟨h4, h5⟩ := h2
  by_cases h3 : (r1 : Int32) ≠ 0
  · refine zS1 (fun r he => B_X8_gain_r44_7_s1 Ln _ _ _ _  (fun _ => he) (fun n => absurd h3 n)) ?_
    have h4 := h4 h3
    obtain ⟨h7, h8⟩ := h4
    by_cases h6 : ((I 44 4) : Int32) ≠ 0
    · refine zS1 (fun r he => B_X8_gain_r44_13 Ln _ _ _  (fun _ => he) (fun n => absurd h6 n)) ?_
      have h7 := h7 h6
      obtain ⟨_, h9, r2, I3, A4, rfl, h10⟩ := T_X8_waitsOfAll_r44 Ln _ _ _ h7
      refine zS1 (fun r he => B_X8_gain_r44_23 Ln _ _ _  h9 rfl he) ?_
      refine zS1 (fun r he => B_X8_gain_r44_30_s1 Ln _ _ _ _ _  he) ?_
      exact TL_X8_gain_r44_34  _ h10 none none none
    · refine zS1 (fun r he => B_X8_gain_r44_13 Ln _ _ _  (fun n => absurd n h6) (fun _ => he)) ?_
      have h8 := h8 h6
      exact ⟨_, B_X8_gain_r44_20 Ln _ _ _ , _, _, _, rfl, h8⟩
  · refine zS1 (fun r he => B_X8_gain_r44_7_s1 Ln _ _ _ _  (fun n => absurd n h3) (fun _ => he)) ?_
    have h5 := h5 h3
    exact ⟨_, B_X8_gain_r44_10 Ln _ _ _ , _, _, _, rfl, h5⟩

/-! what a method asks, by program (wip/whole/gen_wp.py) -/
def SL_X6_goThrough_r28_r42_38 (Ln : Nat) (I : Nat → Nat → Int32) (v2 : Int32) (v3 : Int32) (Q : (Nat → Nat → Int32) → Prop) : Int32 × Int32 × (Nat → Nat → Int32) → Prop
  | (v4, v5, A) => ∀  (j6 : Option Int32), zSem 35 38 0 0 [some (.ref 28), some (.ref 42), some (.int v2), some (.int v3), some (.int v4), some (.int v5), (Option.map Value.int j6)] [] (zGs Ln I A) (fun r => ∃ A1, r = (none, zGs Ln I A1) ∧ Q A1)
def L_X6_goThrough_r28_r42_38 (Ln : Nat) (I : Nat → Nat → Int32) (v2 : Int32) (v3 : Int32) (Q : (Nat → Nat → Int32) → Prop) : Int32 × Int32 × (Nat → Nat → Int32) → (Int32 × Int32 × (Nat → Nat → Int32) → Prop) → Prop
  | (v4, v5, A), K38 => (((60 : Int32) ≤ v5 → (Q A)) ∧ (¬ ((60 : Int32) ≤ v5) → ((zin v5 60 = true) ∧ (zin v5 60 = true) ∧ (zin v5 60 = true) ∧ ((((A 16 (v5).toNatClampNeg) &&& (v4 ^^^ ((-1)))) : Int32) = 0 → ((zin v5 60 = true) ∧ (K38 (v4, (v5 + 1), (zw (zw (zw A 30 ((v5).toNatClampNeg) ((-9))) 31 ((v5).toNatClampNeg) 0) 32 ((v5).toNatClampNeg) v4))))) ∧ (¬ ((((A 16 (v5).toNatClampNeg) &&& (v4 ^^^ ((-1)))) : Int32) = 0) → (∀ x5 : Int32, x5 = (A 16 (v5).toNatClampNeg) &&& (v4 ^^^ ((-1))) → (∀ A6 : Nat → Nat → Int32, A6 = zw (zw A 30 ((v5).toNatClampNeg) ((-9))) 31 ((v5).toNatClampNeg) 0 → ((W_X6_firstOf_r28 Ln I A6 (x5 &&& (v3 ^^^ ((-1)))) (fun (r7 : Int32) => ((zin v5 60 = true) ∧ (∀ A8 : Nat → Nat → Int32, A8 = zw A6 30 ((v5).toNatClampNeg) r7 → (W_X6_seat_r28 Ln I A8 (x5 &&& v3) (fun (r9 : Int32) => ((zin v5 60 = true) ∧ (zin v5 60 = true) ∧ (zin v5 60 = true) ∧ (W_X6_freed_r28 Ln I (zw A8 31 ((v5).toNatClampNeg) r9) (A8 30 (v5).toNatClampNeg) (fun (r10 : Int32) (A11 : Nat → Nat → Int32) => (∀ x12 : Int32, x12 = ((zw A8 31 ((v5).toNatClampNeg) r9) 31) (v5).toNatClampNeg → ((W_X6_note_r28 Ln I A11 (x5 &&& (v4 ||| (x12 ||| r10))) v5 (fun (A13 : Nat → Nat → Int32) => ((zin v5 60 = true) ∧ (K38 ((v4 ||| (x12 ||| r10)), (v5 + 1), (zw A13 32 ((v5).toNatClampNeg) (v4 ||| (x12 ||| r10))))))))))))))))))))))))))
set_option maxRecDepth 100000 in
theorem TL_X6_goThrough_r28_r42_38 {Ln : Nat} {I : Nat → Nat → Int32} {v2 : Int32} {v3 : Int32} {Q : (Nat → Nat → Int32) → Prop} : ∀ p, zLoop (L_X6_goThrough_r28_r42_38 Ln I v2 v3  Q) p → SL_X6_goThrough_r28_r42_38 Ln I v2 v3 Q p := by
  refine zLoop.sound (Sem := SL_X6_goThrough_r28_r42_38 Ln I v2 v3 Q) ?_
  rintro ⟨v4, v5, A⟩ K38 hK38 h0
  intro j6
  show zSem 35 38 0 0 [some (.ref 28), some (.ref 42), some (.int v2), some (.int v3), some (.int v4), some (.int v5), (Option.map Value.int j6)] [] (zGs Ln I A) (fun r => ∃ A1, r = (none, zGs Ln I A1) ∧ Q A1)
  change (((60 : Int32) ≤ v5 → (Q A)) ∧ (¬ ((60 : Int32) ≤ v5) → ((zin v5 60 = true) ∧ (zin v5 60 = true) ∧ (zin v5 60 = true) ∧ ((((A 16 (v5).toNatClampNeg) &&& (v4 ^^^ ((-1)))) : Int32) = 0 → ((zin v5 60 = true) ∧ (K38 (v4, (v5 + 1), (zw (zw (zw A 30 ((v5).toNatClampNeg) ((-9))) 31 ((v5).toNatClampNeg) 0) 32 ((v5).toNatClampNeg) v4))))) ∧ (¬ ((((A 16 (v5).toNatClampNeg) &&& (v4 ^^^ ((-1)))) : Int32) = 0) → (∀ x5 : Int32, x5 = (A 16 (v5).toNatClampNeg) &&& (v4 ^^^ ((-1))) → (∀ A6 : Nat → Nat → Int32, A6 = zw (zw A 30 ((v5).toNatClampNeg) ((-9))) 31 ((v5).toNatClampNeg) 0 → ((W_X6_firstOf_r28 Ln I A6 (x5 &&& (v3 ^^^ ((-1)))) (fun (r7 : Int32) => ((zin v5 60 = true) ∧ (∀ A8 : Nat → Nat → Int32, A8 = zw A6 30 ((v5).toNatClampNeg) r7 → (W_X6_seat_r28 Ln I A8 (x5 &&& v3) (fun (r9 : Int32) => ((zin v5 60 = true) ∧ (zin v5 60 = true) ∧ (zin v5 60 = true) ∧ (W_X6_freed_r28 Ln I (zw A8 31 ((v5).toNatClampNeg) r9) (A8 30 (v5).toNatClampNeg) (fun (r10 : Int32) (A11 : Nat → Nat → Int32) => (∀ x12 : Int32, x12 = ((zw A8 31 ((v5).toNatClampNeg) r9) 31) (v5).toNatClampNeg → ((W_X6_note_r28 Ln I A11 (x5 &&& (v4 ||| (x12 ||| r10))) v5 (fun (A13 : Nat → Nat → Int32) => ((zin v5 60 = true) ∧ (K38 ((v4 ||| (x12 ||| r10)), (v5 + 1), (zw A13 32 ((v5).toNatClampNeg) (v4 ||| (x12 ||| r10)))))))))))))))))))))))))) at h0
  obtain ⟨h2, h3⟩ := h0
  by_cases h1 : (60 : Int32) ≤ v5
  · refine zS1 (fun r he => B_X6_goThrough_r28_r42_38 Ln _ _ _ _ _ _ j6  (fun _ => he) (fun n => absurd h1 n)) ?_
    have h2 := h2 h1
    exact ⟨_, B_X6_goThrough_r28_r42_166 Ln _ _ _ _ _ _ j6 , _, rfl, h2⟩
  · refine zS1 (fun r he => B_X6_goThrough_r28_r42_38 Ln _ _ _ _ _ _ j6  (fun n => absurd n h1) (fun _ => he)) ?_
    have h3 := h3 h1
    obtain ⟨h4, h5⟩ := h3
    obtain ⟨h6, h7⟩ := h5
    obtain ⟨h8, h9⟩ := h7
    obtain ⟨h11, h12⟩ := h9
    by_cases h10 : (((A 16 (v5).toNatClampNeg) &&& (v4 ^^^ ((-1)))) : Int32) = 0
    · refine zS1 (fun r he => B_X6_goThrough_r28_r42_45 Ln _ _ _ _ _ _ j6 h4 h6 h8 (fun _ => he) (fun n => absurd h10 n)) ?_
      have h11 := h11 h10
      obtain ⟨h13, h14⟩ := h11
      refine zS1 (fun r he => B_X6_goThrough_r28_r42_151 Ln _ _ _ _ _ _ _ h13 he) ?_
      have q := hK38 _ h14
      exact q (some _)
    · refine zS1 (fun r he => B_X6_goThrough_r28_r42_45 Ln _ _ _ _ _ _ j6 h4 h6 h8 (fun n => absurd n h10) (fun _ => he)) ?_
      have h12 := h12 h10
      have h15 := h12 _ rfl
      have h16 := h15 _ rfl
      obtain ⟨_, h17, r7, rfl, h18⟩ := T_X6_firstOf_r28 Ln _ _ _ _ h16
      refine zS1 (fun r he => B_X6_goThrough_r28_r42_84 Ln _ _ _ _ _ _ _  h17 rfl he) ?_
      obtain ⟨h19, h20⟩ := h18
      have h21 := h20 _ rfl
      obtain ⟨_, h22, r9, rfl, h23⟩ := T_X6_seat_r28 Ln _ _ _ _ h21
      refine zS1 (fun r he => B_X6_goThrough_r28_r42_100_s3 Ln _ _ _ _ _ _ _ _ _ h19 h22 rfl he) ?_
      obtain ⟨h24, h25⟩ := h23
      obtain ⟨h26, h27⟩ := h25
      obtain ⟨h28, h29⟩ := h27
      obtain ⟨_, h30, r10, A11, rfl, h31⟩ := T_X6_freed_r28 Ln _ _ _ _ h29
      refine zS1 (fun r he => B_X6_goThrough_r28_r42_115_s3 Ln _ _ _ _ _ _ _ _ _ h24 h26 h28 h30 rfl he) ?_
      have h32 := h31 _ rfl
      obtain ⟨_, h33, A13, rfl, h34⟩ := T_X6_note_r28 Ln _ _ _ _ _ h32
      refine zS1 (fun r he => B_X6_goThrough_r28_r42_136_s3 Ln _ _ _ _ _ _ _ _ _ _  h33 rfl he) ?_
      obtain ⟨h35, h36⟩ := h34
      refine zS1 (fun r he => B_X6_goThrough_r28_r42_151 Ln _ _ _ _ _ _ _ h35 he) ?_
      have q := hK38 _ h36
      exact q (some _)
def W_X6_goThrough_r28_r42 (Ln : Nat) (I A : Nat → Nat → Int32) (v2 : Int32) (Q : (Nat → Nat → Int32) → Prop) : Prop := ((W_X6_lineUp_r28_r42 Ln I A v2 (fun (A1 : Nat → Nat → Int32) => ((W_J7_fill_53178_r29 Ln I A1 (-9) (fun (A2 : Nat → Nat → Int32) => ((W_J7_fill_53178_r34 Ln I A2 0 (fun (A3 : Nat → Nat → Int32) => ((W_X0_whoPays_r11_r42 Ln I A3  (fun (r4 : Int32) => ((zLoop (L_X6_goThrough_r28_r42_38 Ln I v2 r4  Q) (0, 0, A3)))))))))))))))
set_option maxRecDepth 100000 in
theorem T_X6_goThrough_r28_r42 (Ln : Nat) (I A : Nat → Nat → Int32) (v2 : Int32) (Q : (Nat → Nat → Int32) → Prop) (h0 : W_X6_goThrough_r28_r42 Ln I A v2 Q) : zSem 35 0 0 0 [some (.ref 28), some (.ref 42), some (.int v2), none, none, none, none] [] (zGs Ln I A) (fun r => ∃ A1, r = (none, zGs Ln I A1) ∧ Q A1) := by
  unfold W_X6_goThrough_r28_r42 at h0
  obtain ⟨_, h1, A1, rfl, h2⟩ := T_X6_lineUp_r28_r42 Ln _ _ _ _ h0
  refine zS1 (fun r he => B_X6_goThrough_r28_r42_0 Ln _ _ _  h1 rfl he) ?_
  obtain ⟨_, h3, A2, rfl, h4⟩ := T_J7_fill_53178_r29 Ln _ _ _ _ h2
  refine zS1 (fun r he => B_X6_goThrough_r28_r42_6 Ln _ _ _  h3 rfl he) ?_
  obtain ⟨_, h5, A3, rfl, h6⟩ := T_J7_fill_53178_r34 Ln _ _ _ _ h4
  refine zS1 (fun r he => B_X6_goThrough_r28_r42_15 Ln _ _ _  h5 rfl he) ?_
  obtain ⟨_, h7, r4, rfl, h8⟩ := T_X0_whoPays_r11_r42 Ln _ _ _ h6
  refine zS1 (fun r he => B_X6_goThrough_r28_r42_23 Ln _ _ _  h7 rfl he) ?_
  refine zS1 (fun r he => B_X6_goThrough_r28_r42_31_s1 Ln _ _ _ _  he) ?_
  exact TL_X6_goThrough_r28_r42_38  _ h8 none
def SL_X1_firstWrong_r26_r4_6 (Ln : Nat) (I A : Nat → Nat → Int32) (v2 : Int32) (v3 : Int32) (v4 : Int32) (Q : Int32 → Prop) : Int32 × Int32 → Prop
  | (v5, v6) => ∀  (j7 : Option Int32) (j8 : Option Int32), zSem 10 6 0 0 [some (.ref 26), some (.ref 4), some (.int v2), some (.int v3), some (.int v4), some (.int v5), some (.int v6), (Option.map Value.int j7), (Option.map Value.int j8)] [] (zGs Ln I A) (fun r => ∃ x, r = (some (.int x), zGs Ln I A) ∧ Q x)
def L_X1_firstWrong_r26_r4_6 (Ln : Nat) (I A : Nat → Nat → Int32) (v2 : Int32) (v3 : Int32) (v4 : Int32) (Q : Int32 → Prop) : Int32 × Int32 → (Int32 × Int32 → Prop) → Prop
  | (v5, v6), K6 => (((v3 : Int32) ≤ v6 → (Q (-9))) ∧ (¬ ((v3 : Int32) ≤ v6) → ((zin (v2 + v6) 60 = true) ∧ (zin v6 60 = true) ∧ ((((A 4 (v2 + v6).toNatClampNeg) &&& ((((A 16 (v6).toNatClampNeg) &&& (v5 ^^^ ((-1)))) &&& v4) ^^^ ((-1)))) : Int32) ≠ 0 → (Q v6)) ∧ (¬ ((((A 4 (v2 + v6).toNatClampNeg) &&& ((((A 16 (v6).toNatClampNeg) &&& (v5 ^^^ ((-1)))) &&& v4) ^^^ ((-1)))) : Int32) ≠ 0) → (∀ x1 : Int32, x1 = A 4 (v2 + v6).toNatClampNeg → (∀ x2 : Int32, x2 = ((A 16 (v6).toNatClampNeg) &&& (v5 ^^^ ((-1)))) &&& v4 → ((W_X0_carries_r11 Ln I A x1 (fun (r3 : Int32) => (((r3 : Int32) ≠ 0 → ((K6 ((v5 ||| x1), (v6 + 1))))) ∧ (¬ ((r3 : Int32) ≠ 0) → (Q v6))))))))))))
set_option maxRecDepth 100000 in
theorem TL_X1_firstWrong_r26_r4_6 {Ln : Nat} {I A : Nat → Nat → Int32} {v2 : Int32} {v3 : Int32} {v4 : Int32} {Q : Int32 → Prop} : ∀ p, zLoop (L_X1_firstWrong_r26_r4_6 Ln I A v2 v3 v4  Q) p → SL_X1_firstWrong_r26_r4_6 Ln I A v2 v3 v4 Q p := by
  refine zLoop.sound (Sem := SL_X1_firstWrong_r26_r4_6 Ln I A v2 v3 v4 Q) ?_
  rintro ⟨v5, v6⟩ K6 hK6 h0
  intro j7 j8
  show zSem 10 6 0 0 [some (.ref 26), some (.ref 4), some (.int v2), some (.int v3), some (.int v4), some (.int v5), some (.int v6), (Option.map Value.int j7), (Option.map Value.int j8)] [] (zGs Ln I A) (fun r => ∃ x, r = (some (.int x), zGs Ln I A) ∧ Q x)
  change (((v3 : Int32) ≤ v6 → (Q (-9))) ∧ (¬ ((v3 : Int32) ≤ v6) → ((zin (v2 + v6) 60 = true) ∧ (zin v6 60 = true) ∧ ((((A 4 (v2 + v6).toNatClampNeg) &&& ((((A 16 (v6).toNatClampNeg) &&& (v5 ^^^ ((-1)))) &&& v4) ^^^ ((-1)))) : Int32) ≠ 0 → (Q v6)) ∧ (¬ ((((A 4 (v2 + v6).toNatClampNeg) &&& ((((A 16 (v6).toNatClampNeg) &&& (v5 ^^^ ((-1)))) &&& v4) ^^^ ((-1)))) : Int32) ≠ 0) → (∀ x1 : Int32, x1 = A 4 (v2 + v6).toNatClampNeg → (∀ x2 : Int32, x2 = ((A 16 (v6).toNatClampNeg) &&& (v5 ^^^ ((-1)))) &&& v4 → ((W_X0_carries_r11 Ln I A x1 (fun (r3 : Int32) => (((r3 : Int32) ≠ 0 → ((K6 ((v5 ||| x1), (v6 + 1))))) ∧ (¬ ((r3 : Int32) ≠ 0) → (Q v6)))))))))))) at h0
  obtain ⟨h2, h3⟩ := h0
  by_cases h1 : (v3 : Int32) ≤ v6
  · refine zS1 (fun r he => B_X1_firstWrong_r26_r4_6 Ln _ _ _ _ _ _ _ j7 j8  (fun _ => he) (fun n => absurd h1 n)) ?_
    have h2 := h2 h1
    exact ⟨_, B_X1_firstWrong_r26_r4_78 Ln _ _ _ _ _ _ _ j7 j8 , _, rfl, h2⟩
  · refine zS1 (fun r he => B_X1_firstWrong_r26_r4_6 Ln _ _ _ _ _ _ _ j7 j8  (fun n => absurd n h1) (fun _ => he)) ?_
    have h3 := h3 h1
    obtain ⟨h4, h5⟩ := h3
    obtain ⟨h6, h7⟩ := h5
    obtain ⟨h9, h10⟩ := h7
    by_cases h8 : (((A 4 (v2 + v6).toNatClampNeg) &&& ((((A 16 (v6).toNatClampNeg) &&& (v5 ^^^ ((-1)))) &&& v4) ^^^ ((-1)))) : Int32) ≠ 0
    · refine zS1 (fun r he => B_X1_firstWrong_r26_r4_12 Ln _ _ _ _ _ _ _ j7 j8 h4 h6 (fun _ => he) (fun n => absurd h8 n)) ?_
      have h9 := h9 h8
      exact ⟨_, B_X1_firstWrong_r26_r4_62 Ln _ _ _ _ _ _ _ _ _ , _, rfl, h9⟩
    · refine zS1 (fun r he => B_X1_firstWrong_r26_r4_12 Ln _ _ _ _ _ _ _ j7 j8 h4 h6 (fun n => absurd n h8) (fun _ => he)) ?_
      have h10 := h10 h8
      have h11 := h10 _ rfl
      have h12 := h11 _ rfl
      obtain ⟨_, h13, r3, rfl, h14⟩ := T_X0_carries_r11 Ln _ _ _ _ h12
      refine zS1 (fun r he => B_X1_firstWrong_r26_r4_50 Ln _ _ _ _ _ _ _ _ _  h13 rfl he) ?_
      obtain ⟨h16, h17⟩ := h14
      by_cases h15 : (r3 : Int32) ≠ 0
      · refine zS1 (fun r he => B_X1_firstWrong_r26_r4_59_s1 Ln _ _ _ _ _ _ _ _ _ _  (fun _ => he) (fun n => absurd h15 n)) ?_
        have h16 := h16 h15
        refine zS1 (fun r he => B_X1_firstWrong_r26_r4_65 Ln _ _ _ _ _ _ _ _ _  he) ?_
        have q := hK6 _ h16
        exact q (some _) (some _)
      · refine zS1 (fun r he => B_X1_firstWrong_r26_r4_59_s1 Ln _ _ _ _ _ _ _ _ _ _  (fun n => absurd n h15) (fun _ => he)) ?_
        have h17 := h17 h15
        exact ⟨_, B_X1_firstWrong_r26_r4_62 Ln _ _ _ _ _ _ _ _ _ , _, rfl, h17⟩
def W_X1_firstWrong_r26_r4 (Ln : Nat) (I A : Nat → Nat → Int32) (v2 : Int32) (v3 : Int32) (v4 : Int32) (Q : Int32 → Prop) : Prop := ((zLoop (L_X1_firstWrong_r26_r4_6 Ln I A v2 v3 v4  Q) (0, 0)))
set_option maxRecDepth 100000 in
theorem T_X1_firstWrong_r26_r4 (Ln : Nat) (I A : Nat → Nat → Int32) (v2 : Int32) (v3 : Int32) (v4 : Int32) (Q : Int32 → Prop) (h0 : W_X1_firstWrong_r26_r4 Ln I A v2 v3 v4 Q) : zSem 10 0 0 0 [some (.ref 26), some (.ref 4), some (.int v2), some (.int v3), some (.int v4), none, none, none, none] [] (zGs Ln I A) (fun r => ∃ x, r = (some (.int x), zGs Ln I A) ∧ Q x) := by
  unfold W_X1_firstWrong_r26_r4 at h0
  refine zS1 (fun r he => B_X1_firstWrong_r26_r4_0 Ln _ _ _ _ _  he) ?_
  exact TL_X1_firstWrong_r26_r4_6  _ h0 none none
def SL_X1_firstWrong_r26_r6_6 (Ln : Nat) (I A : Nat → Nat → Int32) (v2 : Int32) (v3 : Int32) (v4 : Int32) (Q : Int32 → Prop) : Int32 × Int32 → Prop
  | (v5, v6) => ∀  (j7 : Option Int32) (j8 : Option Int32), zSem 10 6 0 0 [some (.ref 26), some (.ref 6), some (.int v2), some (.int v3), some (.int v4), some (.int v5), some (.int v6), (Option.map Value.int j7), (Option.map Value.int j8)] [] (zGs Ln I A) (fun r => ∃ x, r = (some (.int x), zGs Ln I A) ∧ Q x)
def L_X1_firstWrong_r26_r6_6 (Ln : Nat) (I A : Nat → Nat → Int32) (v2 : Int32) (v3 : Int32) (v4 : Int32) (Q : Int32 → Prop) : Int32 × Int32 → (Int32 × Int32 → Prop) → Prop
  | (v5, v6), K6 => (((v3 : Int32) ≤ v6 → (Q (-9))) ∧ (¬ ((v3 : Int32) ≤ v6) → ((zin (v2 + v6) 60 = true) ∧ (zin v6 60 = true) ∧ ((((A 6 (v2 + v6).toNatClampNeg) &&& ((((A 16 (v6).toNatClampNeg) &&& (v5 ^^^ ((-1)))) &&& v4) ^^^ ((-1)))) : Int32) ≠ 0 → (Q v6)) ∧ (¬ ((((A 6 (v2 + v6).toNatClampNeg) &&& ((((A 16 (v6).toNatClampNeg) &&& (v5 ^^^ ((-1)))) &&& v4) ^^^ ((-1)))) : Int32) ≠ 0) → (∀ x1 : Int32, x1 = A 6 (v2 + v6).toNatClampNeg → (∀ x2 : Int32, x2 = ((A 16 (v6).toNatClampNeg) &&& (v5 ^^^ ((-1)))) &&& v4 → ((W_X0_carries_r11 Ln I A x1 (fun (r3 : Int32) => (((r3 : Int32) ≠ 0 → ((K6 ((v5 ||| x1), (v6 + 1))))) ∧ (¬ ((r3 : Int32) ≠ 0) → (Q v6))))))))))))
set_option maxRecDepth 100000 in
theorem TL_X1_firstWrong_r26_r6_6 {Ln : Nat} {I A : Nat → Nat → Int32} {v2 : Int32} {v3 : Int32} {v4 : Int32} {Q : Int32 → Prop} : ∀ p, zLoop (L_X1_firstWrong_r26_r6_6 Ln I A v2 v3 v4  Q) p → SL_X1_firstWrong_r26_r6_6 Ln I A v2 v3 v4 Q p := by
  refine zLoop.sound (Sem := SL_X1_firstWrong_r26_r6_6 Ln I A v2 v3 v4 Q) ?_
  rintro ⟨v5, v6⟩ K6 hK6 h0
  intro j7 j8
  show zSem 10 6 0 0 [some (.ref 26), some (.ref 6), some (.int v2), some (.int v3), some (.int v4), some (.int v5), some (.int v6), (Option.map Value.int j7), (Option.map Value.int j8)] [] (zGs Ln I A) (fun r => ∃ x, r = (some (.int x), zGs Ln I A) ∧ Q x)
  change (((v3 : Int32) ≤ v6 → (Q (-9))) ∧ (¬ ((v3 : Int32) ≤ v6) → ((zin (v2 + v6) 60 = true) ∧ (zin v6 60 = true) ∧ ((((A 6 (v2 + v6).toNatClampNeg) &&& ((((A 16 (v6).toNatClampNeg) &&& (v5 ^^^ ((-1)))) &&& v4) ^^^ ((-1)))) : Int32) ≠ 0 → (Q v6)) ∧ (¬ ((((A 6 (v2 + v6).toNatClampNeg) &&& ((((A 16 (v6).toNatClampNeg) &&& (v5 ^^^ ((-1)))) &&& v4) ^^^ ((-1)))) : Int32) ≠ 0) → (∀ x1 : Int32, x1 = A 6 (v2 + v6).toNatClampNeg → (∀ x2 : Int32, x2 = ((A 16 (v6).toNatClampNeg) &&& (v5 ^^^ ((-1)))) &&& v4 → ((W_X0_carries_r11 Ln I A x1 (fun (r3 : Int32) => (((r3 : Int32) ≠ 0 → ((K6 ((v5 ||| x1), (v6 + 1))))) ∧ (¬ ((r3 : Int32) ≠ 0) → (Q v6)))))))))))) at h0
  obtain ⟨h2, h3⟩ := h0
  by_cases h1 : (v3 : Int32) ≤ v6
  · refine zS1 (fun r he => B_X1_firstWrong_r26_r6_6 Ln _ _ _ _ _ _ _ j7 j8  (fun _ => he) (fun n => absurd h1 n)) ?_
    have h2 := h2 h1
    exact ⟨_, B_X1_firstWrong_r26_r6_78 Ln _ _ _ _ _ _ _ j7 j8 , _, rfl, h2⟩
  · refine zS1 (fun r he => B_X1_firstWrong_r26_r6_6 Ln _ _ _ _ _ _ _ j7 j8  (fun n => absurd n h1) (fun _ => he)) ?_
    have h3 := h3 h1
    obtain ⟨h4, h5⟩ := h3
    obtain ⟨h6, h7⟩ := h5
    obtain ⟨h9, h10⟩ := h7
    by_cases h8 : (((A 6 (v2 + v6).toNatClampNeg) &&& ((((A 16 (v6).toNatClampNeg) &&& (v5 ^^^ ((-1)))) &&& v4) ^^^ ((-1)))) : Int32) ≠ 0
    · refine zS1 (fun r he => B_X1_firstWrong_r26_r6_12 Ln _ _ _ _ _ _ _ j7 j8 h4 h6 (fun _ => he) (fun n => absurd h8 n)) ?_
      have h9 := h9 h8
      exact ⟨_, B_X1_firstWrong_r26_r6_62 Ln _ _ _ _ _ _ _ _ _ , _, rfl, h9⟩
    · refine zS1 (fun r he => B_X1_firstWrong_r26_r6_12 Ln _ _ _ _ _ _ _ j7 j8 h4 h6 (fun n => absurd n h8) (fun _ => he)) ?_
      have h10 := h10 h8
      have h11 := h10 _ rfl
      have h12 := h11 _ rfl
      obtain ⟨_, h13, r3, rfl, h14⟩ := T_X0_carries_r11 Ln _ _ _ _ h12
      refine zS1 (fun r he => B_X1_firstWrong_r26_r6_50 Ln _ _ _ _ _ _ _ _ _  h13 rfl he) ?_
      obtain ⟨h16, h17⟩ := h14
      by_cases h15 : (r3 : Int32) ≠ 0
      · refine zS1 (fun r he => B_X1_firstWrong_r26_r6_59_s1 Ln _ _ _ _ _ _ _ _ _ _  (fun _ => he) (fun n => absurd h15 n)) ?_
        have h16 := h16 h15
        refine zS1 (fun r he => B_X1_firstWrong_r26_r6_65 Ln _ _ _ _ _ _ _ _ _  he) ?_
        have q := hK6 _ h16
        exact q (some _) (some _)
      · refine zS1 (fun r he => B_X1_firstWrong_r26_r6_59_s1 Ln _ _ _ _ _ _ _ _ _ _  (fun n => absurd n h15) (fun _ => he)) ?_
        have h17 := h17 h15
        exact ⟨_, B_X1_firstWrong_r26_r6_62 Ln _ _ _ _ _ _ _ _ _ , _, rfl, h17⟩
def W_X1_firstWrong_r26_r6 (Ln : Nat) (I A : Nat → Nat → Int32) (v2 : Int32) (v3 : Int32) (v4 : Int32) (Q : Int32 → Prop) : Prop := ((zLoop (L_X1_firstWrong_r26_r6_6 Ln I A v2 v3 v4  Q) (0, 0)))
set_option maxRecDepth 100000 in
theorem T_X1_firstWrong_r26_r6 (Ln : Nat) (I A : Nat → Nat → Int32) (v2 : Int32) (v3 : Int32) (v4 : Int32) (Q : Int32 → Prop) (h0 : W_X1_firstWrong_r26_r6 Ln I A v2 v3 v4 Q) : zSem 10 0 0 0 [some (.ref 26), some (.ref 6), some (.int v2), some (.int v3), some (.int v4), none, none, none, none] [] (zGs Ln I A) (fun r => ∃ x, r = (some (.int x), zGs Ln I A) ∧ Q x) := by
  unfold W_X1_firstWrong_r26_r6 at h0
  refine zS1 (fun r he => B_X1_firstWrong_r26_r6_0 Ln _ _ _ _ _  he) ?_
  exact TL_X1_firstWrong_r26_r6_6  _ h0 none none
def SL_X1_firstWrong_r26_r8_6 (Ln : Nat) (I A : Nat → Nat → Int32) (v2 : Int32) (v3 : Int32) (v4 : Int32) (Q : Int32 → Prop) : Int32 × Int32 → Prop
  | (v5, v6) => ∀  (j7 : Option Int32) (j8 : Option Int32), zSem 10 6 0 0 [some (.ref 26), some (.ref 8), some (.int v2), some (.int v3), some (.int v4), some (.int v5), some (.int v6), (Option.map Value.int j7), (Option.map Value.int j8)] [] (zGs Ln I A) (fun r => ∃ x, r = (some (.int x), zGs Ln I A) ∧ Q x)
def L_X1_firstWrong_r26_r8_6 (Ln : Nat) (I A : Nat → Nat → Int32) (v2 : Int32) (v3 : Int32) (v4 : Int32) (Q : Int32 → Prop) : Int32 × Int32 → (Int32 × Int32 → Prop) → Prop
  | (v5, v6), K6 => (((v3 : Int32) ≤ v6 → (Q (-9))) ∧ (¬ ((v3 : Int32) ≤ v6) → ((zin (v2 + v6) 60 = true) ∧ (zin v6 60 = true) ∧ ((((A 8 (v2 + v6).toNatClampNeg) &&& ((((A 16 (v6).toNatClampNeg) &&& (v5 ^^^ ((-1)))) &&& v4) ^^^ ((-1)))) : Int32) ≠ 0 → (Q v6)) ∧ (¬ ((((A 8 (v2 + v6).toNatClampNeg) &&& ((((A 16 (v6).toNatClampNeg) &&& (v5 ^^^ ((-1)))) &&& v4) ^^^ ((-1)))) : Int32) ≠ 0) → (∀ x1 : Int32, x1 = A 8 (v2 + v6).toNatClampNeg → (∀ x2 : Int32, x2 = ((A 16 (v6).toNatClampNeg) &&& (v5 ^^^ ((-1)))) &&& v4 → ((W_X0_carries_r11 Ln I A x1 (fun (r3 : Int32) => (((r3 : Int32) ≠ 0 → ((K6 ((v5 ||| x1), (v6 + 1))))) ∧ (¬ ((r3 : Int32) ≠ 0) → (Q v6))))))))))))
set_option maxRecDepth 100000 in
theorem TL_X1_firstWrong_r26_r8_6 {Ln : Nat} {I A : Nat → Nat → Int32} {v2 : Int32} {v3 : Int32} {v4 : Int32} {Q : Int32 → Prop} : ∀ p, zLoop (L_X1_firstWrong_r26_r8_6 Ln I A v2 v3 v4  Q) p → SL_X1_firstWrong_r26_r8_6 Ln I A v2 v3 v4 Q p := by
  refine zLoop.sound (Sem := SL_X1_firstWrong_r26_r8_6 Ln I A v2 v3 v4 Q) ?_
  rintro ⟨v5, v6⟩ K6 hK6 h0
  intro j7 j8
  show zSem 10 6 0 0 [some (.ref 26), some (.ref 8), some (.int v2), some (.int v3), some (.int v4), some (.int v5), some (.int v6), (Option.map Value.int j7), (Option.map Value.int j8)] [] (zGs Ln I A) (fun r => ∃ x, r = (some (.int x), zGs Ln I A) ∧ Q x)
  change (((v3 : Int32) ≤ v6 → (Q (-9))) ∧ (¬ ((v3 : Int32) ≤ v6) → ((zin (v2 + v6) 60 = true) ∧ (zin v6 60 = true) ∧ ((((A 8 (v2 + v6).toNatClampNeg) &&& ((((A 16 (v6).toNatClampNeg) &&& (v5 ^^^ ((-1)))) &&& v4) ^^^ ((-1)))) : Int32) ≠ 0 → (Q v6)) ∧ (¬ ((((A 8 (v2 + v6).toNatClampNeg) &&& ((((A 16 (v6).toNatClampNeg) &&& (v5 ^^^ ((-1)))) &&& v4) ^^^ ((-1)))) : Int32) ≠ 0) → (∀ x1 : Int32, x1 = A 8 (v2 + v6).toNatClampNeg → (∀ x2 : Int32, x2 = ((A 16 (v6).toNatClampNeg) &&& (v5 ^^^ ((-1)))) &&& v4 → ((W_X0_carries_r11 Ln I A x1 (fun (r3 : Int32) => (((r3 : Int32) ≠ 0 → ((K6 ((v5 ||| x1), (v6 + 1))))) ∧ (¬ ((r3 : Int32) ≠ 0) → (Q v6)))))))))))) at h0
  obtain ⟨h2, h3⟩ := h0
  by_cases h1 : (v3 : Int32) ≤ v6
  · refine zS1 (fun r he => B_X1_firstWrong_r26_r8_6 Ln _ _ _ _ _ _ _ j7 j8  (fun _ => he) (fun n => absurd h1 n)) ?_
    have h2 := h2 h1
    exact ⟨_, B_X1_firstWrong_r26_r8_78 Ln _ _ _ _ _ _ _ j7 j8 , _, rfl, h2⟩
  · refine zS1 (fun r he => B_X1_firstWrong_r26_r8_6 Ln _ _ _ _ _ _ _ j7 j8  (fun n => absurd n h1) (fun _ => he)) ?_
    have h3 := h3 h1
    obtain ⟨h4, h5⟩ := h3
    obtain ⟨h6, h7⟩ := h5
    obtain ⟨h9, h10⟩ := h7
    by_cases h8 : (((A 8 (v2 + v6).toNatClampNeg) &&& ((((A 16 (v6).toNatClampNeg) &&& (v5 ^^^ ((-1)))) &&& v4) ^^^ ((-1)))) : Int32) ≠ 0
    · refine zS1 (fun r he => B_X1_firstWrong_r26_r8_12 Ln _ _ _ _ _ _ _ j7 j8 h4 h6 (fun _ => he) (fun n => absurd h8 n)) ?_
      have h9 := h9 h8
      exact ⟨_, B_X1_firstWrong_r26_r8_62 Ln _ _ _ _ _ _ _ _ _ , _, rfl, h9⟩
    · refine zS1 (fun r he => B_X1_firstWrong_r26_r8_12 Ln _ _ _ _ _ _ _ j7 j8 h4 h6 (fun n => absurd n h8) (fun _ => he)) ?_
      have h10 := h10 h8
      have h11 := h10 _ rfl
      have h12 := h11 _ rfl
      obtain ⟨_, h13, r3, rfl, h14⟩ := T_X0_carries_r11 Ln _ _ _ _ h12
      refine zS1 (fun r he => B_X1_firstWrong_r26_r8_50 Ln _ _ _ _ _ _ _ _ _  h13 rfl he) ?_
      obtain ⟨h16, h17⟩ := h14
      by_cases h15 : (r3 : Int32) ≠ 0
      · refine zS1 (fun r he => B_X1_firstWrong_r26_r8_59_s1 Ln _ _ _ _ _ _ _ _ _ _  (fun _ => he) (fun n => absurd h15 n)) ?_
        have h16 := h16 h15
        refine zS1 (fun r he => B_X1_firstWrong_r26_r8_65 Ln _ _ _ _ _ _ _ _ _  he) ?_
        have q := hK6 _ h16
        exact q (some _) (some _)
      · refine zS1 (fun r he => B_X1_firstWrong_r26_r8_59_s1 Ln _ _ _ _ _ _ _ _ _ _  (fun n => absurd n h15) (fun _ => he)) ?_
        have h17 := h17 h15
        exact ⟨_, B_X1_firstWrong_r26_r8_62 Ln _ _ _ _ _ _ _ _ _ , _, rfl, h17⟩
def W_X1_firstWrong_r26_r8 (Ln : Nat) (I A : Nat → Nat → Int32) (v2 : Int32) (v3 : Int32) (v4 : Int32) (Q : Int32 → Prop) : Prop := ((zLoop (L_X1_firstWrong_r26_r8_6 Ln I A v2 v3 v4  Q) (0, 0)))
set_option maxRecDepth 100000 in
theorem T_X1_firstWrong_r26_r8 (Ln : Nat) (I A : Nat → Nat → Int32) (v2 : Int32) (v3 : Int32) (v4 : Int32) (Q : Int32 → Prop) (h0 : W_X1_firstWrong_r26_r8 Ln I A v2 v3 v4 Q) : zSem 10 0 0 0 [some (.ref 26), some (.ref 8), some (.int v2), some (.int v3), some (.int v4), none, none, none, none] [] (zGs Ln I A) (fun r => ∃ x, r = (some (.int x), zGs Ln I A) ∧ Q x) := by
  unfold W_X1_firstWrong_r26_r8 at h0
  refine zS1 (fun r he => B_X1_firstWrong_r26_r8_0 Ln _ _ _ _ _  he) ?_
  exact TL_X1_firstWrong_r26_r8_6  _ h0 none none
def SL_X1_firstWrong_r26_r10_6 (Ln : Nat) (I A : Nat → Nat → Int32) (v2 : Int32) (v3 : Int32) (v4 : Int32) (Q : Int32 → Prop) : Int32 × Int32 → Prop
  | (v5, v6) => ∀  (j7 : Option Int32) (j8 : Option Int32), zSem 10 6 0 0 [some (.ref 26), some (.ref 10), some (.int v2), some (.int v3), some (.int v4), some (.int v5), some (.int v6), (Option.map Value.int j7), (Option.map Value.int j8)] [] (zGs Ln I A) (fun r => ∃ x, r = (some (.int x), zGs Ln I A) ∧ Q x)
def L_X1_firstWrong_r26_r10_6 (Ln : Nat) (I A : Nat → Nat → Int32) (v2 : Int32) (v3 : Int32) (v4 : Int32) (Q : Int32 → Prop) : Int32 × Int32 → (Int32 × Int32 → Prop) → Prop
  | (v5, v6), K6 => (((v3 : Int32) ≤ v6 → (Q (-9))) ∧ (¬ ((v3 : Int32) ≤ v6) → ((zin (v2 + v6) 60 = true) ∧ (zin v6 60 = true) ∧ ((((A 10 (v2 + v6).toNatClampNeg) &&& ((((A 16 (v6).toNatClampNeg) &&& (v5 ^^^ ((-1)))) &&& v4) ^^^ ((-1)))) : Int32) ≠ 0 → (Q v6)) ∧ (¬ ((((A 10 (v2 + v6).toNatClampNeg) &&& ((((A 16 (v6).toNatClampNeg) &&& (v5 ^^^ ((-1)))) &&& v4) ^^^ ((-1)))) : Int32) ≠ 0) → (∀ x1 : Int32, x1 = A 10 (v2 + v6).toNatClampNeg → (∀ x2 : Int32, x2 = ((A 16 (v6).toNatClampNeg) &&& (v5 ^^^ ((-1)))) &&& v4 → ((W_X0_carries_r11 Ln I A x1 (fun (r3 : Int32) => (((r3 : Int32) ≠ 0 → ((K6 ((v5 ||| x1), (v6 + 1))))) ∧ (¬ ((r3 : Int32) ≠ 0) → (Q v6))))))))))))
set_option maxRecDepth 100000 in
theorem TL_X1_firstWrong_r26_r10_6 {Ln : Nat} {I A : Nat → Nat → Int32} {v2 : Int32} {v3 : Int32} {v4 : Int32} {Q : Int32 → Prop} : ∀ p, zLoop (L_X1_firstWrong_r26_r10_6 Ln I A v2 v3 v4  Q) p → SL_X1_firstWrong_r26_r10_6 Ln I A v2 v3 v4 Q p := by
  refine zLoop.sound (Sem := SL_X1_firstWrong_r26_r10_6 Ln I A v2 v3 v4 Q) ?_
  rintro ⟨v5, v6⟩ K6 hK6 h0
  intro j7 j8
  show zSem 10 6 0 0 [some (.ref 26), some (.ref 10), some (.int v2), some (.int v3), some (.int v4), some (.int v5), some (.int v6), (Option.map Value.int j7), (Option.map Value.int j8)] [] (zGs Ln I A) (fun r => ∃ x, r = (some (.int x), zGs Ln I A) ∧ Q x)
  change (((v3 : Int32) ≤ v6 → (Q (-9))) ∧ (¬ ((v3 : Int32) ≤ v6) → ((zin (v2 + v6) 60 = true) ∧ (zin v6 60 = true) ∧ ((((A 10 (v2 + v6).toNatClampNeg) &&& ((((A 16 (v6).toNatClampNeg) &&& (v5 ^^^ ((-1)))) &&& v4) ^^^ ((-1)))) : Int32) ≠ 0 → (Q v6)) ∧ (¬ ((((A 10 (v2 + v6).toNatClampNeg) &&& ((((A 16 (v6).toNatClampNeg) &&& (v5 ^^^ ((-1)))) &&& v4) ^^^ ((-1)))) : Int32) ≠ 0) → (∀ x1 : Int32, x1 = A 10 (v2 + v6).toNatClampNeg → (∀ x2 : Int32, x2 = ((A 16 (v6).toNatClampNeg) &&& (v5 ^^^ ((-1)))) &&& v4 → ((W_X0_carries_r11 Ln I A x1 (fun (r3 : Int32) => (((r3 : Int32) ≠ 0 → ((K6 ((v5 ||| x1), (v6 + 1))))) ∧ (¬ ((r3 : Int32) ≠ 0) → (Q v6)))))))))))) at h0
  obtain ⟨h2, h3⟩ := h0
  by_cases h1 : (v3 : Int32) ≤ v6
  · refine zS1 (fun r he => B_X1_firstWrong_r26_r10_6 Ln _ _ _ _ _ _ _ j7 j8  (fun _ => he) (fun n => absurd h1 n)) ?_
    have h2 := h2 h1
    exact ⟨_, B_X1_firstWrong_r26_r10_78 Ln _ _ _ _ _ _ _ j7 j8 , _, rfl, h2⟩
  · refine zS1 (fun r he => B_X1_firstWrong_r26_r10_6 Ln _ _ _ _ _ _ _ j7 j8  (fun n => absurd n h1) (fun _ => he)) ?_
    have h3 := h3 h1
    obtain ⟨h4, h5⟩ := h3
    obtain ⟨h6, h7⟩ := h5
    obtain ⟨h9, h10⟩ := h7
    by_cases h8 : (((A 10 (v2 + v6).toNatClampNeg) &&& ((((A 16 (v6).toNatClampNeg) &&& (v5 ^^^ ((-1)))) &&& v4) ^^^ ((-1)))) : Int32) ≠ 0
    · refine zS1 (fun r he => B_X1_firstWrong_r26_r10_12 Ln _ _ _ _ _ _ _ j7 j8 h4 h6 (fun _ => he) (fun n => absurd h8 n)) ?_
      have h9 := h9 h8
      exact ⟨_, B_X1_firstWrong_r26_r10_62 Ln _ _ _ _ _ _ _ _ _ , _, rfl, h9⟩
    · refine zS1 (fun r he => B_X1_firstWrong_r26_r10_12 Ln _ _ _ _ _ _ _ j7 j8 h4 h6 (fun n => absurd n h8) (fun _ => he)) ?_
      have h10 := h10 h8
      have h11 := h10 _ rfl
      have h12 := h11 _ rfl
      obtain ⟨_, h13, r3, rfl, h14⟩ := T_X0_carries_r11 Ln _ _ _ _ h12
      refine zS1 (fun r he => B_X1_firstWrong_r26_r10_50 Ln _ _ _ _ _ _ _ _ _  h13 rfl he) ?_
      obtain ⟨h16, h17⟩ := h14
      by_cases h15 : (r3 : Int32) ≠ 0
      · refine zS1 (fun r he => B_X1_firstWrong_r26_r10_59_s1 Ln _ _ _ _ _ _ _ _ _ _  (fun _ => he) (fun n => absurd h15 n)) ?_
        have h16 := h16 h15
        refine zS1 (fun r he => B_X1_firstWrong_r26_r10_65 Ln _ _ _ _ _ _ _ _ _  he) ?_
        have q := hK6 _ h16
        exact q (some _) (some _)
      · refine zS1 (fun r he => B_X1_firstWrong_r26_r10_59_s1 Ln _ _ _ _ _ _ _ _ _ _  (fun n => absurd n h15) (fun _ => he)) ?_
        have h17 := h17 h15
        exact ⟨_, B_X1_firstWrong_r26_r10_62 Ln _ _ _ _ _ _ _ _ _ , _, rfl, h17⟩
def W_X1_firstWrong_r26_r10 (Ln : Nat) (I A : Nat → Nat → Int32) (v2 : Int32) (v3 : Int32) (v4 : Int32) (Q : Int32 → Prop) : Prop := ((zLoop (L_X1_firstWrong_r26_r10_6 Ln I A v2 v3 v4  Q) (0, 0)))
set_option maxRecDepth 100000 in
theorem T_X1_firstWrong_r26_r10 (Ln : Nat) (I A : Nat → Nat → Int32) (v2 : Int32) (v3 : Int32) (v4 : Int32) (Q : Int32 → Prop) (h0 : W_X1_firstWrong_r26_r10 Ln I A v2 v3 v4 Q) : zSem 10 0 0 0 [some (.ref 26), some (.ref 10), some (.int v2), some (.int v3), some (.int v4), none, none, none, none] [] (zGs Ln I A) (fun r => ∃ x, r = (some (.int x), zGs Ln I A) ∧ Q x) := by
  unfold W_X1_firstWrong_r26_r10 at h0
  refine zS1 (fun r he => B_X1_firstWrong_r26_r10_0 Ln _ _ _ _ _  he) ?_
  exact TL_X1_firstWrong_r26_r10_6  _ h0 none none
def W_X5_mayStand (Ln : Nat) (I A : Nat → Nat → Int32) (v0 : Int32) (v1 : Int32) (v2 : Int32) (Q : Int32 → Prop) : Prop := (((5 : Int32) ≤ v0 → (((41 : Int32) ≤ v0 → ((Q 0))) ∧ (¬ ((41 : Int32) ≤ v0) → ((W_X5_mayStandInPart Ln I A ((v0 - 5) - (v0 - 5) / 6 * 6) v1 (fun (r1 : Int32) => (((r1 : Int32) = 0 → ((Q 0))) ∧ (¬ ((r1 : Int32) = 0) → ((Q 1)))))))))) ∧ (¬ ((5 : Int32) ≤ v0) → ((W_X5_mayStandInHead Ln I A v0 v1 v2 (fun (r2 : Int32) => ((r2 = 0 ∨ r2 = 1) ∧ Q r2))))))
set_option maxRecDepth 100000 in
theorem T_X5_mayStand (Ln : Nat) (I A : Nat → Nat → Int32) (v0 : Int32) (v1 : Int32) (v2 : Int32) (Q : Int32 → Prop) (h0 : W_X5_mayStand Ln I A v0 v1 v2 Q) : zSem 27 0 0 0 [some (.int v0), some (.int v1), some (.int v2)] [] (zGs Ln I A) (fun r => ∃ x, r = (some (.int x), zGs Ln I A) ∧ Q x) := by
  unfold W_X5_mayStand at h0
  obtain ⟨h2, h3⟩ := h0
  by_cases h1 : (5 : Int32) ≤ v0
  · refine zS1 (fun r he => B_X5_mayStand_0 Ln _ _ _ _ _  (fun _ => he) (fun n => absurd h1 n)) ?_
    have h2 := h2 h1
    obtain ⟨h5, h6⟩ := h2
    by_cases h4 : (41 : Int32) ≤ v0
    · refine zS1 (fun r he => B_X5_mayStand_12 Ln _ _ _ _ _  (fun _ => he) (fun n => absurd h4 n)) ?_
      have h5 := h5 h4
      refine zS1 (fun r he => B_X5_mayStand_35 Ln _ _ _ _ _  he) ?_
      exact ⟨_, B_X5_mayStand_36_s1 Ln _ _ _ _ _ _  (by decide), _, rfl, h5⟩
    · refine zS1 (fun r he => B_X5_mayStand_12 Ln _ _ _ _ _  (fun n => absurd n h4) (fun _ => he)) ?_
      have h6 := h6 h4
      obtain ⟨_, h7, r1, rfl, h8⟩ := T_X5_mayStandInPart Ln _ _ _ _ _ h6
      refine zS1 (fun r he => B_X5_mayStand_18 Ln _ _ _ _ _  h7 rfl he) ?_
      obtain ⟨h10, h11⟩ := h8
      by_cases h9 : (r1 : Int32) = 0
      · refine zS1 (fun r he => B_X5_mayStand_28_s1 Ln _ _ _ _ _ _  (fun _ => he) (fun n => absurd h9 n)) ?_
        have h10 := h10 h9
        refine zS1 (fun r he => B_X5_mayStand_35 Ln _ _ _ _ _  he) ?_
        exact ⟨_, B_X5_mayStand_36_s1 Ln _ _ _ _ _ _  (by decide), _, rfl, h10⟩
      · refine zS1 (fun r he => B_X5_mayStand_28_s1 Ln _ _ _ _ _ _  (fun n => absurd n h9) (fun _ => he)) ?_
        have h11 := h11 h9
        refine zS1 (fun r he => B_X5_mayStand_31 Ln _ _ _ _ _  he) ?_
        exact ⟨_, B_X5_mayStand_36_s1 Ln _ _ _ _ _ _  (by decide), _, rfl, h11⟩
  · refine zS1 (fun r he => B_X5_mayStand_0 Ln _ _ _ _ _  (fun n => absurd n h1) (fun _ => he)) ?_
    have h3 := h3 h1
    obtain ⟨_, h12, r2, rfl, h13⟩ := T_X5_mayStandInHead Ln _ _ _ _ _ _ h3
    refine zS1 (fun r he => B_X5_mayStand_5 Ln _ _ _ _ _  h12 rfl he) ?_
    obtain ⟨h14, h15⟩ := h13
    exact ⟨_, B_X5_mayStand_11_s1 Ln _ _ _ _ _ _  h14, _, rfl, h15⟩
def W_X7_least_r1 (Ln : Nat) (I A : Nat → Nat → Int32) (Q : Int32 → (Nat → Nat → Int32) → Prop) : Prop := ((W_X7_noBank_r1 Ln I A  (fun (r1 : Int32) => (((r1 : Int32) = 0 → ((W_X0_whoPays_r11_r42 Ln I A  (fun (r2 : Int32) => ((W_X1_leastWaiting_r26 Ln I A r2 (fun (r3 : Int32) (A4 : Nat → Nat → Int32) => (Q r3 A4)))))))) ∧ (¬ ((r1 : Int32) = 0) → ((Q (-3) A)))))))
set_option maxRecDepth 100000 in
theorem T_X7_least_r1 (Ln : Nat) (I A : Nat → Nat → Int32) (Q : Int32 → (Nat → Nat → Int32) → Prop) (h0 : W_X7_least_r1 Ln I A Q) : zSem 58 0 0 0 [some (.ref 1)] [] (zGs Ln I A) (fun r => ∃ x A1, r = (some (.int x), zGs Ln I A1) ∧ Q x A1) := by
  unfold W_X7_least_r1 at h0
  obtain ⟨_, h1, r1, rfl, h2⟩ := T_X7_noBank_r1 Ln _ _ _ h0
  refine zS1 (fun r he => B_X7_least_r1_0 Ln _ _   h1 rfl he) ?_
  obtain ⟨h4, h5⟩ := h2
  by_cases h3 : (r1 : Int32) = 0
  · refine zS1 (fun r he => B_X7_least_r1_4_s1 Ln _ _ _  (fun _ => he) (fun n => absurd h3 n)) ?_
    have h4 := h4 h3
    obtain ⟨_, h6, r2, rfl, h7⟩ := T_X0_whoPays_r11_r42 Ln _ _ _ h4
    refine zS1 (fun r he => B_X7_least_r1_12 Ln _ _   h6 rfl he) ?_
    obtain ⟨_, h8, r3, A4, rfl, h9⟩ := T_X1_leastWaiting_r26 Ln _ _ _ _ h7
    refine zS1 (fun r he => B_X7_least_r1_27_s2 Ln _ _ _  h8 rfl he) ?_
    exact ⟨_, B_X7_least_r1_30_s1 Ln _ _ _ , _, _, rfl, h9⟩
  · refine zS1 (fun r he => B_X7_least_r1_4_s1 Ln _ _ _  (fun n => absurd n h3) (fun _ => he)) ?_
    have h5 := h5 h3
    refine zS1 (fun r he => B_X7_least_r1_7 Ln _ _   he) ?_
    exact ⟨_, B_X7_least_r1_30_s1 Ln _ _ _ , _, _, rfl, h5⟩
def SL_X7_laws_r1_27 (Ln : Nat) (I : Nat → Nat → Int32) (v1 : Int32) (Q : Int32 → (Nat → Nat → Int32) → Prop) : Int32 × Int32 × (Nat → Nat → Int32) → Prop
  | (v2, v3, A) => zSem 59 27 0 0 [some (.ref 1), some (.int v1), some (.int v2), some (.int v3)] [] (zGs Ln I A) (fun r => ∃ x A1, r = (some (.int x), zGs Ln I A1) ∧ Q x A1)
def L_X7_laws_r1_27 (Ln : Nat) (I : Nat → Nat → Int32) (v1 : Int32) (Q : Int32 → (Nat → Nat → Int32) → Prop) : Int32 × Int32 × (Nat → Nat → Int32) → (Int32 × Int32 × (Nat → Nat → Int32) → Prop) → Prop
  | (v2, v3, A), K27 => (((3 : Int32) ≤ v3 → (Q v2 A)) ∧ (¬ ((3 : Int32) ≤ v3) → ((W_X6_goThrough_r35_r42 Ln I A v3 (fun (A2 : Nat → Nat → Int32) => ((W_X6_longestWait_r35 Ln I A2  (fun (r3 : Int32) => (((v1 : Int32) < r3 → ((K27 (v2, (v3 + 1), A2)))) ∧ (¬ ((v1 : Int32) < r3) → (((K27 ((v2 ||| (1 <<< (v3 &&& 31))), (v3 + 1), A2))))))))))))))
set_option maxRecDepth 100000 in
theorem TL_X7_laws_r1_27 {Ln : Nat} {I : Nat → Nat → Int32} {v1 : Int32} {Q : Int32 → (Nat → Nat → Int32) → Prop} : ∀ p, zLoop (L_X7_laws_r1_27 Ln I v1  Q) p → SL_X7_laws_r1_27 Ln I v1 Q p := by
  refine zLoop.sound (Sem := SL_X7_laws_r1_27 Ln I v1 Q) ?_
  rintro ⟨v2, v3, A⟩ K27 hK27 h0
  show zSem 59 27 0 0 [some (.ref 1), some (.int v1), some (.int v2), some (.int v3)] [] (zGs Ln I A) (fun r => ∃ x A1, r = (some (.int x), zGs Ln I A1) ∧ Q x A1)
  change (((3 : Int32) ≤ v3 → (Q v2 A)) ∧ (¬ ((3 : Int32) ≤ v3) → ((W_X6_goThrough_r35_r42 Ln I A v3 (fun (A2 : Nat → Nat → Int32) => ((W_X6_longestWait_r35 Ln I A2  (fun (r3 : Int32) => (((v1 : Int32) < r3 → ((K27 (v2, (v3 + 1), A2)))) ∧ (¬ ((v1 : Int32) < r3) → (((K27 ((v2 ||| (1 <<< (v3 &&& 31))), (v3 + 1), A2)))))))))))))) at h0
  obtain ⟨h2, h3⟩ := h0
  by_cases h1 : (3 : Int32) ≤ v3
  · refine zS1 (fun r he => B_X7_laws_r1_27 Ln _ _ _ _ _  (fun _ => he) (fun n => absurd h1 n)) ?_
    have h2 := h2 h1
    exact ⟨_, B_X7_laws_r1_67 Ln _ _ _ _ _ , _, _, rfl, h2⟩
  · refine zS1 (fun r he => B_X7_laws_r1_27 Ln _ _ _ _ _  (fun n => absurd n h1) (fun _ => he)) ?_
    have h3 := h3 h1
    obtain ⟨_, h4, A2, rfl, h5⟩ := T_X6_goThrough_r35_r42 Ln _ _ _ _ h3
    refine zS1 (fun r he => B_X7_laws_r1_32 Ln _ _ _ _ _  h4 rfl he) ?_
    obtain ⟨_, h6, r3, rfl, h7⟩ := T_X6_longestWait_r35 Ln _ _ _ h5
    refine zS1 (fun r he => B_X7_laws_r1_44 Ln _ _ _ _ _  h6 rfl he) ?_
    obtain ⟨h9, h10⟩ := h7
    by_cases h8 : (v1 : Int32) < r3
    · refine zS1 (fun r he => B_X7_laws_r1_51_s1 Ln _ _ _ _ _ _  (fun _ => he) (fun n => absurd h8 n)) ?_
      have h9 := h9 h8
      refine zS1 (fun r he => B_X7_laws_r1_61 Ln _ _ _ _ _  he) ?_
      have q := hK27 _ h9
      exact q
    · refine zS1 (fun r he => B_X7_laws_r1_51_s1 Ln _ _ _ _ _ _  (fun n => absurd n h8) (fun _ => he)) ?_
      have h10 := h10 h8
      refine zS1 (fun r he => B_X7_laws_r1_55 Ln _ _ _ _ _  he) ?_
      refine zS1 (fun r he => B_X7_laws_r1_61 Ln _ _ _ _ _  he) ?_
      have q := hK27 _ h10
      exact q
def W_X7_laws_r1 (Ln : Nat) (I A : Nat → Nat → Int32) (v1 : Int32) (Q : Int32 → (Nat → Nat → Int32) → Prop) : Prop := (((v1 : Int32) < 0 → (Q (-2) A)) ∧ (¬ ((v1 : Int32) < 0) → (((v1 : Int32) ≤ 60 → ((W_X7_noBank_r1 Ln I A  (fun (r1 : Int32) => (((r1 : Int32) = 0 → ((zLoop (L_X7_laws_r1_27 Ln I v1  Q) (0, 0, A)))) ∧ (¬ ((r1 : Int32) = 0) → (Q (-3) A))))))) ∧ (¬ ((v1 : Int32) ≤ 60) → (Q (-2) A)))))
set_option maxRecDepth 100000 in
theorem T_X7_laws_r1 (Ln : Nat) (I A : Nat → Nat → Int32) (v1 : Int32) (Q : Int32 → (Nat → Nat → Int32) → Prop) (h0 : W_X7_laws_r1 Ln I A v1 Q) : zSem 59 0 0 0 [some (.ref 1), some (.int v1), none, none] [] (zGs Ln I A) (fun r => ∃ x A1, r = (some (.int x), zGs Ln I A1) ∧ Q x A1) := by
  unfold W_X7_laws_r1 at h0
  obtain ⟨h2, h3⟩ := h0
  by_cases h1 : (v1 : Int32) < 0
  · refine zS1 (fun r he => B_X7_laws_r1_0 Ln _ _ _  (fun _ => he) (fun n => absurd h1 n)) ?_
    have h2 := h2 h1
    exact ⟨_, B_X7_laws_r1_10 Ln _ _ _ , _, _, rfl, h2⟩
  · refine zS1 (fun r he => B_X7_laws_r1_0 Ln _ _ _  (fun n => absurd n h1) (fun _ => he)) ?_
    have h3 := h3 h1
    obtain ⟨h5, h6⟩ := h3
    by_cases h4 : (v1 : Int32) ≤ 60
    · refine zS1 (fun r he => B_X7_laws_r1_4 Ln _ _ _  (fun _ => he) (fun n => absurd h4 n)) ?_
      have h5 := h5 h4
      obtain ⟨_, h7, r1, rfl, h8⟩ := T_X7_noBank_r1 Ln _ _ _ h5
      refine zS1 (fun r he => B_X7_laws_r1_13 Ln _ _ _  h7 rfl he) ?_
      obtain ⟨h10, h11⟩ := h8
      by_cases h9 : (r1 : Int32) = 0
      · refine zS1 (fun r he => B_X7_laws_r1_17_s1 Ln _ _ _ _  (fun _ => he) (fun n => absurd h9 n)) ?_
        have h10 := h10 h9
        refine zS1 (fun r he => B_X7_laws_r1_23 Ln _ _ _  he) ?_
        exact TL_X7_laws_r1_27  _ h10
      · refine zS1 (fun r he => B_X7_laws_r1_17_s1 Ln _ _ _ _  (fun n => absurd n h9) (fun _ => he)) ?_
        have h11 := h11 h9
        exact ⟨_, B_X7_laws_r1_20 Ln _ _ _ , _, _, rfl, h11⟩
    · refine zS1 (fun r he => B_X7_laws_r1_4 Ln _ _ _  (fun n => absurd n h4) (fun _ => he)) ?_
      have h6 := h6 h4
      exact ⟨_, B_X7_laws_r1_10 Ln _ _ _ , _, _, rfl, h6⟩
def SL_X7_favours_r1_28 (Ln : Nat) (I : Nat → Nat → Int32) (v1 : Int32) (Q : Int32 → (Nat → Nat → Int32) → Prop) : Int32 × (Nat → Nat → Int32) → Prop
  | (v2, A) => zSem 61 28 0 0 [some (.ref 1), some (.int v1), some (.int v2)] [] (zGs Ln I A) (fun r => ∃ x A1, r = (some (.int x), zGs Ln I A1) ∧ Q x A1)
def L_X7_favours_r1_28 (Ln : Nat) (I : Nat → Nat → Int32) (v1 : Int32) (Q : Int32 → (Nat → Nat → Int32) → Prop) : Int32 × (Nat → Nat → Int32) → (Int32 × (Nat → Nat → Int32) → Prop) → Prop
  | (v2, A), K28 => (((9 : Int32) < v2 → (Q (-9) A)) ∧ (¬ ((9 : Int32) < v2) → ((zin v1 6 = true) ∧ (∀ A2 : Nat → Nat → Int32, A2 = zcp A 42 43 0 0 6 → (W_X2_lentTo_r18 Ln I A2 v1 (fun (r3 : Int32) => (∀ x4 : Int32, x4 = ((zcp A 42 43 0 0 6) 43) (v1).toNatClampNeg → ((zin v1 6 = true) ∧ (W_X6_goThrough_r35_r43 Ln I (zw A2 43 ((v1).toNatClampNeg) (x4 + (v2 - r3))) (I 1 9) (fun (A5 : Nat → Nat → Int32) => ((zin v1 6 = true) ∧ (((A5 36 (v1).toNatClampNeg) : Int32) = (-9) → ((K28 ((v2 + 1), A5)))) ∧ (¬ (((A5 36 (v1).toNatClampNeg) : Int32) = (-9)) → (Q v2 A5)))))))))))))
set_option maxRecDepth 100000 in
theorem TL_X7_favours_r1_28 {Ln : Nat} {I : Nat → Nat → Int32} {v1 : Int32} {Q : Int32 → (Nat → Nat → Int32) → Prop} : ∀ p, zLoop (L_X7_favours_r1_28 Ln I v1  Q) p → SL_X7_favours_r1_28 Ln I v1 Q p := by
  refine zLoop.sound (Sem := SL_X7_favours_r1_28 Ln I v1 Q) ?_
  rintro ⟨v2, A⟩ K28 hK28 h0
  show zSem 61 28 0 0 [some (.ref 1), some (.int v1), some (.int v2)] [] (zGs Ln I A) (fun r => ∃ x A1, r = (some (.int x), zGs Ln I A1) ∧ Q x A1)
  change (((9 : Int32) < v2 → (Q (-9) A)) ∧ (¬ ((9 : Int32) < v2) → ((zin v1 6 = true) ∧ (∀ A2 : Nat → Nat → Int32, A2 = zcp A 42 43 0 0 6 → (W_X2_lentTo_r18 Ln I A2 v1 (fun (r3 : Int32) => (∀ x4 : Int32, x4 = ((zcp A 42 43 0 0 6) 43) (v1).toNatClampNeg → ((zin v1 6 = true) ∧ (W_X6_goThrough_r35_r43 Ln I (zw A2 43 ((v1).toNatClampNeg) (x4 + (v2 - r3))) (I 1 9) (fun (A5 : Nat → Nat → Int32) => ((zin v1 6 = true) ∧ (((A5 36 (v1).toNatClampNeg) : Int32) = (-9) → ((K28 ((v2 + 1), A5)))) ∧ (¬ (((A5 36 (v1).toNatClampNeg) : Int32) = (-9)) → (Q v2 A5))))))))))))) at h0
  obtain ⟨h2, h3⟩ := h0
  by_cases h1 : (9 : Int32) < v2
  · refine zS1 (fun r he => B_X7_favours_r1_28 Ln _ _ _ _  (fun _ => he) (fun n => absurd h1 n)) ?_
    have h2 := h2 h1
    exact ⟨_, B_X7_favours_r1_105 Ln _ _ _ _ , _, _, rfl, h2⟩
  · refine zS1 (fun r he => B_X7_favours_r1_28 Ln _ _ _ _  (fun n => absurd n h1) (fun _ => he)) ?_
    have h3 := h3 h1
    obtain ⟨h4, h5⟩ := h3
    have h6 := h5 _ rfl
    obtain ⟨_, h7, r3, rfl, h8⟩ := T_X2_lentTo_r18 Ln _ _ _ _ h6
    refine zS1 (fun r he => B_X7_favours_r1_34 Ln _ _ _ _ h4 h7 rfl he) ?_
    have h9 := h8 _ rfl
    obtain ⟨h10, h11⟩ := h9
    obtain ⟨_, h12, A5, rfl, h13⟩ := T_X6_goThrough_r35_r43 Ln _ _ _ _ h11
    refine zS1 (fun r he => B_X7_favours_r1_65_s5 Ln _ _ _ _ _ _ _ _ h10 h12 rfl he) ?_
    obtain ⟨h14, h15⟩ := h13
    obtain ⟨h17, h18⟩ := h15
    by_cases h16 : ((A5 36 (v1).toNatClampNeg) : Int32) = (-9)
    · refine zS1 (fun r he => B_X7_favours_r1_83 Ln _ _ _ _ h14 (fun _ => he) (fun n => absurd h16 n)) ?_
      have h17 := h17 h16
      refine zS1 (fun r he => B_X7_favours_r1_99 Ln _ _ _ _  he) ?_
      have q := hK28 _ h17
      exact q
    · refine zS1 (fun r he => B_X7_favours_r1_83 Ln _ _ _ _ h14 (fun n => absurd n h16) (fun _ => he)) ?_
      have h18 := h18 h16
      exact ⟨_, B_X7_favours_r1_97 Ln _ _ _ _ , _, _, rfl, h18⟩
def W_X7_favours_r1 (Ln : Nat) (I A : Nat → Nat → Int32) (v1 : Int32) (Q : Int32 → (Nat → Nat → Int32) → Prop) : Prop := ((W_X7_isShade_r1 Ln I A v1 (fun (r1 : Int32) => (((r1 : Int32) ≠ 0 → ((zin v1 6 = true) ∧ (((A 12 (v1).toNatClampNeg) : Int32) = 2 → ((zLoop (L_X7_favours_r1_28 Ln I v1  Q) (0, A)))) ∧ (¬ (((A 12 (v1).toNatClampNeg) : Int32) = 2) → (Q (-3) A)))) ∧ (¬ ((r1 : Int32) ≠ 0) → (Q (-1) A))))))
set_option maxRecDepth 100000 in
theorem T_X7_favours_r1 (Ln : Nat) (I A : Nat → Nat → Int32) (v1 : Int32) (Q : Int32 → (Nat → Nat → Int32) → Prop) (h0 : W_X7_favours_r1 Ln I A v1 Q) : zSem 61 0 0 0 [some (.ref 1), some (.int v1), none] [] (zGs Ln I A) (fun r => ∃ x A1, r = (some (.int x), zGs Ln I A1) ∧ Q x A1) := by
  unfold W_X7_favours_r1 at h0
  obtain ⟨_, h1, r1, rfl, h2⟩ := T_X7_isShade_r1 Ln _ _ _ _ h0
  refine zS1 (fun r he => B_X7_favours_r1_0 Ln _ _ _  h1 rfl he) ?_
  obtain ⟨h4, h5⟩ := h2
  by_cases h3 : (r1 : Int32) ≠ 0
  · refine zS1 (fun r he => B_X7_favours_r1_5_s1 Ln _ _ _ _  (fun _ => he) (fun n => absurd h3 n)) ?_
    have h4 := h4 h3
    obtain ⟨h6, h7⟩ := h4
    obtain ⟨h9, h10⟩ := h7
    by_cases h8 : ((A 12 (v1).toNatClampNeg) : Int32) = 2
    · refine zS1 (fun r he => B_X7_favours_r1_10 Ln _ _ _ h6 (fun _ => he) (fun n => absurd h8 n)) ?_
      have h9 := h9 h8
      refine zS1 (fun r he => B_X7_favours_r1_26 Ln _ _ _  he) ?_
      exact TL_X7_favours_r1_28  _ h9
    · refine zS1 (fun r he => B_X7_favours_r1_10 Ln _ _ _ h6 (fun n => absurd n h8) (fun _ => he)) ?_
      have h10 := h10 h8
      exact ⟨_, B_X7_favours_r1_23 Ln _ _ _ , _, _, rfl, h10⟩
  · refine zS1 (fun r he => B_X7_favours_r1_5_s1 Ln _ _ _ _  (fun n => absurd n h3) (fun _ => he)) ?_
    have h5 := h5 h3
    exact ⟨_, B_X7_favours_r1_8 Ln _ _ _ , _, _, rfl, h5⟩

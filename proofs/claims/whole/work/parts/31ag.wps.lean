/-! what a method asks, by program (wip/whole/gen_wp.py) -/
def SL_X8_undo_r44_19 (Ln : Nat) (v1 : Int32) (Q : Int32 → (Nat → Nat → Int32) → (Nat → Nat → Int32) → Prop) : Int32 × (Nat → Nat → Int32) × (Nat → Nat → Int32) → Prop
  | (v2, I, A) => zSem 116 19 0 0 [some (.ref 44), some (.int v1), some (.int v2)] [] (zGs Ln I A) (fun r => ∃ x I1 A1, r = (some (.int x), zGs Ln I1 A1) ∧ Q x I1 A1)
def L_X8_undo_r44_19 (Ln : Nat) (v1 : Int32) (Q : Int32 → (Nat → Nat → Int32) → (Nat → Nat → Int32) → Prop) : Int32 × (Nat → Nat → Int32) × (Nat → Nat → Int32) → (Int32 × (Nat → Nat → Int32) × (Nat → Nat → Int32) → Prop) → Prop
  | (v2, I, A), K19 => (((v1 : Int32) ≤ v2 → (Q (I 44 20) I A)) ∧ (¬ ((v1 : Int32) ≤ v2) → ((zin ((I 44 20) - 1) 6 = true) ∧ (zin ((I 44 20) - 1) 6 = true) ∧ (zin ((I 44 20) - 1) 6 = true) ∧ (∀ I2 : Nat → Nat → Int32, I2 = zp I 44 20 ((I 44 20) - 1) → (W_X8_lend_r44 Ln I2 A (A 55 ((I 44 20) - 1).toNatClampNeg) (A 54 ((I 44 20) - 1).toNatClampNeg) (A 56 ((I 44 20) - 1).toNatClampNeg) (fun (A3 : Nat → Nat → Int32) => ((K19 ((v2 + 1), I2, A3)))))))))
set_option maxRecDepth 100000 in
theorem TL_X8_undo_r44_19 {Ln : Nat} {v1 : Int32} {Q : Int32 → (Nat → Nat → Int32) → (Nat → Nat → Int32) → Prop} : ∀ p, zLoop (L_X8_undo_r44_19 Ln  v1  Q) p → SL_X8_undo_r44_19 Ln  v1 Q p := by
  refine zLoop.sound (Sem := SL_X8_undo_r44_19 Ln  v1 Q) ?_
  rintro ⟨v2, I, A⟩ K19 hK19 h0
  show zSem 116 19 0 0 [some (.ref 44), some (.int v1), some (.int v2)] [] (zGs Ln I A) (fun r => ∃ x I1 A1, r = (some (.int x), zGs Ln I1 A1) ∧ Q x I1 A1)
  change (((v1 : Int32) ≤ v2 → (Q (I 44 20) I A)) ∧ (¬ ((v1 : Int32) ≤ v2) → ((zin ((I 44 20) - 1) 6 = true) ∧ (zin ((I 44 20) - 1) 6 = true) ∧ (zin ((I 44 20) - 1) 6 = true) ∧ (∀ I2 : Nat → Nat → Int32, I2 = zp I 44 20 ((I 44 20) - 1) → (W_X8_lend_r44 Ln I2 A (A 55 ((I 44 20) - 1).toNatClampNeg) (A 54 ((I 44 20) - 1).toNatClampNeg) (A 56 ((I 44 20) - 1).toNatClampNeg) (fun (A3 : Nat → Nat → Int32) => ((K19 ((v2 + 1), I2, A3))))))))) at h0
  obtain ⟨h2, h3⟩ := h0
  by_cases h1 : (v1 : Int32) ≤ v2
  · refine zS1 (fun r he => B_X8_undo_r44_19 Ln _ _ _ _  (fun _ => he) (fun n => absurd h1 n)) ?_
    have h2 := h2 h1
    exact ⟨_, B_X8_undo_r44_71 Ln _ _ _ _ , _, _, _, rfl, h2⟩
  · refine zS1 (fun r he => B_X8_undo_r44_19 Ln _ _ _ _  (fun n => absurd n h1) (fun _ => he)) ?_
    have h3 := h3 h1
    obtain ⟨h4, h5⟩ := h3
    obtain ⟨h6, h7⟩ := h5
    obtain ⟨h8, h9⟩ := h7
    have h10 := h9 _ rfl
    obtain ⟨_, h11, A3, rfl, h12⟩ := T_X8_lend_r44 Ln _ _ _ _ _ _ h10
    refine zS1 (fun r he => B_X8_undo_r44_24 Ln _ _ _ _ h4 h6 h8 h11 rfl he) ?_
    refine zS1 (fun r he => B_X8_undo_r44_65 Ln _ _ _ _  he) ?_
    have q := hK19 _ h12
    exact q
def W_X8_undo_r44 (Ln : Nat) (I A : Nat → Nat → Int32) (v1 : Int32) (Q : Int32 → (Nat → Nat → Int32) → (Nat → Nat → Int32) → Prop) : Prop := ((W_X8_in Ln I A (Int32.toInt64 v1) 0 (Int32.toInt64 (I 44 20)) (fun (r1 : Int32) => (((r1 : Int32) ≠ 0 → ((zLoop (L_X8_undo_r44_19 Ln v1  Q) (0, I, A)))) ∧ (¬ ((r1 : Int32) ≠ 0) → (Q (-2) I A))))))
set_option maxRecDepth 100000 in
theorem T_X8_undo_r44 (Ln : Nat) (I A : Nat → Nat → Int32) (v1 : Int32) (Q : Int32 → (Nat → Nat → Int32) → (Nat → Nat → Int32) → Prop) (h0 : W_X8_undo_r44 Ln I A v1 Q) : zSem 116 0 0 0 [some (.ref 44), some (.int v1), none] [] (zGs Ln I A) (fun r => ∃ x I1 A1, r = (some (.int x), zGs Ln I1 A1) ∧ Q x I1 A1) := by
  unfold W_X8_undo_r44 at h0
  obtain ⟨_, h1, r1, rfl, h2⟩ := T_X8_in Ln _ _ _ _ _ _ h0
  refine zS1 (fun r he => B_X8_undo_r44_0 Ln _ _ _  h1 rfl he) ?_
  obtain ⟨h4, h5⟩ := h2
  by_cases h3 : (r1 : Int32) ≠ 0
  · refine zS1 (fun r he => B_X8_undo_r44_11_s1 Ln _ _ _ _  (fun _ => he) (fun n => absurd h3 n)) ?_
    have h4 := h4 h3
    refine zS1 (fun r he => B_X8_undo_r44_17 Ln _ _ _  he) ?_
    exact TL_X8_undo_r44_19  _ h4
  · refine zS1 (fun r he => B_X8_undo_r44_11_s1 Ln _ _ _ _  (fun n => absurd n h3) (fun _ => he)) ?_
    have h5 := h5 h3
    exact ⟨_, B_X8_undo_r44_14 Ln _ _ _ , _, _, _, rfl, h5⟩
def SL_X8_firstOf_r44_5 (Ln : Nat) (I A : Nat → Nat → Int32) (v1 : Int32) (Q : Int32 → Prop) : Int32 × Int32 → Prop
  | (v2, v3) => zSem 120 5 0 0 [some (.ref 44), some (.int v1), some (.int v2), some (.int v3)] [] (zGs Ln I A) (fun r => ∃ x, r = (some (.int x), zGs Ln I A) ∧ Q x)
def L_X8_firstOf_r44_5 (Ln : Nat) (I A : Nat → Nat → Int32) (v1 : Int32) (Q : Int32 → Prop) : Int32 × Int32 → (Int32 × Int32 → Prop) → Prop
  | (v2, v3), K5 => ((((I 44 4) : Int32) ≤ v3 → (Q v2)) ∧ (¬ (((I 44 4) : Int32) ≤ v3) → ((W_X8_isIn Ln I A v1 v3 (fun (r1 : Int32) => (((r1 : Int32) = 0 → (((K5 (v2, (v3 + 1)))))) ∧ (¬ ((r1 : Int32) = 0) → (((v2 : Int32) < 0 → (((K5 (v3, (v3 + 1)))))) ∧ (¬ ((v2 : Int32) < 0) → ((W_X8_isAhead_r44 Ln I A v3 v2 (fun (r2 : Int32) => (((r2 : Int32) = 0 → (((K5 (v2, (v3 + 1)))))) ∧ (¬ ((r2 : Int32) = 0) → (((K5 (v3, (v3 + 1)))))))))))))))))))
set_option maxRecDepth 100000 in
theorem TL_X8_firstOf_r44_5 {Ln : Nat} {I A : Nat → Nat → Int32} {v1 : Int32} {Q : Int32 → Prop} : ∀ p, zLoop (L_X8_firstOf_r44_5 Ln I A v1  Q) p → SL_X8_firstOf_r44_5 Ln I A v1 Q p := by
  refine zLoop.sound (Sem := SL_X8_firstOf_r44_5 Ln I A v1 Q) ?_
  rintro ⟨v2, v3⟩ K5 hK5 h0
  show zSem 120 5 0 0 [some (.ref 44), some (.int v1), some (.int v2), some (.int v3)] [] (zGs Ln I A) (fun r => ∃ x, r = (some (.int x), zGs Ln I A) ∧ Q x)
  change ((((I 44 4) : Int32) ≤ v3 → (Q v2)) ∧ (¬ (((I 44 4) : Int32) ≤ v3) → ((W_X8_isIn Ln I A v1 v3 (fun (r1 : Int32) => (((r1 : Int32) = 0 → (((K5 (v2, (v3 + 1)))))) ∧ (¬ ((r1 : Int32) = 0) → (((v2 : Int32) < 0 → (((K5 (v3, (v3 + 1)))))) ∧ (¬ ((v2 : Int32) < 0) → ((W_X8_isAhead_r44 Ln I A v3 v2 (fun (r2 : Int32) => (((r2 : Int32) = 0 → (((K5 (v2, (v3 + 1)))))) ∧ (¬ ((r2 : Int32) = 0) → (((K5 (v3, (v3 + 1))))))))))))))))))) at h0
  obtain ⟨h2, h3⟩ := h0
  by_cases h1 : ((I 44 4) : Int32) ≤ v3
  · refine zS1 (fun r he => B_X8_firstOf_r44_5 Ln _ _ _ _ _  (fun _ => he) (fun n => absurd h1 n)) ?_
    have h2 := h2 h1
    exact ⟨_, B_X8_firstOf_r44_46 Ln _ _ _ _ _ , _, rfl, h2⟩
  · refine zS1 (fun r he => B_X8_firstOf_r44_5 Ln _ _ _ _ _  (fun n => absurd n h1) (fun _ => he)) ?_
    have h3 := h3 h1
    obtain ⟨_, h4, r1, rfl, h5⟩ := T_X8_isIn Ln _ _ _ _ _ h3
    refine zS1 (fun r he => B_X8_firstOf_r44_13 Ln _ _ _ _ _  h4 rfl he) ?_
    obtain ⟨h7, h8⟩ := h5
    by_cases h6 : (r1 : Int32) = 0
    · refine zS1 (fun r he => B_X8_firstOf_r44_18_s1 Ln _ _ _ _ _ _  (fun _ => he) (fun n => absurd h6 n)) ?_
      have h7 := h7 h6
      refine zS1 (fun r he => B_X8_firstOf_r44_38 Ln _ _ _ _ _  he) ?_
      refine zS1 (fun r he => B_X8_firstOf_r44_39_s1 Ln _ _ _ _ _ _  he) ?_
      have q := hK5 _ h7
      exact q
    · refine zS1 (fun r he => B_X8_firstOf_r44_18_s1 Ln _ _ _ _ _ _  (fun n => absurd n h6) (fun _ => he)) ?_
      have h8 := h8 h6
      obtain ⟨h10, h11⟩ := h8
      by_cases h9 : (v2 : Int32) < 0
      · refine zS1 (fun r he => B_X8_firstOf_r44_21 Ln _ _ _ _ _  (fun _ => he) (fun n => absurd h9 n)) ?_
        have h10 := h10 h9
        refine zS1 (fun r he => B_X8_firstOf_r44_34 Ln _ _ _ _ _  he) ?_
        refine zS1 (fun r he => B_X8_firstOf_r44_39_s1 Ln _ _ _ _ _ _  he) ?_
        have q := hK5 _ h10
        exact q
      · refine zS1 (fun r he => B_X8_firstOf_r44_21 Ln _ _ _ _ _  (fun n => absurd n h9) (fun _ => he)) ?_
        have h11 := h11 h9
        obtain ⟨_, h12, r2, rfl, h13⟩ := T_X8_isAhead_r44 Ln _ _ _ _ _ h11
        refine zS1 (fun r he => B_X8_firstOf_r44_25 Ln _ _ _ _ _  h12 rfl he) ?_
        obtain ⟨h15, h16⟩ := h13
        by_cases h14 : (r2 : Int32) = 0
        · refine zS1 (fun r he => B_X8_firstOf_r44_31_s1 Ln _ _ _ _ _ _  (fun _ => he) (fun n => absurd h14 n)) ?_
          have h15 := h15 h14
          refine zS1 (fun r he => B_X8_firstOf_r44_38 Ln _ _ _ _ _  he) ?_
          refine zS1 (fun r he => B_X8_firstOf_r44_39_s1 Ln _ _ _ _ _ _  he) ?_
          have q := hK5 _ h15
          exact q
        · refine zS1 (fun r he => B_X8_firstOf_r44_31_s1 Ln _ _ _ _ _ _  (fun n => absurd n h14) (fun _ => he)) ?_
          have h16 := h16 h14
          refine zS1 (fun r he => B_X8_firstOf_r44_34 Ln _ _ _ _ _  he) ?_
          refine zS1 (fun r he => B_X8_firstOf_r44_39_s1 Ln _ _ _ _ _ _  he) ?_
          have q := hK5 _ h16
          exact q
def W_X8_firstOf_r44 (Ln : Nat) (I A : Nat → Nat → Int32) (v1 : Int32) (Q : Int32 → Prop) : Prop := ((zLoop (L_X8_firstOf_r44_5 Ln I A v1  Q) ((-9), 0)))
set_option maxRecDepth 100000 in
theorem T_X8_firstOf_r44 (Ln : Nat) (I A : Nat → Nat → Int32) (v1 : Int32) (Q : Int32 → Prop) (h0 : W_X8_firstOf_r44 Ln I A v1 Q) : zSem 120 0 0 0 [some (.ref 44), some (.int v1), none, none] [] (zGs Ln I A) (fun r => ∃ x, r = (some (.int x), zGs Ln I A) ∧ Q x) := by
  unfold W_X8_firstOf_r44 at h0
  refine zS1 (fun r he => B_X8_firstOf_r44_0 Ln _ _ _  he) ?_
  exact TL_X8_firstOf_r44_5  _ h0
def SL_X8_goNight_r44_65 (Ln : Nat) (v1 : Int32) (v2 : Int32) (v3 : Int32) (Q : (Nat → Nat → Int32) → (Nat → Nat → Int32) → Prop) : Int32 × Int32 × (Nat → Nat → Int32) × (Nat → Nat → Int32) → Prop
  | (v4, v5, I, A) => ∀  (j6 : Option Int32), zSem 124 65 0 0 [some (.ref 44), some (.int v1), some (.int v2), some (.int v3), some (.int v4), some (.int v5), (Option.map Value.int j6)] [] (zGs Ln I A) (fun r => ∃ I1 A1, r = (none, zGs Ln I1 A1) ∧ Q I1 A1)
def L_X8_goNight_r44_65 (Ln : Nat) (v1 : Int32) (v2 : Int32) (v3 : Int32) (Q : (Nat → Nat → Int32) → (Nat → Nat → Int32) → Prop) : Int32 × Int32 × (Nat → Nat → Int32) × (Nat → Nat → Int32) → (Int32 × Int32 × (Nat → Nat → Int32) × (Nat → Nat → Int32) → Prop) → Prop
  | (v4, v5, I, A), K65 => (((v5 : Int32) ≤ 0 → (((v3 : Int32) < 0 → (Q I A)) ∧ (¬ ((v3 : Int32) < 0) → ((zin v3 6 = true) ∧ (zin v3 6 = true) ∧ (zin v3 6 = true) ∧ (((((zw A 58 ((v3).toNatClampNeg) ((A 58 (v3).toNatClampNeg) + 1)) 58) (v3).toNatClampNeg) : Int32) ≠ (I 44 3) → (∀ A8 : Nat → Nat → Int32, A8 = zw A 58 ((v3).toNatClampNeg) ((A 58 (v3).toNatClampNeg) + 1) → (((zin v3 6 = true) ∧ (Q I (zw A8 57 ((v3).toNatClampNeg) 99)))))) ∧ (¬ (((((zw A 58 ((v3).toNatClampNeg) ((A 58 (v3).toNatClampNeg) + 1)) 58) (v3).toNatClampNeg) : Int32) ≠ (I 44 3)) → (∀ A9 : Nat → Nat → Int32, A9 = zw A 58 ((v3).toNatClampNeg) ((A 58 (v3).toNatClampNeg) + 1) → (((zin v3 6 = true) ∧ (Q I (zw A9 57 ((v3).toNatClampNeg) v1)))))))))) ∧ (¬ ((v5 : Int32) ≤ 0) → ((W_X8_firstOf_r44 Ln I A v5 (fun (r10 : Int32) => ((W_X8_bits Ln I A (I 44 27) (fun (r11 : Int32) => (∀ x12 : Int32, x12 = v5 &&& ((1 <<< (r10 &&& 31)) ^^^ ((-1))) → ((((I 44 1) : Int32) ≤ r11 → ((K65 (v4, x12, I, A)))) ∧ (¬ (((I 44 1) : Int32) ≤ r11) → ((W_X8_heavyOf_r44 Ln I A r10 (fun (r13 : Int32) => ((((I 44 2) : Int32) < (v4 + r13) → ((K65 (v4, x12, I, A)))) ∧ (¬ (((I 44 2) : Int32) < (v4 + r13)) → ((∀ I14 : Nat → Nat → Int32, I14 = zp I 44 27 ((I 44 27) ||| (1 <<< (r10 &&& 31))) → (W_X8_heavyOf_r44 Ln I14 A r10 (fun (r15 : Int32) => ((zin r10 6 = true) ∧ ((K65 ((v4 + r15), x12, I14, (zw A 57 ((r10).toNatClampNeg) v1)))))))))))))))))))))))))
set_option maxRecDepth 100000 in
theorem TL_X8_goNight_r44_65 {Ln : Nat} {v1 : Int32} {v2 : Int32} {v3 : Int32} {Q : (Nat → Nat → Int32) → (Nat → Nat → Int32) → Prop} : ∀ p, zLoop (L_X8_goNight_r44_65 Ln  v1 v2 v3  Q) p → SL_X8_goNight_r44_65 Ln  v1 v2 v3 Q p := by
  refine zLoop.sound (Sem := SL_X8_goNight_r44_65 Ln  v1 v2 v3 Q) ?_
  rintro ⟨v4, v5, I, A⟩ K65 hK65 h0
  intro j6
  show zSem 124 65 0 0 [some (.ref 44), some (.int v1), some (.int v2), some (.int v3), some (.int v4), some (.int v5), (Option.map Value.int j6)] [] (zGs Ln I A) (fun r => ∃ I1 A1, r = (none, zGs Ln I1 A1) ∧ Q I1 A1)
  change (((v5 : Int32) ≤ 0 → (((v3 : Int32) < 0 → (Q I A)) ∧ (¬ ((v3 : Int32) < 0) → ((zin v3 6 = true) ∧ (zin v3 6 = true) ∧ (zin v3 6 = true) ∧ (((((zw A 58 ((v3).toNatClampNeg) ((A 58 (v3).toNatClampNeg) + 1)) 58) (v3).toNatClampNeg) : Int32) ≠ (I 44 3) → (∀ A8 : Nat → Nat → Int32, A8 = zw A 58 ((v3).toNatClampNeg) ((A 58 (v3).toNatClampNeg) + 1) → (((zin v3 6 = true) ∧ (Q I (zw A8 57 ((v3).toNatClampNeg) 99)))))) ∧ (¬ (((((zw A 58 ((v3).toNatClampNeg) ((A 58 (v3).toNatClampNeg) + 1)) 58) (v3).toNatClampNeg) : Int32) ≠ (I 44 3)) → (∀ A9 : Nat → Nat → Int32, A9 = zw A 58 ((v3).toNatClampNeg) ((A 58 (v3).toNatClampNeg) + 1) → (((zin v3 6 = true) ∧ (Q I (zw A9 57 ((v3).toNatClampNeg) v1)))))))))) ∧ (¬ ((v5 : Int32) ≤ 0) → ((W_X8_firstOf_r44 Ln I A v5 (fun (r10 : Int32) => ((W_X8_bits Ln I A (I 44 27) (fun (r11 : Int32) => (∀ x12 : Int32, x12 = v5 &&& ((1 <<< (r10 &&& 31)) ^^^ ((-1))) → ((((I 44 1) : Int32) ≤ r11 → ((K65 (v4, x12, I, A)))) ∧ (¬ (((I 44 1) : Int32) ≤ r11) → ((W_X8_heavyOf_r44 Ln I A r10 (fun (r13 : Int32) => ((((I 44 2) : Int32) < (v4 + r13) → ((K65 (v4, x12, I, A)))) ∧ (¬ (((I 44 2) : Int32) < (v4 + r13)) → ((∀ I14 : Nat → Nat → Int32, I14 = zp I 44 27 ((I 44 27) ||| (1 <<< (r10 &&& 31))) → (W_X8_heavyOf_r44 Ln I14 A r10 (fun (r15 : Int32) => ((zin r10 6 = true) ∧ ((K65 ((v4 + r15), x12, I14, (zw A 57 ((r10).toNatClampNeg) v1))))))))))))))))))))))))) at h0
  obtain ⟨h2, h3⟩ := h0
  by_cases h1 : (v5 : Int32) ≤ 0
  · refine zS1 (fun r he => B_X8_goNight_r44_65 Ln _ _ _ _ _ _ _ j6  (fun _ => he) (fun n => absurd h1 n)) ?_
    have h2 := h2 h1
    obtain ⟨h5, h6⟩ := h2
    by_cases h4 : (v3 : Int32) < 0
    · refine zS1 (fun r he => B_X8_goNight_r44_154 Ln _ _ _ _ _ _ _ j6  (fun _ => he) (fun n => absurd h4 n)) ?_
      have h5 := h5 h4
      exact ⟨_, B_X8_goNight_r44_193 Ln _ _ _ _ _ _ _ j6 , _, _, rfl, h5⟩
    · refine zS1 (fun r he => B_X8_goNight_r44_154 Ln _ _ _ _ _ _ _ j6  (fun n => absurd n h4) (fun _ => he)) ?_
      have h6 := h6 h4
      obtain ⟨h7, h8⟩ := h6
      obtain ⟨h9, h10⟩ := h8
      obtain ⟨h11, h12⟩ := h10
      obtain ⟨h14, h15⟩ := h12
      by_cases h13 : ((((zw A 58 ((v3).toNatClampNeg) ((A 58 (v3).toNatClampNeg) + 1)) 58) (v3).toNatClampNeg) : Int32) ≠ (I 44 3)
      · refine zS1 (fun r he => B_X8_goNight_r44_158 Ln _ _ _ _ _ _ _ j6 h7 h9 h11 (fun _ => he) (fun n => absurd h13 n)) ?_
        have h14 := h14 h13
        have h16 := h14 _ rfl
        refine zS1 (fun r he => B_X8_goNight_r44_190_s2 Ln _ _ _ _ _ _ _ j6 _  he) ?_
        obtain ⟨h17, h18⟩ := h16
        refine zS1 (fun r he => B_X8_goNight_r44_192_s3 Ln _ _ _ _ _ _ _ j6 _ _ h17 he) ?_
        exact ⟨_, B_X8_goNight_r44_193 Ln _ _ _ _ _ _ _ j6 , _, _, rfl, h18⟩
      · refine zS1 (fun r he => B_X8_goNight_r44_158 Ln _ _ _ _ _ _ _ j6 h7 h9 h11 (fun n => absurd n h13) (fun _ => he)) ?_
        have h15 := h15 h13
        have h19 := h15 _ rfl
        refine zS1 (fun r he => B_X8_goNight_r44_186_s2 Ln _ _ _ _ _ _ _ j6 _  he) ?_
        obtain ⟨h20, h21⟩ := h19
        refine zS1 (fun r he => B_X8_goNight_r44_192_s3 Ln _ _ _ _ _ _ _ j6 _ _ h20 he) ?_
        exact ⟨_, B_X8_goNight_r44_193 Ln _ _ _ _ _ _ _ j6 , _, _, rfl, h21⟩
  · refine zS1 (fun r he => B_X8_goNight_r44_65 Ln _ _ _ _ _ _ _ j6  (fun n => absurd n h1) (fun _ => he)) ?_
    have h3 := h3 h1
    obtain ⟨_, h22, r10, rfl, h23⟩ := T_X8_firstOf_r44 Ln _ _ _ _ h3
    refine zS1 (fun r he => B_X8_goNight_r44_70 Ln _ _ _ _ _ _ _ j6  h22 rfl he) ?_
    obtain ⟨_, h24, r11, rfl, h25⟩ := T_X8_bits Ln _ _ _ _ h23
    refine zS1 (fun r he => B_X8_goNight_r44_76_s1 Ln _ _ _ _ _ _ _ j6 _  h24 rfl he) ?_
    have h26 := h25 _ rfl
    obtain ⟨h28, h29⟩ := h26
    by_cases h27 : ((I 44 1) : Int32) ≤ r11
    · refine zS1 (fun r he => B_X8_goNight_r44_96_s1 Ln _ _ _ _ _ _ _ _ _  (fun _ => he) (fun n => absurd h27 n)) ?_
      have h28 := h28 h27
      refine zS1 (fun r he => B_X8_goNight_r44_151 Ln _ _ _ _ _ _ _ _  he) ?_
      have q := hK65 _ h28
      exact q (some _)
    · refine zS1 (fun r he => B_X8_goNight_r44_96_s1 Ln _ _ _ _ _ _ _ _ _  (fun n => absurd n h27) (fun _ => he)) ?_
      have h29 := h29 h27
      obtain ⟨_, h30, r13, rfl, h31⟩ := T_X8_heavyOf_r44 Ln _ _ _ _ h29
      refine zS1 (fun r he => B_X8_goNight_r44_103 Ln _ _ _ _ _ _ _ _  h30 rfl he) ?_
      obtain ⟨h33, h34⟩ := h31
      by_cases h32 : ((I 44 2) : Int32) < (v4 + r13)
      · refine zS1 (fun r he => B_X8_goNight_r44_111_s2 Ln _ _ _ _ _ _ _ _ _ _  (fun _ => he) (fun n => absurd h32 n)) ?_
        have h33 := h33 h32
        refine zS1 (fun r he => B_X8_goNight_r44_151 Ln _ _ _ _ _ _ _ _  he) ?_
        have q := hK65 _ h33
        exact q (some _)
      · refine zS1 (fun r he => B_X8_goNight_r44_111_s2 Ln _ _ _ _ _ _ _ _ _ _  (fun n => absurd n h32) (fun _ => he)) ?_
        have h34 := h34 h32
        have h35 := h34 _ rfl
        obtain ⟨_, h36, r15, rfl, h37⟩ := T_X8_heavyOf_r44 Ln _ _ _ _ h35
        refine zS1 (fun r he => B_X8_goNight_r44_119 Ln _ _ _ _ _ _ _ _  h36 rfl he) ?_
        obtain ⟨h38, h39⟩ := h37
        refine zS1 (fun r he => B_X8_goNight_r44_140_s2 Ln _ _ _ _ _ _ _ _ _ _ h38 he) ?_
        refine zS1 (fun r he => B_X8_goNight_r44_151 Ln _ _ _ _ _ _ _ _  he) ?_
        have q := hK65 _ h39
        exact q (some _)
def J_X8_goNight_r44_46_s2 (Ln : Nat) (I A : Nat → Nat → Int32) (v1 : Int32) (v2 : Int32) (v3 : Int32) (s1 : Int32) (Q : (Nat → Nat → Int32) → (Nat → Nat → Int32) → Prop) : Prop := ((∀ I6 : Nat → Nat → Int32, I6 = zp (zp I 44 26 s1) 44 27 0 → (W_X8_whoCanPay_r44 Ln I6 A  (fun (r7 : Int32) => ((zLoop (L_X8_goNight_r44_65 Ln v1 v2 v3  Q) (0, (v2 &&& r7), I6, A)))))))
set_option maxRecDepth 100000 in
theorem TJ_X8_goNight_r44_46_s2 {Ln : Nat} {I A : Nat → Nat → Int32} {v1 : Int32} {v2 : Int32} {v3 : Int32} {s1 : Int32} {Q : (Nat → Nat → Int32) → (Nat → Nat → Int32) → Prop} (h0 : J_X8_goNight_r44_46_s2 Ln I A v1 v2 v3 s1  Q) : zSem 124 46 0 0 [some (.ref 44), some (.int v1), some (.int v2), some (.int v3), none, none, none] [.int s1, .ref 44] (zGs Ln I A) (fun r => ∃ I1 A1, r = (none, zGs Ln I1 A1) ∧ Q I1 A1) := by
  unfold J_X8_goNight_r44_46_s2 at h0
  have h1 := h0 _ rfl
  obtain ⟨_, h2, r7, rfl, h3⟩ := T_X8_whoCanPay_r44 Ln _ _ _ h1
  refine zS1 (fun r he => B_X8_goNight_r44_46_s2 Ln _ _ _ _ _ _  h2 rfl he) ?_
  refine zS1 (fun r he => B_X8_goNight_r44_62_s2 Ln _ _ _ _ _ _ _ _  he) ?_
  exact TL_X8_goNight_r44_65  _ h3 none
def W_X8_goNight_r44 (Ln : Nat) (I A : Nat → Nat → Int32) (v1 : Int32) (Q : (Nat → Nat → Int32) → (Nat → Nat → Int32) → Prop) : Prop := ((W_X8_cameBy_r44 Ln I A v1 (fun (r1 : Int32) => ((W_X8_overNow_r44 Ln I A  (fun (r2 : Int32) => ((W_X8_whoCanPay_r44 Ln I A  (fun (r3 : Int32) => (∀ x4 : Int32, x4 = r1 &&& (r2 ^^^ ((-1))) → ((W_X8_firstOf_r44 Ln I A (x4 &&& (r3 ^^^ ((-1)))) (fun (r5 : Int32) => (((x4 : Int32) ≠ 0 → (((0 : Int32) ≤ r5 → ((J_X8_goNight_r44_46_s2 Ln I A v1 x4 r5 r5  Q))) ∧ (¬ ((0 : Int32) ≤ r5) → ((J_X8_goNight_r44_46_s2 Ln I A v1 x4 r5 9  Q))))) ∧ (¬ ((x4 : Int32) ≠ 0) → ((J_X8_goNight_r44_46_s2 Ln I A v1 x4 r5 (-9)  Q)))))))))))))))))
set_option maxRecDepth 100000 in
theorem T_X8_goNight_r44 (Ln : Nat) (I A : Nat → Nat → Int32) (v1 : Int32) (Q : (Nat → Nat → Int32) → (Nat → Nat → Int32) → Prop) (h0 : W_X8_goNight_r44 Ln I A v1 Q) : zSem 124 0 0 0 [some (.ref 44), some (.int v1), none, none, none, none, none] [] (zGs Ln I A) (fun r => ∃ I1 A1, r = (none, zGs Ln I1 A1) ∧ Q I1 A1) := by
  unfold W_X8_goNight_r44 at h0
  obtain ⟨_, h1, r1, rfl, h2⟩ := T_X8_cameBy_r44 Ln _ _ _ _ h0
  refine zS1 (fun r he => B_X8_goNight_r44_0 Ln _ _ _  h1 rfl he) ?_
  obtain ⟨_, h3, r2, rfl, h4⟩ := T_X8_overNow_r44 Ln _ _ _ h2
  refine zS1 (fun r he => B_X8_goNight_r44_5_s1 Ln _ _ _ _  h3 rfl he) ?_
  obtain ⟨_, h5, r3, rfl, h6⟩ := T_X8_whoCanPay_r44 Ln _ _ _ h4
  refine zS1 (fun r he => B_X8_goNight_r44_9_s2 Ln _ _ _ _ _  h5 rfl he) ?_
  have h7 := h6 _ rfl
  obtain ⟨_, h8, r5, rfl, h9⟩ := T_X8_firstOf_r44 Ln _ _ _ _ h7
  refine zS1 (fun r he => B_X8_goNight_r44_19_s3 Ln _ _ _ _ _ _  h8 rfl he) ?_
  obtain ⟨h11, h12⟩ := h9
  by_cases h10 : ((r1 &&& (r2 ^^^ ((-1)))) : Int32) ≠ 0
  · refine zS1 (fun r he => B_X8_goNight_r44_25_s1 Ln _ _ _ _ _  (fun _ => he) (fun n => absurd h10 n)) ?_
    have h11 := h11 h10
    obtain ⟨h14, h15⟩ := h11
    by_cases h13 : (0 : Int32) ≤ r5
    · refine zS1 (fun r he => B_X8_goNight_r44_36_s1 Ln _ _ _ _ _  (fun _ => he) (fun n => absurd h13 n)) ?_
      have h14 := h14 h13
      refine zS1 (fun r he => B_X8_goNight_r44_45_s1 Ln _ _ _ _ _  he) ?_
      exact TJ_X8_goNight_r44_46_s2  h14
    · refine zS1 (fun r he => B_X8_goNight_r44_36_s1 Ln _ _ _ _ _  (fun n => absurd n h13) (fun _ => he)) ?_
      have h15 := h15 h13
      refine zS1 (fun r he => B_X8_goNight_r44_40_s1 Ln _ _ _ _ _  he) ?_
      exact TJ_X8_goNight_r44_46_s2  h15
  · refine zS1 (fun r he => B_X8_goNight_r44_25_s1 Ln _ _ _ _ _  (fun n => absurd n h10) (fun _ => he)) ?_
    have h12 := h12 h10
    refine zS1 (fun r he => B_X8_goNight_r44_31_s1 Ln _ _ _ _ _  he) ?_
    exact TJ_X8_goNight_r44_46_s2  h12
def SL_X8_goTo_r44_6 (Ln : Nat) (v1 : Int32) (Q : (Nat → Nat → Int32) → (Nat → Nat → Int32) → Prop) : Int32 × (Nat → Nat → Int32) × (Nat → Nat → Int32) → Prop
  | (v2, I, A) => zSem 125 6 0 0 [some (.ref 44), some (.int v1), some (.int v2)] [] (zGs Ln I A) (fun r => ∃ I1 A1, r = (none, zGs Ln I1 A1) ∧ Q I1 A1)
def L_X8_goTo_r44_6 (Ln : Nat) (v1 : Int32) (Q : (Nat → Nat → Int32) → (Nat → Nat → Int32) → Prop) : Int32 × (Nat → Nat → Int32) × (Nat → Nat → Int32) → (Int32 × (Nat → Nat → Int32) × (Nat → Nat → Int32) → Prop) → Prop
  | (v2, I, A), K6 => (((v1 : Int32) < v2 → (Q I A)) ∧ (¬ ((v1 : Int32) < v2) → ((W_X8_goNight_r44 Ln I A v2 (fun (I2 : Nat → Nat → Int32) (A3 : Nat → Nat → Int32) => ((K6 ((v2 + 1), I2, A3))))))))
set_option maxRecDepth 100000 in
theorem TL_X8_goTo_r44_6 {Ln : Nat} {v1 : Int32} {Q : (Nat → Nat → Int32) → (Nat → Nat → Int32) → Prop} : ∀ p, zLoop (L_X8_goTo_r44_6 Ln  v1  Q) p → SL_X8_goTo_r44_6 Ln  v1 Q p := by
  refine zLoop.sound (Sem := SL_X8_goTo_r44_6 Ln  v1 Q) ?_
  rintro ⟨v2, I, A⟩ K6 hK6 h0
  show zSem 125 6 0 0 [some (.ref 44), some (.int v1), some (.int v2)] [] (zGs Ln I A) (fun r => ∃ I1 A1, r = (none, zGs Ln I1 A1) ∧ Q I1 A1)
  change (((v1 : Int32) < v2 → (Q I A)) ∧ (¬ ((v1 : Int32) < v2) → ((W_X8_goNight_r44 Ln I A v2 (fun (I2 : Nat → Nat → Int32) (A3 : Nat → Nat → Int32) => ((K6 ((v2 + 1), I2, A3)))))))) at h0
  obtain ⟨h2, h3⟩ := h0
  by_cases h1 : (v1 : Int32) < v2
  · refine zS1 (fun r he => B_X8_goTo_r44_6 Ln _ _ _ _  (fun _ => he) (fun n => absurd h1 n)) ?_
    have h2 := h2 h1
    exact ⟨_, B_X8_goTo_r44_22 Ln _ _ _ _ , _, _, rfl, h2⟩
  · refine zS1 (fun r he => B_X8_goTo_r44_6 Ln _ _ _ _  (fun n => absurd n h1) (fun _ => he)) ?_
    have h3 := h3 h1
    obtain ⟨_, h4, I2, A3, rfl, h5⟩ := T_X8_goNight_r44 Ln _ _ _ _ h3
    refine zS1 (fun r he => B_X8_goTo_r44_11 Ln _ _ _ _  h4 rfl he) ?_
    refine zS1 (fun r he => B_X8_goTo_r44_16 Ln _ _ _ _  he) ?_
    have q := hK6 _ h5
    exact q
def W_X8_goTo_r44 (Ln : Nat) (I A : Nat → Nat → Int32) (v1 : Int32) (Q : (Nat → Nat → Int32) → (Nat → Nat → Int32) → Prop) : Prop := ((W_X8_begin_r44 Ln I A  (fun (A1 : Nat → Nat → Int32) => ((zLoop (L_X8_goTo_r44_6 Ln v1  Q) (0, I, A1))))))
set_option maxRecDepth 100000 in
theorem T_X8_goTo_r44 (Ln : Nat) (I A : Nat → Nat → Int32) (v1 : Int32) (Q : (Nat → Nat → Int32) → (Nat → Nat → Int32) → Prop) (h0 : W_X8_goTo_r44 Ln I A v1 Q) : zSem 125 0 0 0 [some (.ref 44), some (.int v1), none] [] (zGs Ln I A) (fun r => ∃ I1 A1, r = (none, zGs Ln I1 A1) ∧ Q I1 A1) := by
  unfold W_X8_goTo_r44 at h0
  obtain ⟨_, h1, A1, rfl, h2⟩ := T_X8_begin_r44 Ln _ _ _ h0
  refine zS1 (fun r he => B_X8_goTo_r44_0 Ln _ _ _  h1 rfl he) ?_
  refine zS1 (fun r he => B_X8_goTo_r44_4 Ln _ _ _  he) ?_
  exact TL_X8_goTo_r44_6  _ h2
def W_X8_goAll_r44 (Ln : Nat) (I A : Nat → Nat → Int32) (Q : (Nat → Nat → Int32) → (Nat → Nat → Int32) → Prop) : Prop := ((W_X8_goTo_r44 Ln I A 59 (fun (I1 : Nat → Nat → Int32) (A2 : Nat → Nat → Int32) => (Q I1 A2))))
set_option maxRecDepth 100000 in
theorem T_X8_goAll_r44 (Ln : Nat) (I A : Nat → Nat → Int32) (Q : (Nat → Nat → Int32) → (Nat → Nat → Int32) → Prop) (h0 : W_X8_goAll_r44 Ln I A Q) : zSem 126 0 0 0 [some (.ref 44)] [] (zGs Ln I A) (fun r => ∃ I1 A1, r = (none, zGs Ln I1 A1) ∧ Q I1 A1) := by
  unfold W_X8_goAll_r44 at h0
  obtain ⟨_, h1, I1, A2, rfl, h2⟩ := T_X8_goTo_r44 Ln _ _ _ _ h0
  refine zS1 (fun r he => B_X8_goAll_r44_0 Ln _ _   h1 rfl he) ?_
  exact ⟨_, B_X8_goAll_r44_6 Ln _ _  , _, _, rfl, h2⟩
def W_X8_over_r44 (Ln : Nat) (I A : Nat → Nat → Int32) (v1 : Int32) (Q : Int32 → (Nat → Nat → Int32) → (Nat → Nat → Int32) → Prop) : Prop := ((W_X8_noShade_r44 Ln I A v1 (fun (r1 : Int32) => (((r1 : Int32) = 0 → ((W_X8_goAll_r44 Ln I A  (fun (I2 : Nat → Nat → Int32) (A3 : Nat → Nat → Int32) => ((zin v1 6 = true) ∧ (((A3 57 (v1).toNatClampNeg) : Int32) ≠ 99 → ((zin v1 6 = true) ∧ (Q (A3 57 (v1).toNatClampNeg) I2 A3))) ∧ (¬ (((A3 57 (v1).toNatClampNeg) : Int32) ≠ 99) → ((Q (-9) I2 A3)))))))) ∧ (¬ ((r1 : Int32) = 0) → (Q (-1) I A))))))
set_option maxRecDepth 100000 in
theorem T_X8_over_r44 (Ln : Nat) (I A : Nat → Nat → Int32) (v1 : Int32) (Q : Int32 → (Nat → Nat → Int32) → (Nat → Nat → Int32) → Prop) (h0 : W_X8_over_r44 Ln I A v1 Q) : zSem 127 0 0 0 [some (.ref 44), some (.int v1)] [] (zGs Ln I A) (fun r => ∃ x I1 A1, r = (some (.int x), zGs Ln I1 A1) ∧ Q x I1 A1) := by
  unfold W_X8_over_r44 at h0
  obtain ⟨_, h1, r1, rfl, h2⟩ := T_X8_noShade_r44 Ln _ _ _ _ h0
  refine zS1 (fun r he => B_X8_over_r44_0 Ln _ _ _  h1 rfl he) ?_
  obtain ⟨h4, h5⟩ := h2
  by_cases h3 : (r1 : Int32) = 0
  · refine zS1 (fun r he => B_X8_over_r44_5_s1 Ln _ _ _ _  (fun _ => he) (fun n => absurd h3 n)) ?_
    have h4 := h4 h3
    obtain ⟨_, h6, I2, A3, rfl, h7⟩ := T_X8_goAll_r44 Ln _ _ _ h4
    refine zS1 (fun r he => B_X8_over_r44_10 Ln _ _ _  h6 rfl he) ?_
    obtain ⟨h8, h9⟩ := h7
    obtain ⟨h11, h12⟩ := h9
    by_cases h10 : ((A3 57 (v1).toNatClampNeg) : Int32) ≠ 99
    · refine zS1 (fun r he => B_X8_over_r44_14 Ln _ _ _ h8 (fun _ => he) (fun n => absurd h10 n)) ?_
      have h11 := h11 h10
      obtain ⟨h13, h14⟩ := h11
      refine zS1 (fun r he => B_X8_over_r44_30 Ln _ _ _ h13 he) ?_
      exact ⟨_, B_X8_over_r44_36_s1 Ln _ _ _ _ , _, _, _, rfl, h14⟩
    · refine zS1 (fun r he => B_X8_over_r44_14 Ln _ _ _ h8 (fun n => absurd n h10) (fun _ => he)) ?_
      have h12 := h12 h10
      refine zS1 (fun r he => B_X8_over_r44_25 Ln _ _ _  he) ?_
      exact ⟨_, B_X8_over_r44_36_s1 Ln _ _ _ _ , _, _, _, rfl, h12⟩
  · refine zS1 (fun r he => B_X8_over_r44_5_s1 Ln _ _ _ _  (fun n => absurd n h3) (fun _ => he)) ?_
    have h5 := h5 h3
    exact ⟨_, B_X8_over_r44_8 Ln _ _ _ , _, _, _, rfl, h5⟩
def W_X8_refusedFor_r44 (Ln : Nat) (I A : Nat → Nat → Int32) (v1 : Int32) (Q : Int32 → Prop) : Prop := ((W_X8_noNight Ln I A v1 (fun (r1 : Int32) => (((r1 : Int32) = 0 → ((((I 44 4) : Int32) ≠ 0 → ((Q 0))) ∧ (¬ (((I 44 4) : Int32) ≠ 0) → ((Q (-3)))))) ∧ (¬ ((r1 : Int32) = 0) → ((Q (-1))))))))
set_option maxRecDepth 100000 in
theorem T_X8_refusedFor_r44 (Ln : Nat) (I A : Nat → Nat → Int32) (v1 : Int32) (Q : Int32 → Prop) (h0 : W_X8_refusedFor_r44 Ln I A v1 Q) : zSem 128 0 0 0 [some (.ref 44), some (.int v1)] [] (zGs Ln I A) (fun r => ∃ x, r = (some (.int x), zGs Ln I A) ∧ Q x) := by
  unfold W_X8_refusedFor_r44 at h0
  obtain ⟨_, h1, r1, rfl, h2⟩ := T_X8_noNight Ln _ _ _ _ h0
  refine zS1 (fun r he => B_X8_refusedFor_r44_0 Ln _ _ _  h1 rfl he) ?_
  obtain ⟨h4, h5⟩ := h2
  by_cases h3 : (r1 : Int32) = 0
  · refine zS1 (fun r he => B_X8_refusedFor_r44_4_s1 Ln _ _ _ _  (fun _ => he) (fun n => absurd h3 n)) ?_
    have h4 := h4 h3
    obtain ⟨h7, h8⟩ := h4
    by_cases h6 : ((I 44 4) : Int32) ≠ 0
    · refine zS1 (fun r he => B_X8_refusedFor_r44_11 Ln _ _ _  (fun _ => he) (fun n => absurd h6 n)) ?_
      have h7 := h7 h6
      refine zS1 (fun r he => B_X8_refusedFor_r44_23 Ln _ _ _  he) ?_
      exact ⟨_, B_X8_refusedFor_r44_24_s1 Ln _ _ _ _ , _, rfl, h7⟩
    · refine zS1 (fun r he => B_X8_refusedFor_r44_11 Ln _ _ _  (fun n => absurd n h6) (fun _ => he)) ?_
      have h8 := h8 h6
      refine zS1 (fun r he => B_X8_refusedFor_r44_18 Ln _ _ _  he) ?_
      exact ⟨_, B_X8_refusedFor_r44_24_s1 Ln _ _ _ _ , _, rfl, h8⟩
  · refine zS1 (fun r he => B_X8_refusedFor_r44_4_s1 Ln _ _ _ _  (fun n => absurd n h3) (fun _ => he)) ?_
    have h5 := h5 h3
    refine zS1 (fun r he => B_X8_refusedFor_r44_7 Ln _ _ _  he) ?_
    exact ⟨_, B_X8_refusedFor_r44_24_s1 Ln _ _ _ _ , _, rfl, h5⟩
def W_X8_overBy_r44 (Ln : Nat) (I A : Nat → Nat → Int32) (v1 : Int32) (Q : Int32 → (Nat → Nat → Int32) → (Nat → Nat → Int32) → Prop) : Prop := ((W_X8_refusedFor_r44 Ln I A v1 (fun (r1 : Int32) => (((0 : Int32) ≤ r1 → ((W_X8_goTo_r44 Ln I A v1 (fun (I2 : Nat → Nat → Int32) (A3 : Nat → Nat → Int32) => ((W_X8_overNow_r44 Ln I2 A3  (fun (r4 : Int32) => (Q r4 I2 A3)))))))) ∧ (¬ ((0 : Int32) ≤ r1) → (Q r1 I A))))))
set_option maxRecDepth 100000 in
theorem T_X8_overBy_r44 (Ln : Nat) (I A : Nat → Nat → Int32) (v1 : Int32) (Q : Int32 → (Nat → Nat → Int32) → (Nat → Nat → Int32) → Prop) (h0 : W_X8_overBy_r44 Ln I A v1 Q) : zSem 129 0 0 0 [some (.ref 44), some (.int v1), none] [] (zGs Ln I A) (fun r => ∃ x I1 A1, r = (some (.int x), zGs Ln I1 A1) ∧ Q x I1 A1) := by
  unfold W_X8_overBy_r44 at h0
  obtain ⟨_, h1, r1, rfl, h2⟩ := T_X8_refusedFor_r44 Ln _ _ _ _ h0
  refine zS1 (fun r he => B_X8_overBy_r44_0 Ln _ _ _  h1 rfl he) ?_
  obtain ⟨h4, h5⟩ := h2
  by_cases h3 : (0 : Int32) ≤ r1
  · refine zS1 (fun r he => B_X8_overBy_r44_5_s1 Ln _ _ _ _  (fun _ => he) (fun n => absurd h3 n)) ?_
    have h4 := h4 h3
    obtain ⟨_, h6, I2, A3, rfl, h7⟩ := T_X8_goTo_r44 Ln _ _ _ _ h4
    refine zS1 (fun r he => B_X8_overBy_r44_12 Ln _ _ _ _  h6 rfl he) ?_
    obtain ⟨_, h8, r4, rfl, h9⟩ := T_X8_overNow_r44 Ln _ _ _ h7
    refine zS1 (fun r he => B_X8_overBy_r44_17 Ln _ _ _ _  h8 rfl he) ?_
    exact ⟨_, B_X8_overBy_r44_21_s1 Ln _ _ _ _ _ , _, _, _, rfl, h9⟩
  · refine zS1 (fun r he => B_X8_overBy_r44_5_s1 Ln _ _ _ _  (fun n => absurd n h3) (fun _ => he)) ?_
    have h5 := h5 h3
    exact ⟨_, B_X8_overBy_r44_10 Ln _ _ _ _ , _, _, _, rfl, h5⟩
def W_X8_rower_r44 (Ln : Nat) (I A : Nat → Nat → Int32) (v1 : Int32) (Q : Int32 → (Nat → Nat → Int32) → (Nat → Nat → Int32) → Prop) : Prop := ((W_X8_refusedFor_r44 Ln I A v1 (fun (r1 : Int32) => (((0 : Int32) ≤ r1 → ((W_X8_goTo_r44 Ln I A v1 (fun (I2 : Nat → Nat → Int32) (A3 : Nat → Nat → Int32) => (Q (I2 44 26) I2 A3))))) ∧ (¬ ((0 : Int32) ≤ r1) → (Q r1 I A))))))
set_option maxRecDepth 100000 in
theorem T_X8_rower_r44 (Ln : Nat) (I A : Nat → Nat → Int32) (v1 : Int32) (Q : Int32 → (Nat → Nat → Int32) → (Nat → Nat → Int32) → Prop) (h0 : W_X8_rower_r44 Ln I A v1 Q) : zSem 130 0 0 0 [some (.ref 44), some (.int v1), none] [] (zGs Ln I A) (fun r => ∃ x I1 A1, r = (some (.int x), zGs Ln I1 A1) ∧ Q x I1 A1) := by
  unfold W_X8_rower_r44 at h0
  obtain ⟨_, h1, r1, rfl, h2⟩ := T_X8_refusedFor_r44 Ln _ _ _ _ h0
  refine zS1 (fun r he => B_X8_rower_r44_0 Ln _ _ _  h1 rfl he) ?_
  obtain ⟨h4, h5⟩ := h2
  by_cases h3 : (0 : Int32) ≤ r1
  · refine zS1 (fun r he => B_X8_rower_r44_5_s1 Ln _ _ _ _  (fun _ => he) (fun n => absurd h3 n)) ?_
    have h4 := h4 h3
    obtain ⟨_, h6, I2, A3, rfl, h7⟩ := T_X8_goTo_r44 Ln _ _ _ _ h4
    refine zS1 (fun r he => B_X8_rower_r44_12 Ln _ _ _ _  h6 rfl he) ?_
    exact ⟨_, B_X8_rower_r44_17 Ln _ _ _ _ , _, _, _, rfl, h7⟩
  · refine zS1 (fun r he => B_X8_rower_r44_5_s1 Ln _ _ _ _  (fun n => absurd n h3) (fun _ => he)) ?_
    have h5 := h5 h3
    exact ⟨_, B_X8_rower_r44_10 Ln _ _ _ _ , _, _, _, rfl, h5⟩
def W_X8_sits_r44 (Ln : Nat) (I A : Nat → Nat → Int32) (v1 : Int32) (Q : Int32 → (Nat → Nat → Int32) → (Nat → Nat → Int32) → Prop) : Prop := ((W_X8_refusedFor_r44 Ln I A v1 (fun (r1 : Int32) => (((0 : Int32) ≤ r1 → ((W_X8_goTo_r44 Ln I A v1 (fun (I2 : Nat → Nat → Int32) (A3 : Nat → Nat → Int32) => (Q (I2 44 27) I2 A3))))) ∧ (¬ ((0 : Int32) ≤ r1) → (Q r1 I A))))))
set_option maxRecDepth 100000 in
theorem T_X8_sits_r44 (Ln : Nat) (I A : Nat → Nat → Int32) (v1 : Int32) (Q : Int32 → (Nat → Nat → Int32) → (Nat → Nat → Int32) → Prop) (h0 : W_X8_sits_r44 Ln I A v1 Q) : zSem 131 0 0 0 [some (.ref 44), some (.int v1), none] [] (zGs Ln I A) (fun r => ∃ x I1 A1, r = (some (.int x), zGs Ln I1 A1) ∧ Q x I1 A1) := by
  unfold W_X8_sits_r44 at h0
  obtain ⟨_, h1, r1, rfl, h2⟩ := T_X8_refusedFor_r44 Ln _ _ _ _ h0
  refine zS1 (fun r he => B_X8_sits_r44_0 Ln _ _ _  h1 rfl he) ?_
  obtain ⟨h4, h5⟩ := h2
  by_cases h3 : (0 : Int32) ≤ r1
  · refine zS1 (fun r he => B_X8_sits_r44_5_s1 Ln _ _ _ _  (fun _ => he) (fun n => absurd h3 n)) ?_
    have h4 := h4 h3
    obtain ⟨_, h6, I2, A3, rfl, h7⟩ := T_X8_goTo_r44 Ln _ _ _ _ h4
    refine zS1 (fun r he => B_X8_sits_r44_12 Ln _ _ _ _  h6 rfl he) ?_
    exact ⟨_, B_X8_sits_r44_17 Ln _ _ _ _ , _, _, _, rfl, h7⟩
  · refine zS1 (fun r he => B_X8_sits_r44_5_s1 Ln _ _ _ _  (fun n => absurd n h3) (fun _ => he)) ?_
    have h5 := h5 h3
    exact ⟨_, B_X8_sits_r44_10 Ln _ _ _ _ , _, _, _, rfl, h5⟩
def W_X8_waits_r44 (Ln : Nat) (I A : Nat → Nat → Int32) (v1 : Int32) (Q : Int32 → (Nat → Nat → Int32) → (Nat → Nat → Int32) → Prop) : Prop := ((W_X8_noShade_r44 Ln I A v1 (fun (r1 : Int32) => (((r1 : Int32) = 0 → ((W_X8_goAll_r44 Ln I A  (fun (I2 : Nat → Nat → Int32) (A3 : Nat → Nat → Int32) => ((W_X8_waitOf_r44 Ln I2 A3 v1 (fun (r4 : Int32) => (Q r4 I2 A3)))))))) ∧ (¬ ((r1 : Int32) = 0) → (Q (-1) I A))))))
set_option maxRecDepth 100000 in
theorem T_X8_waits_r44 (Ln : Nat) (I A : Nat → Nat → Int32) (v1 : Int32) (Q : Int32 → (Nat → Nat → Int32) → (Nat → Nat → Int32) → Prop) (h0 : W_X8_waits_r44 Ln I A v1 Q) : zSem 133 0 0 0 [some (.ref 44), some (.int v1)] [] (zGs Ln I A) (fun r => ∃ x I1 A1, r = (some (.int x), zGs Ln I1 A1) ∧ Q x I1 A1) := by
  unfold W_X8_waits_r44 at h0
  obtain ⟨_, h1, r1, rfl, h2⟩ := T_X8_noShade_r44 Ln _ _ _ _ h0
  refine zS1 (fun r he => B_X8_waits_r44_0 Ln _ _ _  h1 rfl he) ?_
  obtain ⟨h4, h5⟩ := h2
  by_cases h3 : (r1 : Int32) = 0
  · refine zS1 (fun r he => B_X8_waits_r44_5_s1 Ln _ _ _ _  (fun _ => he) (fun n => absurd h3 n)) ?_
    have h4 := h4 h3
    obtain ⟨_, h6, I2, A3, rfl, h7⟩ := T_X8_goAll_r44 Ln _ _ _ h4
    refine zS1 (fun r he => B_X8_waits_r44_10 Ln _ _ _  h6 rfl he) ?_
    obtain ⟨_, h8, r4, rfl, h9⟩ := T_X8_waitOf_r44 Ln _ _ _ _ h7
    refine zS1 (fun r he => B_X8_waits_r44_14 Ln _ _ _  h8 rfl he) ?_
    exact ⟨_, B_X8_waits_r44_19_s1 Ln _ _ _ _ , _, _, _, rfl, h9⟩
  · refine zS1 (fun r he => B_X8_waits_r44_5_s1 Ln _ _ _ _  (fun n => absurd n h3) (fun _ => he)) ?_
    have h5 := h5 h3
    exact ⟨_, B_X8_waits_r44_8 Ln _ _ _ , _, _, _, rfl, h5⟩
def SL_X8_waitsOfAll_r44_8 (Ln : Nat) (I A : Nat → Nat → Int32) (Q : Int32 → (Nat → Nat → Int32) → (Nat → Nat → Int32) → Prop) : Int32 × Int32 → Prop
  | (v1, v2) => zSem 134 8 0 0 [some (.ref 44), some (.int v1), some (.int v2)] [] (zGs Ln I A) (fun r => ∃ x I1 A1, r = (some (.int x), zGs Ln I1 A1) ∧ Q x I1 A1)
def L_X8_waitsOfAll_r44_8 (Ln : Nat) (I A : Nat → Nat → Int32) (Q : Int32 → (Nat → Nat → Int32) → (Nat → Nat → Int32) → Prop) : Int32 × Int32 → (Int32 × Int32 → Prop) → Prop
  | (v1, v2), K8 => ((((I 44 4) : Int32) ≤ v2 → (Q v1 I A)) ∧ (¬ (((I 44 4) : Int32) ≤ v2) → ((W_X8_waitOf_r44 Ln I A v2 (fun (r3 : Int32) => ((K8 ((v1 + r3), (v2 + 1)))))))))
set_option maxRecDepth 100000 in
theorem TL_X8_waitsOfAll_r44_8 {Ln : Nat} {I A : Nat → Nat → Int32} {Q : Int32 → (Nat → Nat → Int32) → (Nat → Nat → Int32) → Prop} : ∀ p, zLoop (L_X8_waitsOfAll_r44_8 Ln I A   Q) p → SL_X8_waitsOfAll_r44_8 Ln I A  Q p := by
  refine zLoop.sound (Sem := SL_X8_waitsOfAll_r44_8 Ln I A  Q) ?_
  rintro ⟨v1, v2⟩ K8 hK8 h0
  show zSem 134 8 0 0 [some (.ref 44), some (.int v1), some (.int v2)] [] (zGs Ln I A) (fun r => ∃ x I1 A1, r = (some (.int x), zGs Ln I1 A1) ∧ Q x I1 A1)
  change ((((I 44 4) : Int32) ≤ v2 → (Q v1 I A)) ∧ (¬ (((I 44 4) : Int32) ≤ v2) → ((W_X8_waitOf_r44 Ln I A v2 (fun (r3 : Int32) => ((K8 ((v1 + r3), (v2 + 1))))))))) at h0
  obtain ⟨h2, h3⟩ := h0
  by_cases h1 : ((I 44 4) : Int32) ≤ v2
  · refine zS1 (fun r he => B_X8_waitsOfAll_r44_8 Ln _ _ _ _  (fun _ => he) (fun n => absurd h1 n)) ?_
    have h2 := h2 h1
    exact ⟨_, B_X8_waitsOfAll_r44_30 Ln _ _ _ _ , _, _, _, rfl, h2⟩
  · refine zS1 (fun r he => B_X8_waitsOfAll_r44_8 Ln _ _ _ _  (fun n => absurd n h1) (fun _ => he)) ?_
    have h3 := h3 h1
    obtain ⟨_, h4, r3, rfl, h5⟩ := T_X8_waitOf_r44 Ln _ _ _ _ h3
    refine zS1 (fun r he => B_X8_waitsOfAll_r44_16 Ln _ _ _ _  h4 rfl he) ?_
    refine zS1 (fun r he => B_X8_waitsOfAll_r44_22_s2 Ln _ _ _ _ _ _  he) ?_
    have q := hK8 _ h5
    exact q
def W_X8_waitsOfAll_r44 (Ln : Nat) (I A : Nat → Nat → Int32) (Q : Int32 → (Nat → Nat → Int32) → (Nat → Nat → Int32) → Prop) : Prop := ((W_X8_goAll_r44 Ln I A  (fun (I1 : Nat → Nat → Int32) (A2 : Nat → Nat → Int32) => ((zLoop (L_X8_waitsOfAll_r44_8 Ln I1 A2  Q) (0, 0))))))
set_option maxRecDepth 100000 in
theorem T_X8_waitsOfAll_r44 (Ln : Nat) (I A : Nat → Nat → Int32) (Q : Int32 → (Nat → Nat → Int32) → (Nat → Nat → Int32) → Prop) (h0 : W_X8_waitsOfAll_r44 Ln I A Q) : zSem 134 0 0 0 [some (.ref 44), none, none] [] (zGs Ln I A) (fun r => ∃ x I1 A1, r = (some (.int x), zGs Ln I1 A1) ∧ Q x I1 A1) := by
  unfold W_X8_waitsOfAll_r44 at h0
  obtain ⟨_, h1, I1, A2, rfl, h2⟩ := T_X8_goAll_r44 Ln _ _ _ h0
  refine zS1 (fun r he => B_X8_waitsOfAll_r44_0 Ln _ _   h1 rfl he) ?_
  refine zS1 (fun r he => B_X8_waitsOfAll_r44_4 Ln _ _   he) ?_
  exact TL_X8_waitsOfAll_r44_8  _ h2
def W_X8_allWait_r44 (Ln : Nat) (I A : Nat → Nat → Int32) (Q : Int32 → (Nat → Nat → Int32) → (Nat → Nat → Int32) → Prop) : Prop := ((((I 44 4) : Int32) ≠ 0 → ((W_X8_waitsOfAll_r44 Ln I A  (fun (r1 : Int32) (I2 : Nat → Nat → Int32) (A3 : Nat → Nat → Int32) => (Q r1 I2 A3))))) ∧ (¬ (((I 44 4) : Int32) ≠ 0) → ((Q (-3) I A))))
set_option maxRecDepth 100000 in
theorem T_X8_allWait_r44 (Ln : Nat) (I A : Nat → Nat → Int32) (Q : Int32 → (Nat → Nat → Int32) → (Nat → Nat → Int32) → Prop) (h0 : W_X8_allWait_r44 Ln I A Q) : zSem 135 0 0 0 [some (.ref 44)] [] (zGs Ln I A) (fun r => ∃ x I1 A1, r = (some (.int x), zGs Ln I1 A1) ∧ Q x I1 A1) := by
  unfold W_X8_allWait_r44 at h0
  obtain ⟨h2, h3⟩ := h0
  by_cases h1 : ((I 44 4) : Int32) ≠ 0
  · refine zS1 (fun r he => B_X8_allWait_r44_0 Ln _ _   (fun _ => he) (fun n => absurd h1 n)) ?_
    have h2 := h2 h1
    obtain ⟨_, h4, r1, I2, A3, rfl, h5⟩ := T_X8_waitsOfAll_r44 Ln _ _ _ h2
    refine zS1 (fun r he => B_X8_allWait_r44_12 Ln _ _   h4 rfl he) ?_
    exact ⟨_, B_X8_allWait_r44_16_s1 Ln _ _ _ , _, _, _, rfl, h5⟩
  · refine zS1 (fun r he => B_X8_allWait_r44_0 Ln _ _   (fun n => absurd n h1) (fun _ => he)) ?_
    have h3 := h3 h1
    refine zS1 (fun r he => B_X8_allWait_r44_7 Ln _ _   he) ?_
    exact ⟨_, B_X8_allWait_r44_16_s1 Ln _ _ _ , _, _, _, rfl, h3⟩
def SL_X8_mayCross_r44_4 (Ln : Nat) (I A : Nat → Nat → Int32) (v1 : Int32) (Q : Int32 → Prop) : Int32 × Int32 → Prop
  | (v2, v3) => zSem 136 4 0 0 [some (.ref 44), some (.int v1), some (.int v2), some (.int v3)] [] (zGs Ln I A) (fun r => ∃ x, r = (some (.int x), zGs Ln I A) ∧ Q x)
def L_X8_mayCross_r44_4 (Ln : Nat) (I A : Nat → Nat → Int32) (v1 : Int32) (Q : Int32 → Prop) : Int32 × Int32 → (Int32 × Int32 → Prop) → Prop
  | (v2, v3), K4 => ((((I 44 4) : Int32) ≤ v3 → ((W_X8_whoCanPay_r44 Ln I A  (fun (r1 : Int32) => ((((v1 &&& (r1 ^^^ ((-1)))) : Int32) ≠ 0 → ((Q 0))) ∧ (¬ (((v1 &&& (r1 ^^^ ((-1)))) : Int32) ≠ 0) → ((W_X8_bits Ln I A v1 (fun (r2 : Int32) => ((((I 44 1) : Int32) < r2 → ((Q 0))) ∧ (¬ (((I 44 1) : Int32) < r2) → ((((I 44 2) : Int32) < v2 → ((Q 0))) ∧ (¬ (((I 44 2) : Int32) < v2) → ((Q 1))))))))))))))) ∧ (¬ (((I 44 4) : Int32) ≤ v3) → ((W_X8_isIn Ln I A v1 v3 (fun (r3 : Int32) => (((r3 : Int32) = 0 → (((K4 ((v2 + 0), (v3 + 1)))))) ∧ (¬ ((r3 : Int32) = 0) → ((W_X8_heavyOf_r44 Ln I A v3 (fun (r4 : Int32) => (((K4 ((v2 + r4), (v3 + 1)))))))))))))))
set_option maxRecDepth 100000 in
theorem TL_X8_mayCross_r44_4 {Ln : Nat} {I A : Nat → Nat → Int32} {v1 : Int32} {Q : Int32 → Prop} : ∀ p, zLoop (L_X8_mayCross_r44_4 Ln I A v1  Q) p → SL_X8_mayCross_r44_4 Ln I A v1 Q p := by
  refine zLoop.sound (Sem := SL_X8_mayCross_r44_4 Ln I A v1 Q) ?_
  rintro ⟨v2, v3⟩ K4 hK4 h0
  show zSem 136 4 0 0 [some (.ref 44), some (.int v1), some (.int v2), some (.int v3)] [] (zGs Ln I A) (fun r => ∃ x, r = (some (.int x), zGs Ln I A) ∧ Q x)
  change ((((I 44 4) : Int32) ≤ v3 → ((W_X8_whoCanPay_r44 Ln I A  (fun (r1 : Int32) => ((((v1 &&& (r1 ^^^ ((-1)))) : Int32) ≠ 0 → ((Q 0))) ∧ (¬ (((v1 &&& (r1 ^^^ ((-1)))) : Int32) ≠ 0) → ((W_X8_bits Ln I A v1 (fun (r2 : Int32) => ((((I 44 1) : Int32) < r2 → ((Q 0))) ∧ (¬ (((I 44 1) : Int32) < r2) → ((((I 44 2) : Int32) < v2 → ((Q 0))) ∧ (¬ (((I 44 2) : Int32) < v2) → ((Q 1))))))))))))))) ∧ (¬ (((I 44 4) : Int32) ≤ v3) → ((W_X8_isIn Ln I A v1 v3 (fun (r3 : Int32) => (((r3 : Int32) = 0 → (((K4 ((v2 + 0), (v3 + 1)))))) ∧ (¬ ((r3 : Int32) = 0) → ((W_X8_heavyOf_r44 Ln I A v3 (fun (r4 : Int32) => (((K4 ((v2 + r4), (v3 + 1))))))))))))))) at h0
  obtain ⟨h2, h3⟩ := h0
  by_cases h1 : ((I 44 4) : Int32) ≤ v3
  · refine zS1 (fun r he => B_X8_mayCross_r44_4 Ln _ _ _ _ _  (fun _ => he) (fun n => absurd h1 n)) ?_
    have h2 := h2 h1
    obtain ⟨_, h4, r1, rfl, h5⟩ := T_X8_whoCanPay_r44 Ln _ _ _ h2
    refine zS1 (fun r he => B_X8_mayCross_r44_38 Ln _ _ _ _ _  h4 rfl he) ?_
    obtain ⟨h7, h8⟩ := h5
    by_cases h6 : ((v1 &&& (r1 ^^^ ((-1)))) : Int32) ≠ 0
    · refine zS1 (fun r he => B_X8_mayCross_r44_43_s2 Ln _ _ _ _ _ _ _  (fun _ => he) (fun n => absurd h6 n)) ?_
      have h7 := h7 h6
      refine zS1 (fun r he => B_X8_mayCross_r44_72 Ln _ _ _ _ _  he) ?_
      exact ⟨_, B_X8_mayCross_r44_73_s1 Ln _ _ _ _ _ _  (by decide), _, rfl, h7⟩
    · refine zS1 (fun r he => B_X8_mayCross_r44_43_s2 Ln _ _ _ _ _ _ _  (fun n => absurd n h6) (fun _ => he)) ?_
      have h8 := h8 h6
      obtain ⟨_, h9, r2, rfl, h10⟩ := T_X8_bits Ln _ _ _ _ h8
      refine zS1 (fun r he => B_X8_mayCross_r44_49 Ln _ _ _ _ _  h9 rfl he) ?_
      obtain ⟨h12, h13⟩ := h10
      by_cases h11 : ((I 44 1) : Int32) < r2
      · refine zS1 (fun r he => B_X8_mayCross_r44_53_s1 Ln _ _ _ _ _ _  (fun _ => he) (fun n => absurd h11 n)) ?_
        have h12 := h12 h11
        refine zS1 (fun r he => B_X8_mayCross_r44_72 Ln _ _ _ _ _  he) ?_
        exact ⟨_, B_X8_mayCross_r44_73_s1 Ln _ _ _ _ _ _  (by decide), _, rfl, h12⟩
      · refine zS1 (fun r he => B_X8_mayCross_r44_53_s1 Ln _ _ _ _ _ _  (fun n => absurd n h11) (fun _ => he)) ?_
        have h13 := h13 h11
        obtain ⟨h15, h16⟩ := h13
        by_cases h14 : ((I 44 2) : Int32) < v2
        · refine zS1 (fun r he => B_X8_mayCross_r44_60 Ln _ _ _ _ _  (fun _ => he) (fun n => absurd h14 n)) ?_
          have h15 := h15 h14
          refine zS1 (fun r he => B_X8_mayCross_r44_72 Ln _ _ _ _ _  he) ?_
          exact ⟨_, B_X8_mayCross_r44_73_s1 Ln _ _ _ _ _ _  (by decide), _, rfl, h15⟩
        · refine zS1 (fun r he => B_X8_mayCross_r44_60 Ln _ _ _ _ _  (fun n => absurd n h14) (fun _ => he)) ?_
          have h16 := h16 h14
          refine zS1 (fun r he => B_X8_mayCross_r44_68 Ln _ _ _ _ _  he) ?_
          exact ⟨_, B_X8_mayCross_r44_73_s1 Ln _ _ _ _ _ _  (by decide), _, rfl, h16⟩
  · refine zS1 (fun r he => B_X8_mayCross_r44_4 Ln _ _ _ _ _  (fun n => absurd n h1) (fun _ => he)) ?_
    have h3 := h3 h1
    obtain ⟨_, h17, r3, rfl, h18⟩ := T_X8_isIn Ln _ _ _ _ _ h3
    refine zS1 (fun r he => B_X8_mayCross_r44_12 Ln _ _ _ _ _  h17 rfl he) ?_
    obtain ⟨h20, h21⟩ := h18
    by_cases h19 : (r3 : Int32) = 0
    · refine zS1 (fun r he => B_X8_mayCross_r44_18_s2 Ln _ _ _ _ _ _ _  (fun _ => he) (fun n => absurd h19 n)) ?_
      have h20 := h20 h19
      refine zS1 (fun r he => B_X8_mayCross_r44_29_s1 Ln _ _ _ _ _ _  he) ?_
      refine zS1 (fun r he => B_X8_mayCross_r44_30_s2 Ln _ _ _ _ _ _ _  he) ?_
      have q := hK4 _ h20
      exact q
    · refine zS1 (fun r he => B_X8_mayCross_r44_18_s2 Ln _ _ _ _ _ _ _  (fun n => absurd n h19) (fun _ => he)) ?_
      have h21 := h21 h19
      obtain ⟨_, h22, r4, rfl, h23⟩ := T_X8_heavyOf_r44 Ln _ _ _ _ h21
      refine zS1 (fun r he => B_X8_mayCross_r44_21_s1 Ln _ _ _ _ _ _  h22 rfl he) ?_
      refine zS1 (fun r he => B_X8_mayCross_r44_26_s2 Ln _ _ _ _ _ _ _  he) ?_
      refine zS1 (fun r he => B_X8_mayCross_r44_30_s2 Ln _ _ _ _ _ _ _  he) ?_
      have q := hK4 _ h23
      exact q
def W_X8_mayCross_r44 (Ln : Nat) (I A : Nat → Nat → Int32) (v1 : Int32) (Q : Int32 → Prop) : Prop := ((zLoop (L_X8_mayCross_r44_4 Ln I A v1  Q) (0, 0)))
set_option maxRecDepth 100000 in
theorem T_X8_mayCross_r44 (Ln : Nat) (I A : Nat → Nat → Int32) (v1 : Int32) (Q : Int32 → Prop) (h0 : W_X8_mayCross_r44 Ln I A v1 Q) : zSem 136 0 0 0 [some (.ref 44), some (.int v1), none, none] [] (zGs Ln I A) (fun r => ∃ x, r = (some (.int x), zGs Ln I A) ∧ Q x) := by
  unfold W_X8_mayCross_r44 at h0
  refine zS1 (fun r he => B_X8_mayCross_r44_0 Ln _ _ _  he) ?_
  exact TL_X8_mayCross_r44_4  _ h0

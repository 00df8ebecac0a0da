/-! what a method asks, by program (wip/whole/gen_wp.py) -/
def W_X7_ofNight_r1_r31 (Ln : Nat) (I A : Nat → Nat → Int32) (v2 : Int32) (Q : Int32 → Prop) : Prop := ((W_X7_isNight Ln I A v2 (fun (r1 : Int32) => (((r1 : Int32) ≠ 0 → ((W_X7_noBank_r1 Ln I A  (fun (r2 : Int32) => (((r2 : Int32) = 0 → ((zin v2 60 = true) ∧ (Q (A 31 (v2).toNatClampNeg)))) ∧ (¬ ((r2 : Int32) = 0) → ((Q (-3))))))))) ∧ (¬ ((r1 : Int32) ≠ 0) → (Q (-1)))))))
set_option maxRecDepth 100000 in
theorem T_X7_ofNight_r1_r31 (Ln : Nat) (I A : Nat → Nat → Int32) (v2 : Int32) (Q : Int32 → Prop) (h0 : W_X7_ofNight_r1_r31 Ln I A v2 Q) : zSem 84 0 0 0 [some (.ref 1), some (.ref 31), some (.int v2)] [] (zGs Ln I A) (fun r => ∃ x, r = (some (.int x), zGs Ln I A) ∧ Q x) := by
  unfold W_X7_ofNight_r1_r31 at h0
  obtain ⟨_, h1, r1, rfl, h2⟩ := T_X7_isNight Ln _ _ _ _ h0
  refine zS1 (fun r he => B_X7_ofNight_r1_r31_0 Ln _ _ _  h1 rfl he) ?_
  obtain ⟨h4, h5⟩ := h2
  by_cases h3 : (r1 : Int32) ≠ 0
  · refine zS1 (fun r he => B_X7_ofNight_r1_r31_4_s1 Ln _ _ _ _  (fun _ => he) (fun n => absurd h3 n)) ?_
    have h4 := h4 h3
    obtain ⟨_, h6, r2, rfl, h7⟩ := T_X7_noBank_r1 Ln _ _ _ h4
    refine zS1 (fun r he => B_X7_ofNight_r1_r31_9 Ln _ _ _  h6 rfl he) ?_
    obtain ⟨h9, h10⟩ := h7
    by_cases h8 : (r2 : Int32) = 0
    · refine zS1 (fun r he => B_X7_ofNight_r1_r31_13_s1 Ln _ _ _ _  (fun _ => he) (fun n => absurd h8 n)) ?_
      have h9 := h9 h8
      obtain ⟨h11, h12⟩ := h9
      refine zS1 (fun r he => B_X7_ofNight_r1_r31_21 Ln _ _ _ h11 he) ?_
      exact ⟨_, B_X7_ofNight_r1_r31_24_s1 Ln _ _ _ _ , _, rfl, h12⟩
    · refine zS1 (fun r he => B_X7_ofNight_r1_r31_13_s1 Ln _ _ _ _  (fun n => absurd n h8) (fun _ => he)) ?_
      have h10 := h10 h8
      refine zS1 (fun r he => B_X7_ofNight_r1_r31_16 Ln _ _ _  he) ?_
      exact ⟨_, B_X7_ofNight_r1_r31_24_s1 Ln _ _ _ _ , _, rfl, h10⟩
  · refine zS1 (fun r he => B_X7_ofNight_r1_r31_4_s1 Ln _ _ _ _  (fun n => absurd n h3) (fun _ => he)) ?_
    have h5 := h5 h3
    exact ⟨_, B_X7_ofNight_r1_r31_7 Ln _ _ _ , _, rfl, h5⟩
def SL_X6_longestWait_r35_4 (Ln : Nat) (I A : Nat → Nat → Int32) (Q : Int32 → Prop) : Int32 × Int32 → Prop
  | (v1, v2) => zSem 44 4 0 0 [some (.ref 35), some (.int v1), some (.int v2)] [] (zGs Ln I A) (fun r => ∃ x, r = (some (.int x), zGs Ln I A) ∧ Q x)
def L_X6_longestWait_r35_4 (Ln : Nat) (I A : Nat → Nat → Int32) (Q : Int32 → Prop) : Int32 × Int32 → (Int32 × Int32 → Prop) → Prop
  | (v1, v2), K4 => ((((I 11 0) : Int32) ≤ v2 → (Q v1)) ∧ (¬ (((I 11 0) : Int32) ≤ v2) → ((W_X6_waitOf_r35 Ln I A v2 (fun (r1 : Int32) => ((K4 ((if v1 < r1 then r1 else v1), (v2 + 1)))))))))
set_option maxRecDepth 100000 in
theorem TL_X6_longestWait_r35_4 {Ln : Nat} {I A : Nat → Nat → Int32} {Q : Int32 → Prop} : ∀ p, zLoop (L_X6_longestWait_r35_4 Ln I A   Q) p → SL_X6_longestWait_r35_4 Ln I A  Q p := by
  refine zLoop.sound (Sem := SL_X6_longestWait_r35_4 Ln I A  Q) ?_
  rintro ⟨v1, v2⟩ K4 hK4 h0
  show zSem 44 4 0 0 [some (.ref 35), some (.int v1), some (.int v2)] [] (zGs Ln I A) (fun r => ∃ x, r = (some (.int x), zGs Ln I A) ∧ Q x)
  change ((((I 11 0) : Int32) ≤ v2 → (Q v1)) ∧ (¬ (((I 11 0) : Int32) ≤ v2) → ((W_X6_waitOf_r35 Ln I A v2 (fun (r1 : Int32) => ((K4 ((if v1 < r1 then r1 else v1), (v2 + 1))))))))) at h0
  obtain ⟨h2, h3⟩ := h0
  by_cases h1 : ((I 11 0) : Int32) ≤ v2
  · refine zS1 (fun r he => B_X6_longestWait_r35_4 Ln _ _ _ _  (fun _ => he) (fun n => absurd h1 n)) ?_
    have h2 := h2 h1
    exact ⟨_, B_X6_longestWait_r35_31 Ln _ _ _ _ , _, rfl, h2⟩
  · refine zS1 (fun r he => B_X6_longestWait_r35_4 Ln _ _ _ _  (fun n => absurd n h1) (fun _ => he)) ?_
    have h3 := h3 h1
    obtain ⟨_, h4, r1, rfl, h5⟩ := T_X6_waitOf_r35 Ln _ _ _ _ h3
    refine zS1 (fun r he => B_X6_longestWait_r35_15 Ln _ _ _ _  h4 rfl he) ?_
    refine zS1 (fun r he => B_X6_longestWait_r35_21_s2 Ln _ _ _ _ _ _  he) ?_
    have q := hK4 _ h5
    exact q
def W_X6_longestWait_r35 (Ln : Nat) (I A : Nat → Nat → Int32) (Q : Int32 → Prop) : Prop := ((zLoop (L_X6_longestWait_r35_4 Ln I A  Q) (0, 0)))
set_option maxRecDepth 100000 in
theorem T_X6_longestWait_r35 (Ln : Nat) (I A : Nat → Nat → Int32) (Q : Int32 → Prop) (h0 : W_X6_longestWait_r35 Ln I A Q) : zSem 44 0 0 0 [some (.ref 35), none, none] [] (zGs Ln I A) (fun r => ∃ x, r = (some (.int x), zGs Ln I A) ∧ Q x) := by
  unfold W_X6_longestWait_r35 at h0
  refine zS1 (fun r he => B_X6_longestWait_r35_0 Ln _ _   he) ?_
  exact TL_X6_longestWait_r35_4  _ h0
def SL_X6_waitOfAll_r35_4 (Ln : Nat) (I A : Nat → Nat → Int32) (Q : Int32 → Prop) : Int32 × Int32 → Prop
  | (v1, v2) => zSem 43 4 0 0 [some (.ref 35), some (.int v1), some (.int v2)] [] (zGs Ln I A) (fun r => ∃ x, r = (some (.int x), zGs Ln I A) ∧ Q x)
def L_X6_waitOfAll_r35_4 (Ln : Nat) (I A : Nat → Nat → Int32) (Q : Int32 → Prop) : Int32 × Int32 → (Int32 × Int32 → Prop) → Prop
  | (v1, v2), K4 => ((((I 11 0) : Int32) ≤ v2 → (Q v1)) ∧ (¬ (((I 11 0) : Int32) ≤ v2) → ((W_X6_waitOf_r35 Ln I A v2 (fun (r1 : Int32) => ((K4 ((v1 + r1), (v2 + 1)))))))))
set_option maxRecDepth 100000 in
theorem TL_X6_waitOfAll_r35_4 {Ln : Nat} {I A : Nat → Nat → Int32} {Q : Int32 → Prop} : ∀ p, zLoop (L_X6_waitOfAll_r35_4 Ln I A   Q) p → SL_X6_waitOfAll_r35_4 Ln I A  Q p := by
  refine zLoop.sound (Sem := SL_X6_waitOfAll_r35_4 Ln I A  Q) ?_
  rintro ⟨v1, v2⟩ K4 hK4 h0
  show zSem 43 4 0 0 [some (.ref 35), some (.int v1), some (.int v2)] [] (zGs Ln I A) (fun r => ∃ x, r = (some (.int x), zGs Ln I A) ∧ Q x)
  change ((((I 11 0) : Int32) ≤ v2 → (Q v1)) ∧ (¬ (((I 11 0) : Int32) ≤ v2) → ((W_X6_waitOf_r35 Ln I A v2 (fun (r1 : Int32) => ((K4 ((v1 + r1), (v2 + 1))))))))) at h0
  obtain ⟨h2, h3⟩ := h0
  by_cases h1 : ((I 11 0) : Int32) ≤ v2
  · refine zS1 (fun r he => B_X6_waitOfAll_r35_4 Ln _ _ _ _  (fun _ => he) (fun n => absurd h1 n)) ?_
    have h2 := h2 h1
    exact ⟨_, B_X6_waitOfAll_r35_29 Ln _ _ _ _ , _, rfl, h2⟩
  · refine zS1 (fun r he => B_X6_waitOfAll_r35_4 Ln _ _ _ _  (fun n => absurd n h1) (fun _ => he)) ?_
    have h3 := h3 h1
    obtain ⟨_, h4, r1, rfl, h5⟩ := T_X6_waitOf_r35 Ln _ _ _ _ h3
    refine zS1 (fun r he => B_X6_waitOfAll_r35_15 Ln _ _ _ _  h4 rfl he) ?_
    refine zS1 (fun r he => B_X6_waitOfAll_r35_21_s2 Ln _ _ _ _ _ _  he) ?_
    have q := hK4 _ h5
    exact q
def W_X6_waitOfAll_r35 (Ln : Nat) (I A : Nat → Nat → Int32) (Q : Int32 → Prop) : Prop := ((zLoop (L_X6_waitOfAll_r35_4 Ln I A  Q) (0, 0)))
set_option maxRecDepth 100000 in
theorem T_X6_waitOfAll_r35 (Ln : Nat) (I A : Nat → Nat → Int32) (Q : Int32 → Prop) (h0 : W_X6_waitOfAll_r35 Ln I A Q) : zSem 43 0 0 0 [some (.ref 35), none, none] [] (zGs Ln I A) (fun r => ∃ x, r = (some (.int x), zGs Ln I A) ∧ Q x) := by
  unfold W_X6_waitOfAll_r35 at h0
  refine zS1 (fun r he => B_X6_waitOfAll_r35_0 Ln _ _   he) ?_
  exact TL_X6_waitOfAll_r35_4  _ h0
def W_X2_lentTo_r18 (Ln : Nat) (I A : Nat → Nat → Int32) (v1 : Int32) (Q : Int32 → Prop) : Prop := ((W_X2_sum_r18_r20 Ln I A v1 (fun (r1 : Int32) => (Q r1))))
set_option maxRecDepth 100000 in
theorem T_X2_lentTo_r18 (Ln : Nat) (I A : Nat → Nat → Int32) (v1 : Int32) (Q : Int32 → Prop) (h0 : W_X2_lentTo_r18 Ln I A v1 Q) : zSem 16 0 0 0 [some (.ref 18), some (.int v1)] [] (zGs Ln I A) (fun r => ∃ x, r = (some (.int x), zGs Ln I A) ∧ Q x) := by
  unfold W_X2_lentTo_r18 at h0
  obtain ⟨_, h1, r1, rfl, h2⟩ := T_X2_sum_r18_r20 Ln _ _ _ _ h0
  refine zS1 (fun r he => B_X2_lentTo_r18_0 Ln _ _ _  h1 rfl he) ?_
  exact ⟨_, B_X2_lentTo_r18_9_s1 Ln _ _ _ _ , _, rfl, h2⟩
def W_X2_lentBy_r18 (Ln : Nat) (I A : Nat → Nat → Int32) (v1 : Int32) (Q : Int32 → Prop) : Prop := ((W_X2_sum_r18_r19 Ln I A v1 (fun (r1 : Int32) => (Q r1))))
set_option maxRecDepth 100000 in
theorem T_X2_lentBy_r18 (Ln : Nat) (I A : Nat → Nat → Int32) (v1 : Int32) (Q : Int32 → Prop) (h0 : W_X2_lentBy_r18 Ln I A v1 Q) : zSem 15 0 0 0 [some (.ref 18), some (.int v1)] [] (zGs Ln I A) (fun r => ∃ x, r = (some (.int x), zGs Ln I A) ∧ Q x) := by
  unfold W_X2_lentBy_r18 at h0
  obtain ⟨_, h1, r1, rfl, h2⟩ := T_X2_sum_r18_r19 Ln _ _ _ _ h0
  refine zS1 (fun r he => B_X2_lentBy_r18_0 Ln _ _ _  h1 rfl he) ?_
  exact ⟨_, B_X2_lentBy_r18_9_s1 Ln _ _ _ _ , _, rfl, h2⟩
def J_X8_cellsBarred_r44_25 (Ln : Nat) (I A : Nat → Nat → Int32) (v1 : Int32) (v2 : Int32) (v3 : Int32) (v4 : Int64) (Q : Int32 → (Nat → Nat → Int32) → Prop) : Prop := ((zin v1 4 = true) ∧ ((0 : Int32) ≤ (A 65 (v1).toNatClampNeg) → (((0 : Int32) ≤ (lg_cmp v4 0) → ((zin v1 4 = true) ∧ (W_X8_isBeyond Ln I A v3 v4 (A 65 (v1).toNatClampNeg) (fun (r1 : Int32) => (((r1 : Int32) = 0 → ((Q 0 I))) ∧ (¬ ((r1 : Int32) = 0) → ((W_X8_failed_r44 Ln I A 3 (fun (r2 : Int32) (I3 : Nat → Nat → Int32) => ((Q r2 I3))))))))))) ∧ (¬ ((0 : Int32) ≤ (lg_cmp v4 0)) → ((W_X8_failed_r44 Ln I A 4 (fun (r4 : Int32) (I5 : Nat → Nat → Int32) => (Q r4 I5))))))) ∧ (¬ ((0 : Int32) ≤ (A 65 (v1).toNatClampNeg)) → ((W_X8_failed_r44 Ln I A 1 (fun (r6 : Int32) (I7 : Nat → Nat → Int32) => (Q r6 I7))))))
set_option maxRecDepth 100000 in
theorem TJ_X8_cellsBarred_r44_25 {Ln : Nat} {I A : Nat → Nat → Int32} {v1 : Int32} {v2 : Int32} {v3 : Int32} {v4 : Int64} {Q : Int32 → (Nat → Nat → Int32) → Prop} (h0 : J_X8_cellsBarred_r44_25 Ln I A v1 v2 v3 v4   Q) : zSem 108 25 0 0 [some (.ref 44), some (.int v1), some (.int v2), some (.int v3), some (.long (v4)), none] [] (zGs Ln I A) (fun r => ∃ x I1, r = (some (.int x), zGs Ln I1 A) ∧ Q x I1) := by
  unfold J_X8_cellsBarred_r44_25 at h0
  obtain ⟨h1, h2⟩ := h0
  obtain ⟨h4, h5⟩ := h2
  by_cases h3 : (0 : Int32) ≤ (A 65 (v1).toNatClampNeg)
  · refine zS1 (fun r he => B_X8_cellsBarred_r44_25 Ln _ _ _ _ _ _ h1 (fun _ => he) (fun n => absurd h3 n)) ?_
    have h4 := h4 h3
    obtain ⟨h7, h8⟩ := h4
    by_cases h6 : (0 : Int32) ≤ (lg_cmp v4 0)
    · refine zS1 (fun r he => B_X8_cellsBarred_r44_40 Ln _ _ _ _ _ _  (fun _ => he) (fun n => absurd h6 n)) ?_
      have h7 := h7 h6
      obtain ⟨h9, h10⟩ := h7
      obtain ⟨_, h11, r1, rfl, h12⟩ := T_X8_isBeyond Ln _ _ _ _ _ _ h10
      refine zS1 (fun r he => B_X8_cellsBarred_r44_53 Ln _ _ _ _ _ _ h9 h11 rfl he) ?_
      obtain ⟨h14, h15⟩ := h12
      by_cases h13 : (r1 : Int32) = 0
      · refine zS1 (fun r he => B_X8_cellsBarred_r44_65_s1 Ln _ _ _ _ _ _ _  (fun _ => he) (fun n => absurd h13 n)) ?_
        have h14 := h14 h13
        refine zS1 (fun r he => B_X8_cellsBarred_r44_76 Ln _ _ _ _ _ _  he) ?_
        exact ⟨_, B_X8_cellsBarred_r44_77_s1 Ln _ _ _ _ _ _ _ , _, _, rfl, h14⟩
      · refine zS1 (fun r he => B_X8_cellsBarred_r44_65_s1 Ln _ _ _ _ _ _ _  (fun n => absurd n h13) (fun _ => he)) ?_
        have h15 := h15 h13
        obtain ⟨_, h16, r2, I3, rfl, h17⟩ := T_X8_failed_r44 Ln _ _ _ _ h15
        refine zS1 (fun r he => B_X8_cellsBarred_r44_68 Ln _ _ _ _ _ _  h16 rfl he) ?_
        refine zS1 (fun r he => B_X8_cellsBarred_r44_73_s1 Ln _ _ _ _ _ _ _  he) ?_
        exact ⟨_, B_X8_cellsBarred_r44_77_s1 Ln _ _ _ _ _ _ _ , _, _, rfl, h17⟩
    · refine zS1 (fun r he => B_X8_cellsBarred_r44_40 Ln _ _ _ _ _ _  (fun n => absurd n h6) (fun _ => he)) ?_
      have h8 := h8 h6
      obtain ⟨_, h18, r4, I5, rfl, h19⟩ := T_X8_failed_r44 Ln _ _ _ _ h8
      refine zS1 (fun r he => B_X8_cellsBarred_r44_47 Ln _ _ _ _ _ _  h18 rfl he) ?_
      exact ⟨_, B_X8_cellsBarred_r44_52_s1 Ln _ _ _ _ _ _ _ , _, _, rfl, h19⟩
  · refine zS1 (fun r he => B_X8_cellsBarred_r44_25 Ln _ _ _ _ _ _ h1 (fun n => absurd n h3) (fun _ => he)) ?_
    have h5 := h5 h3
    obtain ⟨_, h20, r6, I7, rfl, h21⟩ := T_X8_failed_r44 Ln _ _ _ _ h5
    refine zS1 (fun r he => B_X8_cellsBarred_r44_34 Ln _ _ _ _ _ _  h20 rfl he) ?_
    exact ⟨_, B_X8_cellsBarred_r44_39_s1 Ln _ _ _ _ _ _ _ , _, _, rfl, h21⟩
def W_X8_cellsBarred_r44 (Ln : Nat) (I A : Nat → Nat → Int32) (v1 : Int32) (v2 : Int32) (v3 : Int32) (v4 : Int64) (Q : Int32 → (Nat → Nat → Int32) → Prop) : Prop := ((zin v1 4 = true) ∧ (((A 65 (v1).toNatClampNeg) : Int32) < 0 → (J_X8_cellsBarred_r44_25 Ln I A v1 v2 v3 v4  Q)) ∧ (¬ (((A 65 (v1).toNatClampNeg) : Int32) < 0) → ((zin v1 4 = true) ∧ (((A 66 (v1).toNatClampNeg) : Int32) = v2 → (J_X8_cellsBarred_r44_25 Ln I A v1 v2 v3 v4  Q)) ∧ (¬ (((A 66 (v1).toNatClampNeg) : Int32) = v2) → ((W_X8_failed_r44 Ln I A 2 (fun (r8 : Int32) (I9 : Nat → Nat → Int32) => (Q r8 I9))))))))
set_option maxRecDepth 100000 in
theorem T_X8_cellsBarred_r44 (Ln : Nat) (I A : Nat → Nat → Int32) (v1 : Int32) (v2 : Int32) (v3 : Int32) (v4 : Int64) (Q : Int32 → (Nat → Nat → Int32) → Prop) (h0 : W_X8_cellsBarred_r44 Ln I A v1 v2 v3 v4 Q) : zSem 108 0 0 0 [some (.ref 44), some (.int v1), some (.int v2), some (.int v3), some (.long (v4)), none] [] (zGs Ln I A) (fun r => ∃ x I1, r = (some (.int x), zGs Ln I1 A) ∧ Q x I1) := by
  unfold W_X8_cellsBarred_r44 at h0
  obtain ⟨h1, h2⟩ := h0
  obtain ⟨h4, h5⟩ := h2
  by_cases h3 : ((A 65 (v1).toNatClampNeg) : Int32) < 0
  · refine zS1 (fun r he => B_X8_cellsBarred_r44_0 Ln _ _ _ _ _ _ h1 (fun _ => he) (fun n => absurd h3 n)) ?_
    have h4 := h4 h3
    exact TJ_X8_cellsBarred_r44_25  h4
  · refine zS1 (fun r he => B_X8_cellsBarred_r44_0 Ln _ _ _ _ _ _ h1 (fun n => absurd n h3) (fun _ => he)) ?_
    have h5 := h5 h3
    obtain ⟨h6, h7⟩ := h5
    obtain ⟨h9, h10⟩ := h7
    by_cases h8 : ((A 66 (v1).toNatClampNeg) : Int32) = v2
    · refine zS1 (fun r he => B_X8_cellsBarred_r44_9 Ln _ _ _ _ _ _ h6 (fun _ => he) (fun n => absurd h8 n)) ?_
      have h9 := h9 h8
      exact TJ_X8_cellsBarred_r44_25  h9
    · refine zS1 (fun r he => B_X8_cellsBarred_r44_9 Ln _ _ _ _ _ _ h6 (fun n => absurd n h8) (fun _ => he)) ?_
      have h10 := h10 h8
      obtain ⟨_, h11, r8, I9, rfl, h12⟩ := T_X8_failed_r44 Ln _ _ _ _ h10
      refine zS1 (fun r he => B_X8_cellsBarred_r44_19 Ln _ _ _ _ _ _  h11 rfl he) ?_
      exact ⟨_, B_X8_cellsBarred_r44_24_s1 Ln _ _ _ _ _ _ _ , _, _, rfl, h12⟩
def W_X4_faultOfCells_r3 (Ln : Nat) (I A : Nat → Nat → Int32) (v1 : Int32) (v2 : Int32) (v3 : Int32) (Q : Int32 → Prop) : Prop := ((((I 3 1) : Int32) ≠ 0 → ((((I 3 2) : Int32) = v1 → (((0 : Int32) ≤ v3 → ((W_X4_holds_r3 Ln I A v2 v3 (fun (r1 : Int32) => (((r1 : Int32) = 0 → ((Q 3))) ∧ (¬ ((r1 : Int32) = 0) → ((Q 0)))))))) ∧ (¬ ((0 : Int32) ≤ v3) → (Q 4)))) ∧ (¬ (((I 3 2) : Int32) = v1) → (Q 2)))) ∧ (¬ (((I 3 1) : Int32) ≠ 0) → (Q 1)))
set_option maxRecDepth 100000 in
theorem T_X4_faultOfCells_r3 (Ln : Nat) (I A : Nat → Nat → Int32) (v1 : Int32) (v2 : Int32) (v3 : Int32) (Q : Int32 → Prop) (h0 : W_X4_faultOfCells_r3 Ln I A v1 v2 v3 Q) : zSem 24 0 0 0 [some (.ref 3), some (.int v1), some (.int v2), some (.int v3)] [] (zGs Ln I A) (fun r => ∃ x, r = (some (.int x), zGs Ln I A) ∧ Q x) := by
  unfold W_X4_faultOfCells_r3 at h0
  obtain ⟨h2, h3⟩ := h0
  by_cases h1 : ((I 3 1) : Int32) ≠ 0
  · refine zS1 (fun r he => B_X4_faultOfCells_r3_0 Ln _ _ _ _ _  (fun _ => he) (fun n => absurd h1 n)) ?_
    have h2 := h2 h1
    obtain ⟨h5, h6⟩ := h2
    by_cases h4 : ((I 3 2) : Int32) = v1
    · refine zS1 (fun r he => B_X4_faultOfCells_r3_9 Ln _ _ _ _ _  (fun _ => he) (fun n => absurd h4 n)) ?_
      have h5 := h5 h4
      obtain ⟨h8, h9⟩ := h5
      by_cases h7 : (0 : Int32) ≤ v3
      · refine zS1 (fun r he => B_X4_faultOfCells_r3_19 Ln _ _ _ _ _  (fun _ => he) (fun n => absurd h7 n)) ?_
        have h8 := h8 h7
        obtain ⟨_, h10, r1, rfl, h11⟩ := T_X4_holds_r3 Ln _ _ _ _ _ h8
        refine zS1 (fun r he => B_X4_faultOfCells_r3_25 Ln _ _ _ _ _  h10 rfl he) ?_
        obtain ⟨h13, h14⟩ := h11
        by_cases h12 : (r1 : Int32) = 0
        · refine zS1 (fun r he => B_X4_faultOfCells_r3_31_s1 Ln _ _ _ _ _ _  (fun _ => he) (fun n => absurd h12 n)) ?_
          have h13 := h13 h12
          refine zS1 (fun r he => B_X4_faultOfCells_r3_38 Ln _ _ _ _ _  he) ?_
          exact ⟨_, B_X4_faultOfCells_r3_39_s1 Ln _ _ _ _ _ _ , _, rfl, h13⟩
        · refine zS1 (fun r he => B_X4_faultOfCells_r3_31_s1 Ln _ _ _ _ _ _  (fun n => absurd n h12) (fun _ => he)) ?_
          have h14 := h14 h12
          refine zS1 (fun r he => B_X4_faultOfCells_r3_34 Ln _ _ _ _ _  he) ?_
          exact ⟨_, B_X4_faultOfCells_r3_39_s1 Ln _ _ _ _ _ _ , _, rfl, h14⟩
      · refine zS1 (fun r he => B_X4_faultOfCells_r3_19 Ln _ _ _ _ _  (fun n => absurd n h7) (fun _ => he)) ?_
        have h9 := h9 h7
        exact ⟨_, B_X4_faultOfCells_r3_23 Ln _ _ _ _ _ , _, rfl, h9⟩
    · refine zS1 (fun r he => B_X4_faultOfCells_r3_9 Ln _ _ _ _ _  (fun n => absurd n h4) (fun _ => he)) ?_
      have h6 := h6 h4
      exact ⟨_, B_X4_faultOfCells_r3_17 Ln _ _ _ _ _ , _, rfl, h6⟩
  · refine zS1 (fun r he => B_X4_faultOfCells_r3_0 Ln _ _ _ _ _  (fun n => absurd n h1) (fun _ => he)) ?_
    have h3 := h3 h1
    exact ⟨_, B_X4_faultOfCells_r3_7 Ln _ _ _ _ _ , _, rfl, h3⟩
def SL_X0_become_r11_r4_46 (Ln : Nat) (I : Nat → Nat → Int32) (v2 : Int32) (v3 : Int32) (Q : (Nat → Nat → Int32) → (Nat → Nat → Int32) → Prop) : Int32 × (Nat → Nat → Int32) → Prop
  | (v4, A) => ∀  (j5 : Option Int32), zSem 1 46 0 0 [some (.ref 11), some (.ref 4), some (.int v2), some (.int v3), some (.int v4), (Option.map Value.int j5)] [] (zGs Ln I A) (fun r => ∃ I1 A1, r = (none, zGs Ln I1 A1) ∧ Q I1 A1)
def L_X0_become_r11_r4_46 (Ln : Nat) (I : Nat → Nat → Int32) (v2 : Int32) (v3 : Int32) (Q : (Nat → Nat → Int32) → (Nat → Nat → Int32) → Prop) : Int32 × (Nat → Nat → Int32) → (Int32 × (Nat → Nat → Int32) → Prop) → Prop
  | (v4, A), K46 => ((((I 11 0) : Int32) ≤ v4 → ((W_X0_findComing_r11 Ln I A  (fun (A6 : Nat → Nat → Int32) => ((W_X0_findLoads_r11 Ln I A6  (fun (A7 : Nat → Nat → Int32) => (Q I A7)))))))) ∧ (¬ (((I 11 0) : Int32) ≤ v4) → ((zin (((v2 + 5) + (v4 * 6)) + 1) 60 = true) ∧ (W_X5_kindOf Ln I A (A 4 (((v2 + 5) + (v4 * 6)) + 1).toNatClampNeg) (fun (r8 : Int32) => (∀ x9 : Int32, x9 = (v2 + 5) + (v4 * 6) → ((zin v4 6 = true) ∧ (∀ A10 : Nat → Nat → Int32, A10 = zw A 12 ((v4).toNatClampNeg) r8 → (W_X5_digit_r4 Ln I A10 (x9 + 2) (fun (r11 : Int32) => ((zin v4 6 = true) ∧ (∀ A12 : Nat → Nat → Int32, A12 = zw A10 13 ((v4).toNatClampNeg) r11 → (W_X5_digit_r4 Ln I A12 (x9 + 3) (fun (r13 : Int32) => ((zin v4 6 = true) ∧ (∀ A14 : Nat → Nat → Int32, A14 = zw A12 14 ((v4).toNatClampNeg) r13 → (W_X5_twoDigits_r4 Ln I A14 (x9 + 4) (fun (r15 : Int32) => ((zin v4 6 = true) ∧ (K46 ((v4 + 1), (zw A14 15 ((v4).toNatClampNeg) r15))))))))))))))))))))))
set_option maxRecDepth 100000 in
theorem TL_X0_become_r11_r4_46 {Ln : Nat} {I : Nat → Nat → Int32} {v2 : Int32} {v3 : Int32} {Q : (Nat → Nat → Int32) → (Nat → Nat → Int32) → Prop} : ∀ p, zLoop (L_X0_become_r11_r4_46 Ln I v2 v3  Q) p → SL_X0_become_r11_r4_46 Ln I v2 v3 Q p := by
  refine zLoop.sound (Sem := SL_X0_become_r11_r4_46 Ln I v2 v3 Q) ?_
  rintro ⟨v4, A⟩ K46 hK46 h0
  intro j5
  show zSem 1 46 0 0 [some (.ref 11), some (.ref 4), some (.int v2), some (.int v3), some (.int v4), (Option.map Value.int j5)] [] (zGs Ln I A) (fun r => ∃ I1 A1, r = (none, zGs Ln I1 A1) ∧ Q I1 A1)
  change ((((I 11 0) : Int32) ≤ v4 → ((W_X0_findComing_r11 Ln I A  (fun (A6 : Nat → Nat → Int32) => ((W_X0_findLoads_r11 Ln I A6  (fun (A7 : Nat → Nat → Int32) => (Q I A7)))))))) ∧ (¬ (((I 11 0) : Int32) ≤ v4) → ((zin (((v2 + 5) + (v4 * 6)) + 1) 60 = true) ∧ (W_X5_kindOf Ln I A (A 4 (((v2 + 5) + (v4 * 6)) + 1).toNatClampNeg) (fun (r8 : Int32) => (∀ x9 : Int32, x9 = (v2 + 5) + (v4 * 6) → ((zin v4 6 = true) ∧ (∀ A10 : Nat → Nat → Int32, A10 = zw A 12 ((v4).toNatClampNeg) r8 → (W_X5_digit_r4 Ln I A10 (x9 + 2) (fun (r11 : Int32) => ((zin v4 6 = true) ∧ (∀ A12 : Nat → Nat → Int32, A12 = zw A10 13 ((v4).toNatClampNeg) r11 → (W_X5_digit_r4 Ln I A12 (x9 + 3) (fun (r13 : Int32) => ((zin v4 6 = true) ∧ (∀ A14 : Nat → Nat → Int32, A14 = zw A12 14 ((v4).toNatClampNeg) r13 → (W_X5_twoDigits_r4 Ln I A14 (x9 + 4) (fun (r15 : Int32) => ((zin v4 6 = true) ∧ (K46 ((v4 + 1), (zw A14 15 ((v4).toNatClampNeg) r15)))))))))))))))))))))) at h0
  obtain ⟨h2, h3⟩ := h0
  by_cases h1 : ((I 11 0) : Int32) ≤ v4
  · refine zS1 (fun r he => B_X0_become_r11_r4_46 Ln _ _ _ _ _ j5  (fun _ => he) (fun n => absurd h1 n)) ?_
    have h2 := h2 h1
    obtain ⟨_, h4, A6, rfl, h5⟩ := T_X0_findComing_r11 Ln _ _ _ h2
    refine zS1 (fun r he => B_X0_become_r11_r4_133 Ln _ _ _ _ _ j5  h4 rfl he) ?_
    obtain ⟨_, h6, A7, rfl, h7⟩ := T_X0_findLoads_r11 Ln _ _ _ h5
    refine zS1 (fun r he => B_X0_become_r11_r4_137 Ln _ _ _ _ _ j5  h6 rfl he) ?_
    exact ⟨_, B_X0_become_r11_r4_141 Ln _ _ _ _ _ j5 , _, _, rfl, h7⟩
  · refine zS1 (fun r he => B_X0_become_r11_r4_46 Ln _ _ _ _ _ j5  (fun n => absurd n h1) (fun _ => he)) ?_
    have h3 := h3 h1
    obtain ⟨h8, h9⟩ := h3
    obtain ⟨_, h10, r8, rfl, h11⟩ := T_X5_kindOf Ln _ _ _ _ h9
    refine zS1 (fun r he => B_X0_become_r11_r4_55 Ln _ _ _ _ _ j5 h8 h10 rfl he) ?_
    have h12 := h11 _ rfl
    obtain ⟨h13, h14⟩ := h12
    have h15 := h14 _ rfl
    obtain ⟨_, h16, r11, rfl, h17⟩ := T_X5_digit_r4 Ln _ _ _ _ h15
    refine zS1 (fun r he => B_X0_become_r11_r4_81_s3 Ln _ _ _ _ _ _ _ _ h13 h16 rfl he) ?_
    obtain ⟨h18, h19⟩ := h17
    have h20 := h19 _ rfl
    obtain ⟨_, h21, r13, rfl, h22⟩ := T_X5_digit_r4 Ln _ _ _ _ h20
    refine zS1 (fun r he => B_X0_become_r11_r4_96_s3 Ln _ _ _ _ _ _ _ _ h18 h21 rfl he) ?_
    obtain ⟨h23, h24⟩ := h22
    have h25 := h24 _ rfl
    obtain ⟨_, h26, r15, rfl, h27⟩ := T_X5_twoDigits_r4 Ln _ _ _ _ h25
    refine zS1 (fun r he => B_X0_become_r11_r4_111_s3 Ln _ _ _ _ _ _ _ _ h23 h26 rfl he) ?_
    obtain ⟨h28, h29⟩ := h27
    refine zS1 (fun r he => B_X0_become_r11_r4_126_s3 Ln _ _ _ _ _ _ _ _ h28 he) ?_
    have q := hK46 _ h29
    exact q (some _)
def W_X0_become_r11_r4 (Ln : Nat) (I A : Nat → Nat → Int32) (v2 : Int32) (v3 : Int32) (Q : (Nat → Nat → Int32) → (Nat → Nat → Int32) → Prop) : Prop := ((W_X5_digit_r4 Ln I A (v2 + 1) (fun (r1 : Int32) => ((∀ I2 : Nat → Nat → Int32, I2 = zp I 11 1 r1 → (W_X5_twoDigits_r4 Ln I2 A (v2 + 2) (fun (r3 : Int32) => ((∀ I4 : Nat → Nat → Int32, I4 = zp I2 11 2 r3 → (W_X5_digit_r4 Ln I4 A (v2 + 4) (fun (r5 : Int32) => ((zLoop (L_X0_become_r11_r4_46 Ln (zp (zp I4 11 3 r5) 11 0 ((v3 - 5) / 6)) v2 v3  Q) (0, A))))))))))))))
set_option maxRecDepth 100000 in
theorem T_X0_become_r11_r4 (Ln : Nat) (I A : Nat → Nat → Int32) (v2 : Int32) (v3 : Int32) (Q : (Nat → Nat → Int32) → (Nat → Nat → Int32) → Prop) (h0 : W_X0_become_r11_r4 Ln I A v2 v3 Q) : zSem 1 0 0 0 [some (.ref 11), some (.ref 4), some (.int v2), some (.int v3), none, none] [] (zGs Ln I A) (fun r => ∃ I1 A1, r = (none, zGs Ln I1 A1) ∧ Q I1 A1) := by
  unfold W_X0_become_r11_r4 at h0
  obtain ⟨_, h1, r1, rfl, h2⟩ := T_X5_digit_r4 Ln _ _ _ _ h0
  refine zS1 (fun r he => B_X0_become_r11_r4_0 Ln _ _ _ _  h1 rfl he) ?_
  have h3 := h2 _ rfl
  obtain ⟨_, h4, r3, rfl, h5⟩ := T_X5_twoDigits_r4 Ln _ _ _ _ h3
  refine zS1 (fun r he => B_X0_become_r11_r4_8_s2 Ln _ _ _ _ _  h4 rfl he) ?_
  have h6 := h5 _ rfl
  obtain ⟨_, h7, r5, rfl, h8⟩ := T_X5_digit_r4 Ln _ _ _ _ h6
  refine zS1 (fun r he => B_X0_become_r11_r4_19_s2 Ln _ _ _ _ _  h7 rfl he) ?_
  refine zS1 (fun r he => B_X0_become_r11_r4_30_s2 Ln _ _ _ _ _  he) ?_
  exact TL_X0_become_r11_r4_46  _ h8 none
def W_X4_faultOfCells_r5 (Ln : Nat) (I A : Nat → Nat → Int32) (v1 : Int32) (v2 : Int32) (v3 : Int32) (Q : Int32 → Prop) : Prop := ((((I 5 1) : Int32) ≠ 0 → ((((I 5 2) : Int32) = v1 → (((0 : Int32) ≤ v3 → ((W_X4_holds_r5 Ln I A v2 v3 (fun (r1 : Int32) => (((r1 : Int32) = 0 → ((Q 3))) ∧ (¬ ((r1 : Int32) = 0) → ((Q 0)))))))) ∧ (¬ ((0 : Int32) ≤ v3) → (Q 4)))) ∧ (¬ (((I 5 2) : Int32) = v1) → (Q 2)))) ∧ (¬ (((I 5 1) : Int32) ≠ 0) → (Q 1)))
set_option maxRecDepth 100000 in
theorem T_X4_faultOfCells_r5 (Ln : Nat) (I A : Nat → Nat → Int32) (v1 : Int32) (v2 : Int32) (v3 : Int32) (Q : Int32 → Prop) (h0 : W_X4_faultOfCells_r5 Ln I A v1 v2 v3 Q) : zSem 24 0 0 0 [some (.ref 5), some (.int v1), some (.int v2), some (.int v3)] [] (zGs Ln I A) (fun r => ∃ x, r = (some (.int x), zGs Ln I A) ∧ Q x) := by
  unfold W_X4_faultOfCells_r5 at h0
  obtain ⟨h2, h3⟩ := h0
  by_cases h1 : ((I 5 1) : Int32) ≠ 0
  · refine zS1 (fun r he => B_X4_faultOfCells_r5_0 Ln _ _ _ _ _  (fun _ => he) (fun n => absurd h1 n)) ?_
    have h2 := h2 h1
    obtain ⟨h5, h6⟩ := h2
    by_cases h4 : ((I 5 2) : Int32) = v1
    · refine zS1 (fun r he => B_X4_faultOfCells_r5_9 Ln _ _ _ _ _  (fun _ => he) (fun n => absurd h4 n)) ?_
      have h5 := h5 h4
      obtain ⟨h8, h9⟩ := h5
      by_cases h7 : (0 : Int32) ≤ v3
      · refine zS1 (fun r he => B_X4_faultOfCells_r5_19 Ln _ _ _ _ _  (fun _ => he) (fun n => absurd h7 n)) ?_
        have h8 := h8 h7
        obtain ⟨_, h10, r1, rfl, h11⟩ := T_X4_holds_r5 Ln _ _ _ _ _ h8
        refine zS1 (fun r he => B_X4_faultOfCells_r5_25 Ln _ _ _ _ _  h10 rfl he) ?_
        obtain ⟨h13, h14⟩ := h11
        by_cases h12 : (r1 : Int32) = 0
        · refine zS1 (fun r he => B_X4_faultOfCells_r5_31_s1 Ln _ _ _ _ _ _  (fun _ => he) (fun n => absurd h12 n)) ?_
          have h13 := h13 h12
          refine zS1 (fun r he => B_X4_faultOfCells_r5_38 Ln _ _ _ _ _  he) ?_
          exact ⟨_, B_X4_faultOfCells_r5_39_s1 Ln _ _ _ _ _ _ , _, rfl, h13⟩
        · refine zS1 (fun r he => B_X4_faultOfCells_r5_31_s1 Ln _ _ _ _ _ _  (fun n => absurd n h12) (fun _ => he)) ?_
          have h14 := h14 h12
          refine zS1 (fun r he => B_X4_faultOfCells_r5_34 Ln _ _ _ _ _  he) ?_
          exact ⟨_, B_X4_faultOfCells_r5_39_s1 Ln _ _ _ _ _ _ , _, rfl, h14⟩
      · refine zS1 (fun r he => B_X4_faultOfCells_r5_19 Ln _ _ _ _ _  (fun n => absurd n h7) (fun _ => he)) ?_
        have h9 := h9 h7
        exact ⟨_, B_X4_faultOfCells_r5_23 Ln _ _ _ _ _ , _, rfl, h9⟩
    · refine zS1 (fun r he => B_X4_faultOfCells_r5_9 Ln _ _ _ _ _  (fun n => absurd n h4) (fun _ => he)) ?_
      have h6 := h6 h4
      exact ⟨_, B_X4_faultOfCells_r5_17 Ln _ _ _ _ _ , _, rfl, h6⟩
  · refine zS1 (fun r he => B_X4_faultOfCells_r5_0 Ln _ _ _ _ _  (fun n => absurd n h1) (fun _ => he)) ?_
    have h3 := h3 h1
    exact ⟨_, B_X4_faultOfCells_r5_7 Ln _ _ _ _ _ , _, rfl, h3⟩
def SL_X0_become_r11_r6_46 (Ln : Nat) (I : Nat → Nat → Int32) (v2 : Int32) (v3 : Int32) (Q : (Nat → Nat → Int32) → (Nat → Nat → Int32) → Prop) : Int32 × (Nat → Nat → Int32) → Prop
  | (v4, A) => ∀  (j5 : Option Int32), zSem 1 46 0 0 [some (.ref 11), some (.ref 6), some (.int v2), some (.int v3), some (.int v4), (Option.map Value.int j5)] [] (zGs Ln I A) (fun r => ∃ I1 A1, r = (none, zGs Ln I1 A1) ∧ Q I1 A1)
def L_X0_become_r11_r6_46 (Ln : Nat) (I : Nat → Nat → Int32) (v2 : Int32) (v3 : Int32) (Q : (Nat → Nat → Int32) → (Nat → Nat → Int32) → Prop) : Int32 × (Nat → Nat → Int32) → (Int32 × (Nat → Nat → Int32) → Prop) → Prop
  | (v4, A), K46 => ((((I 11 0) : Int32) ≤ v4 → ((W_X0_findComing_r11 Ln I A  (fun (A6 : Nat → Nat → Int32) => ((W_X0_findLoads_r11 Ln I A6  (fun (A7 : Nat → Nat → Int32) => (Q I A7)))))))) ∧ (¬ (((I 11 0) : Int32) ≤ v4) → ((zin (((v2 + 5) + (v4 * 6)) + 1) 60 = true) ∧ (W_X5_kindOf Ln I A (A 6 (((v2 + 5) + (v4 * 6)) + 1).toNatClampNeg) (fun (r8 : Int32) => (∀ x9 : Int32, x9 = (v2 + 5) + (v4 * 6) → ((zin v4 6 = true) ∧ (∀ A10 : Nat → Nat → Int32, A10 = zw A 12 ((v4).toNatClampNeg) r8 → (W_X5_digit_r6 Ln I A10 (x9 + 2) (fun (r11 : Int32) => ((zin v4 6 = true) ∧ (∀ A12 : Nat → Nat → Int32, A12 = zw A10 13 ((v4).toNatClampNeg) r11 → (W_X5_digit_r6 Ln I A12 (x9 + 3) (fun (r13 : Int32) => ((zin v4 6 = true) ∧ (∀ A14 : Nat → Nat → Int32, A14 = zw A12 14 ((v4).toNatClampNeg) r13 → (W_X5_twoDigits_r6 Ln I A14 (x9 + 4) (fun (r15 : Int32) => ((zin v4 6 = true) ∧ (K46 ((v4 + 1), (zw A14 15 ((v4).toNatClampNeg) r15))))))))))))))))))))))
set_option maxRecDepth 100000 in
theorem TL_X0_become_r11_r6_46 {Ln : Nat} {I : Nat → Nat → Int32} {v2 : Int32} {v3 : Int32} {Q : (Nat → Nat → Int32) → (Nat → Nat → Int32) → Prop} : ∀ p, zLoop (L_X0_become_r11_r6_46 Ln I v2 v3  Q) p → SL_X0_become_r11_r6_46 Ln I v2 v3 Q p := by
  refine zLoop.sound (Sem := SL_X0_become_r11_r6_46 Ln I v2 v3 Q) ?_
  rintro ⟨v4, A⟩ K46 hK46 h0
  intro j5
  show zSem 1 46 0 0 [some (.ref 11), some (.ref 6), some (.int v2), some (.int v3), some (.int v4), (Option.map Value.int j5)] [] (zGs Ln I A) (fun r => ∃ I1 A1, r = (none, zGs Ln I1 A1) ∧ Q I1 A1)
  change ((((I 11 0) : Int32) ≤ v4 → ((W_X0_findComing_r11 Ln I A  (fun (A6 : Nat → Nat → Int32) => ((W_X0_findLoads_r11 Ln I A6  (fun (A7 : Nat → Nat → Int32) => (Q I A7)))))))) ∧ (¬ (((I 11 0) : Int32) ≤ v4) → ((zin (((v2 + 5) + (v4 * 6)) + 1) 60 = true) ∧ (W_X5_kindOf Ln I A (A 6 (((v2 + 5) + (v4 * 6)) + 1).toNatClampNeg) (fun (r8 : Int32) => (∀ x9 : Int32, x9 = (v2 + 5) + (v4 * 6) → ((zin v4 6 = true) ∧ (∀ A10 : Nat → Nat → Int32, A10 = zw A 12 ((v4).toNatClampNeg) r8 → (W_X5_digit_r6 Ln I A10 (x9 + 2) (fun (r11 : Int32) => ((zin v4 6 = true) ∧ (∀ A12 : Nat → Nat → Int32, A12 = zw A10 13 ((v4).toNatClampNeg) r11 → (W_X5_digit_r6 Ln I A12 (x9 + 3) (fun (r13 : Int32) => ((zin v4 6 = true) ∧ (∀ A14 : Nat → Nat → Int32, A14 = zw A12 14 ((v4).toNatClampNeg) r13 → (W_X5_twoDigits_r6 Ln I A14 (x9 + 4) (fun (r15 : Int32) => ((zin v4 6 = true) ∧ (K46 ((v4 + 1), (zw A14 15 ((v4).toNatClampNeg) r15)))))))))))))))))))))) at h0
  obtain ⟨h2, h3⟩ := h0
  by_cases h1 : ((I 11 0) : Int32) ≤ v4
  · refine zS1 (fun r he => B_X0_become_r11_r6_46 Ln _ _ _ _ _ j5  (fun _ => he) (fun n => absurd h1 n)) ?_
    have h2 := h2 h1
    obtain ⟨_, h4, A6, rfl, h5⟩ := T_X0_findComing_r11 Ln _ _ _ h2
    refine zS1 (fun r he => B_X0_become_r11_r6_133 Ln _ _ _ _ _ j5  h4 rfl he) ?_
    obtain ⟨_, h6, A7, rfl, h7⟩ := T_X0_findLoads_r11 Ln _ _ _ h5
    refine zS1 (fun r he => B_X0_become_r11_r6_137 Ln _ _ _ _ _ j5  h6 rfl he) ?_
    exact ⟨_, B_X0_become_r11_r6_141 Ln _ _ _ _ _ j5 , _, _, rfl, h7⟩
  · refine zS1 (fun r he => B_X0_become_r11_r6_46 Ln _ _ _ _ _ j5  (fun n => absurd n h1) (fun _ => he)) ?_
    have h3 := h3 h1
    obtain ⟨h8, h9⟩ := h3
    obtain ⟨_, h10, r8, rfl, h11⟩ := T_X5_kindOf Ln _ _ _ _ h9
    refine zS1 (fun r he => B_X0_become_r11_r6_55 Ln _ _ _ _ _ j5 h8 h10 rfl he) ?_
    have h12 := h11 _ rfl
    obtain ⟨h13, h14⟩ := h12
    have h15 := h14 _ rfl
    obtain ⟨_, h16, r11, rfl, h17⟩ := T_X5_digit_r6 Ln _ _ _ _ h15
    refine zS1 (fun r he => B_X0_become_r11_r6_81_s3 Ln _ _ _ _ _ _ _ _ h13 h16 rfl he) ?_
    obtain ⟨h18, h19⟩ := h17
    have h20 := h19 _ rfl
    obtain ⟨_, h21, r13, rfl, h22⟩ := T_X5_digit_r6 Ln _ _ _ _ h20
    refine zS1 (fun r he => B_X0_become_r11_r6_96_s3 Ln _ _ _ _ _ _ _ _ h18 h21 rfl he) ?_
    obtain ⟨h23, h24⟩ := h22
    have h25 := h24 _ rfl
    obtain ⟨_, h26, r15, rfl, h27⟩ := T_X5_twoDigits_r6 Ln _ _ _ _ h25
    refine zS1 (fun r he => B_X0_become_r11_r6_111_s3 Ln _ _ _ _ _ _ _ _ h23 h26 rfl he) ?_
    obtain ⟨h28, h29⟩ := h27
    refine zS1 (fun r he => B_X0_become_r11_r6_126_s3 Ln _ _ _ _ _ _ _ _ h28 he) ?_
    have q := hK46 _ h29
    exact q (some _)
def W_X0_become_r11_r6 (Ln : Nat) (I A : Nat → Nat → Int32) (v2 : Int32) (v3 : Int32) (Q : (Nat → Nat → Int32) → (Nat → Nat → Int32) → Prop) : Prop := ((W_X5_digit_r6 Ln I A (v2 + 1) (fun (r1 : Int32) => ((∀ I2 : Nat → Nat → Int32, I2 = zp I 11 1 r1 → (W_X5_twoDigits_r6 Ln I2 A (v2 + 2) (fun (r3 : Int32) => ((∀ I4 : Nat → Nat → Int32, I4 = zp I2 11 2 r3 → (W_X5_digit_r6 Ln I4 A (v2 + 4) (fun (r5 : Int32) => ((zLoop (L_X0_become_r11_r6_46 Ln (zp (zp I4 11 3 r5) 11 0 ((v3 - 5) / 6)) v2 v3  Q) (0, A))))))))))))))
set_option maxRecDepth 100000 in
theorem T_X0_become_r11_r6 (Ln : Nat) (I A : Nat → Nat → Int32) (v2 : Int32) (v3 : Int32) (Q : (Nat → Nat → Int32) → (Nat → Nat → Int32) → Prop) (h0 : W_X0_become_r11_r6 Ln I A v2 v3 Q) : zSem 1 0 0 0 [some (.ref 11), some (.ref 6), some (.int v2), some (.int v3), none, none] [] (zGs Ln I A) (fun r => ∃ I1 A1, r = (none, zGs Ln I1 A1) ∧ Q I1 A1) := by
  unfold W_X0_become_r11_r6 at h0
  obtain ⟨_, h1, r1, rfl, h2⟩ := T_X5_digit_r6 Ln _ _ _ _ h0
  refine zS1 (fun r he => B_X0_become_r11_r6_0 Ln _ _ _ _  h1 rfl he) ?_
  have h3 := h2 _ rfl
  obtain ⟨_, h4, r3, rfl, h5⟩ := T_X5_twoDigits_r6 Ln _ _ _ _ h3
  refine zS1 (fun r he => B_X0_become_r11_r6_8_s2 Ln _ _ _ _ _  h4 rfl he) ?_
  have h6 := h5 _ rfl
  obtain ⟨_, h7, r5, rfl, h8⟩ := T_X5_digit_r6 Ln _ _ _ _ h6
  refine zS1 (fun r he => B_X0_become_r11_r6_19_s2 Ln _ _ _ _ _  h7 rfl he) ?_
  refine zS1 (fun r he => B_X0_become_r11_r6_30_s2 Ln _ _ _ _ _  he) ?_
  exact TL_X0_become_r11_r6_46  _ h8 none
def W_X4_faultOfCells_r7 (Ln : Nat) (I A : Nat → Nat → Int32) (v1 : Int32) (v2 : Int32) (v3 : Int32) (Q : Int32 → Prop) : Prop := ((((I 7 1) : Int32) ≠ 0 → ((((I 7 2) : Int32) = v1 → (((0 : Int32) ≤ v3 → ((W_X4_holds_r7 Ln I A v2 v3 (fun (r1 : Int32) => (((r1 : Int32) = 0 → ((Q 3))) ∧ (¬ ((r1 : Int32) = 0) → ((Q 0)))))))) ∧ (¬ ((0 : Int32) ≤ v3) → (Q 4)))) ∧ (¬ (((I 7 2) : Int32) = v1) → (Q 2)))) ∧ (¬ (((I 7 1) : Int32) ≠ 0) → (Q 1)))
set_option maxRecDepth 100000 in
theorem T_X4_faultOfCells_r7 (Ln : Nat) (I A : Nat → Nat → Int32) (v1 : Int32) (v2 : Int32) (v3 : Int32) (Q : Int32 → Prop) (h0 : W_X4_faultOfCells_r7 Ln I A v1 v2 v3 Q) : zSem 24 0 0 0 [some (.ref 7), some (.int v1), some (.int v2), some (.int v3)] [] (zGs Ln I A) (fun r => ∃ x, r = (some (.int x), zGs Ln I A) ∧ Q x) := by
  unfold W_X4_faultOfCells_r7 at h0
  obtain ⟨h2, h3⟩ := h0
  by_cases h1 : ((I 7 1) : Int32) ≠ 0
  · refine zS1 (fun r he => B_X4_faultOfCells_r7_0 Ln _ _ _ _ _  (fun _ => he) (fun n => absurd h1 n)) ?_
    have h2 := h2 h1
    obtain ⟨h5, h6⟩ := h2
    by_cases h4 : ((I 7 2) : Int32) = v1
    · refine zS1 (fun r he => B_X4_faultOfCells_r7_9 Ln _ _ _ _ _  (fun _ => he) (fun n => absurd h4 n)) ?_
      have h5 := h5 h4
      obtain ⟨h8, h9⟩ := h5
      by_cases h7 : (0 : Int32) ≤ v3
      · refine zS1 (fun r he => B_X4_faultOfCells_r7_19 Ln _ _ _ _ _  (fun _ => he) (fun n => absurd h7 n)) ?_
        have h8 := h8 h7
        obtain ⟨_, h10, r1, rfl, h11⟩ := T_X4_holds_r7 Ln _ _ _ _ _ h8
        refine zS1 (fun r he => B_X4_faultOfCells_r7_25 Ln _ _ _ _ _  h10 rfl he) ?_
        obtain ⟨h13, h14⟩ := h11
        by_cases h12 : (r1 : Int32) = 0
        · refine zS1 (fun r he => B_X4_faultOfCells_r7_31_s1 Ln _ _ _ _ _ _  (fun _ => he) (fun n => absurd h12 n)) ?_
          have h13 := h13 h12
          refine zS1 (fun r he => B_X4_faultOfCells_r7_38 Ln _ _ _ _ _  he) ?_
          exact ⟨_, B_X4_faultOfCells_r7_39_s1 Ln _ _ _ _ _ _ , _, rfl, h13⟩
        · refine zS1 (fun r he => B_X4_faultOfCells_r7_31_s1 Ln _ _ _ _ _ _  (fun n => absurd n h12) (fun _ => he)) ?_
          have h14 := h14 h12
          refine zS1 (fun r he => B_X4_faultOfCells_r7_34 Ln _ _ _ _ _  he) ?_
          exact ⟨_, B_X4_faultOfCells_r7_39_s1 Ln _ _ _ _ _ _ , _, rfl, h14⟩
      · refine zS1 (fun r he => B_X4_faultOfCells_r7_19 Ln _ _ _ _ _  (fun n => absurd n h7) (fun _ => he)) ?_
        have h9 := h9 h7
        exact ⟨_, B_X4_faultOfCells_r7_23 Ln _ _ _ _ _ , _, rfl, h9⟩
    · refine zS1 (fun r he => B_X4_faultOfCells_r7_9 Ln _ _ _ _ _  (fun n => absurd n h4) (fun _ => he)) ?_
      have h6 := h6 h4
      exact ⟨_, B_X4_faultOfCells_r7_17 Ln _ _ _ _ _ , _, rfl, h6⟩
  · refine zS1 (fun r he => B_X4_faultOfCells_r7_0 Ln _ _ _ _ _  (fun n => absurd n h1) (fun _ => he)) ?_
    have h3 := h3 h1
    exact ⟨_, B_X4_faultOfCells_r7_7 Ln _ _ _ _ _ , _, rfl, h3⟩
def SL_X0_become_r11_r8_46 (Ln : Nat) (I : Nat → Nat → Int32) (v2 : Int32) (v3 : Int32) (Q : (Nat → Nat → Int32) → (Nat → Nat → Int32) → Prop) : Int32 × (Nat → Nat → Int32) → Prop
  | (v4, A) => ∀  (j5 : Option Int32), zSem 1 46 0 0 [some (.ref 11), some (.ref 8), some (.int v2), some (.int v3), some (.int v4), (Option.map Value.int j5)] [] (zGs Ln I A) (fun r => ∃ I1 A1, r = (none, zGs Ln I1 A1) ∧ Q I1 A1)
def L_X0_become_r11_r8_46 (Ln : Nat) (I : Nat → Nat → Int32) (v2 : Int32) (v3 : Int32) (Q : (Nat → Nat → Int32) → (Nat → Nat → Int32) → Prop) : Int32 × (Nat → Nat → Int32) → (Int32 × (Nat → Nat → Int32) → Prop) → Prop
  | (v4, A), K46 => ((((I 11 0) : Int32) ≤ v4 → ((W_X0_findComing_r11 Ln I A  (fun (A6 : Nat → Nat → Int32) => ((W_X0_findLoads_r11 Ln I A6  (fun (A7 : Nat → Nat → Int32) => (Q I A7)))))))) ∧ (¬ (((I 11 0) : Int32) ≤ v4) → ((zin (((v2 + 5) + (v4 * 6)) + 1) 60 = true) ∧ (W_X5_kindOf Ln I A (A 8 (((v2 + 5) + (v4 * 6)) + 1).toNatClampNeg) (fun (r8 : Int32) => (∀ x9 : Int32, x9 = (v2 + 5) + (v4 * 6) → ((zin v4 6 = true) ∧ (∀ A10 : Nat → Nat → Int32, A10 = zw A 12 ((v4).toNatClampNeg) r8 → (W_X5_digit_r8 Ln I A10 (x9 + 2) (fun (r11 : Int32) => ((zin v4 6 = true) ∧ (∀ A12 : Nat → Nat → Int32, A12 = zw A10 13 ((v4).toNatClampNeg) r11 → (W_X5_digit_r8 Ln I A12 (x9 + 3) (fun (r13 : Int32) => ((zin v4 6 = true) ∧ (∀ A14 : Nat → Nat → Int32, A14 = zw A12 14 ((v4).toNatClampNeg) r13 → (W_X5_twoDigits_r8 Ln I A14 (x9 + 4) (fun (r15 : Int32) => ((zin v4 6 = true) ∧ (K46 ((v4 + 1), (zw A14 15 ((v4).toNatClampNeg) r15))))))))))))))))))))))
set_option maxRecDepth 100000 in
theorem TL_X0_become_r11_r8_46 {Ln : Nat} {I : Nat → Nat → Int32} {v2 : Int32} {v3 : Int32} {Q : (Nat → Nat → Int32) → (Nat → Nat → Int32) → Prop} : ∀ p, zLoop (L_X0_become_r11_r8_46 Ln I v2 v3  Q) p → SL_X0_become_r11_r8_46 Ln I v2 v3 Q p := by
  refine zLoop.sound (Sem := SL_X0_become_r11_r8_46 Ln I v2 v3 Q) ?_
  rintro ⟨v4, A⟩ K46 hK46 h0
  intro j5
  show zSem 1 46 0 0 [some (.ref 11), some (.ref 8), some (.int v2), some (.int v3), some (.int v4), (Option.map Value.int j5)] [] (zGs Ln I A) (fun r => ∃ I1 A1, r = (none, zGs Ln I1 A1) ∧ Q I1 A1)
  change ((((I 11 0) : Int32) ≤ v4 → ((W_X0_findComing_r11 Ln I A  (fun (A6 : Nat → Nat → Int32) => ((W_X0_findLoads_r11 Ln I A6  (fun (A7 : Nat → Nat → Int32) => (Q I A7)))))))) ∧ (¬ (((I 11 0) : Int32) ≤ v4) → ((zin (((v2 + 5) + (v4 * 6)) + 1) 60 = true) ∧ (W_X5_kindOf Ln I A (A 8 (((v2 + 5) + (v4 * 6)) + 1).toNatClampNeg) (fun (r8 : Int32) => (∀ x9 : Int32, x9 = (v2 + 5) + (v4 * 6) → ((zin v4 6 = true) ∧ (∀ A10 : Nat → Nat → Int32, A10 = zw A 12 ((v4).toNatClampNeg) r8 → (W_X5_digit_r8 Ln I A10 (x9 + 2) (fun (r11 : Int32) => ((zin v4 6 = true) ∧ (∀ A12 : Nat → Nat → Int32, A12 = zw A10 13 ((v4).toNatClampNeg) r11 → (W_X5_digit_r8 Ln I A12 (x9 + 3) (fun (r13 : Int32) => ((zin v4 6 = true) ∧ (∀ A14 : Nat → Nat → Int32, A14 = zw A12 14 ((v4).toNatClampNeg) r13 → (W_X5_twoDigits_r8 Ln I A14 (x9 + 4) (fun (r15 : Int32) => ((zin v4 6 = true) ∧ (K46 ((v4 + 1), (zw A14 15 ((v4).toNatClampNeg) r15)))))))))))))))))))))) at h0
  obtain ⟨h2, h3⟩ := h0
  by_cases h1 : ((I 11 0) : Int32) ≤ v4
  · refine zS1 (fun r he => B_X0_become_r11_r8_46 Ln _ _ _ _ _ j5  (fun _ => he) (fun n => absurd h1 n)) ?_
    have h2 := h2 h1
    obtain ⟨_, h4, A6, rfl, h5⟩ := T_X0_findComing_r11 Ln _ _ _ h2
    refine zS1 (fun r he => B_X0_become_r11_r8_133 Ln _ _ _ _ _ j5  h4 rfl he) ?_
    obtain ⟨_, h6, A7, rfl, h7⟩ := T_X0_findLoads_r11 Ln _ _ _ h5
    refine zS1 (fun r he => B_X0_become_r11_r8_137 Ln _ _ _ _ _ j5  h6 rfl he) ?_
    exact ⟨_, B_X0_become_r11_r8_141 Ln _ _ _ _ _ j5 , _, _, rfl, h7⟩
  · refine zS1 (fun r he => B_X0_become_r11_r8_46 Ln _ _ _ _ _ j5  (fun n => absurd n h1) (fun _ => he)) ?_
    have h3 := h3 h1
    obtain ⟨h8, h9⟩ := h3
    obtain ⟨_, h10, r8, rfl, h11⟩ := T_X5_kindOf Ln _ _ _ _ h9
    refine zS1 (fun r he => B_X0_become_r11_r8_55 Ln _ _ _ _ _ j5 h8 h10 rfl he) ?_
    have h12 := h11 _ rfl
    obtain ⟨h13, h14⟩ := h12
    have h15 := h14 _ rfl
    obtain ⟨_, h16, r11, rfl, h17⟩ := T_X5_digit_r8 Ln _ _ _ _ h15
    refine zS1 (fun r he => B_X0_become_r11_r8_81_s3 Ln _ _ _ _ _ _ _ _ h13 h16 rfl he) ?_
    obtain ⟨h18, h19⟩ := h17
    have h20 := h19 _ rfl
    obtain ⟨_, h21, r13, rfl, h22⟩ := T_X5_digit_r8 Ln _ _ _ _ h20
    refine zS1 (fun r he => B_X0_become_r11_r8_96_s3 Ln _ _ _ _ _ _ _ _ h18 h21 rfl he) ?_
    obtain ⟨h23, h24⟩ := h22
    have h25 := h24 _ rfl
    obtain ⟨_, h26, r15, rfl, h27⟩ := T_X5_twoDigits_r8 Ln _ _ _ _ h25
    refine zS1 (fun r he => B_X0_become_r11_r8_111_s3 Ln _ _ _ _ _ _ _ _ h23 h26 rfl he) ?_
    obtain ⟨h28, h29⟩ := h27
    refine zS1 (fun r he => B_X0_become_r11_r8_126_s3 Ln _ _ _ _ _ _ _ _ h28 he) ?_
    have q := hK46 _ h29
    exact q (some _)
def W_X0_become_r11_r8 (Ln : Nat) (I A : Nat → Nat → Int32) (v2 : Int32) (v3 : Int32) (Q : (Nat → Nat → Int32) → (Nat → Nat → Int32) → Prop) : Prop := ((W_X5_digit_r8 Ln I A (v2 + 1) (fun (r1 : Int32) => ((∀ I2 : Nat → Nat → Int32, I2 = zp I 11 1 r1 → (W_X5_twoDigits_r8 Ln I2 A (v2 + 2) (fun (r3 : Int32) => ((∀ I4 : Nat → Nat → Int32, I4 = zp I2 11 2 r3 → (W_X5_digit_r8 Ln I4 A (v2 + 4) (fun (r5 : Int32) => ((zLoop (L_X0_become_r11_r8_46 Ln (zp (zp I4 11 3 r5) 11 0 ((v3 - 5) / 6)) v2 v3  Q) (0, A))))))))))))))
set_option maxRecDepth 100000 in
theorem T_X0_become_r11_r8 (Ln : Nat) (I A : Nat → Nat → Int32) (v2 : Int32) (v3 : Int32) (Q : (Nat → Nat → Int32) → (Nat → Nat → Int32) → Prop) (h0 : W_X0_become_r11_r8 Ln I A v2 v3 Q) : zSem 1 0 0 0 [some (.ref 11), some (.ref 8), some (.int v2), some (.int v3), none, none] [] (zGs Ln I A) (fun r => ∃ I1 A1, r = (none, zGs Ln I1 A1) ∧ Q I1 A1) := by
  unfold W_X0_become_r11_r8 at h0
  obtain ⟨_, h1, r1, rfl, h2⟩ := T_X5_digit_r8 Ln _ _ _ _ h0
  refine zS1 (fun r he => B_X0_become_r11_r8_0 Ln _ _ _ _  h1 rfl he) ?_
  have h3 := h2 _ rfl
  obtain ⟨_, h4, r3, rfl, h5⟩ := T_X5_twoDigits_r8 Ln _ _ _ _ h3
  refine zS1 (fun r he => B_X0_become_r11_r8_8_s2 Ln _ _ _ _ _  h4 rfl he) ?_
  have h6 := h5 _ rfl
  obtain ⟨_, h7, r5, rfl, h8⟩ := T_X5_digit_r8 Ln _ _ _ _ h6
  refine zS1 (fun r he => B_X0_become_r11_r8_19_s2 Ln _ _ _ _ _  h7 rfl he) ?_
  refine zS1 (fun r he => B_X0_become_r11_r8_30_s2 Ln _ _ _ _ _  he) ?_
  exact TL_X0_become_r11_r8_46  _ h8 none
def W_X4_faultOfCells_r9 (Ln : Nat) (I A : Nat → Nat → Int32) (v1 : Int32) (v2 : Int32) (v3 : Int32) (Q : Int32 → Prop) : Prop := ((((I 9 1) : Int32) ≠ 0 → ((((I 9 2) : Int32) = v1 → (((0 : Int32) ≤ v3 → ((W_X4_holds_r9 Ln I A v2 v3 (fun (r1 : Int32) => (((r1 : Int32) = 0 → ((Q 3))) ∧ (¬ ((r1 : Int32) = 0) → ((Q 0)))))))) ∧ (¬ ((0 : Int32) ≤ v3) → (Q 4)))) ∧ (¬ (((I 9 2) : Int32) = v1) → (Q 2)))) ∧ (¬ (((I 9 1) : Int32) ≠ 0) → (Q 1)))
set_option maxRecDepth 100000 in
theorem T_X4_faultOfCells_r9 (Ln : Nat) (I A : Nat → Nat → Int32) (v1 : Int32) (v2 : Int32) (v3 : Int32) (Q : Int32 → Prop) (h0 : W_X4_faultOfCells_r9 Ln I A v1 v2 v3 Q) : zSem 24 0 0 0 [some (.ref 9), some (.int v1), some (.int v2), some (.int v3)] [] (zGs Ln I A) (fun r => ∃ x, r = (some (.int x), zGs Ln I A) ∧ Q x) := by
  unfold W_X4_faultOfCells_r9 at h0
  obtain ⟨h2, h3⟩ := h0
  by_cases h1 : ((I 9 1) : Int32) ≠ 0
  · refine zS1 (fun r he => B_X4_faultOfCells_r9_0 Ln _ _ _ _ _  (fun _ => he) (fun n => absurd h1 n)) ?_
    have h2 := h2 h1
    obtain ⟨h5, h6⟩ := h2
    by_cases h4 : ((I 9 2) : Int32) = v1
    · refine zS1 (fun r he => B_X4_faultOfCells_r9_9 Ln _ _ _ _ _  (fun _ => he) (fun n => absurd h4 n)) ?_
      have h5 := h5 h4
      obtain ⟨h8, h9⟩ := h5
      by_cases h7 : (0 : Int32) ≤ v3
      · refine zS1 (fun r he => B_X4_faultOfCells_r9_19 Ln _ _ _ _ _  (fun _ => he) (fun n => absurd h7 n)) ?_
        have h8 := h8 h7
        obtain ⟨_, h10, r1, rfl, h11⟩ := T_X4_holds_r9 Ln _ _ _ _ _ h8
        refine zS1 (fun r he => B_X4_faultOfCells_r9_25 Ln _ _ _ _ _  h10 rfl he) ?_
        obtain ⟨h13, h14⟩ := h11
        by_cases h12 : (r1 : Int32) = 0
        · refine zS1 (fun r he => B_X4_faultOfCells_r9_31_s1 Ln _ _ _ _ _ _  (fun _ => he) (fun n => absurd h12 n)) ?_
          have h13 := h13 h12
          refine zS1 (fun r he => B_X4_faultOfCells_r9_38 Ln _ _ _ _ _  he) ?_
          exact ⟨_, B_X4_faultOfCells_r9_39_s1 Ln _ _ _ _ _ _ , _, rfl, h13⟩
        · refine zS1 (fun r he => B_X4_faultOfCells_r9_31_s1 Ln _ _ _ _ _ _  (fun n => absurd n h12) (fun _ => he)) ?_
          have h14 := h14 h12
          refine zS1 (fun r he => B_X4_faultOfCells_r9_34 Ln _ _ _ _ _  he) ?_
          exact ⟨_, B_X4_faultOfCells_r9_39_s1 Ln _ _ _ _ _ _ , _, rfl, h14⟩
      · refine zS1 (fun r he => B_X4_faultOfCells_r9_19 Ln _ _ _ _ _  (fun n => absurd n h7) (fun _ => he)) ?_
        have h9 := h9 h7
        exact ⟨_, B_X4_faultOfCells_r9_23 Ln _ _ _ _ _ , _, rfl, h9⟩
    · refine zS1 (fun r he => B_X4_faultOfCells_r9_9 Ln _ _ _ _ _  (fun n => absurd n h4) (fun _ => he)) ?_
      have h6 := h6 h4
      exact ⟨_, B_X4_faultOfCells_r9_17 Ln _ _ _ _ _ , _, rfl, h6⟩
  · refine zS1 (fun r he => B_X4_faultOfCells_r9_0 Ln _ _ _ _ _  (fun n => absurd n h1) (fun _ => he)) ?_
    have h3 := h3 h1
    exact ⟨_, B_X4_faultOfCells_r9_7 Ln _ _ _ _ _ , _, rfl, h3⟩

/-! what a method asks, by program (wip/whole/gen_wp.py) -/
def SL_X5_firstFault_r6_2 (Ln : Nat) (I A : Nat → Nat → Int32) (v1 : Int32) (v2 : Int32) (Q : Int32 → Prop) : Int32 → Prop
  | v3 => ∀  (j4 : Option Int32), zSem 26 2 0 0 [some (.ref 6), some (.int v1), some (.int v2), some (.int v3), (Option.map Value.int j4)] [] (zGs Ln I A) (fun r => ∃ x, r = (some (.int x), zGs Ln I A) ∧ Q x)
def J_X5_firstFault_r6_22_s1 (Ln : Nat) (I A : Nat → Nat → Int32) (v1 : Int32) (v2 : Int32) (v3 : Int32) (s0 : Int32) (K2 : Int32 → Prop) (Q : Int32 → Prop) : Prop := ((zin (v1 + v3) 60 = true) ∧ (W_X5_mayStand Ln I A v3 (A 6 (v1 + v3).toNatClampNeg) s0 (fun (r1 : Int32) => (((r1 : Int32) ≠ 0 → ((K2 (v3 + 1)))) ∧ (¬ ((r1 : Int32) ≠ 0) → (Q v3))))))
set_option maxRecDepth 100000 in
theorem TJ_X5_firstFault_r6_22_s1 {Ln : Nat} {I A : Nat → Nat → Int32} {v1 : Int32} {v2 : Int32} {v3 : Int32} {s0 : Int32} {K2 : Int32 → Prop} {Q : Int32 → Prop} (hK2 : ∀ p, K2 p → SL_X5_firstFault_r6_2 Ln I A v1 v2 Q p) (h0 : J_X5_firstFault_r6_22_s1 Ln I A v1 v2 v3 s0 K2 Q) (j4 : Option Int32) : zSem 26 22 0 0 [some (.ref 6), some (.int v1), some (.int v2), some (.int v3), (Option.map Value.int j4)] [.int s0] (zGs Ln I A) (fun r => ∃ x, r = (some (.int x), zGs Ln I A) ∧ Q x) := by
  unfold J_X5_firstFault_r6_22_s1 at h0
  obtain ⟨h1, h2⟩ := h0
  obtain ⟨_, h3, r1, rfl, h4⟩ := T_X5_mayStand Ln _ _ _ _ _ _ h2
  refine zS1 (fun r he => B_X5_firstFault_r6_22_s1 Ln _ _ _ _ _ j4 _ h1 h3 rfl he) ?_
  obtain ⟨h6, h7⟩ := h4
  by_cases h5 : (r1 : Int32) ≠ 0
  · refine zS1 (fun r he => B_X5_firstFault_r6_35_s1 Ln _ _ _ _ _ _ _  (fun _ => he) (fun n => absurd h5 n)) ?_
    have h6 := h6 h5
    refine zS1 (fun r he => B_X5_firstFault_r6_40 Ln _ _ _ _ _ _  he) ?_
    have q := hK2 _ h6
    exact q (some _)
  · refine zS1 (fun r he => B_X5_firstFault_r6_35_s1 Ln _ _ _ _ _ _ _  (fun n => absurd n h5) (fun _ => he)) ?_
    have h7 := h7 h5
    exact ⟨_, B_X5_firstFault_r6_38 Ln _ _ _ _ _ _ , _, rfl, h7⟩
def L_X5_firstFault_r6_2 (Ln : Nat) (I A : Nat → Nat → Int32) (v1 : Int32) (v2 : Int32) (Q : Int32 → Prop) : Int32 → (Int32 → Prop) → Prop
  | v3, K2 => (((v2 : Int32) ≤ v3 → (((v2 : Int32) ≤ 5 → ((Q v2))) ∧ (¬ ((v2 : Int32) ≤ 5) → (((((v2 - 5) - (v2 - 5) / 6 * 6) : Int32) ≠ 0 → ((Q v2))) ∧ (¬ ((((v2 - 5) - (v2 - 5) / 6 * 6) : Int32) ≠ 0) → ((Q (-1)))))))) ∧ (¬ ((v2 : Int32) ≤ v3) → (((v3 : Int32) ≠ 0 → ((zin ((v1 + v3) - 1) 60 = true) ∧ (J_X5_firstFault_r6_22_s1 Ln I A v1 v2 v3 (A 6 ((v1 + v3) - 1).toNatClampNeg) K2 Q))) ∧ (¬ ((v3 : Int32) ≠ 0) → ((J_X5_firstFault_r6_22_s1 Ln I A v1 v2 v3 0 K2 Q))))))
set_option maxRecDepth 100000 in
theorem TL_X5_firstFault_r6_2 {Ln : Nat} {I A : Nat → Nat → Int32} {v1 : Int32} {v2 : Int32} {Q : Int32 → Prop} : ∀ p, zLoop (L_X5_firstFault_r6_2 Ln I A v1 v2  Q) p → SL_X5_firstFault_r6_2 Ln I A v1 v2 Q p := by
  refine zLoop.sound (Sem := SL_X5_firstFault_r6_2 Ln I A v1 v2 Q) ?_
  rintro v3 K2 hK2 h0
  intro j4
  show zSem 26 2 0 0 [some (.ref 6), some (.int v1), some (.int v2), some (.int v3), (Option.map Value.int j4)] [] (zGs Ln I A) (fun r => ∃ x, r = (some (.int x), zGs Ln I A) ∧ Q x)
  change (((v2 : Int32) ≤ v3 → (((v2 : Int32) ≤ 5 → ((Q v2))) ∧ (¬ ((v2 : Int32) ≤ 5) → (((((v2 - 5) - (v2 - 5) / 6 * 6) : Int32) ≠ 0 → ((Q v2))) ∧ (¬ ((((v2 - 5) - (v2 - 5) / 6 * 6) : Int32) ≠ 0) → ((Q (-1)))))))) ∧ (¬ ((v2 : Int32) ≤ v3) → (((v3 : Int32) ≠ 0 → ((zin ((v1 + v3) - 1) 60 = true) ∧ (J_X5_firstFault_r6_22_s1 Ln I A v1 v2 v3 (A 6 ((v1 + v3) - 1).toNatClampNeg) K2 Q))) ∧ (¬ ((v3 : Int32) ≠ 0) → ((J_X5_firstFault_r6_22_s1 Ln I A v1 v2 v3 0 K2 Q)))))) at h0
  obtain ⟨h2, h3⟩ := h0
  by_cases h1 : (v2 : Int32) ≤ v3
  · refine zS1 (fun r he => B_X5_firstFault_r6_2 Ln _ _ _ _ _ j4  (fun _ => he) (fun n => absurd h1 n)) ?_
    have h2 := h2 h1
    obtain ⟨h5, h6⟩ := h2
    by_cases h4 : (v2 : Int32) ≤ 5
    · refine zS1 (fun r he => B_X5_firstFault_r6_46 Ln _ _ _ _ _ j4  (fun _ => he) (fun n => absurd h4 n)) ?_
      have h5 := h5 h4
      refine zS1 (fun r he => B_X5_firstFault_r6_64 Ln _ _ _ _ _ j4  he) ?_
      exact ⟨_, B_X5_firstFault_r6_65_s1 Ln _ _ _ _ _ j4 _ , _, rfl, h5⟩
    · refine zS1 (fun r he => B_X5_firstFault_r6_46 Ln _ _ _ _ _ j4  (fun n => absurd n h4) (fun _ => he)) ?_
      have h6 := h6 h4
      obtain ⟨h8, h9⟩ := h6
      by_cases h7 : (((v2 - 5) - (v2 - 5) / 6 * 6) : Int32) ≠ 0
      · refine zS1 (fun r he => B_X5_firstFault_r6_51 Ln _ _ _ _ _ j4  (fun _ => he) (fun n => absurd h7 n)) ?_
        have h8 := h8 h7
        refine zS1 (fun r he => B_X5_firstFault_r6_64 Ln _ _ _ _ _ j4  he) ?_
        exact ⟨_, B_X5_firstFault_r6_65_s1 Ln _ _ _ _ _ j4 _ , _, rfl, h8⟩
      · refine zS1 (fun r he => B_X5_firstFault_r6_51 Ln _ _ _ _ _ j4  (fun n => absurd n h7) (fun _ => he)) ?_
        have h9 := h9 h7
        refine zS1 (fun r he => B_X5_firstFault_r6_60 Ln _ _ _ _ _ j4  he) ?_
        exact ⟨_, B_X5_firstFault_r6_65_s1 Ln _ _ _ _ _ j4 _ , _, rfl, h9⟩
  · refine zS1 (fun r he => B_X5_firstFault_r6_2 Ln _ _ _ _ _ j4  (fun n => absurd n h1) (fun _ => he)) ?_
    have h3 := h3 h1
    obtain ⟨h11, h12⟩ := h3
    by_cases h10 : (v3 : Int32) ≠ 0
    · refine zS1 (fun r he => B_X5_firstFault_r6_7 Ln _ _ _ _ _ j4  (fun _ => he) (fun n => absurd h10 n)) ?_
      have h11 := h11 h10
      obtain ⟨h13, h14⟩ := h11
      refine zS1 (fun r he => B_X5_firstFault_r6_15 Ln _ _ _ _ _ j4 h13 he) ?_
      exact TJ_X5_firstFault_r6_22_s1 hK2 h14 j4
    · refine zS1 (fun r he => B_X5_firstFault_r6_7 Ln _ _ _ _ _ j4  (fun n => absurd n h10) (fun _ => he)) ?_
      have h12 := h12 h10
      refine zS1 (fun r he => B_X5_firstFault_r6_11 Ln _ _ _ _ _ j4  he) ?_
      exact TJ_X5_firstFault_r6_22_s1 hK2 h12 j4
def W_X5_firstFault_r6 (Ln : Nat) (I A : Nat → Nat → Int32) (v1 : Int32) (v2 : Int32) (Q : Int32 → Prop) : Prop := ((zLoop (L_X5_firstFault_r6_2 Ln I A v1 v2  Q) 0))
set_option maxRecDepth 100000 in
theorem T_X5_firstFault_r6 (Ln : Nat) (I A : Nat → Nat → Int32) (v1 : Int32) (v2 : Int32) (Q : Int32 → Prop) (h0 : W_X5_firstFault_r6 Ln I A v1 v2 Q) : zSem 26 0 0 0 [some (.ref 6), some (.int v1), some (.int v2), none, none] [] (zGs Ln I A) (fun r => ∃ x, r = (some (.int x), zGs Ln I A) ∧ Q x) := by
  unfold W_X5_firstFault_r6 at h0
  refine zS1 (fun r he => B_X5_firstFault_r6_0 Ln _ _ _ _  he) ?_
  exact TL_X5_firstFault_r6_2  _ h0 none
def SL_X5_firstFault_r8_2 (Ln : Nat) (I A : Nat → Nat → Int32) (v1 : Int32) (v2 : Int32) (Q : Int32 → Prop) : Int32 → Prop
  | v3 => ∀  (j4 : Option Int32), zSem 26 2 0 0 [some (.ref 8), some (.int v1), some (.int v2), some (.int v3), (Option.map Value.int j4)] [] (zGs Ln I A) (fun r => ∃ x, r = (some (.int x), zGs Ln I A) ∧ Q x)
def J_X5_firstFault_r8_22_s1 (Ln : Nat) (I A : Nat → Nat → Int32) (v1 : Int32) (v2 : Int32) (v3 : Int32) (s0 : Int32) (K2 : Int32 → Prop) (Q : Int32 → Prop) : Prop := ((zin (v1 + v3) 60 = true) ∧ (W_X5_mayStand Ln I A v3 (A 8 (v1 + v3).toNatClampNeg) s0 (fun (r1 : Int32) => (((r1 : Int32) ≠ 0 → ((K2 (v3 + 1)))) ∧ (¬ ((r1 : Int32) ≠ 0) → (Q v3))))))
set_option maxRecDepth 100000 in
theorem TJ_X5_firstFault_r8_22_s1 {Ln : Nat} {I A : Nat → Nat → Int32} {v1 : Int32} {v2 : Int32} {v3 : Int32} {s0 : Int32} {K2 : Int32 → Prop} {Q : Int32 → Prop} (hK2 : ∀ p, K2 p → SL_X5_firstFault_r8_2 Ln I A v1 v2 Q p) (h0 : J_X5_firstFault_r8_22_s1 Ln I A v1 v2 v3 s0 K2 Q) (j4 : Option Int32) : zSem 26 22 0 0 [some (.ref 8), some (.int v1), some (.int v2), some (.int v3), (Option.map Value.int j4)] [.int s0] (zGs Ln I A) (fun r => ∃ x, r = (some (.int x), zGs Ln I A) ∧ Q x) := by
  unfold J_X5_firstFault_r8_22_s1 at h0
  obtain ⟨h1, h2⟩ := h0
  obtain ⟨_, h3, r1, rfl, h4⟩ := T_X5_mayStand Ln _ _ _ _ _ _ h2
  refine zS1 (fun r he => B_X5_firstFault_r8_22_s1 Ln _ _ _ _ _ j4 _ h1 h3 rfl he) ?_
  obtain ⟨h6, h7⟩ := h4
  by_cases h5 : (r1 : Int32) ≠ 0
  · refine zS1 (fun r he => B_X5_firstFault_r8_35_s1 Ln _ _ _ _ _ _ _  (fun _ => he) (fun n => absurd h5 n)) ?_
    have h6 := h6 h5
    refine zS1 (fun r he => B_X5_firstFault_r8_40 Ln _ _ _ _ _ _  he) ?_
    have q := hK2 _ h6
    exact q (some _)
  · refine zS1 (fun r he => B_X5_firstFault_r8_35_s1 Ln _ _ _ _ _ _ _  (fun n => absurd n h5) (fun _ => he)) ?_
    have h7 := h7 h5
    exact ⟨_, B_X5_firstFault_r8_38 Ln _ _ _ _ _ _ , _, rfl, h7⟩
def L_X5_firstFault_r8_2 (Ln : Nat) (I A : Nat → Nat → Int32) (v1 : Int32) (v2 : Int32) (Q : Int32 → Prop) : Int32 → (Int32 → Prop) → Prop
  | v3, K2 => (((v2 : Int32) ≤ v3 → (((v2 : Int32) ≤ 5 → ((Q v2))) ∧ (¬ ((v2 : Int32) ≤ 5) → (((((v2 - 5) - (v2 - 5) / 6 * 6) : Int32) ≠ 0 → ((Q v2))) ∧ (¬ ((((v2 - 5) - (v2 - 5) / 6 * 6) : Int32) ≠ 0) → ((Q (-1)))))))) ∧ (¬ ((v2 : Int32) ≤ v3) → (((v3 : Int32) ≠ 0 → ((zin ((v1 + v3) - 1) 60 = true) ∧ (J_X5_firstFault_r8_22_s1 Ln I A v1 v2 v3 (A 8 ((v1 + v3) - 1).toNatClampNeg) K2 Q))) ∧ (¬ ((v3 : Int32) ≠ 0) → ((J_X5_firstFault_r8_22_s1 Ln I A v1 v2 v3 0 K2 Q))))))
set_option maxRecDepth 100000 in
theorem TL_X5_firstFault_r8_2 {Ln : Nat} {I A : Nat → Nat → Int32} {v1 : Int32} {v2 : Int32} {Q : Int32 → Prop} : ∀ p, zLoop (L_X5_firstFault_r8_2 Ln I A v1 v2  Q) p → SL_X5_firstFault_r8_2 Ln I A v1 v2 Q p := by
  refine zLoop.sound (Sem := SL_X5_firstFault_r8_2 Ln I A v1 v2 Q) ?_
  rintro v3 K2 hK2 h0
  intro j4
  show zSem 26 2 0 0 [some (.ref 8), some (.int v1), some (.int v2), some (.int v3), (Option.map Value.int j4)] [] (zGs Ln I A) (fun r => ∃ x, r = (some (.int x), zGs Ln I A) ∧ Q x)
  change (((v2 : Int32) ≤ v3 → (((v2 : Int32) ≤ 5 → ((Q v2))) ∧ (¬ ((v2 : Int32) ≤ 5) → (((((v2 - 5) - (v2 - 5) / 6 * 6) : Int32) ≠ 0 → ((Q v2))) ∧ (¬ ((((v2 - 5) - (v2 - 5) / 6 * 6) : Int32) ≠ 0) → ((Q (-1)))))))) ∧ (¬ ((v2 : Int32) ≤ v3) → (((v3 : Int32) ≠ 0 → ((zin ((v1 + v3) - 1) 60 = true) ∧ (J_X5_firstFault_r8_22_s1 Ln I A v1 v2 v3 (A 8 ((v1 + v3) - 1).toNatClampNeg) K2 Q))) ∧ (¬ ((v3 : Int32) ≠ 0) → ((J_X5_firstFault_r8_22_s1 Ln I A v1 v2 v3 0 K2 Q)))))) at h0
  obtain ⟨h2, h3⟩ := h0
  by_cases h1 : (v2 : Int32) ≤ v3
  · refine zS1 (fun r he => B_X5_firstFault_r8_2 Ln _ _ _ _ _ j4  (fun _ => he) (fun n => absurd h1 n)) ?_
    have h2 := h2 h1
    obtain ⟨h5, h6⟩ := h2
    by_cases h4 : (v2 : Int32) ≤ 5
    · refine zS1 (fun r he => B_X5_firstFault_r8_46 Ln _ _ _ _ _ j4  (fun _ => he) (fun n => absurd h4 n)) ?_
      have h5 := h5 h4
      refine zS1 (fun r he => B_X5_firstFault_r8_64 Ln _ _ _ _ _ j4  he) ?_
      exact ⟨_, B_X5_firstFault_r8_65_s1 Ln _ _ _ _ _ j4 _ , _, rfl, h5⟩
    · refine zS1 (fun r he => B_X5_firstFault_r8_46 Ln _ _ _ _ _ j4  (fun n => absurd n h4) (fun _ => he)) ?_
      have h6 := h6 h4
      obtain ⟨h8, h9⟩ := h6
      by_cases h7 : (((v2 - 5) - (v2 - 5) / 6 * 6) : Int32) ≠ 0
      · refine zS1 (fun r he => B_X5_firstFault_r8_51 Ln _ _ _ _ _ j4  (fun _ => he) (fun n => absurd h7 n)) ?_
        have h8 := h8 h7
        refine zS1 (fun r he => B_X5_firstFault_r8_64 Ln _ _ _ _ _ j4  he) ?_
        exact ⟨_, B_X5_firstFault_r8_65_s1 Ln _ _ _ _ _ j4 _ , _, rfl, h8⟩
      · refine zS1 (fun r he => B_X5_firstFault_r8_51 Ln _ _ _ _ _ j4  (fun n => absurd n h7) (fun _ => he)) ?_
        have h9 := h9 h7
        refine zS1 (fun r he => B_X5_firstFault_r8_60 Ln _ _ _ _ _ j4  he) ?_
        exact ⟨_, B_X5_firstFault_r8_65_s1 Ln _ _ _ _ _ j4 _ , _, rfl, h9⟩
  · refine zS1 (fun r he => B_X5_firstFault_r8_2 Ln _ _ _ _ _ j4  (fun n => absurd n h1) (fun _ => he)) ?_
    have h3 := h3 h1
    obtain ⟨h11, h12⟩ := h3
    by_cases h10 : (v3 : Int32) ≠ 0
    · refine zS1 (fun r he => B_X5_firstFault_r8_7 Ln _ _ _ _ _ j4  (fun _ => he) (fun n => absurd h10 n)) ?_
      have h11 := h11 h10
      obtain ⟨h13, h14⟩ := h11
      refine zS1 (fun r he => B_X5_firstFault_r8_15 Ln _ _ _ _ _ j4 h13 he) ?_
      exact TJ_X5_firstFault_r8_22_s1 hK2 h14 j4
    · refine zS1 (fun r he => B_X5_firstFault_r8_7 Ln _ _ _ _ _ j4  (fun n => absurd n h10) (fun _ => he)) ?_
      have h12 := h12 h10
      refine zS1 (fun r he => B_X5_firstFault_r8_11 Ln _ _ _ _ _ j4  he) ?_
      exact TJ_X5_firstFault_r8_22_s1 hK2 h12 j4
def W_X5_firstFault_r8 (Ln : Nat) (I A : Nat → Nat → Int32) (v1 : Int32) (v2 : Int32) (Q : Int32 → Prop) : Prop := ((zLoop (L_X5_firstFault_r8_2 Ln I A v1 v2  Q) 0))
set_option maxRecDepth 100000 in
theorem T_X5_firstFault_r8 (Ln : Nat) (I A : Nat → Nat → Int32) (v1 : Int32) (v2 : Int32) (Q : Int32 → Prop) (h0 : W_X5_firstFault_r8 Ln I A v1 v2 Q) : zSem 26 0 0 0 [some (.ref 8), some (.int v1), some (.int v2), none, none] [] (zGs Ln I A) (fun r => ∃ x, r = (some (.int x), zGs Ln I A) ∧ Q x) := by
  unfold W_X5_firstFault_r8 at h0
  refine zS1 (fun r he => B_X5_firstFault_r8_0 Ln _ _ _ _  he) ?_
  exact TL_X5_firstFault_r8_2  _ h0 none
def SL_X5_firstFault_r10_2 (Ln : Nat) (I A : Nat → Nat → Int32) (v1 : Int32) (v2 : Int32) (Q : Int32 → Prop) : Int32 → Prop
  | v3 => ∀  (j4 : Option Int32), zSem 26 2 0 0 [some (.ref 10), some (.int v1), some (.int v2), some (.int v3), (Option.map Value.int j4)] [] (zGs Ln I A) (fun r => ∃ x, r = (some (.int x), zGs Ln I A) ∧ Q x)
def J_X5_firstFault_r10_22_s1 (Ln : Nat) (I A : Nat → Nat → Int32) (v1 : Int32) (v2 : Int32) (v3 : Int32) (s0 : Int32) (K2 : Int32 → Prop) (Q : Int32 → Prop) : Prop := ((zin (v1 + v3) 60 = true) ∧ (W_X5_mayStand Ln I A v3 (A 10 (v1 + v3).toNatClampNeg) s0 (fun (r1 : Int32) => (((r1 : Int32) ≠ 0 → ((K2 (v3 + 1)))) ∧ (¬ ((r1 : Int32) ≠ 0) → (Q v3))))))
set_option maxRecDepth 100000 in
theorem TJ_X5_firstFault_r10_22_s1 {Ln : Nat} {I A : Nat → Nat → Int32} {v1 : Int32} {v2 : Int32} {v3 : Int32} {s0 : Int32} {K2 : Int32 → Prop} {Q : Int32 → Prop} (hK2 : ∀ p, K2 p → SL_X5_firstFault_r10_2 Ln I A v1 v2 Q p) (h0 : J_X5_firstFault_r10_22_s1 Ln I A v1 v2 v3 s0 K2 Q) (j4 : Option Int32) : zSem 26 22 0 0 [some (.ref 10), some (.int v1), some (.int v2), some (.int v3), (Option.map Value.int j4)] [.int s0] (zGs Ln I A) (fun r => ∃ x, r = (some (.int x), zGs Ln I A) ∧ Q x) := by
  unfold J_X5_firstFault_r10_22_s1 at h0
  obtain ⟨h1, h2⟩ := h0
  obtain ⟨_, h3, r1, rfl, h4⟩ := T_X5_mayStand Ln _ _ _ _ _ _ h2
  refine zS1 (fun r he => B_X5_firstFault_r10_22_s1 Ln _ _ _ _ _ j4 _ h1 h3 rfl he) ?_
  obtain ⟨h6, h7⟩ := h4
  by_cases h5 : (r1 : Int32) ≠ 0
  · refine zS1 (fun r he => B_X5_firstFault_r10_35_s1 Ln _ _ _ _ _ _ _  (fun _ => he) (fun n => absurd h5 n)) ?_
    have h6 := h6 h5
    refine zS1 (fun r he => B_X5_firstFault_r10_40 Ln _ _ _ _ _ _  he) ?_
    have q := hK2 _ h6
    exact q (some _)
  · refine zS1 (fun r he => B_X5_firstFault_r10_35_s1 Ln _ _ _ _ _ _ _  (fun n => absurd n h5) (fun _ => he)) ?_
    have h7 := h7 h5
    exact ⟨_, B_X5_firstFault_r10_38 Ln _ _ _ _ _ _ , _, rfl, h7⟩
def L_X5_firstFault_r10_2 (Ln : Nat) (I A : Nat → Nat → Int32) (v1 : Int32) (v2 : Int32) (Q : Int32 → Prop) : Int32 → (Int32 → Prop) → Prop
  | v3, K2 => (((v2 : Int32) ≤ v3 → (((v2 : Int32) ≤ 5 → ((Q v2))) ∧ (¬ ((v2 : Int32) ≤ 5) → (((((v2 - 5) - (v2 - 5) / 6 * 6) : Int32) ≠ 0 → ((Q v2))) ∧ (¬ ((((v2 - 5) - (v2 - 5) / 6 * 6) : Int32) ≠ 0) → ((Q (-1)))))))) ∧ (¬ ((v2 : Int32) ≤ v3) → (((v3 : Int32) ≠ 0 → ((zin ((v1 + v3) - 1) 60 = true) ∧ (J_X5_firstFault_r10_22_s1 Ln I A v1 v2 v3 (A 10 ((v1 + v3) - 1).toNatClampNeg) K2 Q))) ∧ (¬ ((v3 : Int32) ≠ 0) → ((J_X5_firstFault_r10_22_s1 Ln I A v1 v2 v3 0 K2 Q))))))
set_option maxRecDepth 100000 in
theorem TL_X5_firstFault_r10_2 {Ln : Nat} {I A : Nat → Nat → Int32} {v1 : Int32} {v2 : Int32} {Q : Int32 → Prop} : ∀ p, zLoop (L_X5_firstFault_r10_2 Ln I A v1 v2  Q) p → SL_X5_firstFault_r10_2 Ln I A v1 v2 Q p := by
  refine zLoop.sound (Sem := SL_X5_firstFault_r10_2 Ln I A v1 v2 Q) ?_
  rintro v3 K2 hK2 h0
  intro j4
  show zSem 26 2 0 0 [some (.ref 10), some (.int v1), some (.int v2), some (.int v3), (Option.map Value.int j4)] [] (zGs Ln I A) (fun r => ∃ x, r = (some (.int x), zGs Ln I A) ∧ Q x)
  change (((v2 : Int32) ≤ v3 → (((v2 : Int32) ≤ 5 → ((Q v2))) ∧ (¬ ((v2 : Int32) ≤ 5) → (((((v2 - 5) - (v2 - 5) / 6 * 6) : Int32) ≠ 0 → ((Q v2))) ∧ (¬ ((((v2 - 5) - (v2 - 5) / 6 * 6) : Int32) ≠ 0) → ((Q (-1)))))))) ∧ (¬ ((v2 : Int32) ≤ v3) → (((v3 : Int32) ≠ 0 → ((zin ((v1 + v3) - 1) 60 = true) ∧ (J_X5_firstFault_r10_22_s1 Ln I A v1 v2 v3 (A 10 ((v1 + v3) - 1).toNatClampNeg) K2 Q))) ∧ (¬ ((v3 : Int32) ≠ 0) → ((J_X5_firstFault_r10_22_s1 Ln I A v1 v2 v3 0 K2 Q)))))) at h0
  obtain ⟨h2, h3⟩ := h0
  by_cases h1 : (v2 : Int32) ≤ v3
  · refine zS1 (fun r he => B_X5_firstFault_r10_2 Ln _ _ _ _ _ j4  (fun _ => he) (fun n => absurd h1 n)) ?_
    have h2 := h2 h1
    obtain ⟨h5, h6⟩ := h2
    by_cases h4 : (v2 : Int32) ≤ 5
    · refine zS1 (fun r he => B_X5_firstFault_r10_46 Ln _ _ _ _ _ j4  (fun _ => he) (fun n => absurd h4 n)) ?_
      have h5 := h5 h4
      refine zS1 (fun r he => B_X5_firstFault_r10_64 Ln _ _ _ _ _ j4  he) ?_
      exact ⟨_, B_X5_firstFault_r10_65_s1 Ln _ _ _ _ _ j4 _ , _, rfl, h5⟩
    · refine zS1 (fun r he => B_X5_firstFault_r10_46 Ln _ _ _ _ _ j4  (fun n => absurd n h4) (fun _ => he)) ?_
      have h6 := h6 h4
      obtain ⟨h8, h9⟩ := h6
      by_cases h7 : (((v2 - 5) - (v2 - 5) / 6 * 6) : Int32) ≠ 0
      · refine zS1 (fun r he => B_X5_firstFault_r10_51 Ln _ _ _ _ _ j4  (fun _ => he) (fun n => absurd h7 n)) ?_
        have h8 := h8 h7
        refine zS1 (fun r he => B_X5_firstFault_r10_64 Ln _ _ _ _ _ j4  he) ?_
        exact ⟨_, B_X5_firstFault_r10_65_s1 Ln _ _ _ _ _ j4 _ , _, rfl, h8⟩
      · refine zS1 (fun r he => B_X5_firstFault_r10_51 Ln _ _ _ _ _ j4  (fun n => absurd n h7) (fun _ => he)) ?_
        have h9 := h9 h7
        refine zS1 (fun r he => B_X5_firstFault_r10_60 Ln _ _ _ _ _ j4  he) ?_
        exact ⟨_, B_X5_firstFault_r10_65_s1 Ln _ _ _ _ _ j4 _ , _, rfl, h9⟩
  · refine zS1 (fun r he => B_X5_firstFault_r10_2 Ln _ _ _ _ _ j4  (fun n => absurd n h1) (fun _ => he)) ?_
    have h3 := h3 h1
    obtain ⟨h11, h12⟩ := h3
    by_cases h10 : (v3 : Int32) ≠ 0
    · refine zS1 (fun r he => B_X5_firstFault_r10_7 Ln _ _ _ _ _ j4  (fun _ => he) (fun n => absurd h10 n)) ?_
      have h11 := h11 h10
      obtain ⟨h13, h14⟩ := h11
      refine zS1 (fun r he => B_X5_firstFault_r10_15 Ln _ _ _ _ _ j4 h13 he) ?_
      exact TJ_X5_firstFault_r10_22_s1 hK2 h14 j4
    · refine zS1 (fun r he => B_X5_firstFault_r10_7 Ln _ _ _ _ _ j4  (fun n => absurd n h10) (fun _ => he)) ?_
      have h12 := h12 h10
      refine zS1 (fun r he => B_X5_firstFault_r10_11 Ln _ _ _ _ _ j4  he) ?_
      exact TJ_X5_firstFault_r10_22_s1 hK2 h12 j4
def W_X5_firstFault_r10 (Ln : Nat) (I A : Nat → Nat → Int32) (v1 : Int32) (v2 : Int32) (Q : Int32 → Prop) : Prop := ((zLoop (L_X5_firstFault_r10_2 Ln I A v1 v2  Q) 0))
set_option maxRecDepth 100000 in
theorem T_X5_firstFault_r10 (Ln : Nat) (I A : Nat → Nat → Int32) (v1 : Int32) (v2 : Int32) (Q : Int32 → Prop) (h0 : W_X5_firstFault_r10 Ln I A v1 v2 Q) : zSem 26 0 0 0 [some (.ref 10), some (.int v1), some (.int v2), none, none] [] (zGs Ln I A) (fun r => ∃ x, r = (some (.int x), zGs Ln I A) ∧ Q x) := by
  unfold W_X5_firstFault_r10 at h0
  refine zS1 (fun r he => B_X5_firstFault_r10_0 Ln _ _ _ _  he) ?_
  exact TL_X5_firstFault_r10_2  _ h0 none
def W_X7_law_r1 (Ln : Nat) (I A : Nat → Nat → Int32) (v1 : Int32) (Q : Int32 → (Nat → Nat → Int32) → (Nat → Nat → Int32) → Prop) : Prop := (((v1 : Int32) < 0 → (Q (-2) I A)) ∧ (¬ ((v1 : Int32) < 0) → (((v1 : Int32) < 3 → ((W_X7_noBank_r1 Ln I A  (fun (r1 : Int32) => (((r1 : Int32) = 0 → ((∀ I2 : Nat → Nat → Int32, I2 = zp I 1 9 v1 → (W_X7_goThroughNights_r1 Ln I2 A  (fun (A3 : Nat → Nat → Int32) => (Q (I 1 9) I2 A3)))))) ∧ (¬ ((r1 : Int32) = 0) → (Q (-3) I A))))))) ∧ (¬ ((v1 : Int32) < 3) → (Q (-2) I A)))))
set_option maxRecDepth 100000 in
theorem T_X7_law_r1 (Ln : Nat) (I A : Nat → Nat → Int32) (v1 : Int32) (Q : Int32 → (Nat → Nat → Int32) → (Nat → Nat → Int32) → Prop) (h0 : W_X7_law_r1 Ln I A v1 Q) : zSem 48 0 0 0 [some (.ref 1), some (.int v1), none] [] (zGs Ln I A) (fun r => ∃ x I1 A1, r = (some (.int x), zGs Ln I1 A1) ∧ Q x I1 A1) := by
  unfold W_X7_law_r1 at h0
  obtain ⟨h2, h3⟩ := h0
  by_cases h1 : (v1 : Int32) < 0
  · refine zS1 (fun r he => B_X7_law_r1_0 Ln _ _ _  (fun _ => he) (fun n => absurd h1 n)) ?_
    have h2 := h2 h1
    exact ⟨_, B_X7_law_r1_9 Ln _ _ _ , _, _, _, rfl, h2⟩
  · refine zS1 (fun r he => B_X7_law_r1_0 Ln _ _ _  (fun n => absurd n h1) (fun _ => he)) ?_
    have h3 := h3 h1
    obtain ⟨h5, h6⟩ := h3
    by_cases h4 : (v1 : Int32) < 3
    · refine zS1 (fun r he => B_X7_law_r1_4 Ln _ _ _  (fun _ => he) (fun n => absurd h4 n)) ?_
      have h5 := h5 h4
      obtain ⟨_, h7, r1, rfl, h8⟩ := T_X7_noBank_r1 Ln _ _ _ h5
      refine zS1 (fun r he => B_X7_law_r1_12 Ln _ _ _  h7 rfl he) ?_
      obtain ⟨h10, h11⟩ := h8
      by_cases h9 : (r1 : Int32) = 0
      · refine zS1 (fun r he => B_X7_law_r1_16_s1 Ln _ _ _ _  (fun _ => he) (fun n => absurd h9 n)) ?_
        have h10 := h10 h9
        have h12 := h10 _ rfl
        obtain ⟨_, h13, A3, rfl, h14⟩ := T_X7_goThroughNights_r1 Ln _ _ _ h12
        refine zS1 (fun r he => B_X7_law_r1_22 Ln _ _ _  h13 rfl he) ?_
        exact ⟨_, B_X7_law_r1_36 Ln _ _ _ _ , _, _, _, rfl, h14⟩
      · refine zS1 (fun r he => B_X7_law_r1_16_s1 Ln _ _ _ _  (fun n => absurd n h9) (fun _ => he)) ?_
        have h11 := h11 h9
        exact ⟨_, B_X7_law_r1_19 Ln _ _ _ , _, _, _, rfl, h11⟩
    · refine zS1 (fun r he => B_X7_law_r1_4 Ln _ _ _  (fun n => absurd n h4) (fun _ => he)) ?_
      have h6 := h6 h4
      exact ⟨_, B_X7_law_r1_9 Ln _ _ _ , _, _, _, rfl, h6⟩
def W_X7_loan_r1 (Ln : Nat) (I A : Nat → Nat → Int32) (v1 : Int32) (v2 : Int32) (v3 : Int32) (Q : Int32 → (Nat → Nat → Int32) → (Nat → Nat → Int32) → Prop) : Prop := ((W_X7_isShade_r1 Ln I A v1 (fun (r1 : Int32) => (((r1 : Int32) = 0 → (Q (-1) I A)) ∧ (¬ ((r1 : Int32) = 0) → ((W_X7_isShade_r1 Ln I A v2 (fun (r2 : Int32) => (((r2 : Int32) = 0 → (Q (-1) I A)) ∧ (¬ ((r2 : Int32) = 0) → (((v1 : Int32) ≠ v2 → (((v3 : Int32) < 1 → (Q (-2) I A)) ∧ (¬ ((v3 : Int32) < 1) → (((v3 : Int32) ≤ 3 → ((zin v1 6 = true) ∧ ((v3 : Int32) ≤ (A 42 (v1).toNatClampNeg) → ((((I 18 3) : Int32) ≠ 6 → ((W_X2_add_r18 Ln I A v1 v2 v3 (fun (r3 : Int32) (I4 : Nat → Nat → Int32) (A5 : Nat → Nat → Int32) => ((W_X7_goThroughNights_r1 Ln I4 A5  (fun (A6 : Nat → Nat → Int32) => (Q r3 I4 A6)))))))) ∧ (¬ (((I 18 3) : Int32) ≠ 6) → (Q (-4) I A)))) ∧ (¬ ((v3 : Int32) ≤ (A 42 (v1).toNatClampNeg)) → (Q (-3) I A)))) ∧ (¬ ((v3 : Int32) ≤ 3) → (Q (-2) I A)))))) ∧ (¬ ((v1 : Int32) ≠ v2) → (Q (-1) I A)))))))))))))
set_option maxRecDepth 100000 in
theorem T_X7_loan_r1 (Ln : Nat) (I A : Nat → Nat → Int32) (v1 : Int32) (v2 : Int32) (v3 : Int32) (Q : Int32 → (Nat → Nat → Int32) → (Nat → Nat → Int32) → Prop) (h0 : W_X7_loan_r1 Ln I A v1 v2 v3 Q) : zSem 49 0 0 0 [some (.ref 1), some (.int v1), some (.int v2), some (.int v3), none] [] (zGs Ln I A) (fun r => ∃ x I1 A1, r = (some (.int x), zGs Ln I1 A1) ∧ Q x I1 A1) := by
  unfold W_X7_loan_r1 at h0
  obtain ⟨_, h1, r1, rfl, h2⟩ := T_X7_isShade_r1 Ln _ _ _ _ h0
  refine zS1 (fun r he => B_X7_loan_r1_0 Ln _ _ _ _ _  h1 rfl he) ?_
  obtain ⟨h4, h5⟩ := h2
  by_cases h3 : (r1 : Int32) = 0
  · refine zS1 (fun r he => B_X7_loan_r1_5_s1 Ln _ _ _ _ _ _  (fun _ => he) (fun n => absurd h3 n)) ?_
    have h4 := h4 h3
    exact ⟨_, B_X7_loan_r1_21 Ln _ _ _ _ _ , _, _, _, rfl, h4⟩
  · refine zS1 (fun r he => B_X7_loan_r1_5_s1 Ln _ _ _ _ _ _  (fun n => absurd n h3) (fun _ => he)) ?_
    have h5 := h5 h3
    obtain ⟨_, h6, r2, rfl, h7⟩ := T_X7_isShade_r1 Ln _ _ _ _ h5
    refine zS1 (fun r he => B_X7_loan_r1_8 Ln _ _ _ _ _  h6 rfl he) ?_
    obtain ⟨h9, h10⟩ := h7
    by_cases h8 : (r2 : Int32) = 0
    · refine zS1 (fun r he => B_X7_loan_r1_13_s1 Ln _ _ _ _ _ _  (fun _ => he) (fun n => absurd h8 n)) ?_
      have h9 := h9 h8
      exact ⟨_, B_X7_loan_r1_21 Ln _ _ _ _ _ , _, _, _, rfl, h9⟩
    · refine zS1 (fun r he => B_X7_loan_r1_13_s1 Ln _ _ _ _ _ _  (fun n => absurd n h8) (fun _ => he)) ?_
      have h10 := h10 h8
      obtain ⟨h12, h13⟩ := h10
      by_cases h11 : (v1 : Int32) ≠ v2
      · refine zS1 (fun r he => B_X7_loan_r1_16 Ln _ _ _ _ _  (fun _ => he) (fun n => absurd h11 n)) ?_
        have h12 := h12 h11
        obtain ⟨h15, h16⟩ := h12
        by_cases h14 : (v3 : Int32) < 1
        · refine zS1 (fun r he => B_X7_loan_r1_23 Ln _ _ _ _ _  (fun _ => he) (fun n => absurd h14 n)) ?_
          have h15 := h15 h14
          exact ⟨_, B_X7_loan_r1_33 Ln _ _ _ _ _ , _, _, _, rfl, h15⟩
        · refine zS1 (fun r he => B_X7_loan_r1_23 Ln _ _ _ _ _  (fun n => absurd n h14) (fun _ => he)) ?_
          have h16 := h16 h14
          obtain ⟨h18, h19⟩ := h16
          by_cases h17 : (v3 : Int32) ≤ 3
          · refine zS1 (fun r he => B_X7_loan_r1_28 Ln _ _ _ _ _  (fun _ => he) (fun n => absurd h17 n)) ?_
            have h18 := h18 h17
            obtain ⟨h20, h21⟩ := h18
            obtain ⟨h23, h24⟩ := h21
            by_cases h22 : (v3 : Int32) ≤ (A 42 (v1).toNatClampNeg)
            · refine zS1 (fun r he => B_X7_loan_r1_36 Ln _ _ _ _ _ h20 (fun _ => he) (fun n => absurd h22 n)) ?_
              have h23 := h23 h22
              obtain ⟨h26, h27⟩ := h23
              by_cases h25 : ((I 18 3) : Int32) ≠ 6
              · refine zS1 (fun r he => B_X7_loan_r1_49 Ln _ _ _ _ _  (fun _ => he) (fun n => absurd h25 n)) ?_
                have h26 := h26 h25
                obtain ⟨_, h28, r3, I4, A5, rfl, h29⟩ := T_X2_add_r18 Ln _ _ _ _ _ _ h26
                refine zS1 (fun r he => B_X7_loan_r1_64 Ln _ _ _ _ _  h28 rfl he) ?_
                obtain ⟨_, h30, A6, rfl, h31⟩ := T_X7_goThroughNights_r1 Ln _ _ _ h29
                refine zS1 (fun r he => B_X7_loan_r1_74_s1 Ln _ _ _ _ _ _  h30 rfl he) ?_
                exact ⟨_, B_X7_loan_r1_80 Ln _ _ _ _ _ _ , _, _, _, rfl, h31⟩
              · refine zS1 (fun r he => B_X7_loan_r1_49 Ln _ _ _ _ _  (fun n => absurd n h25) (fun _ => he)) ?_
                have h27 := h27 h25
                exact ⟨_, B_X7_loan_r1_61 Ln _ _ _ _ _ , _, _, _, rfl, h27⟩
            · refine zS1 (fun r he => B_X7_loan_r1_36 Ln _ _ _ _ _ h20 (fun n => absurd n h22) (fun _ => he)) ?_
              have h24 := h24 h22
              exact ⟨_, B_X7_loan_r1_46 Ln _ _ _ _ _ , _, _, _, rfl, h24⟩
          · refine zS1 (fun r he => B_X7_loan_r1_28 Ln _ _ _ _ _  (fun n => absurd n h17) (fun _ => he)) ?_
            have h19 := h19 h17
            exact ⟨_, B_X7_loan_r1_33 Ln _ _ _ _ _ , _, _, _, rfl, h19⟩
      · refine zS1 (fun r he => B_X7_loan_r1_16 Ln _ _ _ _ _  (fun n => absurd n h11) (fun _ => he)) ?_
        have h13 := h13 h11
        exact ⟨_, B_X7_loan_r1_21 Ln _ _ _ _ _ , _, _, _, rfl, h13⟩
def W_X7_undo_r1 (Ln : Nat) (I A : Nat → Nat → Int32) (v1 : Int32) (Q : Int32 → (Nat → Nat → Int32) → (Nat → Nat → Int32) → Prop) : Prop := (((v1 : Int32) < 0 → (Q (-2) I A)) ∧ (¬ ((v1 : Int32) < 0) → (((v1 : Int32) ≤ (I 18 3) → ((∀ I1 : Nat → Nat → Int32, I1 = zp I 18 3 ((I 18 3) - v1) → (W_X7_goThroughNights_r1 Ln I1 A  (fun (A2 : Nat → Nat → Int32) => (Q (I1 18 3) I1 A2)))))) ∧ (¬ ((v1 : Int32) ≤ (I 18 3)) → (Q (-2) I A)))))
set_option maxRecDepth 100000 in
theorem T_X7_undo_r1 (Ln : Nat) (I A : Nat → Nat → Int32) (v1 : Int32) (Q : Int32 → (Nat → Nat → Int32) → (Nat → Nat → Int32) → Prop) (h0 : W_X7_undo_r1 Ln I A v1 Q) : zSem 50 0 0 0 [some (.ref 1), some (.int v1)] [] (zGs Ln I A) (fun r => ∃ x I1 A1, r = (some (.int x), zGs Ln I1 A1) ∧ Q x I1 A1) := by
  unfold W_X7_undo_r1 at h0
  obtain ⟨h2, h3⟩ := h0
  by_cases h1 : (v1 : Int32) < 0
  · refine zS1 (fun r he => B_X7_undo_r1_0 Ln _ _ _  (fun _ => he) (fun n => absurd h1 n)) ?_
    have h2 := h2 h1
    exact ⟨_, B_X7_undo_r1_15 Ln _ _ _ , _, _, _, rfl, h2⟩
  · refine zS1 (fun r he => B_X7_undo_r1_0 Ln _ _ _  (fun n => absurd n h1) (fun _ => he)) ?_
    have h3 := h3 h1
    obtain ⟨h5, h6⟩ := h3
    by_cases h4 : (v1 : Int32) ≤ (I 18 3)
    · refine zS1 (fun r he => B_X7_undo_r1_4 Ln _ _ _  (fun _ => he) (fun n => absurd h4 n)) ?_
      have h5 := h5 h4
      have h7 := h5 _ rfl
      obtain ⟨_, h8, A2, rfl, h9⟩ := T_X7_goThroughNights_r1 Ln _ _ _ h7
      refine zS1 (fun r he => B_X7_undo_r1_18 Ln _ _ _  h8 rfl he) ?_
      exact ⟨_, B_X7_undo_r1_35 Ln _ _ _ , _, _, _, rfl, h9⟩
    · refine zS1 (fun r he => B_X7_undo_r1_4 Ln _ _ _  (fun n => absurd n h4) (fun _ => he)) ?_
      have h6 := h6 h4
      exact ⟨_, B_X7_undo_r1_15 Ln _ _ _ , _, _, _, rfl, h6⟩
def SL_X7_gain_r1_36 (Ln : Nat) (I : Nat → Nat → Int32) (v1 : Int32) (Q : Int32 → (Nat → Nat → Int32) → Prop) : Int32 × Int32 × Int32 × (Nat → Nat → Int32) → Prop
  | (v2, v3, v4, A) => ∀  (j5 : Option Int32), zSem 60 36 0 0 [some (.ref 1), some (.int v1), some (.int v2), some (.int v3), some (.int v4), (Option.map Value.int j5)] [] (zGs Ln I A) (fun r => ∃ x A1, r = (some (.int x), zGs Ln I A1) ∧ Q x A1)
def SL_X7_gain_r1_51 (Ln : Nat) (I : Nat → Nat → Int32) (v1 : Int32) (v4 : Int32) (Q : Int32 → (Nat → Nat → Int32) → Prop) : Int32 × Int32 × Int32 × (Nat → Nat → Int32) → Prop
  | (v2, v3, v5, A) => zSem 60 51 0 0 [some (.ref 1), some (.int v1), some (.int v2), some (.int v3), some (.int v4), some (.int v5)] [] (zGs Ln I A) (fun r => ∃ x A1, r = (some (.int x), zGs Ln I A1) ∧ Q x A1)
def L_X7_gain_r1_51 (Ln : Nat) (I : Nat → Nat → Int32) (v1 : Int32) (v4 : Int32) (K36 : Int32 × Int32 × Int32 × (Nat → Nat → Int32) → Prop) (Q : Int32 → (Nat → Nat → Int32) → Prop) : Int32 × Int32 × Int32 × (Nat → Nat → Int32) → (Int32 × Int32 × Int32 × (Nat → Nat → Int32) → Prop) → Prop
  | (v2, v3, v5, A), K51 => ((((I 11 0) : Int32) ≤ v5 → ((K36 (v2, v3, (v4 + 1), A)))) ∧ (¬ (((I 11 0) : Int32) ≤ v5) → (((v4 : Int32) = v5 → ((K51 (v2, v3, (v5 + 1), A)))) ∧ (¬ ((v4 : Int32) = v5) → ((zin v4 6 = true) ∧ ((1 : Int32) ≤ (A 42 (v4).toNatClampNeg) → ((W_X7_tryLoan_r1 Ln I A v4 v5 (fun (A3 : Nat → Nat → Int32) => ((W_X6_waitOfAll_r35 Ln I A3  (fun (r4 : Int32) => (((v3 : Int32) ≤ r4 → ((K51 (v2, v3, (v5 + 1), A3)))) ∧ (¬ ((v3 : Int32) ≤ r4) → ((W_X6_waitOfAll_r35 Ln I A3  (fun (r5 : Int32) => (∀ x6 : Int32, x6 = (10 * v4) + v5 → (((K51 (x6, r5, (v5 + 1), A3))))))))))))))))) ∧ (¬ ((1 : Int32) ≤ (A 42 (v4).toNatClampNeg)) → (((K51 (v2, v3, (v5 + 1), A))))))))))
set_option maxRecDepth 100000 in
theorem TL_X7_gain_r1_51 {Ln : Nat} {I : Nat → Nat → Int32} {v1 : Int32} {v4 : Int32} {K36 : Int32 × Int32 × Int32 × (Nat → Nat → Int32) → Prop} {Q : Int32 → (Nat → Nat → Int32) → Prop} (hK36 : ∀ p, K36 p → SL_X7_gain_r1_36 Ln I v1 Q p) : ∀ p, zLoop (L_X7_gain_r1_51 Ln I v1 v4 K36 Q) p → SL_X7_gain_r1_51 Ln I v1 v4 Q p := by
  refine zLoop.sound (Sem := SL_X7_gain_r1_51 Ln I v1 v4 Q) ?_
  rintro ⟨v2, v3, v5, A⟩ K51 hK51 h0
  show zSem 60 51 0 0 [some (.ref 1), some (.int v1), some (.int v2), some (.int v3), some (.int v4), some (.int v5)] [] (zGs Ln I A) (fun r => ∃ x A1, r = (some (.int x), zGs Ln I A1) ∧ Q x A1)
  change ((((I 11 0) : Int32) ≤ v5 → ((K36 (v2, v3, (v4 + 1), A)))) ∧ (¬ (((I 11 0) : Int32) ≤ v5) → (((v4 : Int32) = v5 → ((K51 (v2, v3, (v5 + 1), A)))) ∧ (¬ ((v4 : Int32) = v5) → ((zin v4 6 = true) ∧ ((1 : Int32) ≤ (A 42 (v4).toNatClampNeg) → ((W_X7_tryLoan_r1 Ln I A v4 v5 (fun (A3 : Nat → Nat → Int32) => ((W_X6_waitOfAll_r35 Ln I A3  (fun (r4 : Int32) => (((v3 : Int32) ≤ r4 → ((K51 (v2, v3, (v5 + 1), A3)))) ∧ (¬ ((v3 : Int32) ≤ r4) → ((W_X6_waitOfAll_r35 Ln I A3  (fun (r5 : Int32) => (∀ x6 : Int32, x6 = (10 * v4) + v5 → (((K51 (x6, r5, (v5 + 1), A3))))))))))))))))) ∧ (¬ ((1 : Int32) ≤ (A 42 (v4).toNatClampNeg)) → (((K51 (v2, v3, (v5 + 1), A)))))))))) at h0
  obtain ⟨h2, h3⟩ := h0
  by_cases h1 : ((I 11 0) : Int32) ≤ v5
  · refine zS1 (fun r he => B_X7_gain_r1_51 Ln _ _ _ _ _ _ _  (fun _ => he) (fun n => absurd h1 n)) ?_
    have h2 := h2 h1
    refine zS1 (fun r he => B_X7_gain_r1_126 Ln _ _ _ _ _ _ _  he) ?_
    have q := hK36 _ h2
    exact q (some _)
  · refine zS1 (fun r he => B_X7_gain_r1_51 Ln _ _ _ _ _ _ _  (fun n => absurd n h1) (fun _ => he)) ?_
    have h3 := h3 h1
    obtain ⟨h5, h6⟩ := h3
    by_cases h4 : (v4 : Int32) = v5
    · refine zS1 (fun r he => B_X7_gain_r1_63 Ln _ _ _ _ _ _ _  (fun _ => he) (fun n => absurd h4 n)) ?_
      have h5 := h5 h4
      refine zS1 (fun r he => B_X7_gain_r1_120 Ln _ _ _ _ _ _ _  he) ?_
      have q := hK51 _ h5
      exact q
    · refine zS1 (fun r he => B_X7_gain_r1_63 Ln _ _ _ _ _ _ _  (fun n => absurd n h4) (fun _ => he)) ?_
      have h6 := h6 h4
      obtain ⟨h7, h8⟩ := h6
      obtain ⟨h10, h11⟩ := h8
      by_cases h9 : (1 : Int32) ≤ (A 42 (v4).toNatClampNeg)
      · refine zS1 (fun r he => B_X7_gain_r1_70 Ln _ _ _ _ _ _ _ h7 (fun _ => he) (fun n => absurd h9 n)) ?_
        have h10 := h10 h9
        obtain ⟨_, h12, A3, rfl, h13⟩ := T_X7_tryLoan_r1 Ln _ _ _ _ _ h10
        refine zS1 (fun r he => B_X7_gain_r1_84 Ln _ _ _ _ _ _ _  h12 rfl he) ?_
        obtain ⟨_, h14, r4, rfl, h15⟩ := T_X6_waitOfAll_r35 Ln _ _ _ h13
        refine zS1 (fun r he => B_X7_gain_r1_92 Ln _ _ _ _ _ _ _  h14 rfl he) ?_
        obtain ⟨h17, h18⟩ := h15
        by_cases h16 : (v3 : Int32) ≤ r4
        · refine zS1 (fun r he => B_X7_gain_r1_99_s1 Ln _ _ _ _ _ _ _ _  (fun _ => he) (fun n => absurd h16 n)) ?_
          have h17 := h17 h16
          refine zS1 (fun r he => B_X7_gain_r1_120 Ln _ _ _ _ _ _ _  he) ?_
          have q := hK51 _ h17
          exact q
        · refine zS1 (fun r he => B_X7_gain_r1_99_s1 Ln _ _ _ _ _ _ _ _  (fun n => absurd n h16) (fun _ => he)) ?_
          have h18 := h18 h16
          obtain ⟨_, h19, r5, rfl, h20⟩ := T_X6_waitOfAll_r35 Ln _ _ _ h18
          refine zS1 (fun r he => B_X7_gain_r1_103 Ln _ _ _ _ _ _ _  h19 rfl he) ?_
          have h21 := h20 _ rfl
          refine zS1 (fun r he => B_X7_gain_r1_119_s1 Ln _ _ _ _ _ _ _ _  he) ?_
          refine zS1 (fun r he => B_X7_gain_r1_120 Ln _ _ _ _ _ _ _  he) ?_
          have q := hK51 _ h21
          exact q
      · refine zS1 (fun r he => B_X7_gain_r1_70 Ln _ _ _ _ _ _ _ h7 (fun n => absurd n h9) (fun _ => he)) ?_
        have h11 := h11 h9
        refine zS1 (fun r he => B_X7_gain_r1_81 Ln _ _ _ _ _ _ _  he) ?_
        refine zS1 (fun r he => B_X7_gain_r1_120 Ln _ _ _ _ _ _ _  he) ?_
        have q := hK51 _ h11
        exact q
def L_X7_gain_r1_36 (Ln : Nat) (I : Nat → Nat → Int32) (v1 : Int32) (Q : Int32 → (Nat → Nat → Int32) → Prop) : Int32 × Int32 × Int32 × (Nat → Nat → Int32) → (Int32 × Int32 × Int32 × (Nat → Nat → Int32) → Prop) → Prop
  | (v2, v3, v4, A), K36 => ((((I 11 0) : Int32) ≤ v4 → (((v1 : Int32) ≠ 0 → ((Q v3 A))) ∧ (¬ ((v1 : Int32) ≠ 0) → ((Q v2 A))))) ∧ (¬ (((I 11 0) : Int32) ≤ v4) → ((zLoop (L_X7_gain_r1_51 Ln I v1 v4 K36 Q) (v2, v3, 0, A)))))
set_option maxRecDepth 100000 in
theorem TL_X7_gain_r1_36 {Ln : Nat} {I : Nat → Nat → Int32} {v1 : Int32} {Q : Int32 → (Nat → Nat → Int32) → Prop} : ∀ p, zLoop (L_X7_gain_r1_36 Ln I v1  Q) p → SL_X7_gain_r1_36 Ln I v1 Q p := by
  refine zLoop.sound (Sem := SL_X7_gain_r1_36 Ln I v1 Q) ?_
  rintro ⟨v2, v3, v4, A⟩ K36 hK36 h0
  intro j5
  show zSem 60 36 0 0 [some (.ref 1), some (.int v1), some (.int v2), some (.int v3), some (.int v4), (Option.map Value.int j5)] [] (zGs Ln I A) (fun r => ∃ x A1, r = (some (.int x), zGs Ln I A1) ∧ Q x A1)
  change ((((I 11 0) : Int32) ≤ v4 → (((v1 : Int32) ≠ 0 → ((Q v3 A))) ∧ (¬ ((v1 : Int32) ≠ 0) → ((Q v2 A))))) ∧ (¬ (((I 11 0) : Int32) ≤ v4) → ((zLoop (L_X7_gain_r1_51 Ln I v1 v4 K36 Q) (v2, v3, 0, A))))) at h0
  obtain ⟨h2, h3⟩ := h0
  by_cases h1 : ((I 11 0) : Int32) ≤ v4
  · refine zS1 (fun r he => B_X7_gain_r1_36 Ln _ _ _ _ _ _ j5  (fun _ => he) (fun n => absurd h1 n)) ?_
    have h2 := h2 h1
    obtain ⟨h5, h6⟩ := h2
    by_cases h4 : (v1 : Int32) ≠ 0
    · refine zS1 (fun r he => B_X7_gain_r1_132 Ln _ _ _ _ _ _ j5  (fun _ => he) (fun n => absurd h4 n)) ?_
      have h5 := h5 h4
      refine zS1 (fun r he => B_X7_gain_r1_140 Ln _ _ _ _ _ _ j5  he) ?_
      exact ⟨_, B_X7_gain_r1_141_s1 Ln _ _ _ _ _ _ j5 _ , _, _, rfl, h5⟩
    · refine zS1 (fun r he => B_X7_gain_r1_132 Ln _ _ _ _ _ _ j5  (fun n => absurd n h4) (fun _ => he)) ?_
      have h6 := h6 h4
      refine zS1 (fun r he => B_X7_gain_r1_136 Ln _ _ _ _ _ _ j5  he) ?_
      exact ⟨_, B_X7_gain_r1_141_s1 Ln _ _ _ _ _ _ j5 _ , _, _, rfl, h6⟩
  · refine zS1 (fun r he => B_X7_gain_r1_36 Ln _ _ _ _ _ _ j5  (fun n => absurd n h1) (fun _ => he)) ?_
    have h3 := h3 h1
    refine zS1 (fun r he => B_X7_gain_r1_48 Ln _ _ _ _ _ _ j5  he) ?_
    exact TL_X7_gain_r1_51 hK36 _ h3
def W_X7_gain_r1 (Ln : Nat) (I A : Nat → Nat → Int32) (v1 : Int32) (Q : Int32 → (Nat → Nat → Int32) → Prop) : Prop := (((v1 : Int32) < 0 → (Q (-2) A)) ∧ (¬ ((v1 : Int32) < 0) → (((v1 : Int32) ≤ 1 → ((W_X7_noBank_r1 Ln I A  (fun (r1 : Int32) => (((r1 : Int32) = 0 → ((W_X6_waitOfAll_r28 Ln I A  (fun (r2 : Int32) => ((zLoop (L_X7_gain_r1_36 Ln I v1  Q) ((-9), r2, 0, A))))))) ∧ (¬ ((r1 : Int32) = 0) → (Q (-3) A))))))) ∧ (¬ ((v1 : Int32) ≤ 1) → (Q (-2) A)))))
set_option maxRecDepth 100000 in
theorem T_X7_gain_r1 (Ln : Nat) (I A : Nat → Nat → Int32) (v1 : Int32) (Q : Int32 → (Nat → Nat → Int32) → Prop) (h0 : W_X7_gain_r1 Ln I A v1 Q) : zSem 60 0 0 0 [some (.ref 1), some (.int v1), none, none, none, none] [] (zGs Ln I A) (fun r => ∃ x A1, r = (some (.int x), zGs Ln I A1) ∧ Q x A1) := by
  unfold W_X7_gain_r1 at h0
  obtain ⟨h2, h3⟩ := h0
  by_cases h1 : (v1 : Int32) < 0
  · refine zS1 (fun r he => B_X7_gain_r1_0 Ln _ _ _  (fun _ => he) (fun n => absurd h1 n)) ?_
    have h2 := h2 h1
    exact ⟨_, B_X7_gain_r1_9 Ln _ _ _ , _, _, rfl, h2⟩
  · refine zS1 (fun r he => B_X7_gain_r1_0 Ln _ _ _  (fun n => absurd n h1) (fun _ => he)) ?_
    have h3 := h3 h1
    obtain ⟨h5, h6⟩ := h3
    by_cases h4 : (v1 : Int32) ≤ 1
    · refine zS1 (fun r he => B_X7_gain_r1_4 Ln _ _ _  (fun _ => he) (fun n => absurd h4 n)) ?_
      have h5 := h5 h4
      obtain ⟨_, h7, r1, rfl, h8⟩ := T_X7_noBank_r1 Ln _ _ _ h5
      refine zS1 (fun r he => B_X7_gain_r1_12 Ln _ _ _  h7 rfl he) ?_
      obtain ⟨h10, h11⟩ := h8
      by_cases h9 : (r1 : Int32) = 0
      · refine zS1 (fun r he => B_X7_gain_r1_16_s1 Ln _ _ _ _  (fun _ => he) (fun n => absurd h9 n)) ?_
        have h10 := h10 h9
        obtain ⟨_, h12, r2, rfl, h13⟩ := T_X6_waitOfAll_r28 Ln _ _ _ h10
        refine zS1 (fun r he => B_X7_gain_r1_22 Ln _ _ _  h12 rfl he) ?_
        refine zS1 (fun r he => B_X7_gain_r1_32_s1 Ln _ _ _ _ _  he) ?_
        exact TL_X7_gain_r1_36  _ h13 none
      · refine zS1 (fun r he => B_X7_gain_r1_16_s1 Ln _ _ _ _  (fun n => absurd n h9) (fun _ => he)) ?_
        have h11 := h11 h9
        exact ⟨_, B_X7_gain_r1_19 Ln _ _ _ , _, _, rfl, h11⟩
    · refine zS1 (fun r he => B_X7_gain_r1_4 Ln _ _ _  (fun n => absurd n h4) (fun _ => he)) ?_
      have h6 := h6 h4
      exact ⟨_, B_X7_gain_r1_9 Ln _ _ _ , _, _, rfl, h6⟩
def SL_X7_payers_r1_14 (Ln : Nat) (I : Nat → Nat → Int32) (v1 : Int32) (Q : Int32 → (Nat → Nat → Int32) → Prop) : Int32 × Int32 × (Nat → Nat → Int32) → Prop
  | (v2, v3, A) => zSem 64 14 0 0 [some (.ref 1), some (.int v1), some (.int v2), some (.int v3)] [] (zGs Ln I A) (fun r => ∃ x A1, r = (some (.int x), zGs Ln I A1) ∧ Q x A1)
def L_X7_payers_r1_14 (Ln : Nat) (I : Nat → Nat → Int32) (v1 : Int32) (Q : Int32 → (Nat → Nat → Int32) → Prop) : Int32 × Int32 × (Nat → Nat → Int32) → (Int32 × Int32 × (Nat → Nat → Int32) → Prop) → Prop
  | (v2, v3, A), K14 => ((((I 11 0) : Int32) ≤ v3 → (Q v2 A)) ∧ (¬ (((I 11 0) : Int32) ≤ v3) → (((v3 : Int32) = v1 → ((K14 (v2, (v3 + 1), A)))) ∧ (¬ ((v3 : Int32) = v1) → ((zin v3 6 = true) ∧ ((1 : Int32) ≤ (A 42 (v3).toNatClampNeg) → ((W_X7_tryLoan_r1 Ln I A v3 v1 (fun (A2 : Nat → Nat → Int32) => ((W_X3_allSo_r22_r35 Ln I A2  (fun (r3 : Int32) => (((r3 : Int32) = 0 → ((K14 (v2, (v3 + 1), A2)))) ∧ (¬ ((r3 : Int32) = 0) → (((K14 ((v2 ||| (1 <<< (v3 &&& 31))), (v3 + 1), A2))))))))))))) ∧ (¬ ((1 : Int32) ≤ (A 42 (v3).toNatClampNeg)) → (((K14 (v2, (v3 + 1), A))))))))))
set_option maxRecDepth 100000 in
theorem TL_X7_payers_r1_14 {Ln : Nat} {I : Nat → Nat → Int32} {v1 : Int32} {Q : Int32 → (Nat → Nat → Int32) → Prop} : ∀ p, zLoop (L_X7_payers_r1_14 Ln I v1  Q) p → SL_X7_payers_r1_14 Ln I v1 Q p := by
  refine zLoop.sound (Sem := SL_X7_payers_r1_14 Ln I v1 Q) ?_
  rintro ⟨v2, v3, A⟩ K14 hK14 h0
  show zSem 64 14 0 0 [some (.ref 1), some (.int v1), some (.int v2), some (.int v3)] [] (zGs Ln I A) (fun r => ∃ x A1, r = (some (.int x), zGs Ln I A1) ∧ Q x A1)
  change ((((I 11 0) : Int32) ≤ v3 → (Q v2 A)) ∧ (¬ (((I 11 0) : Int32) ≤ v3) → (((v3 : Int32) = v1 → ((K14 (v2, (v3 + 1), A)))) ∧ (¬ ((v3 : Int32) = v1) → ((zin v3 6 = true) ∧ ((1 : Int32) ≤ (A 42 (v3).toNatClampNeg) → ((W_X7_tryLoan_r1 Ln I A v3 v1 (fun (A2 : Nat → Nat → Int32) => ((W_X3_allSo_r22_r35 Ln I A2  (fun (r3 : Int32) => (((r3 : Int32) = 0 → ((K14 (v2, (v3 + 1), A2)))) ∧ (¬ ((r3 : Int32) = 0) → (((K14 ((v2 ||| (1 <<< (v3 &&& 31))), (v3 + 1), A2))))))))))))) ∧ (¬ ((1 : Int32) ≤ (A 42 (v3).toNatClampNeg)) → (((K14 (v2, (v3 + 1), A)))))))))) at h0
  obtain ⟨h2, h3⟩ := h0
  by_cases h1 : ((I 11 0) : Int32) ≤ v3
  · refine zS1 (fun r he => B_X7_payers_r1_14 Ln _ _ _ _ _  (fun _ => he) (fun n => absurd h1 n)) ?_
    have h2 := h2 h1
    exact ⟨_, B_X7_payers_r1_75 Ln _ _ _ _ _ , _, _, rfl, h2⟩
  · refine zS1 (fun r he => B_X7_payers_r1_14 Ln _ _ _ _ _  (fun n => absurd n h1) (fun _ => he)) ?_
    have h3 := h3 h1
    obtain ⟨h5, h6⟩ := h3
    by_cases h4 : (v3 : Int32) = v1
    · refine zS1 (fun r he => B_X7_payers_r1_25 Ln _ _ _ _ _  (fun _ => he) (fun n => absurd h4 n)) ?_
      have h5 := h5 h4
      refine zS1 (fun r he => B_X7_payers_r1_69 Ln _ _ _ _ _  he) ?_
      have q := hK14 _ h5
      exact q
    · refine zS1 (fun r he => B_X7_payers_r1_25 Ln _ _ _ _ _  (fun n => absurd n h4) (fun _ => he)) ?_
      have h6 := h6 h4
      obtain ⟨h7, h8⟩ := h6
      obtain ⟨h10, h11⟩ := h8
      by_cases h9 : (1 : Int32) ≤ (A 42 (v3).toNatClampNeg)
      · refine zS1 (fun r he => B_X7_payers_r1_30 Ln _ _ _ _ _ h7 (fun _ => he) (fun n => absurd h9 n)) ?_
        have h10 := h10 h9
        obtain ⟨_, h12, A2, rfl, h13⟩ := T_X7_tryLoan_r1 Ln _ _ _ _ _ h10
        refine zS1 (fun r he => B_X7_payers_r1_43 Ln _ _ _ _ _  h12 rfl he) ?_
        obtain ⟨_, h14, r3, rfl, h15⟩ := T_X3_allSo_r22_r35 Ln _ _ _ h13
        refine zS1 (fun r he => B_X7_payers_r1_49 Ln _ _ _ _ _  h14 rfl he) ?_
        obtain ⟨h17, h18⟩ := h15
        by_cases h16 : (r3 : Int32) = 0
        · refine zS1 (fun r he => B_X7_payers_r1_60_s1 Ln _ _ _ _ _ _  (fun _ => he) (fun n => absurd h16 n)) ?_
          have h17 := h17 h16
          refine zS1 (fun r he => B_X7_payers_r1_69 Ln _ _ _ _ _  he) ?_
          have q := hK14 _ h17
          exact q
        · refine zS1 (fun r he => B_X7_payers_r1_60_s1 Ln _ _ _ _ _ _  (fun n => absurd n h16) (fun _ => he)) ?_
          have h18 := h18 h16
          refine zS1 (fun r he => B_X7_payers_r1_63 Ln _ _ _ _ _  he) ?_
          refine zS1 (fun r he => B_X7_payers_r1_69 Ln _ _ _ _ _  he) ?_
          have q := hK14 _ h18
          exact q
      · refine zS1 (fun r he => B_X7_payers_r1_30 Ln _ _ _ _ _ h7 (fun n => absurd n h9) (fun _ => he)) ?_
        have h11 := h11 h9
        refine zS1 (fun r he => B_X7_payers_r1_40 Ln _ _ _ _ _  he) ?_
        refine zS1 (fun r he => B_X7_payers_r1_69 Ln _ _ _ _ _  he) ?_
        have q := hK14 _ h11
        exact q
def W_X7_payers_r1 (Ln : Nat) (I A : Nat → Nat → Int32) (v1 : Int32) (Q : Int32 → (Nat → Nat → Int32) → Prop) : Prop := ((W_X7_isShade_r1 Ln I A v1 (fun (r1 : Int32) => (((r1 : Int32) ≠ 0 → ((zLoop (L_X7_payers_r1_14 Ln I v1  Q) (0, 0, A)))) ∧ (¬ ((r1 : Int32) ≠ 0) → (Q (-1) A))))))
set_option maxRecDepth 100000 in
theorem T_X7_payers_r1 (Ln : Nat) (I A : Nat → Nat → Int32) (v1 : Int32) (Q : Int32 → (Nat → Nat → Int32) → Prop) (h0 : W_X7_payers_r1 Ln I A v1 Q) : zSem 64 0 0 0 [some (.ref 1), some (.int v1), none, none] [] (zGs Ln I A) (fun r => ∃ x A1, r = (some (.int x), zGs Ln I A1) ∧ Q x A1) := by
  unfold W_X7_payers_r1 at h0
  obtain ⟨_, h1, r1, rfl, h2⟩ := T_X7_isShade_r1 Ln _ _ _ _ h0
  refine zS1 (fun r he => B_X7_payers_r1_0 Ln _ _ _  h1 rfl he) ?_
  obtain ⟨h4, h5⟩ := h2
  by_cases h3 : (r1 : Int32) ≠ 0
  · refine zS1 (fun r he => B_X7_payers_r1_5_s1 Ln _ _ _ _  (fun _ => he) (fun n => absurd h3 n)) ?_
    have h4 := h4 h3
    refine zS1 (fun r he => B_X7_payers_r1_10 Ln _ _ _  he) ?_
    exact TL_X7_payers_r1_14  _ h4
  · refine zS1 (fun r he => B_X7_payers_r1_5_s1 Ln _ _ _ _  (fun n => absurd n h3) (fun _ => he)) ?_
    have h5 := h5 h3
    exact ⟨_, B_X7_payers_r1_8 Ln _ _ _ , _, _, rfl, h5⟩

/-! what a method asks, by program (wip/whole/gen_wp.py) -/
def SL_X0_whoPays_r11_r43_4 (Ln : Nat) (I A : Nat → Nat → Int32) (Q : Int32 → Prop) : Int32 × Int32 → Prop
  | (v2, v3) => zSem 6 4 0 0 [some (.ref 11), some (.ref 43), some (.int v2), some (.int v3)] [] (zGs Ln I A) (fun r => ∃ x, r = (some (.int x), zGs Ln I A) ∧ Q x)
def L_X0_whoPays_r11_r43_4 (Ln : Nat) (I A : Nat → Nat → Int32) (Q : Int32 → Prop) : Int32 × Int32 → (Int32 × Int32 → Prop) → Prop
  | (v2, v3), K4 => ((((I 11 0) : Int32) ≤ v3 → (Q v2)) ∧ (¬ (((I 11 0) : Int32) ≤ v3) → ((zin v3 6 = true) ∧ (W_X0_price_r11 Ln I A v3 (fun (r1 : Int32) => (∀ x2 : Int32, x2 = A 43 (v3).toNatClampNeg → (((x2 : Int32) < r1 → ((K4 (v2, (v3 + 1))))) ∧ (¬ ((x2 : Int32) < r1) → (((K4 ((v2 ||| (1 <<< (v3 &&& 31))), (v3 + 1)))))))))))))
set_option maxRecDepth 100000 in
theorem TL_X0_whoPays_r11_r43_4 {Ln : Nat} {I A : Nat → Nat → Int32} {Q : Int32 → Prop} : ∀ p, zLoop (L_X0_whoPays_r11_r43_4 Ln I A   Q) p → SL_X0_whoPays_r11_r43_4 Ln I A  Q p := by
  refine zLoop.sound (Sem := SL_X0_whoPays_r11_r43_4 Ln I A  Q) ?_
  rintro ⟨v2, v3⟩ K4 hK4 h0
  show zSem 6 4 0 0 [some (.ref 11), some (.ref 43), some (.int v2), some (.int v3)] [] (zGs Ln I A) (fun r => ∃ x, r = (some (.int x), zGs Ln I A) ∧ Q x)
  change ((((I 11 0) : Int32) ≤ v3 → (Q v2)) ∧ (¬ (((I 11 0) : Int32) ≤ v3) → ((zin v3 6 = true) ∧ (W_X0_price_r11 Ln I A v3 (fun (r1 : Int32) => (∀ x2 : Int32, x2 = A 43 (v3).toNatClampNeg → (((x2 : Int32) < r1 → ((K4 (v2, (v3 + 1))))) ∧ (¬ ((x2 : Int32) < r1) → (((K4 ((v2 ||| (1 <<< (v3 &&& 31))), (v3 + 1))))))))))))) at h0
  obtain ⟨h2, h3⟩ := h0
  by_cases h1 : ((I 11 0) : Int32) ≤ v3
  · refine zS1 (fun r he => B_X0_whoPays_r11_r43_4 Ln _ _ _ _  (fun _ => he) (fun n => absurd h1 n)) ?_
    have h2 := h2 h1
    exact ⟨_, B_X0_whoPays_r11_r43_35 Ln _ _ _ _ , _, rfl, h2⟩
  · refine zS1 (fun r he => B_X0_whoPays_r11_r43_4 Ln _ _ _ _  (fun n => absurd n h1) (fun _ => he)) ?_
    have h3 := h3 h1
    obtain ⟨h4, h5⟩ := h3
    obtain ⟨_, h6, r1, rfl, h7⟩ := T_X0_price_r11 Ln _ _ _ _ h5
    refine zS1 (fun r he => B_X0_whoPays_r11_r43_12 Ln _ _ _ _ h4 h6 rfl he) ?_
    have h8 := h7 _ rfl
    obtain ⟨h10, h11⟩ := h8
    by_cases h9 : ((A 43 (v3).toNatClampNeg) : Int32) < r1
    · refine zS1 (fun r he => B_X0_whoPays_r11_r43_20_s2 Ln _ _ _ _ _ _  (fun _ => he) (fun n => absurd h9 n)) ?_
      have h10 := h10 h9
      refine zS1 (fun r he => B_X0_whoPays_r11_r43_29 Ln _ _ _ _  he) ?_
      have q := hK4 _ h10
      exact q
    · refine zS1 (fun r he => B_X0_whoPays_r11_r43_20_s2 Ln _ _ _ _ _ _  (fun n => absurd n h9) (fun _ => he)) ?_
      have h11 := h11 h9
      refine zS1 (fun r he => B_X0_whoPays_r11_r43_23 Ln _ _ _ _  he) ?_
      refine zS1 (fun r he => B_X0_whoPays_r11_r43_29 Ln _ _ _ _  he) ?_
      have q := hK4 _ h11
      exact q
def W_X0_whoPays_r11_r43 (Ln : Nat) (I A : Nat → Nat → Int32) (Q : Int32 → Prop) : Prop := ((zLoop (L_X0_whoPays_r11_r43_4 Ln I A  Q) (0, 0)))
set_option maxRecDepth 100000 in
theorem T_X0_whoPays_r11_r43 (Ln : Nat) (I A : Nat → Nat → Int32) (Q : Int32 → Prop) (h0 : W_X0_whoPays_r11_r43 Ln I A Q) : zSem 6 0 0 0 [some (.ref 11), some (.ref 43), none, none] [] (zGs Ln I A) (fun r => ∃ x, r = (some (.int x), zGs Ln I A) ∧ Q x) := by
  unfold W_X0_whoPays_r11_r43 at h0
  refine zS1 (fun r he => B_X0_whoPays_r11_r43_0 Ln _ _   he) ?_
  exact TL_X0_whoPays_r11_r43_4  _ h0
def SL_X2_sum_r18_r19_5 (Ln : Nat) (I A : Nat → Nat → Int32) (v2 : Int32) (Q : Int32 → Prop) : Int32 × Int32 → Prop
  | (v3, v4) => zSem 17 5 0 0 [some (.ref 18), some (.ref 19), some (.int v2), some (.int v3), some (.int v4)] [] (zGs Ln I A) (fun r => ∃ x, r = (some (.int x), zGs Ln I A) ∧ Q x)
def L_X2_sum_r18_r19_5 (Ln : Nat) (I A : Nat → Nat → Int32) (v2 : Int32) (Q : Int32 → Prop) : Int32 × Int32 → (Int32 × Int32 → Prop) → Prop
  | (v3, v4), K5 => ((((I 18 3) : Int32) ≤ v4 → (Q v3)) ∧ (¬ (((I 18 3) : Int32) ≤ v4) → ((zin v4 6 = true) ∧ (((A 19 (v4).toNatClampNeg) : Int32) ≠ v2 → ((K5 (v3, (v4 + 1))))) ∧ (¬ (((A 19 (v4).toNatClampNeg) : Int32) ≠ v2) → ((zin v4 6 = true) ∧ ((K5 ((v3 + (A 21 (v4).toNatClampNeg)), (v4 + 1)))))))))
set_option maxRecDepth 100000 in
theorem TL_X2_sum_r18_r19_5 {Ln : Nat} {I A : Nat → Nat → Int32} {v2 : Int32} {Q : Int32 → Prop} : ∀ p, zLoop (L_X2_sum_r18_r19_5 Ln I A v2  Q) p → SL_X2_sum_r18_r19_5 Ln I A v2 Q p := by
  refine zLoop.sound (Sem := SL_X2_sum_r18_r19_5 Ln I A v2 Q) ?_
  rintro ⟨v3, v4⟩ K5 hK5 h0
  show zSem 17 5 0 0 [some (.ref 18), some (.ref 19), some (.int v2), some (.int v3), some (.int v4)] [] (zGs Ln I A) (fun r => ∃ x, r = (some (.int x), zGs Ln I A) ∧ Q x)
  change ((((I 18 3) : Int32) ≤ v4 → (Q v3)) ∧ (¬ (((I 18 3) : Int32) ≤ v4) → ((zin v4 6 = true) ∧ (((A 19 (v4).toNatClampNeg) : Int32) ≠ v2 → ((K5 (v3, (v4 + 1))))) ∧ (¬ (((A 19 (v4).toNatClampNeg) : Int32) ≠ v2) → ((zin v4 6 = true) ∧ ((K5 ((v3 + (A 21 (v4).toNatClampNeg)), (v4 + 1))))))))) at h0
  obtain ⟨h2, h3⟩ := h0
  by_cases h1 : ((I 18 3) : Int32) ≤ v4
  · refine zS1 (fun r he => B_X2_sum_r18_r19_5 Ln _ _ _ _ _  (fun _ => he) (fun n => absurd h1 n)) ?_
    have h2 := h2 h1
    exact ⟨_, B_X2_sum_r18_r19_38 Ln _ _ _ _ _ , _, rfl, h2⟩
  · refine zS1 (fun r he => B_X2_sum_r18_r19_5 Ln _ _ _ _ _  (fun n => absurd n h1) (fun _ => he)) ?_
    have h3 := h3 h1
    obtain ⟨h4, h5⟩ := h3
    obtain ⟨h7, h8⟩ := h5
    by_cases h6 : ((A 19 (v4).toNatClampNeg) : Int32) ≠ v2
    · refine zS1 (fun r he => B_X2_sum_r18_r19_14 Ln _ _ _ _ _ h4 (fun _ => he) (fun n => absurd h6 n)) ?_
      have h7 := h7 h6
      refine zS1 (fun r he => B_X2_sum_r18_r19_32 Ln _ _ _ _ _  he) ?_
      have q := hK5 _ h7
      exact q
    · refine zS1 (fun r he => B_X2_sum_r18_r19_14 Ln _ _ _ _ _ h4 (fun n => absurd n h6) (fun _ => he)) ?_
      have h8 := h8 h6
      obtain ⟨h9, h10⟩ := h8
      refine zS1 (fun r he => B_X2_sum_r18_r19_22 Ln _ _ _ _ _ h9 he) ?_
      refine zS1 (fun r he => B_X2_sum_r18_r19_32 Ln _ _ _ _ _  he) ?_
      have q := hK5 _ h10
      exact q
def W_X2_sum_r18_r19 (Ln : Nat) (I A : Nat → Nat → Int32) (v2 : Int32) (Q : Int32 → Prop) : Prop := ((zLoop (L_X2_sum_r18_r19_5 Ln I A v2  Q) (0, 0)))
set_option maxRecDepth 100000 in
theorem T_X2_sum_r18_r19 (Ln : Nat) (I A : Nat → Nat → Int32) (v2 : Int32) (Q : Int32 → Prop) (h0 : W_X2_sum_r18_r19 Ln I A v2 Q) : zSem 17 0 0 0 [some (.ref 18), some (.ref 19), some (.int v2), none, none] [] (zGs Ln I A) (fun r => ∃ x, r = (some (.int x), zGs Ln I A) ∧ Q x) := by
  unfold W_X2_sum_r18_r19 at h0
  refine zS1 (fun r he => B_X2_sum_r18_r19_0 Ln _ _ _  he) ?_
  exact TL_X2_sum_r18_r19_5  _ h0
def SL_J7_fill_53178_r29_5 (Ln : Nat) (I : Nat → Nat → Int32) (v1 : Int32) (v3 : Int32) (Q : (Nat → Nat → Int32) → Prop) : Int32 × (Nat → Nat → Int32) → Prop
  | (v2, A) => zSem 163 5 0 0 [some (.ref 29), some (.int v1), some (.int v2), some (.int v3)] [] (zGs Ln I A) (fun r => ∃ A1, r = (none, zGs Ln I A1) ∧ Q A1)
def L_J7_fill_53178_r29_5 (Ln : Nat) (I : Nat → Nat → Int32) (v1 : Int32) (v3 : Int32) (Q : (Nat → Nat → Int32) → Prop) : Int32 × (Nat → Nat → Int32) → (Int32 × (Nat → Nat → Int32) → Prop) → Prop
  | (v2, A), K5 => (((v3 : Int32) ≤ v2 → (Q A)) ∧ (¬ ((v3 : Int32) ≤ v2) → ((zin v2 6 = true) ∧ (K5 ((v2 + 1), (zw A 29 ((v2).toNatClampNeg) v1))))))
set_option maxRecDepth 100000 in
theorem TL_J7_fill_53178_r29_5 {Ln : Nat} {I : Nat → Nat → Int32} {v1 : Int32} {v3 : Int32} {Q : (Nat → Nat → Int32) → Prop} : ∀ p, zLoop (L_J7_fill_53178_r29_5 Ln I v1 v3  Q) p → SL_J7_fill_53178_r29_5 Ln I v1 v3 Q p := by
  refine zLoop.sound (Sem := SL_J7_fill_53178_r29_5 Ln I v1 v3 Q) ?_
  rintro ⟨v2, A⟩ K5 hK5 h0
  show zSem 163 5 0 0 [some (.ref 29), some (.int v1), some (.int v2), some (.int v3)] [] (zGs Ln I A) (fun r => ∃ A1, r = (none, zGs Ln I A1) ∧ Q A1)
  change (((v3 : Int32) ≤ v2 → (Q A)) ∧ (¬ ((v3 : Int32) ≤ v2) → ((zin v2 6 = true) ∧ (K5 ((v2 + 1), (zw A 29 ((v2).toNatClampNeg) v1)))))) at h0
  obtain ⟨h2, h3⟩ := h0
  by_cases h1 : (v3 : Int32) ≤ v2
  · refine zS1 (fun r he => B_J7_fill_53178_r29_5 Ln _ _ _ _ _  (fun _ => he) (fun n => absurd h1 n)) ?_
    have h2 := h2 h1
    exact ⟨_, B_J7_fill_53178_r29_20 Ln _ _ _ _ _ , _, rfl, h2⟩
  · refine zS1 (fun r he => B_J7_fill_53178_r29_5 Ln _ _ _ _ _  (fun n => absurd n h1) (fun _ => he)) ?_
    have h3 := h3 h1
    obtain ⟨h4, h5⟩ := h3
    refine zS1 (fun r he => B_J7_fill_53178_r29_10 Ln _ _ _ _ _ h4 he) ?_
    have q := hK5 _ h5
    exact q
def W_J7_fill_53178_r29 (Ln : Nat) (I A : Nat → Nat → Int32) (v1 : Int32) (Q : (Nat → Nat → Int32) → Prop) : Prop := ((zLoop (L_J7_fill_53178_r29_5 Ln I v1 6  Q) (0, A)))
set_option maxRecDepth 100000 in
theorem T_J7_fill_53178_r29 (Ln : Nat) (I A : Nat → Nat → Int32) (v1 : Int32) (Q : (Nat → Nat → Int32) → Prop) (h0 : W_J7_fill_53178_r29 Ln I A v1 Q) : zSem 163 0 0 0 [some (.ref 29), some (.int v1), none, none] [] (zGs Ln I A) (fun r => ∃ A1, r = (none, zGs Ln I A1) ∧ Q A1) := by
  unfold W_J7_fill_53178_r29 at h0
  refine zS1 (fun r he => B_J7_fill_53178_r29_0 Ln _ _ _  he) ?_
  exact TL_J7_fill_53178_r29_5  _ h0
def SL_J7_fill_53178_r34_5 (Ln : Nat) (I : Nat → Nat → Int32) (v1 : Int32) (v3 : Int32) (Q : (Nat → Nat → Int32) → Prop) : Int32 × (Nat → Nat → Int32) → Prop
  | (v2, A) => zSem 163 5 0 0 [some (.ref 34), some (.int v1), some (.int v2), some (.int v3)] [] (zGs Ln I A) (fun r => ∃ A1, r = (none, zGs Ln I A1) ∧ Q A1)
def L_J7_fill_53178_r34_5 (Ln : Nat) (I : Nat → Nat → Int32) (v1 : Int32) (v3 : Int32) (Q : (Nat → Nat → Int32) → Prop) : Int32 × (Nat → Nat → Int32) → (Int32 × (Nat → Nat → Int32) → Prop) → Prop
  | (v2, A), K5 => (((v3 : Int32) ≤ v2 → (Q A)) ∧ (¬ ((v3 : Int32) ≤ v2) → ((zin v2 6 = true) ∧ (K5 ((v2 + 1), (zw A 34 ((v2).toNatClampNeg) v1))))))
set_option maxRecDepth 100000 in
theorem TL_J7_fill_53178_r34_5 {Ln : Nat} {I : Nat → Nat → Int32} {v1 : Int32} {v3 : Int32} {Q : (Nat → Nat → Int32) → Prop} : ∀ p, zLoop (L_J7_fill_53178_r34_5 Ln I v1 v3  Q) p → SL_J7_fill_53178_r34_5 Ln I v1 v3 Q p := by
  refine zLoop.sound (Sem := SL_J7_fill_53178_r34_5 Ln I v1 v3 Q) ?_
  rintro ⟨v2, A⟩ K5 hK5 h0
  show zSem 163 5 0 0 [some (.ref 34), some (.int v1), some (.int v2), some (.int v3)] [] (zGs Ln I A) (fun r => ∃ A1, r = (none, zGs Ln I A1) ∧ Q A1)
  change (((v3 : Int32) ≤ v2 → (Q A)) ∧ (¬ ((v3 : Int32) ≤ v2) → ((zin v2 6 = true) ∧ (K5 ((v2 + 1), (zw A 34 ((v2).toNatClampNeg) v1)))))) at h0
  obtain ⟨h2, h3⟩ := h0
  by_cases h1 : (v3 : Int32) ≤ v2
  · refine zS1 (fun r he => B_J7_fill_53178_r34_5 Ln _ _ _ _ _  (fun _ => he) (fun n => absurd h1 n)) ?_
    have h2 := h2 h1
    exact ⟨_, B_J7_fill_53178_r34_20 Ln _ _ _ _ _ , _, rfl, h2⟩
  · refine zS1 (fun r he => B_J7_fill_53178_r34_5 Ln _ _ _ _ _  (fun n => absurd n h1) (fun _ => he)) ?_
    have h3 := h3 h1
    obtain ⟨h4, h5⟩ := h3
    refine zS1 (fun r he => B_J7_fill_53178_r34_10 Ln _ _ _ _ _ h4 he) ?_
    have q := hK5 _ h5
    exact q
def W_J7_fill_53178_r34 (Ln : Nat) (I A : Nat → Nat → Int32) (v1 : Int32) (Q : (Nat → Nat → Int32) → Prop) : Prop := ((zLoop (L_J7_fill_53178_r34_5 Ln I v1 6  Q) (0, A)))
set_option maxRecDepth 100000 in
theorem T_J7_fill_53178_r34 (Ln : Nat) (I A : Nat → Nat → Int32) (v1 : Int32) (Q : (Nat → Nat → Int32) → Prop) (h0 : W_J7_fill_53178_r34 Ln I A v1 Q) : zSem 163 0 0 0 [some (.ref 34), some (.int v1), none, none] [] (zGs Ln I A) (fun r => ∃ A1, r = (none, zGs Ln I A1) ∧ Q A1) := by
  unfold W_J7_fill_53178_r34 at h0
  refine zS1 (fun r he => B_J7_fill_53178_r34_0 Ln _ _ _  he) ?_
  exact TL_J7_fill_53178_r34_5  _ h0
def SL_X6_firstOf_r28_2 (Ln : Nat) (I A : Nat → Nat → Int32) (v1 : Int32) (Q : Int32 → Prop) : Int32 → Prop
  | v2 => zSem 38 2 0 0 [some (.ref 28), some (.int v1), some (.int v2)] [] (zGs Ln I A) (fun r => ∃ x, r = (some (.int x), zGs Ln I A) ∧ Q x)
def L_X6_firstOf_r28_2 (Ln : Nat) (I A : Nat → Nat → Int32) (v1 : Int32) (Q : Int32 → Prop) : Int32 → (Int32 → Prop) → Prop
  | v2, K2 => ((((I 11 0) : Int32) ≤ v2 → (Q 9)) ∧ (¬ (((I 11 0) : Int32) ≤ v2) → ((zin v2 6 = true) ∧ ((((v1 >>> ((A 33 (v2).toNatClampNeg) &&& 31)) &&& 1) : Int32) ≠ 1 → ((K2 (v2 + 1)))) ∧ (¬ ((((v1 >>> ((A 33 (v2).toNatClampNeg) &&& 31)) &&& 1) : Int32) ≠ 1) → ((zin v2 6 = true) ∧ Q (A 33 (v2).toNatClampNeg))))))
set_option maxRecDepth 100000 in
theorem TL_X6_firstOf_r28_2 {Ln : Nat} {I A : Nat → Nat → Int32} {v1 : Int32} {Q : Int32 → Prop} : ∀ p, zLoop (L_X6_firstOf_r28_2 Ln I A v1  Q) p → SL_X6_firstOf_r28_2 Ln I A v1 Q p := by
  refine zLoop.sound (Sem := SL_X6_firstOf_r28_2 Ln I A v1 Q) ?_
  rintro v2 K2 hK2 h0
  show zSem 38 2 0 0 [some (.ref 28), some (.int v1), some (.int v2)] [] (zGs Ln I A) (fun r => ∃ x, r = (some (.int x), zGs Ln I A) ∧ Q x)
  change ((((I 11 0) : Int32) ≤ v2 → (Q 9)) ∧ (¬ (((I 11 0) : Int32) ≤ v2) → ((zin v2 6 = true) ∧ ((((v1 >>> ((A 33 (v2).toNatClampNeg) &&& 31)) &&& 1) : Int32) ≠ 1 → ((K2 (v2 + 1)))) ∧ (¬ ((((v1 >>> ((A 33 (v2).toNatClampNeg) &&& 31)) &&& 1) : Int32) ≠ 1) → ((zin v2 6 = true) ∧ Q (A 33 (v2).toNatClampNeg)))))) at h0
  obtain ⟨h2, h3⟩ := h0
  by_cases h1 : ((I 11 0) : Int32) ≤ v2
  · refine zS1 (fun r he => B_X6_firstOf_r28_2 Ln _ _ _ _  (fun _ => he) (fun n => absurd h1 n)) ?_
    have h2 := h2 h1
    exact ⟨_, B_X6_firstOf_r28_40 Ln _ _ _ _ , _, rfl, h2⟩
  · refine zS1 (fun r he => B_X6_firstOf_r28_2 Ln _ _ _ _  (fun n => absurd n h1) (fun _ => he)) ?_
    have h3 := h3 h1
    obtain ⟨h4, h5⟩ := h3
    obtain ⟨h7, h8⟩ := h5
    by_cases h6 : (((v1 >>> ((A 33 (v2).toNatClampNeg) &&& 31)) &&& 1) : Int32) ≠ 1
    · refine zS1 (fun r he => B_X6_firstOf_r28_13 Ln _ _ _ _ h4 (fun _ => he) (fun n => absurd h6 n)) ?_
      have h7 := h7 h6
      refine zS1 (fun r he => B_X6_firstOf_r28_34 Ln _ _ _ _  he) ?_
      have q := hK2 _ h7
      exact q
    · refine zS1 (fun r he => B_X6_firstOf_r28_13 Ln _ _ _ _ h4 (fun n => absurd n h6) (fun _ => he)) ?_
      have h8 := h8 h6
      obtain ⟨h9, h10⟩ := h8
      exact ⟨_, B_X6_firstOf_r28_27 Ln _ _ _ _ h9, _, rfl, h10⟩
def W_X6_firstOf_r28 (Ln : Nat) (I A : Nat → Nat → Int32) (v1 : Int32) (Q : Int32 → Prop) : Prop := ((zLoop (L_X6_firstOf_r28_2 Ln I A v1  Q) 0))
set_option maxRecDepth 100000 in
theorem T_X6_firstOf_r28 (Ln : Nat) (I A : Nat → Nat → Int32) (v1 : Int32) (Q : Int32 → Prop) (h0 : W_X6_firstOf_r28 Ln I A v1 Q) : zSem 38 0 0 0 [some (.ref 28), some (.int v1), none] [] (zGs Ln I A) (fun r => ∃ x, r = (some (.int x), zGs Ln I A) ∧ Q x) := by
  unfold W_X6_firstOf_r28 at h0
  refine zS1 (fun r he => B_X6_firstOf_r28_0 Ln _ _ _  he) ?_
  exact TL_X6_firstOf_r28_2  _ h0
def W_X6_freed_r28 (Ln : Nat) (I A : Nat → Nat → Int32) (v1 : Int32) (Q : Int32 → (Nat → Nat → Int32) → Prop) : Prop := (((v1 : Int32) < 0 → (Q 0 A)) ∧ (¬ ((v1 : Int32) < 0) → (((v1 : Int32) < 6 → ((zin v1 6 = true) ∧ (zin v1 6 = true) ∧ (zin v1 6 = true) ∧ (((((zw A 34 ((v1).toNatClampNeg) ((A 34 (v1).toNatClampNeg) + 1)) 34) (v1).toNatClampNeg) : Int32) ≠ (I 11 3) → (∀ A1 : Nat → Nat → Int32, A1 = zw A 34 ((v1).toNatClampNeg) ((A 34 (v1).toNatClampNeg) + 1) → ((Q 0 A1)))) ∧ (¬ (((((zw A 34 ((v1).toNatClampNeg) ((A 34 (v1).toNatClampNeg) + 1)) 34) (v1).toNatClampNeg) : Int32) ≠ (I 11 3)) → (∀ A2 : Nat → Nat → Int32, A2 = zw A 34 ((v1).toNatClampNeg) ((A 34 (v1).toNatClampNeg) + 1) → ((Q (1 <<< (v1 &&& 31)) A2)))))) ∧ (¬ ((v1 : Int32) < 6) → (Q 0 A)))))
set_option maxRecDepth 100000 in
theorem T_X6_freed_r28 (Ln : Nat) (I A : Nat → Nat → Int32) (v1 : Int32) (Q : Int32 → (Nat → Nat → Int32) → Prop) (h0 : W_X6_freed_r28 Ln I A v1 Q) : zSem 40 0 0 0 [some (.ref 28), some (.int v1)] [] (zGs Ln I A) (fun r => ∃ x A1, r = (some (.int x), zGs Ln I A1) ∧ Q x A1) := by
  unfold W_X6_freed_r28 at h0
  obtain ⟨h2, h3⟩ := h0
  by_cases h1 : (v1 : Int32) < 0
  · refine zS1 (fun r he => B_X6_freed_r28_0 Ln _ _ _  (fun _ => he) (fun n => absurd h1 n)) ?_
    have h2 := h2 h1
    exact ⟨_, B_X6_freed_r28_10 Ln _ _ _ , _, _, rfl, h2⟩
  · refine zS1 (fun r he => B_X6_freed_r28_0 Ln _ _ _  (fun n => absurd n h1) (fun _ => he)) ?_
    have h3 := h3 h1
    obtain ⟨h5, h6⟩ := h3
    by_cases h4 : (v1 : Int32) < 6
    · refine zS1 (fun r he => B_X6_freed_r28_4 Ln _ _ _  (fun _ => he) (fun n => absurd h4 n)) ?_
      have h5 := h5 h4
      obtain ⟨h7, h8⟩ := h5
      obtain ⟨h9, h10⟩ := h8
      obtain ⟨h11, h12⟩ := h10
      obtain ⟨h14, h15⟩ := h12
      by_cases h13 : ((((zw A 34 ((v1).toNatClampNeg) ((A 34 (v1).toNatClampNeg) + 1)) 34) (v1).toNatClampNeg) : Int32) ≠ (I 11 3)
      · refine zS1 (fun r he => B_X6_freed_r28_12 Ln _ _ _ h7 h9 h11 (fun _ => he) (fun n => absurd h13 n)) ?_
        have h14 := h14 h13
        have h16 := h14 _ rfl
        refine zS1 (fun r he => B_X6_freed_r28_44 Ln _ _ _  he) ?_
        exact ⟨_, B_X6_freed_r28_45_s1 Ln _ _ _ _ , _, _, rfl, h16⟩
      · refine zS1 (fun r he => B_X6_freed_r28_12 Ln _ _ _ h7 h9 h11 (fun n => absurd n h13) (fun _ => he)) ?_
        have h15 := h15 h13
        have h17 := h15 _ rfl
        refine zS1 (fun r he => B_X6_freed_r28_38 Ln _ _ _  he) ?_
        exact ⟨_, B_X6_freed_r28_45_s1 Ln _ _ _ _ , _, _, rfl, h17⟩
    · refine zS1 (fun r he => B_X6_freed_r28_4 Ln _ _ _  (fun n => absurd n h4) (fun _ => he)) ?_
      have h6 := h6 h4
      exact ⟨_, B_X6_freed_r28_10 Ln _ _ _ , _, _, rfl, h6⟩
def SL_X6_note_r28_2 (Ln : Nat) (I : Nat → Nat → Int32) (v1 : Int32) (v2 : Int32) (Q : (Nat → Nat → Int32) → Prop) : Int32 × (Nat → Nat → Int32) → Prop
  | (v3, A) => zSem 41 2 0 0 [some (.ref 28), some (.int v1), some (.int v2), some (.int v3)] [] (zGs Ln I A) (fun r => ∃ A1, r = (none, zGs Ln I A1) ∧ Q A1)
def L_X6_note_r28_2 (Ln : Nat) (I : Nat → Nat → Int32) (v1 : Int32) (v2 : Int32) (Q : (Nat → Nat → Int32) → Prop) : Int32 × (Nat → Nat → Int32) → (Int32 × (Nat → Nat → Int32) → Prop) → Prop
  | (v3, A), K2 => ((((I 11 0) : Int32) ≤ v3 → (Q A)) ∧ (¬ (((I 11 0) : Int32) ≤ v3) → (((((v1 >>> (v3 &&& 31)) &&& 1) : Int32) ≠ 1 → ((K2 ((v3 + 1), A)))) ∧ (¬ ((((v1 >>> (v3 &&& 31)) &&& 1) : Int32) ≠ 1) → ((zin v3 6 = true) ∧ ((K2 ((v3 + 1), (zw A 29 ((v3).toNatClampNeg) v2)))))))))
set_option maxRecDepth 100000 in
theorem TL_X6_note_r28_2 {Ln : Nat} {I : Nat → Nat → Int32} {v1 : Int32} {v2 : Int32} {Q : (Nat → Nat → Int32) → Prop} : ∀ p, zLoop (L_X6_note_r28_2 Ln I v1 v2  Q) p → SL_X6_note_r28_2 Ln I v1 v2 Q p := by
  refine zLoop.sound (Sem := SL_X6_note_r28_2 Ln I v1 v2 Q) ?_
  rintro ⟨v3, A⟩ K2 hK2 h0
  show zSem 41 2 0 0 [some (.ref 28), some (.int v1), some (.int v2), some (.int v3)] [] (zGs Ln I A) (fun r => ∃ A1, r = (none, zGs Ln I A1) ∧ Q A1)
  change ((((I 11 0) : Int32) ≤ v3 → (Q A)) ∧ (¬ (((I 11 0) : Int32) ≤ v3) → (((((v1 >>> (v3 &&& 31)) &&& 1) : Int32) ≠ 1 → ((K2 ((v3 + 1), A)))) ∧ (¬ ((((v1 >>> (v3 &&& 31)) &&& 1) : Int32) ≠ 1) → ((zin v3 6 = true) ∧ ((K2 ((v3 + 1), (zw A 29 ((v3).toNatClampNeg) v2))))))))) at h0
  obtain ⟨h2, h3⟩ := h0
  by_cases h1 : ((I 11 0) : Int32) ≤ v3
  · refine zS1 (fun r he => B_X6_note_r28_2 Ln _ _ _ _ _  (fun _ => he) (fun n => absurd h1 n)) ?_
    have h2 := h2 h1
    exact ⟨_, B_X6_note_r28_35 Ln _ _ _ _ _ , _, rfl, h2⟩
  · refine zS1 (fun r he => B_X6_note_r28_2 Ln _ _ _ _ _  (fun n => absurd n h1) (fun _ => he)) ?_
    have h3 := h3 h1
    obtain ⟨h5, h6⟩ := h3
    by_cases h4 : (((v1 >>> (v3 &&& 31)) &&& 1) : Int32) ≠ 1
    · refine zS1 (fun r he => B_X6_note_r28_13 Ln _ _ _ _ _  (fun _ => he) (fun n => absurd h4 n)) ?_
      have h5 := h5 h4
      refine zS1 (fun r he => B_X6_note_r28_29 Ln _ _ _ _ _  he) ?_
      have q := hK2 _ h5
      exact q
    · refine zS1 (fun r he => B_X6_note_r28_13 Ln _ _ _ _ _  (fun n => absurd n h4) (fun _ => he)) ?_
      have h6 := h6 h4
      obtain ⟨h7, h8⟩ := h6
      refine zS1 (fun r he => B_X6_note_r28_22 Ln _ _ _ _ _ h7 he) ?_
      refine zS1 (fun r he => B_X6_note_r28_29 Ln _ _ _ _ _  he) ?_
      have q := hK2 _ h8
      exact q
def W_X6_note_r28 (Ln : Nat) (I A : Nat → Nat → Int32) (v1 : Int32) (v2 : Int32) (Q : (Nat → Nat → Int32) → Prop) : Prop := ((zLoop (L_X6_note_r28_2 Ln I v1 v2  Q) (0, A)))
set_option maxRecDepth 100000 in
theorem T_X6_note_r28 (Ln : Nat) (I A : Nat → Nat → Int32) (v1 : Int32) (v2 : Int32) (Q : (Nat → Nat → Int32) → Prop) (h0 : W_X6_note_r28 Ln I A v1 v2 Q) : zSem 41 0 0 0 [some (.ref 28), some (.int v1), some (.int v2), none] [] (zGs Ln I A) (fun r => ∃ A1, r = (none, zGs Ln I A1) ∧ Q A1) := by
  unfold W_X6_note_r28 at h0
  refine zS1 (fun r he => B_X6_note_r28_0 Ln _ _ _ _  he) ?_
  exact TL_X6_note_r28_2  _ h0
def W_X5_digit_r4 (Ln : Nat) (I A : Nat → Nat → Int32) (v1 : Int32) (Q : Int32 → Prop) : Prop := ((zin v1 60 = true) ∧ Q ((A 4 (v1).toNatClampNeg) - 48))
set_option maxRecDepth 100000 in
theorem T_X5_digit_r4 (Ln : Nat) (I A : Nat → Nat → Int32) (v1 : Int32) (Q : Int32 → Prop) (h0 : W_X5_digit_r4 Ln I A v1 Q) : zSem 32 0 0 0 [some (.ref 4), some (.int v1)] [] (zGs Ln I A) (fun r => ∃ x, r = (some (.int x), zGs Ln I A) ∧ Q x) := by
  unfold W_X5_digit_r4 at h0
  obtain ⟨h1, h2⟩ := h0
  exact ⟨_, B_X5_digit_r4_0 Ln _ _ _ h1, _, rfl, h2⟩
def W_X5_twoDigits_r4 (Ln : Nat) (I A : Nat → Nat → Int32) (v1 : Int32) (Q : Int32 → Prop) : Prop := ((W_X5_digit_r4 Ln I A v1 (fun (r1 : Int32) => ((W_X5_digit_r4 Ln I A (v1 + 1) (fun (r2 : Int32) => (Q ((10 * r1) + r2))))))))
set_option maxRecDepth 100000 in
theorem T_X5_twoDigits_r4 (Ln : Nat) (I A : Nat → Nat → Int32) (v1 : Int32) (Q : Int32 → Prop) (h0 : W_X5_twoDigits_r4 Ln I A v1 Q) : zSem 33 0 0 0 [some (.ref 4), some (.int v1)] [] (zGs Ln I A) (fun r => ∃ x, r = (some (.int x), zGs Ln I A) ∧ Q x) := by
  unfold W_X5_twoDigits_r4 at h0
  obtain ⟨_, h1, r1, rfl, h2⟩ := T_X5_digit_r4 Ln _ _ _ _ h0
  refine zS1 (fun r he => B_X5_twoDigits_r4_0 Ln _ _ _  h1 rfl he) ?_
  obtain ⟨_, h3, r2, rfl, h4⟩ := T_X5_digit_r4 Ln _ _ _ _ h2
  refine zS1 (fun r he => B_X5_twoDigits_r4_7_s2 Ln _ _ _ _ _  h3 rfl he) ?_
  exact ⟨_, B_X5_twoDigits_r4_15_s2 Ln _ _ _ _ _ , _, rfl, h4⟩
def W_X5_kindOf (Ln : Nat) (I A : Nat → Nat → Int32) (v0 : Int32) (Q : Int32 → Prop) : Prop := (((v0 : Int32).toInt = 100 → (Q 1)) ∧ ((v0 : Int32).toInt = 108 → (Q 2)) ∧ (¬ ((v0 : Int32).toInt = 100) → ¬ ((v0 : Int32).toInt = 108) → (Q 0)))
set_option maxRecDepth 100000 in
theorem T_X5_kindOf (Ln : Nat) (I A : Nat → Nat → Int32) (v0 : Int32) (Q : Int32 → Prop) (h0 : W_X5_kindOf Ln I A v0 Q) : zSem 31 0 0 0 [some (.int v0)] [] (zGs Ln I A) (fun r => ∃ x, r = (some (.int x), zGs Ln I A) ∧ Q x) := by
  unfold W_X5_kindOf at h0
  obtain ⟨h1, h2, h3⟩ := h0
  by_cases h4 : (v0 : Int32).toInt = 100
  · refine zS1 (fun r he => B_X5_kindOf_0 Ln _ _ _  (fun _ => he) (fun q => absurd (q.symm.trans h4) (by decide)) (fun n0 n1 => absurd h4 n0)) ?_
    have h1 := h1 h4
    exact ⟨_, B_X5_kindOf_30 Ln _ _ _ , _, rfl, h1⟩
  by_cases h5 : (v0 : Int32).toInt = 108
  · refine zS1 (fun r he => B_X5_kindOf_0 Ln _ _ _  (fun q => absurd (q.symm.trans h5) (by decide)) (fun _ => he) (fun n0 n1 => absurd h5 n1)) ?_
    have h2 := h2 h5
    exact ⟨_, B_X5_kindOf_28 Ln _ _ _ , _, rfl, h2⟩
  refine zS1 (fun r he => B_X5_kindOf_0 Ln _ _ _  (fun q => absurd q h4) (fun q => absurd q h5) (fun _ _ => he)) ?_
  have h3 := h3 h4 h5
  exact ⟨_, B_X5_kindOf_32 Ln _ _ _ , _, rfl, h3⟩
def SL_X0_findComing_r11_2 (Ln : Nat) (I : Nat → Nat → Int32) (Q : (Nat → Nat → Int32) → Prop) : Int32 × (Nat → Nat → Int32) → Prop
  | (v1, A) => ∀  (j2 : Option Int32), zSem 2 2 0 0 [some (.ref 11), some (.int v1), (Option.map Value.int j2)] [] (zGs Ln I A) (fun r => ∃ A1, r = (none, zGs Ln I A1) ∧ Q A1)
def SL_X0_findComing_r11_17 (Ln : Nat) (I : Nat → Nat → Int32) (v1 : Int32) (Q : (Nat → Nat → Int32) → Prop) : Int32 × (Nat → Nat → Int32) → Prop
  | (v2, A) => zSem 2 17 0 0 [some (.ref 11), some (.int v1), some (.int v2)] [] (zGs Ln I A) (fun r => ∃ A1, r = (none, zGs Ln I A1) ∧ Q A1)
def L_X0_findComing_r11_17 (Ln : Nat) (I : Nat → Nat → Int32) (v1 : Int32) (K2 : Int32 × (Nat → Nat → Int32) → Prop) (Q : (Nat → Nat → Int32) → Prop) : Int32 × (Nat → Nat → Int32) → (Int32 × (Nat → Nat → Int32) → Prop) → Prop
  | (v2, A), K17 => ((((I 11 0) : Int32) ≤ v2 → ((K2 ((v1 + 1), A)))) ∧ (¬ (((I 11 0) : Int32) ≤ v2) → ((zin v2 6 = true) ∧ ((v1 : Int32) < (A 15 (v2).toNatClampNeg) → ((K17 ((v2 + 1), A)))) ∧ (¬ ((v1 : Int32) < (A 15 (v2).toNatClampNeg)) → ((zin v1 60 = true) ∧ (zin v1 60 = true) ∧ ((K17 ((v2 + 1), (zw A 16 ((v1).toNatClampNeg) ((A 16 (v1).toNatClampNeg) ||| (1 <<< (v2 &&& 31))))))))))))
set_option maxRecDepth 100000 in
theorem TL_X0_findComing_r11_17 {Ln : Nat} {I : Nat → Nat → Int32} {v1 : Int32} {K2 : Int32 × (Nat → Nat → Int32) → Prop} {Q : (Nat → Nat → Int32) → Prop} (hK2 : ∀ p, K2 p → SL_X0_findComing_r11_2 Ln I  Q p) : ∀ p, zLoop (L_X0_findComing_r11_17 Ln I v1 K2 Q) p → SL_X0_findComing_r11_17 Ln I v1 Q p := by
  refine zLoop.sound (Sem := SL_X0_findComing_r11_17 Ln I v1 Q) ?_
  rintro ⟨v2, A⟩ K17 hK17 h0
  show zSem 2 17 0 0 [some (.ref 11), some (.int v1), some (.int v2)] [] (zGs Ln I A) (fun r => ∃ A1, r = (none, zGs Ln I A1) ∧ Q A1)
  change ((((I 11 0) : Int32) ≤ v2 → ((K2 ((v1 + 1), A)))) ∧ (¬ (((I 11 0) : Int32) ≤ v2) → ((zin v2 6 = true) ∧ ((v1 : Int32) < (A 15 (v2).toNatClampNeg) → ((K17 ((v2 + 1), A)))) ∧ (¬ ((v1 : Int32) < (A 15 (v2).toNatClampNeg)) → ((zin v1 60 = true) ∧ (zin v1 60 = true) ∧ ((K17 ((v2 + 1), (zw A 16 ((v1).toNatClampNeg) ((A 16 (v1).toNatClampNeg) ||| (1 <<< (v2 &&& 31)))))))))))) at h0
  obtain ⟨h2, h3⟩ := h0
  by_cases h1 : ((I 11 0) : Int32) ≤ v2
  · refine zS1 (fun r he => B_X0_findComing_r11_17 Ln _ _ _ _  (fun _ => he) (fun n => absurd h1 n)) ?_
    have h2 := h2 h1
    refine zS1 (fun r he => B_X0_findComing_r11_53 Ln _ _ _ _  he) ?_
    have q := hK2 _ h2
    exact q (some _)
  · refine zS1 (fun r he => B_X0_findComing_r11_17 Ln _ _ _ _  (fun n => absurd n h1) (fun _ => he)) ?_
    have h3 := h3 h1
    obtain ⟨h4, h5⟩ := h3
    obtain ⟨h7, h8⟩ := h5
    by_cases h6 : (v1 : Int32) < (A 15 (v2).toNatClampNeg)
    · refine zS1 (fun r he => B_X0_findComing_r11_25 Ln _ _ _ _ h4 (fun _ => he) (fun n => absurd h6 n)) ?_
      have h7 := h7 h6
      refine zS1 (fun r he => B_X0_findComing_r11_47 Ln _ _ _ _  he) ?_
      have q := hK17 _ h7
      exact q
    · refine zS1 (fun r he => B_X0_findComing_r11_25 Ln _ _ _ _ h4 (fun n => absurd n h6) (fun _ => he)) ?_
      have h8 := h8 h6
      obtain ⟨h9, h10⟩ := h8
      obtain ⟨h11, h12⟩ := h10
      refine zS1 (fun r he => B_X0_findComing_r11_35 Ln _ _ _ _ h9 h11 he) ?_
      refine zS1 (fun r he => B_X0_findComing_r11_47 Ln _ _ _ _  he) ?_
      have q := hK17 _ h12
      exact q
def L_X0_findComing_r11_2 (Ln : Nat) (I : Nat → Nat → Int32) (Q : (Nat → Nat → Int32) → Prop) : Int32 × (Nat → Nat → Int32) → (Int32 × (Nat → Nat → Int32) → Prop) → Prop
  | (v1, A), K2 => (((60 : Int32) ≤ v1 → (Q A)) ∧ (¬ ((60 : Int32) ≤ v1) → ((zin v1 60 = true) ∧ (zLoop (L_X0_findComing_r11_17 Ln I v1 K2 Q) (0, (zw A 16 ((v1).toNatClampNeg) 0))))))
set_option maxRecDepth 100000 in
theorem TL_X0_findComing_r11_2 {Ln : Nat} {I : Nat → Nat → Int32} {Q : (Nat → Nat → Int32) → Prop} : ∀ p, zLoop (L_X0_findComing_r11_2 Ln I   Q) p → SL_X0_findComing_r11_2 Ln I  Q p := by
  refine zLoop.sound (Sem := SL_X0_findComing_r11_2 Ln I  Q) ?_
  rintro ⟨v1, A⟩ K2 hK2 h0
  intro j2
  show zSem 2 2 0 0 [some (.ref 11), some (.int v1), (Option.map Value.int j2)] [] (zGs Ln I A) (fun r => ∃ A1, r = (none, zGs Ln I A1) ∧ Q A1)
  change (((60 : Int32) ≤ v1 → (Q A)) ∧ (¬ ((60 : Int32) ≤ v1) → ((zin v1 60 = true) ∧ (zLoop (L_X0_findComing_r11_17 Ln I v1 K2 Q) (0, (zw A 16 ((v1).toNatClampNeg) 0)))))) at h0
  obtain ⟨h2, h3⟩ := h0
  by_cases h1 : (60 : Int32) ≤ v1
  · refine zS1 (fun r he => B_X0_findComing_r11_2 Ln _ _ _ j2  (fun _ => he) (fun n => absurd h1 n)) ?_
    have h2 := h2 h1
    exact ⟨_, B_X0_findComing_r11_59 Ln _ _ _ j2 , _, rfl, h2⟩
  · refine zS1 (fun r he => B_X0_findComing_r11_2 Ln _ _ _ j2  (fun n => absurd n h1) (fun _ => he)) ?_
    have h3 := h3 h1
    obtain ⟨h4, h5⟩ := h3
    refine zS1 (fun r he => B_X0_findComing_r11_8 Ln _ _ _ j2 h4 he) ?_
    exact TL_X0_findComing_r11_17 hK2 _ h5
def W_X0_findComing_r11 (Ln : Nat) (I A : Nat → Nat → Int32) (Q : (Nat → Nat → Int32) → Prop) : Prop := ((zLoop (L_X0_findComing_r11_2 Ln I  Q) (0, A)))
set_option maxRecDepth 100000 in
theorem T_X0_findComing_r11 (Ln : Nat) (I A : Nat → Nat → Int32) (Q : (Nat → Nat → Int32) → Prop) (h0 : W_X0_findComing_r11 Ln I A Q) : zSem 2 0 0 0 [some (.ref 11), none, none] [] (zGs Ln I A) (fun r => ∃ A1, r = (none, zGs Ln I A1) ∧ Q A1) := by
  unfold W_X0_findComing_r11 at h0
  refine zS1 (fun r he => B_X0_findComing_r11_0 Ln _ _   he) ?_
  exact TL_X0_findComing_r11_2  _ h0 none
def SL_X0_findLoads_r11_2 (Ln : Nat) (I : Nat → Nat → Int32) (Q : (Nat → Nat → Int32) → Prop) : Int32 × (Nat → Nat → Int32) → Prop
  | (v1, A) => ∀  (j2 : Option Int32), zSem 3 2 0 0 [some (.ref 11), some (.int v1), (Option.map Value.int j2)] [] (zGs Ln I A) (fun r => ∃ A1, r = (none, zGs Ln I A1) ∧ Q A1)
def SL_X0_findLoads_r11_17 (Ln : Nat) (I : Nat → Nat → Int32) (v1 : Int32) (Q : (Nat → Nat → Int32) → Prop) : Int32 × (Nat → Nat → Int32) → Prop
  | (v2, A) => zSem 3 17 0 0 [some (.ref 11), some (.int v1), some (.int v2)] [] (zGs Ln I A) (fun r => ∃ A1, r = (none, zGs Ln I A1) ∧ Q A1)
def L_X0_findLoads_r11_17 (Ln : Nat) (I : Nat → Nat → Int32) (v1 : Int32) (K2 : Int32 × (Nat → Nat → Int32) → Prop) (Q : (Nat → Nat → Int32) → Prop) : Int32 × (Nat → Nat → Int32) → (Int32 × (Nat → Nat → Int32) → Prop) → Prop
  | (v2, A), K17 => ((((I 11 0) : Int32) ≤ v2 → ((K2 ((v1 + 1), A)))) ∧ (¬ (((I 11 0) : Int32) ≤ v2) → (((((v1 >>> (v2 &&& 31)) &&& 1) : Int32) ≠ 1 → ((K17 ((v2 + 1), A)))) ∧ (¬ ((((v1 >>> (v2 &&& 31)) &&& 1) : Int32) ≠ 1) → ((zin v1 64 = true) ∧ (W_X0_heavy_r11 Ln I A v2 (fun (r1 : Int32) => (∀ x2 : Int32, x2 = A 17 (v1).toNatClampNeg → ((zin v1 64 = true) ∧ ((K17 ((v2 + 1), (zw A 17 ((v1).toNatClampNeg) (x2 + r1))))))))))))))
set_option maxRecDepth 100000 in
theorem TL_X0_findLoads_r11_17 {Ln : Nat} {I : Nat → Nat → Int32} {v1 : Int32} {K2 : Int32 × (Nat → Nat → Int32) → Prop} {Q : (Nat → Nat → Int32) → Prop} (hK2 : ∀ p, K2 p → SL_X0_findLoads_r11_2 Ln I  Q p) : ∀ p, zLoop (L_X0_findLoads_r11_17 Ln I v1 K2 Q) p → SL_X0_findLoads_r11_17 Ln I v1 Q p := by
  refine zLoop.sound (Sem := SL_X0_findLoads_r11_17 Ln I v1 Q) ?_
  rintro ⟨v2, A⟩ K17 hK17 h0
  show zSem 3 17 0 0 [some (.ref 11), some (.int v1), some (.int v2)] [] (zGs Ln I A) (fun r => ∃ A1, r = (none, zGs Ln I A1) ∧ Q A1)
  change ((((I 11 0) : Int32) ≤ v2 → ((K2 ((v1 + 1), A)))) ∧ (¬ (((I 11 0) : Int32) ≤ v2) → (((((v1 >>> (v2 &&& 31)) &&& 1) : Int32) ≠ 1 → ((K17 ((v2 + 1), A)))) ∧ (¬ ((((v1 >>> (v2 &&& 31)) &&& 1) : Int32) ≠ 1) → ((zin v1 64 = true) ∧ (W_X0_heavy_r11 Ln I A v2 (fun (r1 : Int32) => (∀ x2 : Int32, x2 = A 17 (v1).toNatClampNeg → ((zin v1 64 = true) ∧ ((K17 ((v2 + 1), (zw A 17 ((v1).toNatClampNeg) (x2 + r1)))))))))))))) at h0
  obtain ⟨h2, h3⟩ := h0
  by_cases h1 : ((I 11 0) : Int32) ≤ v2
  · refine zS1 (fun r he => B_X0_findLoads_r11_17 Ln _ _ _ _  (fun _ => he) (fun n => absurd h1 n)) ?_
    have h2 := h2 h1
    refine zS1 (fun r he => B_X0_findLoads_r11_54 Ln _ _ _ _  he) ?_
    have q := hK2 _ h2
    exact q (some _)
  · refine zS1 (fun r he => B_X0_findLoads_r11_17 Ln _ _ _ _  (fun n => absurd n h1) (fun _ => he)) ?_
    have h3 := h3 h1
    obtain ⟨h5, h6⟩ := h3
    by_cases h4 : (((v1 >>> (v2 &&& 31)) &&& 1) : Int32) ≠ 1
    · refine zS1 (fun r he => B_X0_findLoads_r11_25 Ln _ _ _ _  (fun _ => he) (fun n => absurd h4 n)) ?_
      have h5 := h5 h4
      refine zS1 (fun r he => B_X0_findLoads_r11_48 Ln _ _ _ _  he) ?_
      have q := hK17 _ h5
      exact q
    · refine zS1 (fun r he => B_X0_findLoads_r11_25 Ln _ _ _ _  (fun n => absurd n h4) (fun _ => he)) ?_
      have h6 := h6 h4
      obtain ⟨h7, h8⟩ := h6
      obtain ⟨_, h9, r1, rfl, h10⟩ := T_X0_heavy_r11 Ln _ _ _ _ h8
      refine zS1 (fun r he => B_X0_findLoads_r11_34 Ln _ _ _ _ h7 h9 rfl he) ?_
      have h11 := h10 _ rfl
      obtain ⟨h12, h13⟩ := h11
      refine zS1 (fun r he => B_X0_findLoads_r11_46_s4 Ln _ _ _ _ _ _ _ h12 he) ?_
      refine zS1 (fun r he => B_X0_findLoads_r11_48 Ln _ _ _ _  he) ?_
      have q := hK17 _ h13
      exact q
def L_X0_findLoads_r11_2 (Ln : Nat) (I : Nat → Nat → Int32) (Q : (Nat → Nat → Int32) → Prop) : Int32 × (Nat → Nat → Int32) → (Int32 × (Nat → Nat → Int32) → Prop) → Prop
  | (v1, A), K2 => (((64 : Int32) ≤ v1 → (Q A)) ∧ (¬ ((64 : Int32) ≤ v1) → ((zin v1 64 = true) ∧ (zLoop (L_X0_findLoads_r11_17 Ln I v1 K2 Q) (0, (zw A 17 ((v1).toNatClampNeg) 0))))))
set_option maxRecDepth 100000 in
theorem TL_X0_findLoads_r11_2 {Ln : Nat} {I : Nat → Nat → Int32} {Q : (Nat → Nat → Int32) → Prop} : ∀ p, zLoop (L_X0_findLoads_r11_2 Ln I   Q) p → SL_X0_findLoads_r11_2 Ln I  Q p := by
  refine zLoop.sound (Sem := SL_X0_findLoads_r11_2 Ln I  Q) ?_
  rintro ⟨v1, A⟩ K2 hK2 h0
  intro j2
  show zSem 3 2 0 0 [some (.ref 11), some (.int v1), (Option.map Value.int j2)] [] (zGs Ln I A) (fun r => ∃ A1, r = (none, zGs Ln I A1) ∧ Q A1)
  change (((64 : Int32) ≤ v1 → (Q A)) ∧ (¬ ((64 : Int32) ≤ v1) → ((zin v1 64 = true) ∧ (zLoop (L_X0_findLoads_r11_17 Ln I v1 K2 Q) (0, (zw A 17 ((v1).toNatClampNeg) 0)))))) at h0
  obtain ⟨h2, h3⟩ := h0
  by_cases h1 : (64 : Int32) ≤ v1
  · refine zS1 (fun r he => B_X0_findLoads_r11_2 Ln _ _ _ j2  (fun _ => he) (fun n => absurd h1 n)) ?_
    have h2 := h2 h1
    exact ⟨_, B_X0_findLoads_r11_60 Ln _ _ _ j2 , _, rfl, h2⟩
  · refine zS1 (fun r he => B_X0_findLoads_r11_2 Ln _ _ _ j2  (fun n => absurd n h1) (fun _ => he)) ?_
    have h3 := h3 h1
    obtain ⟨h4, h5⟩ := h3
    refine zS1 (fun r he => B_X0_findLoads_r11_8 Ln _ _ _ j2 h4 he) ?_
    exact TL_X0_findLoads_r11_17 hK2 _ h5
def W_X0_findLoads_r11 (Ln : Nat) (I A : Nat → Nat → Int32) (Q : (Nat → Nat → Int32) → Prop) : Prop := ((zLoop (L_X0_findLoads_r11_2 Ln I  Q) (0, A)))
set_option maxRecDepth 100000 in
theorem T_X0_findLoads_r11 (Ln : Nat) (I A : Nat → Nat → Int32) (Q : (Nat → Nat → Int32) → Prop) (h0 : W_X0_findLoads_r11 Ln I A Q) : zSem 3 0 0 0 [some (.ref 11), none, none] [] (zGs Ln I A) (fun r => ∃ A1, r = (none, zGs Ln I A1) ∧ Q A1) := by
  unfold W_X0_findLoads_r11 at h0
  refine zS1 (fun r he => B_X0_findLoads_r11_0 Ln _ _   he) ?_
  exact TL_X0_findLoads_r11_2  _ h0 none
def W_X5_digit_r6 (Ln : Nat) (I A : Nat → Nat → Int32) (v1 : Int32) (Q : Int32 → Prop) : Prop := ((zin v1 60 = true) ∧ Q ((A 6 (v1).toNatClampNeg) - 48))
set_option maxRecDepth 100000 in
theorem T_X5_digit_r6 (Ln : Nat) (I A : Nat → Nat → Int32) (v1 : Int32) (Q : Int32 → Prop) (h0 : W_X5_digit_r6 Ln I A v1 Q) : zSem 32 0 0 0 [some (.ref 6), some (.int v1)] [] (zGs Ln I A) (fun r => ∃ x, r = (some (.int x), zGs Ln I A) ∧ Q x) := by
  unfold W_X5_digit_r6 at h0
  obtain ⟨h1, h2⟩ := h0
  exact ⟨_, B_X5_digit_r6_0 Ln _ _ _ h1, _, rfl, h2⟩
def W_X5_twoDigits_r6 (Ln : Nat) (I A : Nat → Nat → Int32) (v1 : Int32) (Q : Int32 → Prop) : Prop := ((W_X5_digit_r6 Ln I A v1 (fun (r1 : Int32) => ((W_X5_digit_r6 Ln I A (v1 + 1) (fun (r2 : Int32) => (Q ((10 * r1) + r2))))))))
set_option maxRecDepth 100000 in
theorem T_X5_twoDigits_r6 (Ln : Nat) (I A : Nat → Nat → Int32) (v1 : Int32) (Q : Int32 → Prop) (h0 : W_X5_twoDigits_r6 Ln I A v1 Q) : zSem 33 0 0 0 [some (.ref 6), some (.int v1)] [] (zGs Ln I A) (fun r => ∃ x, r = (some (.int x), zGs Ln I A) ∧ Q x) := by
  unfold W_X5_twoDigits_r6 at h0
  obtain ⟨_, h1, r1, rfl, h2⟩ := T_X5_digit_r6 Ln _ _ _ _ h0
  refine zS1 (fun r he => B_X5_twoDigits_r6_0 Ln _ _ _  h1 rfl he) ?_
  obtain ⟨_, h3, r2, rfl, h4⟩ := T_X5_digit_r6 Ln _ _ _ _ h2
  refine zS1 (fun r he => B_X5_twoDigits_r6_7_s2 Ln _ _ _ _ _  h3 rfl he) ?_
  exact ⟨_, B_X5_twoDigits_r6_15_s2 Ln _ _ _ _ _ , _, rfl, h4⟩
def W_X5_digit_r8 (Ln : Nat) (I A : Nat → Nat → Int32) (v1 : Int32) (Q : Int32 → Prop) : Prop := ((zin v1 60 = true) ∧ Q ((A 8 (v1).toNatClampNeg) - 48))
set_option maxRecDepth 100000 in
theorem T_X5_digit_r8 (Ln : Nat) (I A : Nat → Nat → Int32) (v1 : Int32) (Q : Int32 → Prop) (h0 : W_X5_digit_r8 Ln I A v1 Q) : zSem 32 0 0 0 [some (.ref 8), some (.int v1)] [] (zGs Ln I A) (fun r => ∃ x, r = (some (.int x), zGs Ln I A) ∧ Q x) := by
  unfold W_X5_digit_r8 at h0
  obtain ⟨h1, h2⟩ := h0
  exact ⟨_, B_X5_digit_r8_0 Ln _ _ _ h1, _, rfl, h2⟩
def W_X5_twoDigits_r8 (Ln : Nat) (I A : Nat → Nat → Int32) (v1 : Int32) (Q : Int32 → Prop) : Prop := ((W_X5_digit_r8 Ln I A v1 (fun (r1 : Int32) => ((W_X5_digit_r8 Ln I A (v1 + 1) (fun (r2 : Int32) => (Q ((10 * r1) + r2))))))))
set_option maxRecDepth 100000 in
theorem T_X5_twoDigits_r8 (Ln : Nat) (I A : Nat → Nat → Int32) (v1 : Int32) (Q : Int32 → Prop) (h0 : W_X5_twoDigits_r8 Ln I A v1 Q) : zSem 33 0 0 0 [some (.ref 8), some (.int v1)] [] (zGs Ln I A) (fun r => ∃ x, r = (some (.int x), zGs Ln I A) ∧ Q x) := by
  unfold W_X5_twoDigits_r8 at h0
  obtain ⟨_, h1, r1, rfl, h2⟩ := T_X5_digit_r8 Ln _ _ _ _ h0
  refine zS1 (fun r he => B_X5_twoDigits_r8_0 Ln _ _ _  h1 rfl he) ?_
  obtain ⟨_, h3, r2, rfl, h4⟩ := T_X5_digit_r8 Ln _ _ _ _ h2
  refine zS1 (fun r he => B_X5_twoDigits_r8_7_s2 Ln _ _ _ _ _  h3 rfl he) ?_
  exact ⟨_, B_X5_twoDigits_r8_15_s2 Ln _ _ _ _ _ , _, rfl, h4⟩
def W_X5_digit_r10 (Ln : Nat) (I A : Nat → Nat → Int32) (v1 : Int32) (Q : Int32 → Prop) : Prop := ((zin v1 60 = true) ∧ Q ((A 10 (v1).toNatClampNeg) - 48))
set_option maxRecDepth 100000 in
theorem T_X5_digit_r10 (Ln : Nat) (I A : Nat → Nat → Int32) (v1 : Int32) (Q : Int32 → Prop) (h0 : W_X5_digit_r10 Ln I A v1 Q) : zSem 32 0 0 0 [some (.ref 10), some (.int v1)] [] (zGs Ln I A) (fun r => ∃ x, r = (some (.int x), zGs Ln I A) ∧ Q x) := by
  unfold W_X5_digit_r10 at h0
  obtain ⟨h1, h2⟩ := h0
  exact ⟨_, B_X5_digit_r10_0 Ln _ _ _ h1, _, rfl, h2⟩
def W_X5_twoDigits_r10 (Ln : Nat) (I A : Nat → Nat → Int32) (v1 : Int32) (Q : Int32 → Prop) : Prop := ((W_X5_digit_r10 Ln I A v1 (fun (r1 : Int32) => ((W_X5_digit_r10 Ln I A (v1 + 1) (fun (r2 : Int32) => (Q ((10 * r1) + r2))))))))
set_option maxRecDepth 100000 in
theorem T_X5_twoDigits_r10 (Ln : Nat) (I A : Nat → Nat → Int32) (v1 : Int32) (Q : Int32 → Prop) (h0 : W_X5_twoDigits_r10 Ln I A v1 Q) : zSem 33 0 0 0 [some (.ref 10), some (.int v1)] [] (zGs Ln I A) (fun r => ∃ x, r = (some (.int x), zGs Ln I A) ∧ Q x) := by
  unfold W_X5_twoDigits_r10 at h0
  obtain ⟨_, h1, r1, rfl, h2⟩ := T_X5_digit_r10 Ln _ _ _ _ h0
  refine zS1 (fun r he => B_X5_twoDigits_r10_0 Ln _ _ _  h1 rfl he) ?_
  obtain ⟨_, h3, r2, rfl, h4⟩ := T_X5_digit_r10 Ln _ _ _ _ h2
  refine zS1 (fun r he => B_X5_twoDigits_r10_7_s2 Ln _ _ _ _ _  h3 rfl he) ?_
  exact ⟨_, B_X5_twoDigits_r10_15_s2 Ln _ _ _ _ _ , _, rfl, h4⟩
def SL_J7_fill_53178_r4_5 (Ln : Nat) (I : Nat → Nat → Int32) (v1 : Int32) (v3 : Int32) (Q : (Nat → Nat → Int32) → Prop) : Int32 × (Nat → Nat → Int32) → Prop
  | (v2, A) => zSem 163 5 0 0 [some (.ref 4), some (.int v1), some (.int v2), some (.int v3)] [] (zGs Ln I A) (fun r => ∃ A1, r = (none, zGs Ln I A1) ∧ Q A1)
def L_J7_fill_53178_r4_5 (Ln : Nat) (I : Nat → Nat → Int32) (v1 : Int32) (v3 : Int32) (Q : (Nat → Nat → Int32) → Prop) : Int32 × (Nat → Nat → Int32) → (Int32 × (Nat → Nat → Int32) → Prop) → Prop
  | (v2, A), K5 => (((v3 : Int32) ≤ v2 → (Q A)) ∧ (¬ ((v3 : Int32) ≤ v2) → ((zin v2 60 = true) ∧ (K5 ((v2 + 1), (zw A 4 ((v2).toNatClampNeg) v1))))))
set_option maxRecDepth 100000 in
theorem TL_J7_fill_53178_r4_5 {Ln : Nat} {I : Nat → Nat → Int32} {v1 : Int32} {v3 : Int32} {Q : (Nat → Nat → Int32) → Prop} : ∀ p, zLoop (L_J7_fill_53178_r4_5 Ln I v1 v3  Q) p → SL_J7_fill_53178_r4_5 Ln I v1 v3 Q p := by
  refine zLoop.sound (Sem := SL_J7_fill_53178_r4_5 Ln I v1 v3 Q) ?_
  rintro ⟨v2, A⟩ K5 hK5 h0
  show zSem 163 5 0 0 [some (.ref 4), some (.int v1), some (.int v2), some (.int v3)] [] (zGs Ln I A) (fun r => ∃ A1, r = (none, zGs Ln I A1) ∧ Q A1)
  change (((v3 : Int32) ≤ v2 → (Q A)) ∧ (¬ ((v3 : Int32) ≤ v2) → ((zin v2 60 = true) ∧ (K5 ((v2 + 1), (zw A 4 ((v2).toNatClampNeg) v1)))))) at h0
  obtain ⟨h2, h3⟩ := h0
  by_cases h1 : (v3 : Int32) ≤ v2
  · refine zS1 (fun r he => B_J7_fill_53178_r4_5 Ln _ _ _ _ _  (fun _ => he) (fun n => absurd h1 n)) ?_
    have h2 := h2 h1
    exact ⟨_, B_J7_fill_53178_r4_20 Ln _ _ _ _ _ , _, rfl, h2⟩
  · refine zS1 (fun r he => B_J7_fill_53178_r4_5 Ln _ _ _ _ _  (fun n => absurd n h1) (fun _ => he)) ?_
    have h3 := h3 h1
    obtain ⟨h4, h5⟩ := h3
    refine zS1 (fun r he => B_J7_fill_53178_r4_10 Ln _ _ _ _ _ h4 he) ?_
    have q := hK5 _ h5
    exact q
def W_J7_fill_53178_r4 (Ln : Nat) (I A : Nat → Nat → Int32) (v1 : Int32) (Q : (Nat → Nat → Int32) → Prop) : Prop := ((zLoop (L_J7_fill_53178_r4_5 Ln I v1 60  Q) (0, A)))
set_option maxRecDepth 100000 in
theorem T_J7_fill_53178_r4 (Ln : Nat) (I A : Nat → Nat → Int32) (v1 : Int32) (Q : (Nat → Nat → Int32) → Prop) (h0 : W_J7_fill_53178_r4 Ln I A v1 Q) : zSem 163 0 0 0 [some (.ref 4), some (.int v1), none, none] [] (zGs Ln I A) (fun r => ∃ A1, r = (none, zGs Ln I A1) ∧ Q A1) := by
  unfold W_J7_fill_53178_r4 at h0
  refine zS1 (fun r he => B_J7_fill_53178_r4_0 Ln _ _ _  he) ?_
  exact TL_J7_fill_53178_r4_5  _ h0
def SL_J7_fill_53178_r6_5 (Ln : Nat) (I : Nat → Nat → Int32) (v1 : Int32) (v3 : Int32) (Q : (Nat → Nat → Int32) → Prop) : Int32 × (Nat → Nat → Int32) → Prop
  | (v2, A) => zSem 163 5 0 0 [some (.ref 6), some (.int v1), some (.int v2), some (.int v3)] [] (zGs Ln I A) (fun r => ∃ A1, r = (none, zGs Ln I A1) ∧ Q A1)
def L_J7_fill_53178_r6_5 (Ln : Nat) (I : Nat → Nat → Int32) (v1 : Int32) (v3 : Int32) (Q : (Nat → Nat → Int32) → Prop) : Int32 × (Nat → Nat → Int32) → (Int32 × (Nat → Nat → Int32) → Prop) → Prop
  | (v2, A), K5 => (((v3 : Int32) ≤ v2 → (Q A)) ∧ (¬ ((v3 : Int32) ≤ v2) → ((zin v2 60 = true) ∧ (K5 ((v2 + 1), (zw A 6 ((v2).toNatClampNeg) v1))))))
set_option maxRecDepth 100000 in
theorem TL_J7_fill_53178_r6_5 {Ln : Nat} {I : Nat → Nat → Int32} {v1 : Int32} {v3 : Int32} {Q : (Nat → Nat → Int32) → Prop} : ∀ p, zLoop (L_J7_fill_53178_r6_5 Ln I v1 v3  Q) p → SL_J7_fill_53178_r6_5 Ln I v1 v3 Q p := by
  refine zLoop.sound (Sem := SL_J7_fill_53178_r6_5 Ln I v1 v3 Q) ?_
  rintro ⟨v2, A⟩ K5 hK5 h0
  show zSem 163 5 0 0 [some (.ref 6), some (.int v1), some (.int v2), some (.int v3)] [] (zGs Ln I A) (fun r => ∃ A1, r = (none, zGs Ln I A1) ∧ Q A1)
  change (((v3 : Int32) ≤ v2 → (Q A)) ∧ (¬ ((v3 : Int32) ≤ v2) → ((zin v2 60 = true) ∧ (K5 ((v2 + 1), (zw A 6 ((v2).toNatClampNeg) v1)))))) at h0
  obtain ⟨h2, h3⟩ := h0
  by_cases h1 : (v3 : Int32) ≤ v2
  · refine zS1 (fun r he => B_J7_fill_53178_r6_5 Ln _ _ _ _ _  (fun _ => he) (fun n => absurd h1 n)) ?_
    have h2 := h2 h1
    exact ⟨_, B_J7_fill_53178_r6_20 Ln _ _ _ _ _ , _, rfl, h2⟩
  · refine zS1 (fun r he => B_J7_fill_53178_r6_5 Ln _ _ _ _ _  (fun n => absurd n h1) (fun _ => he)) ?_
    have h3 := h3 h1
    obtain ⟨h4, h5⟩ := h3
    refine zS1 (fun r he => B_J7_fill_53178_r6_10 Ln _ _ _ _ _ h4 he) ?_
    have q := hK5 _ h5
    exact q
def W_J7_fill_53178_r6 (Ln : Nat) (I A : Nat → Nat → Int32) (v1 : Int32) (Q : (Nat → Nat → Int32) → Prop) : Prop := ((zLoop (L_J7_fill_53178_r6_5 Ln I v1 60  Q) (0, A)))
set_option maxRecDepth 100000 in
theorem T_J7_fill_53178_r6 (Ln : Nat) (I A : Nat → Nat → Int32) (v1 : Int32) (Q : (Nat → Nat → Int32) → Prop) (h0 : W_J7_fill_53178_r6 Ln I A v1 Q) : zSem 163 0 0 0 [some (.ref 6), some (.int v1), none, none] [] (zGs Ln I A) (fun r => ∃ A1, r = (none, zGs Ln I A1) ∧ Q A1) := by
  unfold W_J7_fill_53178_r6 at h0
  refine zS1 (fun r he => B_J7_fill_53178_r6_0 Ln _ _ _  he) ?_
  exact TL_J7_fill_53178_r6_5  _ h0

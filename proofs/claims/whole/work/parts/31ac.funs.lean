/-! methods, by program (wip/whole/gen_fun.py, gen_loop.py) -/
def V_X4_holds_r9 (Ln : Nat) (I A : Nat → Nat → Int32) (v1 : Int32) (v2 : Int32) : Int32 := if v1 < 0 then 0 else (if (I 9 3) < v1 then 0 else (if ((I 9 3) - v1) < v2 then 0 else 1))
set_option maxRecDepth 100000 in
theorem M_X4_holds_r9 (Ln : Nat) (I A : Nat → Nat → Int32) (v1 : Int32) (v2 : Int32) : zEv 23 0 0 0 [some (.ref 9), some (.int v1), some (.int v2)] [] (zGs Ln I A) (some (.int (V_X4_holds_r9 Ln I A v1 v2)), zGs Ln (I) (A)) := by
  unfold V_X4_holds_r9
  refine B_X4_holds_r9_0 Ln I A v1 v2  (fun q0 => ?_) (fun q0 => ?_)
  · try simp only [if_pos q0]
    refine B_X4_holds_r9_26 Ln I A v1 v2  ?_
    exact B_X4_holds_r9_27_s1 Ln I A v1 v2 0 
  · try simp only [if_neg q0]
    refine B_X4_holds_r9_4 Ln I A v1 v2  (fun q1 => ?_) (fun q1 => ?_)
    · try simp only [if_pos q1]
      refine B_X4_holds_r9_26 Ln I A v1 v2  ?_
      exact B_X4_holds_r9_27_s1 Ln I A v1 v2 0 
    · try simp only [if_neg q1]
      refine B_X4_holds_r9_12 Ln I A v1 v2  (fun q2 => ?_) (fun q2 => ?_)
      · try simp only [if_pos q2]
        refine B_X4_holds_r9_26 Ln I A v1 v2  ?_
        exact B_X4_holds_r9_27_s1 Ln I A v1 v2 0 
      · try simp only [if_neg q2]
        refine B_X4_holds_r9_22 Ln I A v1 v2  ?_
        exact B_X4_holds_r9_27_s1 Ln I A v1 v2 1 
def LA_J7_fill_53178_r27_5 : Nat → (Ln : Nat) → (I A : Nat → Nat → Int32) → Int32 → Int32 → Int32 → (Nat → Nat → Int32)
  | 0, Ln, I, A, v1, v2, v3 => A
  | m + 1, Ln, I, A, v1, v2, v3 => if v3 ≤ v2 then A else (LA_J7_fill_53178_r27_5 m Ln I (zw A 27 ((v2).toNatClampNeg) v1) v1 (v2 + 1) v3)
def PLA_J7_fill_53178_r27_5 : Nat → (Ln : Nat) → (I A : Nat → Nat → Int32) → Int32 → Int32 → Int32 → Prop
  | 0, Ln, I, A, v1, v2, v3 => False
  | m + 1, Ln, I, A, v1, v2, v3 => (v3 ≤ v2 → True) ∧ (¬ (v3 ≤ v2) → ((zin v2 64 = true) ∧ (PLA_J7_fill_53178_r27_5 m Ln I (zw A 27 ((v2).toNatClampNeg) v1) v1 (v2 + 1) v3)))
set_option maxRecDepth 100000 in
theorem MLA_J7_fill_53178_r27_5 (m Ln : Nat) : ∀ (I A : Nat → Nat → Int32) (v1 : Int32) (v2 : Int32) (v3 : Int32), PLA_J7_fill_53178_r27_5 m Ln I A v1 v2 v3 → zEv 163 5 0 0 [some (.ref 27), some (.int v1), some (.int v2), some (.int v3)] [] (zGs Ln I A) (none, zGs Ln I (LA_J7_fill_53178_r27_5 m Ln I A v1 v2 v3)) := by
  induction m with
  | zero => intro I A v1 v2 v3 h; exact h.elim
  | succ m ih =>
    intro I A v1 v2 v3 h
    simp only [PLA_J7_fill_53178_r27_5] at h
    simp only [LA_J7_fill_53178_r27_5]
    refine B_J7_fill_53178_r27_5 Ln I A v1 v2 v3  (fun q2 => ?_) (fun q2 => ?_)
    · try simp only [if_pos q2]
      exact B_J7_fill_53178_r27_20 Ln I A v1 v2 v3 
    · try simp only [if_neg q2]
      have h3 := h.2 q2
      obtain ⟨g4_0, r5_⟩ := h3
      refine B_J7_fill_53178_r27_10 Ln I A v1 v2 v3 g4_0 ?_
      exact ih I (zw A 27 ((v2).toNatClampNeg) v1) v1 (v2 + 1) v3 r5_
def SA_J7_fill_53178_r27 (Ln : Nat) (I A : Nat → Nat → Int32) (v1 : Int32) : Nat → Nat → Int32 := LA_J7_fill_53178_r27_5 1000 Ln I A v1 0 64
def P_J7_fill_53178_r27 (Ln : Nat) (I A : Nat → Nat → Int32) (v1 : Int32) : Prop := PLA_J7_fill_53178_r27_5 1000 Ln I A v1 0 64
set_option maxRecDepth 100000 in
theorem M_J7_fill_53178_r27 (Ln : Nat) (I A : Nat → Nat → Int32) (v1 : Int32) (h : P_J7_fill_53178_r27 Ln I A v1) : zEv 163 0 0 0 [some (.ref 27), some (.int v1), none, none] [] (zGs Ln I A) (none, zGs Ln (I) (SA_J7_fill_53178_r27 Ln I A v1)) := by
  unfold P_J7_fill_53178_r27 at h
  unfold SA_J7_fill_53178_r27
  refine B_J7_fill_53178_r27_0 Ln I A v1  ?_
  exact MLA_J7_fill_53178_r27_5 1000 Ln I A v1 0 64 h
def LA_J7_fill_53178_r36_5 : Nat → (Ln : Nat) → (I A : Nat → Nat → Int32) → Int32 → Int32 → Int32 → (Nat → Nat → Int32)
  | 0, Ln, I, A, v1, v2, v3 => A
  | m + 1, Ln, I, A, v1, v2, v3 => if v3 ≤ v2 then A else (LA_J7_fill_53178_r36_5 m Ln I (zw A 36 ((v2).toNatClampNeg) v1) v1 (v2 + 1) v3)
def PLA_J7_fill_53178_r36_5 : Nat → (Ln : Nat) → (I A : Nat → Nat → Int32) → Int32 → Int32 → Int32 → Prop
  | 0, Ln, I, A, v1, v2, v3 => False
  | m + 1, Ln, I, A, v1, v2, v3 => (v3 ≤ v2 → True) ∧ (¬ (v3 ≤ v2) → ((zin v2 6 = true) ∧ (PLA_J7_fill_53178_r36_5 m Ln I (zw A 36 ((v2).toNatClampNeg) v1) v1 (v2 + 1) v3)))
set_option maxRecDepth 100000 in
theorem MLA_J7_fill_53178_r36_5 (m Ln : Nat) : ∀ (I A : Nat → Nat → Int32) (v1 : Int32) (v2 : Int32) (v3 : Int32), PLA_J7_fill_53178_r36_5 m Ln I A v1 v2 v3 → zEv 163 5 0 0 [some (.ref 36), some (.int v1), some (.int v2), some (.int v3)] [] (zGs Ln I A) (none, zGs Ln I (LA_J7_fill_53178_r36_5 m Ln I A v1 v2 v3)) := by
  induction m with
  | zero => intro I A v1 v2 v3 h; exact h.elim
  | succ m ih =>
    intro I A v1 v2 v3 h
    simp only [PLA_J7_fill_53178_r36_5] at h
    simp only [LA_J7_fill_53178_r36_5]
    refine B_J7_fill_53178_r36_5 Ln I A v1 v2 v3  (fun q2 => ?_) (fun q2 => ?_)
    · try simp only [if_pos q2]
      exact B_J7_fill_53178_r36_20 Ln I A v1 v2 v3 
    · try simp only [if_neg q2]
      have h3 := h.2 q2
      obtain ⟨g4_0, r5_⟩ := h3
      refine B_J7_fill_53178_r36_10 Ln I A v1 v2 v3 g4_0 ?_
      exact ih I (zw A 36 ((v2).toNatClampNeg) v1) v1 (v2 + 1) v3 r5_
def SA_J7_fill_53178_r36 (Ln : Nat) (I A : Nat → Nat → Int32) (v1 : Int32) : Nat → Nat → Int32 := LA_J7_fill_53178_r36_5 1000 Ln I A v1 0 6
def P_J7_fill_53178_r36 (Ln : Nat) (I A : Nat → Nat → Int32) (v1 : Int32) : Prop := PLA_J7_fill_53178_r36_5 1000 Ln I A v1 0 6
set_option maxRecDepth 100000 in
theorem M_J7_fill_53178_r36 (Ln : Nat) (I A : Nat → Nat → Int32) (v1 : Int32) (h : P_J7_fill_53178_r36 Ln I A v1) : zEv 163 0 0 0 [some (.ref 36), some (.int v1), none, none] [] (zGs Ln I A) (none, zGs Ln (I) (SA_J7_fill_53178_r36 Ln I A v1)) := by
  unfold P_J7_fill_53178_r36 at h
  unfold SA_J7_fill_53178_r36
  refine B_J7_fill_53178_r36_0 Ln I A v1  ?_
  exact MLA_J7_fill_53178_r36_5 1000 Ln I A v1 0 6 h
def LA_J7_fill_53178_r41_5 : Nat → (Ln : Nat) → (I A : Nat → Nat → Int32) → Int32 → Int32 → Int32 → (Nat → Nat → Int32)
  | 0, Ln, I, A, v1, v2, v3 => A
  | m + 1, Ln, I, A, v1, v2, v3 => if v3 ≤ v2 then A else (LA_J7_fill_53178_r41_5 m Ln I (zw A 41 ((v2).toNatClampNeg) v1) v1 (v2 + 1) v3)
def PLA_J7_fill_53178_r41_5 : Nat → (Ln : Nat) → (I A : Nat → Nat → Int32) → Int32 → Int32 → Int32 → Prop
  | 0, Ln, I, A, v1, v2, v3 => False
  | m + 1, Ln, I, A, v1, v2, v3 => (v3 ≤ v2 → True) ∧ (¬ (v3 ≤ v2) → ((zin v2 6 = true) ∧ (PLA_J7_fill_53178_r41_5 m Ln I (zw A 41 ((v2).toNatClampNeg) v1) v1 (v2 + 1) v3)))
set_option maxRecDepth 100000 in
theorem MLA_J7_fill_53178_r41_5 (m Ln : Nat) : ∀ (I A : Nat → Nat → Int32) (v1 : Int32) (v2 : Int32) (v3 : Int32), PLA_J7_fill_53178_r41_5 m Ln I A v1 v2 v3 → zEv 163 5 0 0 [some (.ref 41), some (.int v1), some (.int v2), some (.int v3)] [] (zGs Ln I A) (none, zGs Ln I (LA_J7_fill_53178_r41_5 m Ln I A v1 v2 v3)) := by
  induction m with
  | zero => intro I A v1 v2 v3 h; exact h.elim
  | succ m ih =>
    intro I A v1 v2 v3 h
    simp only [PLA_J7_fill_53178_r41_5] at h
    simp only [LA_J7_fill_53178_r41_5]
    refine B_J7_fill_53178_r41_5 Ln I A v1 v2 v3  (fun q2 => ?_) (fun q2 => ?_)
    · try simp only [if_pos q2]
      exact B_J7_fill_53178_r41_20 Ln I A v1 v2 v3 
    · try simp only [if_neg q2]
      have h3 := h.2 q2
      obtain ⟨g4_0, r5_⟩ := h3
      refine B_J7_fill_53178_r41_10 Ln I A v1 v2 v3 g4_0 ?_
      exact ih I (zw A 41 ((v2).toNatClampNeg) v1) v1 (v2 + 1) v3 r5_
def SA_J7_fill_53178_r41 (Ln : Nat) (I A : Nat → Nat → Int32) (v1 : Int32) : Nat → Nat → Int32 := LA_J7_fill_53178_r41_5 1000 Ln I A v1 0 6
def P_J7_fill_53178_r41 (Ln : Nat) (I A : Nat → Nat → Int32) (v1 : Int32) : Prop := PLA_J7_fill_53178_r41_5 1000 Ln I A v1 0 6
set_option maxRecDepth 100000 in
theorem M_J7_fill_53178_r41 (Ln : Nat) (I A : Nat → Nat → Int32) (v1 : Int32) (h : P_J7_fill_53178_r41 Ln I A v1) : zEv 163 0 0 0 [some (.ref 41), some (.int v1), none, none] [] (zGs Ln I A) (none, zGs Ln (I) (SA_J7_fill_53178_r41 Ln I A v1)) := by
  unfold P_J7_fill_53178_r41 at h
  unfold SA_J7_fill_53178_r41
  refine B_J7_fill_53178_r41_0 Ln I A v1  ?_
  exact MLA_J7_fill_53178_r41_5 1000 Ln I A v1 0 6 h
def LA_X6_firstOf_r35_2 : Nat → (Ln : Nat) → (I A : Nat → Nat → Int32) → Int32 → Int32 → Int32
  | 0, Ln, I, A, v1, v2 => 0
  | m + 1, Ln, I, A, v1, v2 => if (I 11 0) ≤ v2 then 9 else (if ((v1 >>> ((A 40 (v2).toNatClampNeg) &&& 31)) &&& 1) ≠ 1 then (LA_X6_firstOf_r35_2 m Ln I A v1 (v2 + 1)) else (A 40 (v2).toNatClampNeg))
def PLA_X6_firstOf_r35_2 : Nat → (Ln : Nat) → (I A : Nat → Nat → Int32) → Int32 → Int32 → Prop
  | 0, Ln, I, A, v1, v2 => False
  | m + 1, Ln, I, A, v1, v2 => ((I 11 0) ≤ v2 → True) ∧ (¬ ((I 11 0) ≤ v2) → ((zin v2 6 = true) ∧ ((((v1 >>> ((A 40 (v2).toNatClampNeg) &&& 31)) &&& 1) ≠ 1 → (PLA_X6_firstOf_r35_2 m Ln I A v1 (v2 + 1))) ∧ (¬ (((v1 >>> ((A 40 (v2).toNatClampNeg) &&& 31)) &&& 1) ≠ 1) → (zin v2 6 = true)))))
set_option maxRecDepth 100000 in
theorem MLA_X6_firstOf_r35_2 (m Ln : Nat) : ∀ (I A : Nat → Nat → Int32) (v1 : Int32) (v2 : Int32), PLA_X6_firstOf_r35_2 m Ln I A v1 v2 → zEv 38 2 0 0 [some (.ref 35), some (.int v1), some (.int v2)] [] (zGs Ln I A) (some (.int (LA_X6_firstOf_r35_2 m Ln I A v1 v2)), zGs Ln I A) := by
  induction m with
  | zero => intro I A v1 v2 h; exact h.elim
  | succ m ih =>
    intro I A v1 v2 h
    simp only [PLA_X6_firstOf_r35_2] at h
    simp only [LA_X6_firstOf_r35_2]
    refine B_X6_firstOf_r35_2 Ln I A v1 v2  (fun q2 => ?_) (fun q2 => ?_)
    · try simp only [if_pos q2]
      exact B_X6_firstOf_r35_40 Ln I A v1 v2 
    · try simp only [if_neg q2]
      have h3 := h.2 q2
      obtain ⟨g4_0, r5_⟩ := h3
      refine B_X6_firstOf_r35_13 Ln I A v1 v2 g4_0 (fun q6 => ?_) (fun q6 => ?_)
      · try simp only [if_pos q6]
        have h7 := r5_.1 q6
        refine B_X6_firstOf_r35_34 Ln I A v1 v2  ?_
        exact ih I A v1 (v2 + 1) h7
      · try simp only [if_neg q6]
        have h10 := r5_.2 q6
        exact B_X6_firstOf_r35_27 Ln I A v1 v2 h10
def V_X6_firstOf_r35 (Ln : Nat) (I A : Nat → Nat → Int32) (v1 : Int32) : Int32 := LA_X6_firstOf_r35_2 1000 Ln I A v1 0
def P_X6_firstOf_r35 (Ln : Nat) (I A : Nat → Nat → Int32) (v1 : Int32) : Prop := PLA_X6_firstOf_r35_2 1000 Ln I A v1 0
set_option maxRecDepth 100000 in
theorem M_X6_firstOf_r35 (Ln : Nat) (I A : Nat → Nat → Int32) (v1 : Int32) (h : P_X6_firstOf_r35 Ln I A v1) : zEv 38 0 0 0 [some (.ref 35), some (.int v1), none] [] (zGs Ln I A) (some (.int (V_X6_firstOf_r35 Ln I A v1)), zGs Ln (I) (A)) := by
  unfold P_X6_firstOf_r35 at h
  unfold V_X6_firstOf_r35
  refine B_X6_firstOf_r35_0 Ln I A v1  ?_
  exact MLA_X6_firstOf_r35_2 1000 Ln I A v1 0 h
def V_X6_freed_r35 (Ln : Nat) (I A : Nat → Nat → Int32) (v1 : Int32) : Int32 := if v1 < 0 then 0 else (if v1 < 6 then (if (((zw A 41 ((v1).toNatClampNeg) ((A 41 (v1).toNatClampNeg) + 1)) 41) (v1).toNatClampNeg) ≠ (I 11 3) then 0 else (1 <<< (v1 &&& 31))) else 0)
def SA_X6_freed_r35 (Ln : Nat) (I A : Nat → Nat → Int32) (v1 : Int32) : Nat → Nat → Int32 := if v1 < 0 then A else (if v1 < 6 then (if (((zw A 41 ((v1).toNatClampNeg) ((A 41 (v1).toNatClampNeg) + 1)) 41) (v1).toNatClampNeg) ≠ (I 11 3) then (zw A 41 ((v1).toNatClampNeg) ((A 41 (v1).toNatClampNeg) + 1)) else (zw A 41 ((v1).toNatClampNeg) ((A 41 (v1).toNatClampNeg) + 1))) else A)
def P_X6_freed_r35 (Ln : Nat) (I A : Nat → Nat → Int32) (v1 : Int32) : Prop := (v1 < 0 → True) ∧ (¬ (v1 < 0) → ((v1 < 6 → ((zin v1 6 = true) ∧ (zin v1 6 = true) ∧ (zin v1 6 = true))) ∧ (¬ (v1 < 6) → True)))
set_option maxRecDepth 100000 in
theorem M_X6_freed_r35 (Ln : Nat) (I A : Nat → Nat → Int32) (v1 : Int32) (h : P_X6_freed_r35 Ln I A v1) : zEv 40 0 0 0 [some (.ref 35), some (.int v1)] [] (zGs Ln I A) (some (.int (V_X6_freed_r35 Ln I A v1)), zGs Ln (I) (SA_X6_freed_r35 Ln I A v1)) := by
  unfold P_X6_freed_r35 at h
  unfold V_X6_freed_r35 SA_X6_freed_r35
  refine B_X6_freed_r35_0 Ln I A v1  (fun q2 => ?_) (fun q2 => ?_)
  · try simp only [if_pos q2]
    exact B_X6_freed_r35_10 Ln I A v1 
  · try simp only [if_neg q2]
    have h3 := h.2 q2
    refine B_X6_freed_r35_4 Ln I A v1  (fun q6 => ?_) (fun q6 => ?_)
    · try simp only [if_pos q6]
      have h7 := h3.1 q6
      obtain ⟨g8_0, g8_1, g8_2⟩ := h7
      refine B_X6_freed_r35_12 Ln I A v1 g8_0 g8_1 g8_2 (fun q9 => ?_) (fun q9 => ?_)
      · try simp only [if_pos q9]
        refine B_X6_freed_r35_44 Ln I (zw A 41 ((v1).toNatClampNeg) ((A 41 (v1).toNatClampNeg) + 1)) v1  ?_
        exact B_X6_freed_r35_45_s1 Ln I (zw A 41 ((v1).toNatClampNeg) ((A 41 (v1).toNatClampNeg) + 1)) v1 0 
      · try simp only [if_neg q9]
        refine B_X6_freed_r35_38 Ln I (zw A 41 ((v1).toNatClampNeg) ((A 41 (v1).toNatClampNeg) + 1)) v1  ?_
        exact B_X6_freed_r35_45_s1 Ln I (zw A 41 ((v1).toNatClampNeg) ((A 41 (v1).toNatClampNeg) + 1)) v1 (1 <<< (v1 &&& 31)) 
    · try simp only [if_neg q6]
      exact B_X6_freed_r35_10 Ln I A v1 
def LA_X6_note_r35_2 : Nat → (Ln : Nat) → (I A : Nat → Nat → Int32) → Int32 → Int32 → Int32 → (Nat → Nat → Int32)
  | 0, Ln, I, A, v1, v2, v3 => A
  | m + 1, Ln, I, A, v1, v2, v3 => if (I 11 0) ≤ v3 then A else (if ((v1 >>> (v3 &&& 31)) &&& 1) ≠ 1 then (LA_X6_note_r35_2 m Ln I A v1 v2 (v3 + 1)) else (LA_X6_note_r35_2 m Ln I (zw A 36 ((v3).toNatClampNeg) v2) v1 v2 (v3 + 1)))
def PLA_X6_note_r35_2 : Nat → (Ln : Nat) → (I A : Nat → Nat → Int32) → Int32 → Int32 → Int32 → Prop
  | 0, Ln, I, A, v1, v2, v3 => False
  | m + 1, Ln, I, A, v1, v2, v3 => ((I 11 0) ≤ v3 → True) ∧ (¬ ((I 11 0) ≤ v3) → ((((v1 >>> (v3 &&& 31)) &&& 1) ≠ 1 → (PLA_X6_note_r35_2 m Ln I A v1 v2 (v3 + 1))) ∧ (¬ (((v1 >>> (v3 &&& 31)) &&& 1) ≠ 1) → ((zin v3 6 = true) ∧ (PLA_X6_note_r35_2 m Ln I (zw A 36 ((v3).toNatClampNeg) v2) v1 v2 (v3 + 1))))))
set_option maxRecDepth 100000 in
theorem MLA_X6_note_r35_2 (m Ln : Nat) : ∀ (I A : Nat → Nat → Int32) (v1 : Int32) (v2 : Int32) (v3 : Int32), PLA_X6_note_r35_2 m Ln I A v1 v2 v3 → zEv 41 2 0 0 [some (.ref 35), some (.int v1), some (.int v2), some (.int v3)] [] (zGs Ln I A) (none, zGs Ln I (LA_X6_note_r35_2 m Ln I A v1 v2 v3)) := by
  induction m with
  | zero => intro I A v1 v2 v3 h; exact h.elim
  | succ m ih =>
    intro I A v1 v2 v3 h
    simp only [PLA_X6_note_r35_2] at h
    simp only [LA_X6_note_r35_2]
    refine B_X6_note_r35_2 Ln I A v1 v2 v3  (fun q2 => ?_) (fun q2 => ?_)
    · try simp only [if_pos q2]
      exact B_X6_note_r35_35 Ln I A v1 v2 v3 
    · try simp only [if_neg q2]
      have h3 := h.2 q2
      refine B_X6_note_r35_13 Ln I A v1 v2 v3  (fun q6 => ?_) (fun q6 => ?_)
      · try simp only [if_pos q6]
        have h7 := h3.1 q6
        refine B_X6_note_r35_29 Ln I A v1 v2 v3  ?_
        exact ih I A v1 v2 (v3 + 1) h7
      · try simp only [if_neg q6]
        have h10 := h3.2 q6
        obtain ⟨g11_0, r12_⟩ := h10
        refine B_X6_note_r35_22 Ln I A v1 v2 v3 g11_0 ?_
        refine B_X6_note_r35_29 Ln I (zw A 36 ((v3).toNatClampNeg) v2) v1 v2 v3  ?_
        exact ih I (zw A 36 ((v3).toNatClampNeg) v2) v1 v2 (v3 + 1) r12_
def SA_X6_note_r35 (Ln : Nat) (I A : Nat → Nat → Int32) (v1 : Int32) (v2 : Int32) : Nat → Nat → Int32 := LA_X6_note_r35_2 1000 Ln I A v1 v2 0
def P_X6_note_r35 (Ln : Nat) (I A : Nat → Nat → Int32) (v1 : Int32) (v2 : Int32) : Prop := PLA_X6_note_r35_2 1000 Ln I A v1 v2 0
set_option maxRecDepth 100000 in
theorem M_X6_note_r35 (Ln : Nat) (I A : Nat → Nat → Int32) (v1 : Int32) (v2 : Int32) (h : P_X6_note_r35 Ln I A v1 v2) : zEv 41 0 0 0 [some (.ref 35), some (.int v1), some (.int v2), none] [] (zGs Ln I A) (none, zGs Ln (I) (SA_X6_note_r35 Ln I A v1 v2)) := by
  unfold P_X6_note_r35 at h
  unfold SA_X6_note_r35
  refine B_X6_note_r35_0 Ln I A v1 v2  ?_
  exact MLA_X6_note_r35_2 1000 Ln I A v1 v2 0 h
def V_X6_waitOf_r35 (Ln : Nat) (I A : Nat → Nat → Int32) (v1 : Int32) : Int32 := if (A 36 (v1).toNatClampNeg) ≠ ((-9)) then ((A 36 (v1).toNatClampNeg) - (A 15 (v1).toNatClampNeg)) else (60 - (A 15 (v1).toNatClampNeg))
def P_X6_waitOf_r35 (Ln : Nat) (I A : Nat → Nat → Int32) (v1 : Int32) : Prop := (zin v1 6 = true) ∧ (((A 36 (v1).toNatClampNeg) ≠ ((-9)) → ((zin v1 6 = true) ∧ (zin v1 6 = true))) ∧ (¬ ((A 36 (v1).toNatClampNeg) ≠ ((-9))) → (zin v1 6 = true)))
set_option maxRecDepth 100000 in
theorem M_X6_waitOf_r35 (Ln : Nat) (I A : Nat → Nat → Int32) (v1 : Int32) (h : P_X6_waitOf_r35 Ln I A v1) : zEv 42 0 0 0 [some (.ref 35), some (.int v1), none] [] (zGs Ln I A) (some (.int (V_X6_waitOf_r35 Ln I A v1)), zGs Ln (I) (A)) := by
  unfold P_X6_waitOf_r35 at h
  unfold V_X6_waitOf_r35
  obtain ⟨g0_0, r1_⟩ := h
  refine B_X6_waitOf_r35_0 Ln I A v1 g0_0 (fun q2 => ?_) (fun q2 => ?_)
  · try simp only [if_pos q2]
    have h3 := r1_.1 q2
    obtain ⟨g4_0, r5_⟩ := h3
    refine B_X6_waitOf_r35_16 Ln I A v1 g4_0 ?_
    exact B_X6_waitOf_r35_22_s1 Ln I A v1 (A 36 (v1).toNatClampNeg) r5_
  · try simp only [if_neg q2]
    have h7 := r1_.2 q2
    refine B_X6_waitOf_r35_11 Ln I A v1  ?_
    exact B_X6_waitOf_r35_22_s1 Ln I A v1 60 h7
def LA_X2_sum_r18_r20_5 : Nat → (Ln : Nat) → (I A : Nat → Nat → Int32) → Int32 → Int32 → Int32 → Int32
  | 0, Ln, I, A, v2, v3, v4 => 0
  | m + 1, Ln, I, A, v2, v3, v4 => if (I 18 3) ≤ v4 then v3 else (if (A 20 (v4).toNatClampNeg) ≠ v2 then (LA_X2_sum_r18_r20_5 m Ln I A v2 v3 (v4 + 1)) else (LA_X2_sum_r18_r20_5 m Ln I A v2 (v3 + (A 21 (v4).toNatClampNeg)) (v4 + 1)))
def PLA_X2_sum_r18_r20_5 : Nat → (Ln : Nat) → (I A : Nat → Nat → Int32) → Int32 → Int32 → Int32 → Prop
  | 0, Ln, I, A, v2, v3, v4 => False
  | m + 1, Ln, I, A, v2, v3, v4 => ((I 18 3) ≤ v4 → True) ∧ (¬ ((I 18 3) ≤ v4) → ((zin v4 6 = true) ∧ (((A 20 (v4).toNatClampNeg) ≠ v2 → (PLA_X2_sum_r18_r20_5 m Ln I A v2 v3 (v4 + 1))) ∧ (¬ ((A 20 (v4).toNatClampNeg) ≠ v2) → ((zin v4 6 = true) ∧ (PLA_X2_sum_r18_r20_5 m Ln I A v2 (v3 + (A 21 (v4).toNatClampNeg)) (v4 + 1)))))))
set_option maxRecDepth 100000 in
theorem MLA_X2_sum_r18_r20_5 (m Ln : Nat) : ∀ (I A : Nat → Nat → Int32) (v2 : Int32) (v3 : Int32) (v4 : Int32), PLA_X2_sum_r18_r20_5 m Ln I A v2 v3 v4 → zEv 17 5 0 0 [some (.ref 18), some (.ref 20), some (.int v2), some (.int v3), some (.int v4)] [] (zGs Ln I A) (some (.int (LA_X2_sum_r18_r20_5 m Ln I A v2 v3 v4)), zGs Ln I A) := by
  induction m with
  | zero => intro I A v2 v3 v4 h; exact h.elim
  | succ m ih =>
    intro I A v2 v3 v4 h
    simp only [PLA_X2_sum_r18_r20_5] at h
    simp only [LA_X2_sum_r18_r20_5]
    refine B_X2_sum_r18_r20_5 Ln I A v2 v3 v4  (fun q2 => ?_) (fun q2 => ?_)
    · try simp only [if_pos q2]
      exact B_X2_sum_r18_r20_38 Ln I A v2 v3 v4 
    · try simp only [if_neg q2]
      have h3 := h.2 q2
      obtain ⟨g4_0, r5_⟩ := h3
      refine B_X2_sum_r18_r20_14 Ln I A v2 v3 v4 g4_0 (fun q6 => ?_) (fun q6 => ?_)
      · try simp only [if_pos q6]
        have h7 := r5_.1 q6
        refine B_X2_sum_r18_r20_32 Ln I A v2 v3 v4  ?_
        exact ih I A v2 v3 (v4 + 1) h7
      · try simp only [if_neg q6]
        have h10 := r5_.2 q6
        obtain ⟨g11_0, r12_⟩ := h10
        refine B_X2_sum_r18_r20_22 Ln I A v2 v3 v4 g11_0 ?_
        refine B_X2_sum_r18_r20_32 Ln I A v2 (v3 + (A 21 (v4).toNatClampNeg)) v4  ?_
        exact ih I A v2 (v3 + (A 21 (v4).toNatClampNeg)) (v4 + 1) r12_
def V_X2_sum_r18_r20 (Ln : Nat) (I A : Nat → Nat → Int32) (v2 : Int32) : Int32 := LA_X2_sum_r18_r20_5 1000 Ln I A v2 0 0
def P_X2_sum_r18_r20 (Ln : Nat) (I A : Nat → Nat → Int32) (v2 : Int32) : Prop := PLA_X2_sum_r18_r20_5 1000 Ln I A v2 0 0
set_option maxRecDepth 100000 in
theorem M_X2_sum_r18_r20 (Ln : Nat) (I A : Nat → Nat → Int32) (v2 : Int32) (h : P_X2_sum_r18_r20 Ln I A v2) : zEv 17 0 0 0 [some (.ref 18), some (.ref 20), some (.int v2), none, none] [] (zGs Ln I A) (some (.int (V_X2_sum_r18_r20 Ln I A v2)), zGs Ln (I) (A)) := by
  unfold P_X2_sum_r18_r20 at h
  unfold V_X2_sum_r18_r20
  refine B_X2_sum_r18_r20_0 Ln I A v2  ?_
  exact MLA_X2_sum_r18_r20_5 1000 Ln I A v2 0 0 h
def LA_X0_whoPays_r11_r43_4 : Nat → (Ln : Nat) → (I A : Nat → Nat → Int32) → Int32 → Int32 → Int32
  | 0, Ln, I, A, v2, v3 => 0
  | m + 1, Ln, I, A, v2, v3 => if (I 11 0) ≤ v3 then v2 else (if (A 43 (v3).toNatClampNeg) < (V_X0_price_r11 Ln I A v3) then (LA_X0_whoPays_r11_r43_4 m Ln I A v2 (v3 + 1)) else (LA_X0_whoPays_r11_r43_4 m Ln I A (v2 ||| (1 <<< (v3 &&& 31))) (v3 + 1)))
def PLA_X0_whoPays_r11_r43_4 : Nat → (Ln : Nat) → (I A : Nat → Nat → Int32) → Int32 → Int32 → Prop
  | 0, Ln, I, A, v2, v3 => False
  | m + 1, Ln, I, A, v2, v3 => ((I 11 0) ≤ v3 → True) ∧ (¬ ((I 11 0) ≤ v3) → ((zin v3 6 = true) ∧ (P_X0_price_r11 Ln I A v3) ∧ (((A 43 (v3).toNatClampNeg) < (V_X0_price_r11 Ln I A v3) → (PLA_X0_whoPays_r11_r43_4 m Ln I A v2 (v3 + 1))) ∧ (¬ ((A 43 (v3).toNatClampNeg) < (V_X0_price_r11 Ln I A v3)) → (PLA_X0_whoPays_r11_r43_4 m Ln I A (v2 ||| (1 <<< (v3 &&& 31))) (v3 + 1))))))
set_option maxRecDepth 100000 in
theorem MLA_X0_whoPays_r11_r43_4 (m Ln : Nat) : ∀ (I A : Nat → Nat → Int32) (v2 : Int32) (v3 : Int32), PLA_X0_whoPays_r11_r43_4 m Ln I A v2 v3 → zEv 6 4 0 0 [some (.ref 11), some (.ref 43), some (.int v2), some (.int v3)] [] (zGs Ln I A) (some (.int (LA_X0_whoPays_r11_r43_4 m Ln I A v2 v3)), zGs Ln I A) := by
  induction m with
  | zero => intro I A v2 v3 h; exact h.elim
  | succ m ih =>
    intro I A v2 v3 h
    simp only [PLA_X0_whoPays_r11_r43_4] at h
    simp only [LA_X0_whoPays_r11_r43_4]
    refine B_X0_whoPays_r11_r43_4 Ln I A v2 v3  (fun q2 => ?_) (fun q2 => ?_)
    · try simp only [if_pos q2]
      exact B_X0_whoPays_r11_r43_35 Ln I A v2 v3 
    · try simp only [if_neg q2]
      have h3 := h.2 q2
      obtain ⟨g4_0, g4_1, r5_⟩ := h3
      refine B_X0_whoPays_r11_r43_12 Ln I A v2 v3 g4_0 (M_X0_price_r11 Ln I A v3 g4_1) rfl ?_
      refine B_X0_whoPays_r11_r43_20_s2 Ln I A v2 v3 (A 43 (v3).toNatClampNeg) (V_X0_price_r11 Ln I A v3)  (fun q8 => ?_) (fun q8 => ?_)
      · try simp only [if_pos q8]
        have h9 := r5_.1 q8
        refine B_X0_whoPays_r11_r43_29 Ln I A v2 v3  ?_
        exact ih I A v2 (v3 + 1) h9
      · try simp only [if_neg q8]
        have h12 := r5_.2 q8
        refine B_X0_whoPays_r11_r43_23 Ln I A v2 v3  ?_
        refine B_X0_whoPays_r11_r43_29 Ln I A (v2 ||| (1 <<< (v3 &&& 31))) v3  ?_
        exact ih I A (v2 ||| (1 <<< (v3 &&& 31))) (v3 + 1) h12
def V_X0_whoPays_r11_r43 (Ln : Nat) (I A : Nat → Nat → Int32) : Int32 := LA_X0_whoPays_r11_r43_4 1000 Ln I A 0 0
def P_X0_whoPays_r11_r43 (Ln : Nat) (I A : Nat → Nat → Int32) : Prop := PLA_X0_whoPays_r11_r43_4 1000 Ln I A 0 0
set_option maxRecDepth 100000 in
theorem M_X0_whoPays_r11_r43 (Ln : Nat) (I A : Nat → Nat → Int32) (h : P_X0_whoPays_r11_r43 Ln I A) : zEv 6 0 0 0 [some (.ref 11), some (.ref 43), none, none] [] (zGs Ln I A) (some (.int (V_X0_whoPays_r11_r43 Ln I A)), zGs Ln (I) (A)) := by
  unfold P_X0_whoPays_r11_r43 at h
  unfold V_X0_whoPays_r11_r43
  refine B_X0_whoPays_r11_r43_0 Ln I A   ?_
  exact MLA_X0_whoPays_r11_r43_4 1000 Ln I A 0 0 h
def LA_X2_sum_r18_r19_5 : Nat → (Ln : Nat) → (I A : Nat → Nat → Int32) → Int32 → Int32 → Int32 → Int32
  | 0, Ln, I, A, v2, v3, v4 => 0
  | m + 1, Ln, I, A, v2, v3, v4 => if (I 18 3) ≤ v4 then v3 else (if (A 19 (v4).toNatClampNeg) ≠ v2 then (LA_X2_sum_r18_r19_5 m Ln I A v2 v3 (v4 + 1)) else (LA_X2_sum_r18_r19_5 m Ln I A v2 (v3 + (A 21 (v4).toNatClampNeg)) (v4 + 1)))
def PLA_X2_sum_r18_r19_5 : Nat → (Ln : Nat) → (I A : Nat → Nat → Int32) → Int32 → Int32 → Int32 → Prop
  | 0, Ln, I, A, v2, v3, v4 => False
  | m + 1, Ln, I, A, v2, v3, v4 => ((I 18 3) ≤ v4 → True) ∧ (¬ ((I 18 3) ≤ v4) → ((zin v4 6 = true) ∧ (((A 19 (v4).toNatClampNeg) ≠ v2 → (PLA_X2_sum_r18_r19_5 m Ln I A v2 v3 (v4 + 1))) ∧ (¬ ((A 19 (v4).toNatClampNeg) ≠ v2) → ((zin v4 6 = true) ∧ (PLA_X2_sum_r18_r19_5 m Ln I A v2 (v3 + (A 21 (v4).toNatClampNeg)) (v4 + 1)))))))
set_option maxRecDepth 100000 in
theorem MLA_X2_sum_r18_r19_5 (m Ln : Nat) : ∀ (I A : Nat → Nat → Int32) (v2 : Int32) (v3 : Int32) (v4 : Int32), PLA_X2_sum_r18_r19_5 m Ln I A v2 v3 v4 → zEv 17 5 0 0 [some (.ref 18), some (.ref 19), some (.int v2), some (.int v3), some (.int v4)] [] (zGs Ln I A) (some (.int (LA_X2_sum_r18_r19_5 m Ln I A v2 v3 v4)), zGs Ln I A) := by
  induction m with
  | zero => intro I A v2 v3 v4 h; exact h.elim
  | succ m ih =>
    intro I A v2 v3 v4 h
    simp only [PLA_X2_sum_r18_r19_5] at h
    simp only [LA_X2_sum_r18_r19_5]
    refine B_X2_sum_r18_r19_5 Ln I A v2 v3 v4  (fun q2 => ?_) (fun q2 => ?_)
    · try simp only [if_pos q2]
      exact B_X2_sum_r18_r19_38 Ln I A v2 v3 v4 
    · try simp only [if_neg q2]
      have h3 := h.2 q2
      obtain ⟨g4_0, r5_⟩ := h3
      refine B_X2_sum_r18_r19_14 Ln I A v2 v3 v4 g4_0 (fun q6 => ?_) (fun q6 => ?_)
      · try simp only [if_pos q6]
        have h7 := r5_.1 q6
        refine B_X2_sum_r18_r19_32 Ln I A v2 v3 v4  ?_
        exact ih I A v2 v3 (v4 + 1) h7
      · try simp only [if_neg q6]
        have h10 := r5_.2 q6
        obtain ⟨g11_0, r12_⟩ := h10
        refine B_X2_sum_r18_r19_22 Ln I A v2 v3 v4 g11_0 ?_
        refine B_X2_sum_r18_r19_32 Ln I A v2 (v3 + (A 21 (v4).toNatClampNeg)) v4  ?_
        exact ih I A v2 (v3 + (A 21 (v4).toNatClampNeg)) (v4 + 1) r12_
def V_X2_sum_r18_r19 (Ln : Nat) (I A : Nat → Nat → Int32) (v2 : Int32) : Int32 := LA_X2_sum_r18_r19_5 1000 Ln I A v2 0 0
def P_X2_sum_r18_r19 (Ln : Nat) (I A : Nat → Nat → Int32) (v2 : Int32) : Prop := PLA_X2_sum_r18_r19_5 1000 Ln I A v2 0 0
set_option maxRecDepth 100000 in
theorem M_X2_sum_r18_r19 (Ln : Nat) (I A : Nat → Nat → Int32) (v2 : Int32) (h : P_X2_sum_r18_r19 Ln I A v2) : zEv 17 0 0 0 [some (.ref 18), some (.ref 19), some (.int v2), none, none] [] (zGs Ln I A) (some (.int (V_X2_sum_r18_r19 Ln I A v2)), zGs Ln (I) (A)) := by
  unfold P_X2_sum_r18_r19 at h
  unfold V_X2_sum_r18_r19
  refine B_X2_sum_r18_r19_0 Ln I A v2  ?_
  exact MLA_X2_sum_r18_r19_5 1000 Ln I A v2 0 0 h
def LA_J7_fill_53178_r29_5 : Nat → (Ln : Nat) → (I A : Nat → Nat → Int32) → Int32 → Int32 → Int32 → (Nat → Nat → Int32)
  | 0, Ln, I, A, v1, v2, v3 => A
  | m + 1, Ln, I, A, v1, v2, v3 => if v3 ≤ v2 then A else (LA_J7_fill_53178_r29_5 m Ln I (zw A 29 ((v2).toNatClampNeg) v1) v1 (v2 + 1) v3)
def PLA_J7_fill_53178_r29_5 : Nat → (Ln : Nat) → (I A : Nat → Nat → Int32) → Int32 → Int32 → Int32 → Prop
  | 0, Ln, I, A, v1, v2, v3 => False
  | m + 1, Ln, I, A, v1, v2, v3 => (v3 ≤ v2 → True) ∧ (¬ (v3 ≤ v2) → ((zin v2 6 = true) ∧ (PLA_J7_fill_53178_r29_5 m Ln I (zw A 29 ((v2).toNatClampNeg) v1) v1 (v2 + 1) v3)))
set_option maxRecDepth 100000 in
theorem MLA_J7_fill_53178_r29_5 (m Ln : Nat) : ∀ (I A : Nat → Nat → Int32) (v1 : Int32) (v2 : Int32) (v3 : Int32), PLA_J7_fill_53178_r29_5 m Ln I A v1 v2 v3 → zEv 163 5 0 0 [some (.ref 29), some (.int v1), some (.int v2), some (.int v3)] [] (zGs Ln I A) (none, zGs Ln I (LA_J7_fill_53178_r29_5 m Ln I A v1 v2 v3)) := by
  induction m with
  | zero => intro I A v1 v2 v3 h; exact h.elim
  | succ m ih =>
    intro I A v1 v2 v3 h
    simp only [PLA_J7_fill_53178_r29_5] at h
    simp only [LA_J7_fill_53178_r29_5]
    refine B_J7_fill_53178_r29_5 Ln I A v1 v2 v3  (fun q2 => ?_) (fun q2 => ?_)
    · try simp only [if_pos q2]
      exact B_J7_fill_53178_r29_20 Ln I A v1 v2 v3 
    · try simp only [if_neg q2]
      have h3 := h.2 q2
      obtain ⟨g4_0, r5_⟩ := h3
      refine B_J7_fill_53178_r29_10 Ln I A v1 v2 v3 g4_0 ?_
      exact ih I (zw A 29 ((v2).toNatClampNeg) v1) v1 (v2 + 1) v3 r5_
def SA_J7_fill_53178_r29 (Ln : Nat) (I A : Nat → Nat → Int32) (v1 : Int32) : Nat → Nat → Int32 := LA_J7_fill_53178_r29_5 1000 Ln I A v1 0 6
def P_J7_fill_53178_r29 (Ln : Nat) (I A : Nat → Nat → Int32) (v1 : Int32) : Prop := PLA_J7_fill_53178_r29_5 1000 Ln I A v1 0 6
set_option maxRecDepth 100000 in
theorem M_J7_fill_53178_r29 (Ln : Nat) (I A : Nat → Nat → Int32) (v1 : Int32) (h : P_J7_fill_53178_r29 Ln I A v1) : zEv 163 0 0 0 [some (.ref 29), some (.int v1), none, none] [] (zGs Ln I A) (none, zGs Ln (I) (SA_J7_fill_53178_r29 Ln I A v1)) := by
  unfold P_J7_fill_53178_r29 at h
  unfold SA_J7_fill_53178_r29
  refine B_J7_fill_53178_r29_0 Ln I A v1  ?_
  exact MLA_J7_fill_53178_r29_5 1000 Ln I A v1 0 6 h
def LA_J7_fill_53178_r34_5 : Nat → (Ln : Nat) → (I A : Nat → Nat → Int32) → Int32 → Int32 → Int32 → (Nat → Nat → Int32)
  | 0, Ln, I, A, v1, v2, v3 => A
  | m + 1, Ln, I, A, v1, v2, v3 => if v3 ≤ v2 then A else (LA_J7_fill_53178_r34_5 m Ln I (zw A 34 ((v2).toNatClampNeg) v1) v1 (v2 + 1) v3)
def PLA_J7_fill_53178_r34_5 : Nat → (Ln : Nat) → (I A : Nat → Nat → Int32) → Int32 → Int32 → Int32 → Prop
  | 0, Ln, I, A, v1, v2, v3 => False
  | m + 1, Ln, I, A, v1, v2, v3 => (v3 ≤ v2 → True) ∧ (¬ (v3 ≤ v2) → ((zin v2 6 = true) ∧ (PLA_J7_fill_53178_r34_5 m Ln I (zw A 34 ((v2).toNatClampNeg) v1) v1 (v2 + 1) v3)))
set_option maxRecDepth 100000 in
theorem MLA_J7_fill_53178_r34_5 (m Ln : Nat) : ∀ (I A : Nat → Nat → Int32) (v1 : Int32) (v2 : Int32) (v3 : Int32), PLA_J7_fill_53178_r34_5 m Ln I A v1 v2 v3 → zEv 163 5 0 0 [some (.ref 34), some (.int v1), some (.int v2), some (.int v3)] [] (zGs Ln I A) (none, zGs Ln I (LA_J7_fill_53178_r34_5 m Ln I A v1 v2 v3)) := by
  induction m with
  | zero => intro I A v1 v2 v3 h; exact h.elim
  | succ m ih =>
    intro I A v1 v2 v3 h
    simp only [PLA_J7_fill_53178_r34_5] at h
    simp only [LA_J7_fill_53178_r34_5]
    refine B_J7_fill_53178_r34_5 Ln I A v1 v2 v3  (fun q2 => ?_) (fun q2 => ?_)
    · try simp only [if_pos q2]
      exact B_J7_fill_53178_r34_20 Ln I A v1 v2 v3 
    · try simp only [if_neg q2]
      have h3 := h.2 q2
      obtain ⟨g4_0, r5_⟩ := h3
      refine B_J7_fill_53178_r34_10 Ln I A v1 v2 v3 g4_0 ?_
      exact ih I (zw A 34 ((v2).toNatClampNeg) v1) v1 (v2 + 1) v3 r5_
def SA_J7_fill_53178_r34 (Ln : Nat) (I A : Nat → Nat → Int32) (v1 : Int32) : Nat → Nat → Int32 := LA_J7_fill_53178_r34_5 1000 Ln I A v1 0 6
def P_J7_fill_53178_r34 (Ln : Nat) (I A : Nat → Nat → Int32) (v1 : Int32) : Prop := PLA_J7_fill_53178_r34_5 1000 Ln I A v1 0 6
set_option maxRecDepth 100000 in
theorem M_J7_fill_53178_r34 (Ln : Nat) (I A : Nat → Nat → Int32) (v1 : Int32) (h : P_J7_fill_53178_r34 Ln I A v1) : zEv 163 0 0 0 [some (.ref 34), some (.int v1), none, none] [] (zGs Ln I A) (none, zGs Ln (I) (SA_J7_fill_53178_r34 Ln I A v1)) := by
  unfold P_J7_fill_53178_r34 at h
  unfold SA_J7_fill_53178_r34
  refine B_J7_fill_53178_r34_0 Ln I A v1  ?_
  exact MLA_J7_fill_53178_r34_5 1000 Ln I A v1 0 6 h
def LA_X6_firstOf_r28_2 : Nat → (Ln : Nat) → (I A : Nat → Nat → Int32) → Int32 → Int32 → Int32
  | 0, Ln, I, A, v1, v2 => 0
  | m + 1, Ln, I, A, v1, v2 => if (I 11 0) ≤ v2 then 9 else (if ((v1 >>> ((A 33 (v2).toNatClampNeg) &&& 31)) &&& 1) ≠ 1 then (LA_X6_firstOf_r28_2 m Ln I A v1 (v2 + 1)) else (A 33 (v2).toNatClampNeg))
def PLA_X6_firstOf_r28_2 : Nat → (Ln : Nat) → (I A : Nat → Nat → Int32) → Int32 → Int32 → Prop
  | 0, Ln, I, A, v1, v2 => False
  | m + 1, Ln, I, A, v1, v2 => ((I 11 0) ≤ v2 → True) ∧ (¬ ((I 11 0) ≤ v2) → ((zin v2 6 = true) ∧ ((((v1 >>> ((A 33 (v2).toNatClampNeg) &&& 31)) &&& 1) ≠ 1 → (PLA_X6_firstOf_r28_2 m Ln I A v1 (v2 + 1))) ∧ (¬ (((v1 >>> ((A 33 (v2).toNatClampNeg) &&& 31)) &&& 1) ≠ 1) → (zin v2 6 = true)))))
set_option maxRecDepth 100000 in
theorem MLA_X6_firstOf_r28_2 (m Ln : Nat) : ∀ (I A : Nat → Nat → Int32) (v1 : Int32) (v2 : Int32), PLA_X6_firstOf_r28_2 m Ln I A v1 v2 → zEv 38 2 0 0 [some (.ref 28), some (.int v1), some (.int v2)] [] (zGs Ln I A) (some (.int (LA_X6_firstOf_r28_2 m Ln I A v1 v2)), zGs Ln I A) := by
  induction m with
  | zero => intro I A v1 v2 h; exact h.elim
  | succ m ih =>
    intro I A v1 v2 h
    simp only [PLA_X6_firstOf_r28_2] at h
    simp only [LA_X6_firstOf_r28_2]
    refine B_X6_firstOf_r28_2 Ln I A v1 v2  (fun q2 => ?_) (fun q2 => ?_)
    · try simp only [if_pos q2]
      exact B_X6_firstOf_r28_40 Ln I A v1 v2 
    · try simp only [if_neg q2]
      have h3 := h.2 q2
      obtain ⟨g4_0, r5_⟩ := h3
      refine B_X6_firstOf_r28_13 Ln I A v1 v2 g4_0 (fun q6 => ?_) (fun q6 => ?_)
      · try simp only [if_pos q6]
        have h7 := r5_.1 q6
        refine B_X6_firstOf_r28_34 Ln I A v1 v2  ?_
        exact ih I A v1 (v2 + 1) h7
      · try simp only [if_neg q6]
        have h10 := r5_.2 q6
        exact B_X6_firstOf_r28_27 Ln I A v1 v2 h10
def V_X6_firstOf_r28 (Ln : Nat) (I A : Nat → Nat → Int32) (v1 : Int32) : Int32 := LA_X6_firstOf_r28_2 1000 Ln I A v1 0
def P_X6_firstOf_r28 (Ln : Nat) (I A : Nat → Nat → Int32) (v1 : Int32) : Prop := PLA_X6_firstOf_r28_2 1000 Ln I A v1 0
set_option maxRecDepth 100000 in
theorem M_X6_firstOf_r28 (Ln : Nat) (I A : Nat → Nat → Int32) (v1 : Int32) (h : P_X6_firstOf_r28 Ln I A v1) : zEv 38 0 0 0 [some (.ref 28), some (.int v1), none] [] (zGs Ln I A) (some (.int (V_X6_firstOf_r28 Ln I A v1)), zGs Ln (I) (A)) := by
  unfold P_X6_firstOf_r28 at h
  unfold V_X6_firstOf_r28
  refine B_X6_firstOf_r28_0 Ln I A v1  ?_
  exact MLA_X6_firstOf_r28_2 1000 Ln I A v1 0 h
def V_X6_freed_r28 (Ln : Nat) (I A : Nat → Nat → Int32) (v1 : Int32) : Int32 := if v1 < 0 then 0 else (if v1 < 6 then (if (((zw A 34 ((v1).toNatClampNeg) ((A 34 (v1).toNatClampNeg) + 1)) 34) (v1).toNatClampNeg) ≠ (I 11 3) then 0 else (1 <<< (v1 &&& 31))) else 0)
def SA_X6_freed_r28 (Ln : Nat) (I A : Nat → Nat → Int32) (v1 : Int32) : Nat → Nat → Int32 := if v1 < 0 then A else (if v1 < 6 then (if (((zw A 34 ((v1).toNatClampNeg) ((A 34 (v1).toNatClampNeg) + 1)) 34) (v1).toNatClampNeg) ≠ (I 11 3) then (zw A 34 ((v1).toNatClampNeg) ((A 34 (v1).toNatClampNeg) + 1)) else (zw A 34 ((v1).toNatClampNeg) ((A 34 (v1).toNatClampNeg) + 1))) else A)
def P_X6_freed_r28 (Ln : Nat) (I A : Nat → Nat → Int32) (v1 : Int32) : Prop := (v1 < 0 → True) ∧ (¬ (v1 < 0) → ((v1 < 6 → ((zin v1 6 = true) ∧ (zin v1 6 = true) ∧ (zin v1 6 = true))) ∧ (¬ (v1 < 6) → True)))
set_option maxRecDepth 100000 in
theorem M_X6_freed_r28 (Ln : Nat) (I A : Nat → Nat → Int32) (v1 : Int32) (h : P_X6_freed_r28 Ln I A v1) : zEv 40 0 0 0 [some (.ref 28), some (.int v1)] [] (zGs Ln I A) (some (.int (V_X6_freed_r28 Ln I A v1)), zGs Ln (I) (SA_X6_freed_r28 Ln I A v1)) := by
  unfold P_X6_freed_r28 at h
  unfold V_X6_freed_r28 SA_X6_freed_r28
  refine B_X6_freed_r28_0 Ln I A v1  (fun q2 => ?_) (fun q2 => ?_)
  · try simp only [if_pos q2]
    exact B_X6_freed_r28_10 Ln I A v1 
  · try simp only [if_neg q2]
    have h3 := h.2 q2
    refine B_X6_freed_r28_4 Ln I A v1  (fun q6 => ?_) (fun q6 => ?_)
    · try simp only [if_pos q6]
      have h7 := h3.1 q6
      obtain ⟨g8_0, g8_1, g8_2⟩ := h7
      refine B_X6_freed_r28_12 Ln I A v1 g8_0 g8_1 g8_2 (fun q9 => ?_) (fun q9 => ?_)
      · try simp only [if_pos q9]
        refine B_X6_freed_r28_44 Ln I (zw A 34 ((v1).toNatClampNeg) ((A 34 (v1).toNatClampNeg) + 1)) v1  ?_
        exact B_X6_freed_r28_45_s1 Ln I (zw A 34 ((v1).toNatClampNeg) ((A 34 (v1).toNatClampNeg) + 1)) v1 0 
      · try simp only [if_neg q9]
        refine B_X6_freed_r28_38 Ln I (zw A 34 ((v1).toNatClampNeg) ((A 34 (v1).toNatClampNeg) + 1)) v1  ?_
        exact B_X6_freed_r28_45_s1 Ln I (zw A 34 ((v1).toNatClampNeg) ((A 34 (v1).toNatClampNeg) + 1)) v1 (1 <<< (v1 &&& 31)) 
    · try simp only [if_neg q6]
      exact B_X6_freed_r28_10 Ln I A v1 
def LA_X6_note_r28_2 : Nat → (Ln : Nat) → (I A : Nat → Nat → Int32) → Int32 → Int32 → Int32 → (Nat → Nat → Int32)
  | 0, Ln, I, A, v1, v2, v3 => A
  | m + 1, Ln, I, A, v1, v2, v3 => if (I 11 0) ≤ v3 then A else (if ((v1 >>> (v3 &&& 31)) &&& 1) ≠ 1 then (LA_X6_note_r28_2 m Ln I A v1 v2 (v3 + 1)) else (LA_X6_note_r28_2 m Ln I (zw A 29 ((v3).toNatClampNeg) v2) v1 v2 (v3 + 1)))
def PLA_X6_note_r28_2 : Nat → (Ln : Nat) → (I A : Nat → Nat → Int32) → Int32 → Int32 → Int32 → Prop
  | 0, Ln, I, A, v1, v2, v3 => False
  | m + 1, Ln, I, A, v1, v2, v3 => ((I 11 0) ≤ v3 → True) ∧ (¬ ((I 11 0) ≤ v3) → ((((v1 >>> (v3 &&& 31)) &&& 1) ≠ 1 → (PLA_X6_note_r28_2 m Ln I A v1 v2 (v3 + 1))) ∧ (¬ (((v1 >>> (v3 &&& 31)) &&& 1) ≠ 1) → ((zin v3 6 = true) ∧ (PLA_X6_note_r28_2 m Ln I (zw A 29 ((v3).toNatClampNeg) v2) v1 v2 (v3 + 1))))))
set_option maxRecDepth 100000 in
theorem MLA_X6_note_r28_2 (m Ln : Nat) : ∀ (I A : Nat → Nat → Int32) (v1 : Int32) (v2 : Int32) (v3 : Int32), PLA_X6_note_r28_2 m Ln I A v1 v2 v3 → zEv 41 2 0 0 [some (.ref 28), some (.int v1), some (.int v2), some (.int v3)] [] (zGs Ln I A) (none, zGs Ln I (LA_X6_note_r28_2 m Ln I A v1 v2 v3)) := by
  induction m with
  | zero => intro I A v1 v2 v3 h; exact h.elim
  | succ m ih =>
    intro I A v1 v2 v3 h
    simp only [PLA_X6_note_r28_2] at h
    simp only [LA_X6_note_r28_2]
    refine B_X6_note_r28_2 Ln I A v1 v2 v3  (fun q2 => ?_) (fun q2 => ?_)
    · try simp only [if_pos q2]
      exact B_X6_note_r28_35 Ln I A v1 v2 v3 
    · try simp only [if_neg q2]
      have h3 := h.2 q2
      refine B_X6_note_r28_13 Ln I A v1 v2 v3  (fun q6 => ?_) (fun q6 => ?_)
      · try simp only [if_pos q6]
        have h7 := h3.1 q6
        refine B_X6_note_r28_29 Ln I A v1 v2 v3  ?_
        exact ih I A v1 v2 (v3 + 1) h7
      · try simp only [if_neg q6]
        have h10 := h3.2 q6
        obtain ⟨g11_0, r12_⟩ := h10
        refine B_X6_note_r28_22 Ln I A v1 v2 v3 g11_0 ?_
        refine B_X6_note_r28_29 Ln I (zw A 29 ((v3).toNatClampNeg) v2) v1 v2 v3  ?_
        exact ih I (zw A 29 ((v3).toNatClampNeg) v2) v1 v2 (v3 + 1) r12_
def SA_X6_note_r28 (Ln : Nat) (I A : Nat → Nat → Int32) (v1 : Int32) (v2 : Int32) : Nat → Nat → Int32 := LA_X6_note_r28_2 1000 Ln I A v1 v2 0
def P_X6_note_r28 (Ln : Nat) (I A : Nat → Nat → Int32) (v1 : Int32) (v2 : Int32) : Prop := PLA_X6_note_r28_2 1000 Ln I A v1 v2 0
set_option maxRecDepth 100000 in
theorem M_X6_note_r28 (Ln : Nat) (I A : Nat → Nat → Int32) (v1 : Int32) (v2 : Int32) (h : P_X6_note_r28 Ln I A v1 v2) : zEv 41 0 0 0 [some (.ref 28), some (.int v1), some (.int v2), none] [] (zGs Ln I A) (none, zGs Ln (I) (SA_X6_note_r28 Ln I A v1 v2)) := by
  unfold P_X6_note_r28 at h
  unfold SA_X6_note_r28
  refine B_X6_note_r28_0 Ln I A v1 v2  ?_
  exact MLA_X6_note_r28_2 1000 Ln I A v1 v2 0 h
def V_X5_digit_r4 (Ln : Nat) (I A : Nat → Nat → Int32) (v1 : Int32) : Int32 := (A 4 (v1).toNatClampNeg) - 48
def P_X5_digit_r4 (Ln : Nat) (I A : Nat → Nat → Int32) (v1 : Int32) : Prop := (zin v1 60 = true)
set_option maxRecDepth 100000 in
theorem M_X5_digit_r4 (Ln : Nat) (I A : Nat → Nat → Int32) (v1 : Int32) (h : P_X5_digit_r4 Ln I A v1) : zEv 32 0 0 0 [some (.ref 4), some (.int v1)] [] (zGs Ln I A) (some (.int (V_X5_digit_r4 Ln I A v1)), zGs Ln (I) (A)) := by
  unfold P_X5_digit_r4 at h
  unfold V_X5_digit_r4
  exact B_X5_digit_r4_0 Ln I A v1 h
def V_X5_twoDigits_r4 (Ln : Nat) (I A : Nat → Nat → Int32) (v1 : Int32) : Int32 := (10 * (V_X5_digit_r4 Ln I A v1)) + (V_X5_digit_r4 Ln I A (v1 + 1))
def P_X5_twoDigits_r4 (Ln : Nat) (I A : Nat → Nat → Int32) (v1 : Int32) : Prop := (P_X5_digit_r4 Ln I A v1) ∧ (P_X5_digit_r4 Ln I A (v1 + 1))
set_option maxRecDepth 100000 in
theorem M_X5_twoDigits_r4 (Ln : Nat) (I A : Nat → Nat → Int32) (v1 : Int32) (h : P_X5_twoDigits_r4 Ln I A v1) : zEv 33 0 0 0 [some (.ref 4), some (.int v1)] [] (zGs Ln I A) (some (.int (V_X5_twoDigits_r4 Ln I A v1)), zGs Ln (I) (A)) := by
  unfold P_X5_twoDigits_r4 at h
  unfold V_X5_twoDigits_r4
  obtain ⟨g0_0, r1_⟩ := h
  refine B_X5_twoDigits_r4_0 Ln I A v1  (M_X5_digit_r4 Ln I A v1 g0_0) rfl ?_
  refine B_X5_twoDigits_r4_7_s2 Ln I A v1 10 (V_X5_digit_r4 Ln I A v1)  (M_X5_digit_r4 Ln I A (v1 + 1) r1_) rfl ?_
  exact B_X5_twoDigits_r4_15_s2 Ln I A v1 (10 * (V_X5_digit_r4 Ln I A v1)) (V_X5_digit_r4 Ln I A (v1 + 1)) 
def V_X5_kindOf (Ln : Nat) (I A : Nat → Nat → Int32) (v0 : Int32) : Int32 := if (v0 : Int32).toInt = 100 then 1 else (if (v0 : Int32).toInt = 108 then 2 else 0)
set_option maxRecDepth 100000 in
theorem M_X5_kindOf (Ln : Nat) (I A : Nat → Nat → Int32) (v0 : Int32) : zEv 31 0 0 0 [some (.int v0)] [] (zGs Ln I A) (some (.int (V_X5_kindOf Ln I A v0)), zGs Ln (I) (A)) := by
  unfold V_X5_kindOf
  refine B_X5_kindOf_0 Ln I A v0  (fun c0 => ?_) (fun c1 => ?_) (fun c0 c1 => ?_)
  ·  try simp only [if_pos c0]
    exact B_X5_kindOf_30 Ln I A v0 
  · have n0 : ¬ (v0 : Int32).toInt = 100 := (fun q => absurd (q.symm.trans c1) (by decide)); try simp only [if_neg n0, if_pos c1]
    exact B_X5_kindOf_28 Ln I A v0 
  · try simp only [if_neg c0, if_neg c1]
    exact B_X5_kindOf_32 Ln I A v0 

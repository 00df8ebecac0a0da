/-! sheets -/
theorem z32 (v : Int32) : -2147483648 ≤ v.toInt ∧ v.toInt < 2147483648 := by
  have h1 := Int32.le_toInt v
  have h2 := Int32.toInt_lt v
  omega
theorem z64_add (a b : Int32) : (Int32.toInt64 a + Int32.toInt64 b).toInt = a.toInt + b.toInt := by
  have h1 := z32 a
  have h2 := z32 b
  rw [Int64.toInt_add, Int32.toInt_toInt64, Int32.toInt_toInt64]
  exact Int.bmod_eq_of_le (by omega) (by omega)
theorem lgLe (x y : Int64) : lg_cmp x y ≤ 0 ↔ x.toInt ≤ y.toInt := by
  rw [← Int32.not_lt, lgP]; omega
theorem lgGe (x y : Int64) : 0 ≤ lg_cmp x y ↔ y.toInt ≤ x.toInt := by
  rw [← Int32.not_lt, lgN]; omega
theorem zgt_v {v : Int32} {n : Nat} (h : n < 2147483648) : zi n < v ↔ (n : Int) < v.toInt := by rw [Int32.lt_iff_toInt_lt, zi_toInt (by omega) (by omega)]
theorem zsub_v (n : Int) (v : Int32) : zi n - v = zi (n - v.toInt) := by rw [← zi_sub, zi_self]
theorem zv_ne {v : Int32} {n : Nat} (h : n < 2147483648) : v = zi n ↔ v.toInt = (n : Int) := by
  constructor
  · rintro rfl; exact zi_toInt (by omega) (by omega)
  · intro e; rw [← zi_self v, e]
def SHd (o c k : Nat) (b : Bool) (l n : Nat) (I A : Nat → Nat → Int32) : Prop := n ≤ 60 ∧ l < 3 ∧ I o 1 = (if b = true then 1 else 0) ∧ A 65 k = (if b = true then zi n else zi (-1)) ∧ (b = true → I o 2 = zi l ∧ I o 3 = zi n ∧ A 66 k = zi l ∧ ∀ i, i < n → A c i = A 67 (60 * k + i))
theorem SH1.d {o c k : Nat} {I A : Nat → Nat → Int32} (h : SH1 o c k I A) : ∃ b l n, SHd o c k b l n I A := by
  rcases h with ⟨h1, h2⟩ | ⟨n, l, h1, h2, h3, h4, h5, h6, h7, h8⟩
  · exact ⟨false, 0, 0, by decide, by decide, h1, h2, fun c => by cases c⟩
  · exact ⟨true, l, n, h1, h2, h3, h6, fun _ => ⟨h4, h5, h7, h8⟩⟩
theorem SHd.s {o c k : Nat} {b : Bool} {l n : Nat} {I A : Nat → Nat → Int32} (h : SHd o c k b l n I A) : SH1 o c k I A := by
  obtain ⟨h1, h2, h3, h4, h5⟩ := h
  cases b with
  | false => exact Or.inl ⟨h3, h4⟩
  | true => obtain ⟨e1, e2, e3, e4⟩ := h5 rfl; exact Or.inr ⟨n, l, h1, h2, h3, e1, e2, h4, e3, e4⟩
/-- the fault of n cells from i on, of a lane -/
def zff (b : Bool) (l n0 : Nat) (lane i n : Int32) : Int := if b = false then 1 else if lane = zi l then (if n.toInt < 0 then 4 else if 0 ≤ i.toInt ∧ i.toInt + n.toInt ≤ n0 then 0 else 3) else 2
theorem zff_le (b : Bool) (l n0 : Nat) (lane i n : Int32) : 0 ≤ zff b l n0 lane i n ∧ zff b l n0 lane i n ≤ 4 := by
  unfold zff; split
  · decide
  · split
    · split
      · decide
      · split <;> decide
    · decide
theorem zff_0 {b : Bool} {l n0 : Nat} {lane i n : Int32} (h : zff b l n0 lane i n = 0) : b = true ∧ lane = zi l ∧ 0 ≤ n.toInt ∧ 0 ≤ i.toInt ∧ i.toInt + n.toInt ≤ n0 := by
  unfold zff at h
  split at h
  · omega
  · next hb =>
    split at h
    · next hl =>
      split at h
      · omega
      · split at h
        · next hc => exact ⟨by simpa using hb, hl, by omega, hc.1, hc.2⟩
        · omega
    · omega
def zfn (b : Bool) (n0 : Nat) (i : Int32) : Int := if b = false then 1 else if 0 ≤ i.toInt ∧ i.toInt < n0 then 0 else 3
theorem zff_1 {b : Bool} {l n0 : Nat} {lane i : Int32} (h : b = true → lane = zi l) : zff b l n0 lane i 1 = zfn b n0 i := by
  unfold zff zfn
  have e : (1 : Int32).toInt = 1 := rfl
  rw [e]
  cases b with
  | false => rfl
  | true =>
    rw [if_neg (show ¬ true = false by decide), if_neg (show ¬ true = false by decide), if_pos (h rfl), if_neg (show ¬ (1 : Int) < 0 by decide)]
    by_cases c : 0 ≤ i.toInt ∧ i.toInt < n0
    · rw [if_pos c, if_pos (by omega)]
    · rw [if_neg c, if_neg (by omega)]
theorem C_holds_3 {Ln : Nat} {n0 : Nat} {I A : Nat → Nat → Int32} {i n : Int32} {Q : Int32 → Prop} (h3 : I 3 3 = zi n0) (hn : n0 ≤ 60) (h0 : 0 ≤ n.toInt) (hy : 0 ≤ i.toInt ∧ i.toInt + n.toInt ≤ n0 → Q 1) (hno : ¬ (0 ≤ i.toInt ∧ i.toInt + n.toInt ≤ n0) → Q 0) : W_X4_holds_r3 Ln I A i n Q := by
  have hi := z32 i
  have hn2 := z32 n
  unfold W_X4_holds_r3
  rw [h3, zlt0, zgt_v (by omega), zsub_v]
  refine ⟨fun c => hno (by omega), fun c => ⟨fun c2 => hno (by omega), fun c2 => ?_⟩⟩
  rw [Int32.lt_iff_toInt_lt, zi_toInt (by omega) (by omega)]
  exact ⟨fun c3 => hno (by omega), fun c3 => hy (by omega)⟩
theorem C_foc_3 {Ln : Nat} {b : Bool} {l n0 : Nat} {I A : Nat → Nat → Int32} {lane i n : Int32} {Q : Int32 → Prop} (hs : SHd 3 4 0 b l n0 I A) (hq : Q (zi (zff b l n0 lane i n))) : W_X4_faultOfCells_r3 Ln I A lane i n Q := by
  obtain ⟨h1, h2, h3, h4, h5⟩ := hs
  unfold W_X4_faultOfCells_r3
  cases b with
  | false =>
    rw [h3]
    exact ⟨fun c => absurd (by decide) c, fun _ => hq⟩
  | true =>
    obtain ⟨e1, e2, e3, e4⟩ := h5 rfl
    rw [h3, e1]
    unfold zff at hq
    rw [if_neg (by decide)] at hq
    refine ⟨fun _ => ⟨fun c => ?_, fun c => ?_⟩, fun c => absurd (by decide) c⟩
    · rw [if_pos c.symm] at hq
      refine ⟨fun c2 => ?_, fun c2 => ?_⟩
      · rw [Int32.le_iff_toInt_le, show (0 : Int32).toInt = 0 from rfl] at c2
        rw [if_neg (by omega)] at hq
        refine C_holds_3 e2 h1 c2 (fun c3 => ?_) (fun c3 => ?_)
        · rw [if_pos c3] at hq; exact ⟨fun c4 => absurd c4 (by decide), fun _ => hq⟩
        · rw [if_neg c3] at hq; exact ⟨fun _ => hq, fun c4 => absurd rfl c4⟩
      · rw [Int32.le_iff_toInt_le, show (0 : Int32).toInt = 0 from rfl] at c2
        rw [if_pos (by omega)] at hq; exact hq
    · rw [if_neg (fun q => c q.symm)] at hq; exact hq
theorem C_isSheet_0 {Ln : Nat} {I A : Nat → Nat → Int32} {Q : Int32 → Prop} (hq : Q 1) : W_X7_isSheet Ln I A 0 Q := by
  unfold W_X7_isSheet
  exact ⟨fun c => absurd c (by decide), fun _ => ⟨fun c => absurd c (by decide), fun _ => hq⟩⟩
theorem SH.set_0 {I A I' A' : Nat → Nat → Int32} (h : SH I A) (hI : ∀ o j, (o = 3 ∨ o = 5 ∨ o = 7 ∨ o = 9) → o ≠ 3 → I' o j = I o j) (h65 : ∀ q, q ≠ 0 → A' 65 q = A 65 q) (h66 : ∀ q, q ≠ 0 → A' 66 q = A 66 q) (hA : ∀ a, (a = 4 ∨ a = 6 ∨ a = 8 ∨ a = 10) → a ≠ 4 → A' a = A a) (h67 : ∀ j, (j < 60 * 0 ∨ 60 * 0 + 60 ≤ j) → A' 67 j = A 67 j) (hn : SH1 3 4 0 I' A') : SH I' A' := by
  obtain ⟨h1, h2, h3, h4⟩ := h
  refine ⟨?_, ?_, ?_, ?_⟩
  · first | exact hn | exact h1.fr (fun j _ _ => hI 3 j (by decide) (by decide)) (h65 _ (by decide)) (h66 _ (by decide)) (fun i _ => by rw [hA 4 (by decide) (by decide)]) (fun i hi => h67 _ (by omega))
  · first | exact hn | exact h2.fr (fun j _ _ => hI 5 j (by decide) (by decide)) (h65 _ (by decide)) (h66 _ (by decide)) (fun i _ => by rw [hA 6 (by decide) (by decide)]) (fun i hi => h67 _ (by omega))
  · first | exact hn | exact h3.fr (fun j _ _ => hI 7 j (by decide) (by decide)) (h65 _ (by decide)) (h66 _ (by decide)) (fun i _ => by rw [hA 8 (by decide) (by decide)]) (fun i hi => h67 _ (by omega))
  · first | exact hn | exact h4.fr (fun j _ _ => hI 9 j (by decide) (by decide)) (h65 _ (by decide)) (h66 _ (by decide)) (fun i _ => by rw [hA 10 (by decide) (by decide)]) (fun i hi => h67 _ (by omega))
theorem SH.at_0 {I A : Nat → Nat → Int32} (h : SH I A) : SH1 3 4 0 I A := by
  obtain ⟨h1, h2, h3, h4⟩ := h
  first | exact h1 | exact h2 | exact h3 | exact h4
theorem C_holds_5 {Ln : Nat} {n0 : Nat} {I A : Nat → Nat → Int32} {i n : Int32} {Q : Int32 → Prop} (h3 : I 5 3 = zi n0) (hn : n0 ≤ 60) (h0 : 0 ≤ n.toInt) (hy : 0 ≤ i.toInt ∧ i.toInt + n.toInt ≤ n0 → Q 1) (hno : ¬ (0 ≤ i.toInt ∧ i.toInt + n.toInt ≤ n0) → Q 0) : W_X4_holds_r5 Ln I A i n Q := by
  have hi := z32 i
  have hn2 := z32 n
  unfold W_X4_holds_r5
  rw [h3, zlt0, zgt_v (by omega), zsub_v]
  refine ⟨fun c => hno (by omega), fun c => ⟨fun c2 => hno (by omega), fun c2 => ?_⟩⟩
  rw [Int32.lt_iff_toInt_lt, zi_toInt (by omega) (by omega)]
  exact ⟨fun c3 => hno (by omega), fun c3 => hy (by omega)⟩
theorem C_foc_5 {Ln : Nat} {b : Bool} {l n0 : Nat} {I A : Nat → Nat → Int32} {lane i n : Int32} {Q : Int32 → Prop} (hs : SHd 5 6 1 b l n0 I A) (hq : Q (zi (zff b l n0 lane i n))) : W_X4_faultOfCells_r5 Ln I A lane i n Q := by
  obtain ⟨h1, h2, h3, h4, h5⟩ := hs
  unfold W_X4_faultOfCells_r5
  cases b with
  | false =>
    rw [h3]
    exact ⟨fun c => absurd (by decide) c, fun _ => hq⟩
  | true =>
    obtain ⟨e1, e2, e3, e4⟩ := h5 rfl
    rw [h3, e1]
    unfold zff at hq
    rw [if_neg (by decide)] at hq
    refine ⟨fun _ => ⟨fun c => ?_, fun c => ?_⟩, fun c => absurd (by decide) c⟩
    · rw [if_pos c.symm] at hq
      refine ⟨fun c2 => ?_, fun c2 => ?_⟩
      · rw [Int32.le_iff_toInt_le, show (0 : Int32).toInt = 0 from rfl] at c2
        rw [if_neg (by omega)] at hq
        refine C_holds_5 e2 h1 c2 (fun c3 => ?_) (fun c3 => ?_)
        · rw [if_pos c3] at hq; exact ⟨fun c4 => absurd c4 (by decide), fun _ => hq⟩
        · rw [if_neg c3] at hq; exact ⟨fun _ => hq, fun c4 => absurd rfl c4⟩
      · rw [Int32.le_iff_toInt_le, show (0 : Int32).toInt = 0 from rfl] at c2
        rw [if_pos (by omega)] at hq; exact hq
    · rw [if_neg (fun q => c q.symm)] at hq; exact hq
theorem C_isSheet_1 {Ln : Nat} {I A : Nat → Nat → Int32} {Q : Int32 → Prop} (hq : Q 1) : W_X7_isSheet Ln I A 1 Q := by
  unfold W_X7_isSheet
  exact ⟨fun c => absurd c (by decide), fun _ => ⟨fun c => absurd c (by decide), fun _ => hq⟩⟩
theorem SH.set_1 {I A I' A' : Nat → Nat → Int32} (h : SH I A) (hI : ∀ o j, (o = 3 ∨ o = 5 ∨ o = 7 ∨ o = 9) → o ≠ 5 → I' o j = I o j) (h65 : ∀ q, q ≠ 1 → A' 65 q = A 65 q) (h66 : ∀ q, q ≠ 1 → A' 66 q = A 66 q) (hA : ∀ a, (a = 4 ∨ a = 6 ∨ a = 8 ∨ a = 10) → a ≠ 6 → A' a = A a) (h67 : ∀ j, (j < 60 * 1 ∨ 60 * 1 + 60 ≤ j) → A' 67 j = A 67 j) (hn : SH1 5 6 1 I' A') : SH I' A' := by
  obtain ⟨h1, h2, h3, h4⟩ := h
  refine ⟨?_, ?_, ?_, ?_⟩
  · first | exact hn | exact h1.fr (fun j _ _ => hI 3 j (by decide) (by decide)) (h65 _ (by decide)) (h66 _ (by decide)) (fun i _ => by rw [hA 4 (by decide) (by decide)]) (fun i hi => h67 _ (by omega))
  · first | exact hn | exact h2.fr (fun j _ _ => hI 5 j (by decide) (by decide)) (h65 _ (by decide)) (h66 _ (by decide)) (fun i _ => by rw [hA 6 (by decide) (by decide)]) (fun i hi => h67 _ (by omega))
  · first | exact hn | exact h3.fr (fun j _ _ => hI 7 j (by decide) (by decide)) (h65 _ (by decide)) (h66 _ (by decide)) (fun i _ => by rw [hA 8 (by decide) (by decide)]) (fun i hi => h67 _ (by omega))
  · first | exact hn | exact h4.fr (fun j _ _ => hI 9 j (by decide) (by decide)) (h65 _ (by decide)) (h66 _ (by decide)) (fun i _ => by rw [hA 10 (by decide) (by decide)]) (fun i hi => h67 _ (by omega))
theorem SH.at_1 {I A : Nat → Nat → Int32} (h : SH I A) : SH1 5 6 1 I A := by
  obtain ⟨h1, h2, h3, h4⟩ := h
  first | exact h1 | exact h2 | exact h3 | exact h4
theorem C_holds_7 {Ln : Nat} {n0 : Nat} {I A : Nat → Nat → Int32} {i n : Int32} {Q : Int32 → Prop} (h3 : I 7 3 = zi n0) (hn : n0 ≤ 60) (h0 : 0 ≤ n.toInt) (hy : 0 ≤ i.toInt ∧ i.toInt + n.toInt ≤ n0 → Q 1) (hno : ¬ (0 ≤ i.toInt ∧ i.toInt + n.toInt ≤ n0) → Q 0) : W_X4_holds_r7 Ln I A i n Q := by
  have hi := z32 i
  have hn2 := z32 n
  unfold W_X4_holds_r7
  rw [h3, zlt0, zgt_v (by omega), zsub_v]
  refine ⟨fun c => hno (by omega), fun c => ⟨fun c2 => hno (by omega), fun c2 => ?_⟩⟩
  rw [Int32.lt_iff_toInt_lt, zi_toInt (by omega) (by omega)]
  exact ⟨fun c3 => hno (by omega), fun c3 => hy (by omega)⟩
theorem C_foc_7 {Ln : Nat} {b : Bool} {l n0 : Nat} {I A : Nat → Nat → Int32} {lane i n : Int32} {Q : Int32 → Prop} (hs : SHd 7 8 2 b l n0 I A) (hq : Q (zi (zff b l n0 lane i n))) : W_X4_faultOfCells_r7 Ln I A lane i n Q := by
  obtain ⟨h1, h2, h3, h4, h5⟩ := hs
  unfold W_X4_faultOfCells_r7
  cases b with
  | false =>
    rw [h3]
    exact ⟨fun c => absurd (by decide) c, fun _ => hq⟩
  | true =>
    obtain ⟨e1, e2, e3, e4⟩ := h5 rfl
    rw [h3, e1]
    unfold zff at hq
    rw [if_neg (by decide)] at hq
    refine ⟨fun _ => ⟨fun c => ?_, fun c => ?_⟩, fun c => absurd (by decide) c⟩
    · rw [if_pos c.symm] at hq
      refine ⟨fun c2 => ?_, fun c2 => ?_⟩
      · rw [Int32.le_iff_toInt_le, show (0 : Int32).toInt = 0 from rfl] at c2
        rw [if_neg (by omega)] at hq
        refine C_holds_7 e2 h1 c2 (fun c3 => ?_) (fun c3 => ?_)
        · rw [if_pos c3] at hq; exact ⟨fun c4 => absurd c4 (by decide), fun _ => hq⟩
        · rw [if_neg c3] at hq; exact ⟨fun _ => hq, fun c4 => absurd rfl c4⟩
      · rw [Int32.le_iff_toInt_le, show (0 : Int32).toInt = 0 from rfl] at c2
        rw [if_pos (by omega)] at hq; exact hq
    · rw [if_neg (fun q => c q.symm)] at hq; exact hq
theorem C_isSheet_2 {Ln : Nat} {I A : Nat → Nat → Int32} {Q : Int32 → Prop} (hq : Q 1) : W_X7_isSheet Ln I A 2 Q := by
  unfold W_X7_isSheet
  exact ⟨fun c => absurd c (by decide), fun _ => ⟨fun c => absurd c (by decide), fun _ => hq⟩⟩
theorem SH.set_2 {I A I' A' : Nat → Nat → Int32} (h : SH I A) (hI : ∀ o j, (o = 3 ∨ o = 5 ∨ o = 7 ∨ o = 9) → o ≠ 7 → I' o j = I o j) (h65 : ∀ q, q ≠ 2 → A' 65 q = A 65 q) (h66 : ∀ q, q ≠ 2 → A' 66 q = A 66 q) (hA : ∀ a, (a = 4 ∨ a = 6 ∨ a = 8 ∨ a = 10) → a ≠ 8 → A' a = A a) (h67 : ∀ j, (j < 60 * 2 ∨ 60 * 2 + 60 ≤ j) → A' 67 j = A 67 j) (hn : SH1 7 8 2 I' A') : SH I' A' := by
  obtain ⟨h1, h2, h3, h4⟩ := h
  refine ⟨?_, ?_, ?_, ?_⟩
  · first | exact hn | exact h1.fr (fun j _ _ => hI 3 j (by decide) (by decide)) (h65 _ (by decide)) (h66 _ (by decide)) (fun i _ => by rw [hA 4 (by decide) (by decide)]) (fun i hi => h67 _ (by omega))
  · first | exact hn | exact h2.fr (fun j _ _ => hI 5 j (by decide) (by decide)) (h65 _ (by decide)) (h66 _ (by decide)) (fun i _ => by rw [hA 6 (by decide) (by decide)]) (fun i hi => h67 _ (by omega))
  · first | exact hn | exact h3.fr (fun j _ _ => hI 7 j (by decide) (by decide)) (h65 _ (by decide)) (h66 _ (by decide)) (fun i _ => by rw [hA 8 (by decide) (by decide)]) (fun i hi => h67 _ (by omega))
  · first | exact hn | exact h4.fr (fun j _ _ => hI 9 j (by decide) (by decide)) (h65 _ (by decide)) (h66 _ (by decide)) (fun i _ => by rw [hA 10 (by decide) (by decide)]) (fun i hi => h67 _ (by omega))
theorem SH.at_2 {I A : Nat → Nat → Int32} (h : SH I A) : SH1 7 8 2 I A := by
  obtain ⟨h1, h2, h3, h4⟩ := h
  first | exact h1 | exact h2 | exact h3 | exact h4
theorem C_holds_9 {Ln : Nat} {n0 : Nat} {I A : Nat → Nat → Int32} {i n : Int32} {Q : Int32 → Prop} (h3 : I 9 3 = zi n0) (hn : n0 ≤ 60) (h0 : 0 ≤ n.toInt) (hy : 0 ≤ i.toInt ∧ i.toInt + n.toInt ≤ n0 → Q 1) (hno : ¬ (0 ≤ i.toInt ∧ i.toInt + n.toInt ≤ n0) → Q 0) : W_X4_holds_r9 Ln I A i n Q := by
  have hi := z32 i
  have hn2 := z32 n
  unfold W_X4_holds_r9
  rw [h3, zlt0, zgt_v (by omega), zsub_v]
  refine ⟨fun c => hno (by omega), fun c => ⟨fun c2 => hno (by omega), fun c2 => ?_⟩⟩
  rw [Int32.lt_iff_toInt_lt, zi_toInt (by omega) (by omega)]
  exact ⟨fun c3 => hno (by omega), fun c3 => hy (by omega)⟩
theorem C_foc_9 {Ln : Nat} {b : Bool} {l n0 : Nat} {I A : Nat → Nat → Int32} {lane i n : Int32} {Q : Int32 → Prop} (hs : SHd 9 10 3 b l n0 I A) (hq : Q (zi (zff b l n0 lane i n))) : W_X4_faultOfCells_r9 Ln I A lane i n Q := by
  obtain ⟨h1, h2, h3, h4, h5⟩ := hs
  unfold W_X4_faultOfCells_r9
  cases b with
  | false =>
    rw [h3]
    exact ⟨fun c => absurd (by decide) c, fun _ => hq⟩
  | true =>
    obtain ⟨e1, e2, e3, e4⟩ := h5 rfl
    rw [h3, e1]
    unfold zff at hq
    rw [if_neg (by decide)] at hq
    refine ⟨fun _ => ⟨fun c => ?_, fun c => ?_⟩, fun c => absurd (by decide) c⟩
    · rw [if_pos c.symm] at hq
      refine ⟨fun c2 => ?_, fun c2 => ?_⟩
      · rw [Int32.le_iff_toInt_le, show (0 : Int32).toInt = 0 from rfl] at c2
        rw [if_neg (by omega)] at hq
        refine C_holds_9 e2 h1 c2 (fun c3 => ?_) (fun c3 => ?_)
        · rw [if_pos c3] at hq; exact ⟨fun c4 => absurd c4 (by decide), fun _ => hq⟩
        · rw [if_neg c3] at hq; exact ⟨fun _ => hq, fun c4 => absurd rfl c4⟩
      · rw [Int32.le_iff_toInt_le, show (0 : Int32).toInt = 0 from rfl] at c2
        rw [if_pos (by omega)] at hq; exact hq
    · rw [if_neg (fun q => c q.symm)] at hq; exact hq
theorem C_isSheet_3 {Ln : Nat} {I A : Nat → Nat → Int32} {Q : Int32 → Prop} (hq : Q 1) : W_X7_isSheet Ln I A 3 Q := by
  unfold W_X7_isSheet
  exact ⟨fun c => absurd c (by decide), fun _ => ⟨fun c => absurd c (by decide), fun _ => hq⟩⟩
theorem SH.set_3 {I A I' A' : Nat → Nat → Int32} (h : SH I A) (hI : ∀ o j, (o = 3 ∨ o = 5 ∨ o = 7 ∨ o = 9) → o ≠ 9 → I' o j = I o j) (h65 : ∀ q, q ≠ 3 → A' 65 q = A 65 q) (h66 : ∀ q, q ≠ 3 → A' 66 q = A 66 q) (hA : ∀ a, (a = 4 ∨ a = 6 ∨ a = 8 ∨ a = 10) → a ≠ 10 → A' a = A a) (h67 : ∀ j, (j < 60 * 3 ∨ 60 * 3 + 60 ≤ j) → A' 67 j = A 67 j) (hn : SH1 9 10 3 I' A') : SH I' A' := by
  obtain ⟨h1, h2, h3, h4⟩ := h
  refine ⟨?_, ?_, ?_, ?_⟩
  · first | exact hn | exact h1.fr (fun j _ _ => hI 3 j (by decide) (by decide)) (h65 _ (by decide)) (h66 _ (by decide)) (fun i _ => by rw [hA 4 (by decide) (by decide)]) (fun i hi => h67 _ (by omega))
  · first | exact hn | exact h2.fr (fun j _ _ => hI 5 j (by decide) (by decide)) (h65 _ (by decide)) (h66 _ (by decide)) (fun i _ => by rw [hA 6 (by decide) (by decide)]) (fun i hi => h67 _ (by omega))
  · first | exact hn | exact h3.fr (fun j _ _ => hI 7 j (by decide) (by decide)) (h65 _ (by decide)) (h66 _ (by decide)) (fun i _ => by rw [hA 8 (by decide) (by decide)]) (fun i hi => h67 _ (by omega))
  · first | exact hn | exact h4.fr (fun j _ _ => hI 9 j (by decide) (by decide)) (h65 _ (by decide)) (h66 _ (by decide)) (fun i _ => by rw [hA 10 (by decide) (by decide)]) (fun i hi => h67 _ (by omega))
theorem SH.at_3 {I A : Nat → Nat → Int32} (h : SH I A) : SH1 9 10 3 I A := by
  obtain ⟨h1, h2, h3, h4⟩ := h
  first | exact h1 | exact h2 | exact h3 | exact h4
theorem C_isSheet_n {Ln : Nat} {I A : Nat → Nat → Int32} {v : Int32} {Q : Int32 → Prop} (h : ¬ (0 ≤ v.toInt ∧ v.toInt < (4 : Nat))) (hq : Q 0) : W_X7_isSheet Ln I A v Q := by
  unfold W_X7_isSheet
  rw [zlt0, show (4 : Int32) = zi (4 : Nat) from rfl, zle_v (by omega)]
  exact ⟨fun c => hq, fun _ => ⟨fun c => hq, fun _ => by omega⟩⟩
theorem C_isLane_y {Ln : Nat} {I A : Nat → Nat → Int32} {l : Nat} {Q : Int32 → Prop} (h : l < 3) (hq : Q 1) : W_X7_isLane Ln I A (zi l) Q := by
  unfold W_X7_isLane
  rw [zlt0, zi_toInt (by omega) (by omega), show (3 : Int32) = zi (3 : Nat) from rfl, zle_n (by omega) (by omega)]
  exact ⟨fun c => by omega, fun _ => ⟨fun c => by omega, fun _ => hq⟩⟩
theorem C_isLane_n {Ln : Nat} {I A : Nat → Nat → Int32} {v : Int32} {Q : Int32 → Prop} (h : ¬ (0 ≤ v.toInt ∧ v.toInt < (3 : Nat))) (hq : Q 0) : W_X7_isLane Ln I A v Q := by
  unfold W_X7_isLane
  rw [zlt0, show (3 : Int32) = zi (3 : Nat) from rfl, zle_v (by omega)]
  exact ⟨fun c => hq, fun _ => ⟨fun c => hq, fun _ => by omega⟩⟩
theorem K_lane_y {Ln : Nat} {I A : Nat → Nat → Int32} {l : Nat} {Q : Int32 → Prop} (h : l < 3) (hq : Q 1) : W_X8_in Ln I A (Int32.toInt64 (zi l)) 0 2 Q := K_in_y (by rw [zi_toInt (by omega) (by omega)]; show (0 : Int) ≤ l; omega) (by rw [zi_toInt (by omega) (by omega)]; show (l : Int) ≤ 2; omega) hq
theorem K_lane_n {Ln : Nat} {I A : Nat → Nat → Int32} {v : Int32} {Q : Int32 → Prop} (h : ¬ (0 ≤ v.toInt ∧ v.toInt < (3 : Nat))) (hq : Q 0) : W_X8_in Ln I A (Int32.toInt64 v) 0 2 Q := K_in_n (by show ¬ ((0 : Int) ≤ v.toInt ∧ v.toInt ≤ 2); omega) hq
theorem K_noSheet_y {Ln : Nat} {I A : Nat → Nat → Int32} {k : Nat} {Q : Int32 → Prop} (h : k < 4) (hq : Q 0) : W_X8_noSheet Ln I A (zi k) Q := by
  unfold W_X8_noSheet
  exact K_in_y (by rw [zi_toInt (by omega) (by omega)]; show (0 : Int) ≤ k; omega) (by rw [zi_toInt (by omega) (by omega)]; show (k : Int) ≤ 3; omega) ⟨fun _ => hq, fun c => absurd (show (1 : Int32) ≠ 0 by decide) c⟩
theorem K_noSheet_n {Ln : Nat} {I A : Nat → Nat → Int32} {v : Int32} {Q : Int32 → Prop} (h : ¬ (0 ≤ v.toInt ∧ v.toInt < (4 : Nat))) (hq : Q 1) : W_X8_noSheet Ln I A v Q := by
  unfold W_X8_noSheet
  exact K_in_n (by show ¬ ((0 : Int) ≤ v.toInt ∧ v.toInt ≤ 3); omega) ⟨fun c => absurd rfl c, fun _ => hq⟩
theorem K_isBeyond {Ln : Nat} {n0 : Nat} {I A : Nat → Nat → Int32} {i n : Int32} {Q : Int32 → Prop} (hn : n0 ≤ 60) (hno : ¬ (0 ≤ i.toInt ∧ 0 ≤ n.toInt ∧ i.toInt + n.toInt ≤ n0) → Q 1) (hy : 0 ≤ i.toInt → 0 ≤ n.toInt → i.toInt + n.toInt ≤ n0 → Q 0) : W_X8_isBeyond Ln I A i (Int32.toInt64 n) (zi n0) Q := by
  unfold W_X8_isBeyond
  rw [zlt0, lgN, lgLe, z64_add, Int32.toInt_toInt64, Int32.toInt_toInt64, zi_toInt (by omega) (by omega), show (0 : Int64).toInt = 0 from rfl]
  exact ⟨fun c => hno (by omega), fun c => ⟨fun c2 => hno (by omega), fun c2 => ⟨fun c3 => hy (by omega) (by omega) (by omega), fun c3 => hno (by omega)⟩⟩⟩
theorem zm10 (f : Int) : (-10 : Int32) - zi f = zi (-10 - f) := by rw [show (-10 : Int32) = zi (-10) from by decide, zi_sub]
theorem K_cellsBarred {Ln : Nat} {k n0 l : Nat} {b : Bool} {I A : Nat → Nat → Int32} {lane i n : Int32} {Q : Int32 → (Nat → Nat → Int32) → Prop} (hk : k < 4) (hn : n0 ≤ 60) (h65 : A 65 k = (if b = true then zi n0 else zi (-1))) (h66 : b = true → A 66 k = zi l) (h0 : zff b l n0 lane i n = 0 → Q 0 I) (h1 : 0 < zff b l n0 lane i n → Q (zi (-10 - zff b l n0 lane i n)) (zp I 44 0 (zi (zff b l n0 lane i n)))) : W_X8_cellsBarred_r44 Ln I A (zi k) lane i (Int32.toInt64 n) Q := by
  have hz := zin_n (L := 4) (s := k) hk (by decide)
  have h25 : (b = true → lane = zi l) → J_X8_cellsBarred_r44_25 Ln I A (zi k) lane i (Int32.toInt64 n) Q := by
    intro hl
    unfold J_X8_cellsBarred_r44_25 W_X8_failed_r44
    rw [zi_nat' (by omega), h65, lgGe, Int32.toInt_toInt64, show (0 : Int64).toInt = 0 from rfl]
    cases b with
    | false => exact ⟨hz, fun c => absurd c (show ¬ (0 : Int32) ≤ zi (-1) by decide), fun _ => h1 (show (0 : Int) < 1 by decide)⟩
    | true =>
      have hl2 := hl rfl
      unfold zff at h0 h1
      rw [if_neg (by decide), if_pos hl2] at h0 h1
      rw [if_pos rfl]
      refine ⟨hz, fun _ => ⟨fun c => ⟨hz, K_isBeyond hn (fun c2 => ?_) (fun c2 c3 c4 => ?_)⟩, fun c => ?_⟩, fun c => absurd (by rw [zq0, zi_le (by omega) (by omega) (by omega) (by omega)]; omega) c⟩
      · rw [if_neg (by omega), if_neg (by omega)] at h1
        exact ⟨fun c3 => absurd c3 (by decide), fun _ => h1 (by decide)⟩
      · rw [if_neg (by omega), if_pos ⟨c2, c4⟩] at h0
        exact ⟨fun _ => h0 rfl, fun c3 => absurd rfl c3⟩
      · rw [if_pos (by omega)] at h1
        exact h1 (by decide)
  unfold W_X8_cellsBarred_r44 W_X8_failed_r44
  rw [zi_nat' (by omega), h65]
  refine ⟨hz, fun c => h25 (fun hb => ?_), fun c => ⟨hz, fun c2 => h25 (fun hb => ?_), fun c2 => ?_⟩⟩
  · rw [if_pos hb] at c; exact absurd c (by rw [zq0, zi_lt (by omega) (by omega) (by omega) (by omega)]; omega)
  · rw [← c2, h66 hb]
  · cases b with
    | false => exact absurd (show zi (-1) < 0 by decide) c
    | true =>
      rw [h66 rfl] at c2
      unfold zff at h1
      rw [if_neg (by decide), if_neg (fun q => c2 q.symm)] at h1
      exact h1 (by decide)
theorem K_noCell {Ln : Nat} {k n0 : Nat} {b : Bool} {I A : Nat → Nat → Int32} {i : Int32} {Q : Int32 → Prop} (hk : k < 4) (hn : n0 ≤ 60) (h65 : A 65 k = (if b = true then zi n0 else zi (-1))) (hq : Q (zi (zfn b n0 i))) : W_X8_noCell_r44 Ln I A (zi k) i Q := by
  have hz := zin_n (L := 4) (s := k) hk (by decide)
  unfold W_X8_noCell_r44
  rw [zi_nat' (by omega), h65]
  cases b with
  | false => exact ⟨hz, fun c => absurd c (show ¬ (0 : Int32) ≤ zi (-1) by decide), fun _ => hq⟩
  | true =>
    unfold zfn at hq
    rw [if_neg (by decide)] at hq
    rw [if_pos rfl]
    refine ⟨hz, fun _ => ⟨hz, ?_⟩, fun c => absurd (by rw [zq0, zi_le (by omega) (by omega) (by omega) (by omega)]; omega) c⟩
    by_cases c : 0 ≤ i.toInt ∧ i.toInt < n0
    · rw [if_pos c] at hq
      exact K_in_y c.1 (by rw [z64_pred hn]; omega) ⟨fun c2 => absurd c2 (by decide), fun _ => hq⟩
    · rw [if_neg c] at hq
      exact K_in_n (by rw [z64_pred hn, show (0 : Int64).toInt = 0 from rfl]; omega) ⟨fun _ => hq, fun c2 => absurd rfl c2⟩

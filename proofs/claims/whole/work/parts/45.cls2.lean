/-! the class's nights: the row, the nights gone through -/
theorem zgt0 {x : Int} (h : -2147483648 ≤ x) (h2 : x < 2147483648) : zi x < 0 ↔ x < 0 := by rw [zq0, zi_lt h h2 (by decide) (by decide)]
theorem C_freed_no_28 {Ln : Nat} {I A : Nat → Nat → Int32} {Q : Int32 → (Nat → Nat → Int32) → Prop} (hq : Q 0 A) : W_X6_freed_r28 Ln I A (zi 9) Q := by
  unfold W_X6_freed_r28
  exact ⟨fun c => absurd c (by decide), fun _ => ⟨fun c => absurd c (by decide), fun _ => hq⟩⟩
theorem C_freed_28 {Ln : Nat} {D : Nat → Nat → Nat} {I A : Nat → Nat → Int32} {p rw : Nat} {Q : Int32 → (Nat → Nat → Int32) → Prop} (hd : BD D) (hb : CB D I A) (hp : p < dn D) (hr : A 34 p = zi rw) (hr2 : rw ≤ 60) (h1 : rw + 1 = dro D → Q ((1 : Int32) <<< (zi p &&& 31)) (zw A 34 p (zi ((rw + 1 : Nat) : Int)))) (h0 : ¬ rw + 1 = dro D → Q 0 (zw A 34 p (zi ((rw + 1 : Nat) : Int)))) : W_X6_freed_r28 Ln I A (zi p) Q := by
  have hn := hd
  unfold BD at hn
  unfold W_X6_freed_r28
  rw [zi_nat' (by omega), hr, zi_succ, zw_at, if_pos rfl, hb.2.2.2.1]
  refine ⟨fun c => absurd ((zgt0 (by omega) (by omega)).mp c) (by omega), fun _ => ⟨fun _ => ⟨zin_n (by omega) (by decide), zin_n (by omega) (by decide), zin_n (by omega) (by decide), fun c => ?_, fun c => ?_⟩, fun c => absurd (by rw [zq6, zi_lt (by omega) (by omega) (by omega) (by omega)]; omega) c⟩⟩
  · rintro _ rfl
    rw [ne_eq, zeq_n (by omega) (by omega)] at c
    exact h0 c
  · rintro _ rfl
    rw [ne_eq, Decidable.not_not, zeq_n (by omega) (by omega)] at c
    exact h1 c
theorem C_note_28 {Ln : Nat} {D : Nat → Nat → Nat} {I A : Nat → Nat → Int32} {p : Nat → Bool} {x : Int32} {Q : (Nat → Nat → Int32) → Prop} (hd : BD D) (hb : CB D I A) (hq : ∀ A', (∀ a, a ≠ 29 → A' a = A a) → (∀ s, s < dn D → A' 29 s = if p s = true then x else A 29 s) → Q A') : W_X6_note_r28 Ln I A (zm p) x Q := by
  have hn := hd.1
  unfold W_X6_note_r28
  refine zLoop.inv (fun i σ => σ.1 = zi i ∧ (∀ a, a ≠ 29 → σ.2 a = A a) ∧ ∀ s, σ.2 29 s = if (decide (s < i) && p s) = true then x else A 29 s) (dn D) ⟨rfl, fun _ _ => rfl, fun s => by simp⟩ ?_ ?_
  · rintro i ⟨v3, A2⟩ hi ⟨h3, hf, h2⟩ K hk
    simp only at h3 hf h2
    subst h3
    simp only [L_X6_note_r28_2, hb.1]
    rw [zm_bit p (by omega), zi_nat' (by omega)]
    refine ⟨fun c => absurd ((zle_n (by omega) (by omega)).mp c) (by omega), fun _ => ⟨fun c => ?_, fun c => ⟨zin_n (by omega) (by decide), ?_⟩⟩⟩
    · cases he : p i with
      | true => rw [he] at c; exact absurd rfl c
      | false =>
        rw [zi_succ]
        refine hk _ ⟨rfl, hf, fun s => ?_⟩
        dsimp only
        rw [h2 s]
        by_cases e : s = i
        · subst e; simp [he]
        · rw [show decide (s < i) = decide (s < i + 1) from decide_eq_decide.mpr (by omega)]
    · cases he : p i with
      | false => rw [he] at c; exact absurd (show (0 : Int32) ≠ 1 by decide) c
      | true =>
        rw [zi_succ]
        refine hk _ ⟨rfl, fun a ha => (zw_ne ha).trans (hf a ha), fun s => ?_⟩
        try dsimp only
        rw [zw_at, h2 s]
        by_cases e : s = i
        · subst e; simp [he]
        · rw [if_neg e, show decide (s < i) = decide (s < i + 1) from decide_eq_decide.mpr (by omega)]
  · rintro ⟨v3, A2⟩ ⟨h3, hf, h2⟩ K
    simp only at h3 hf h2
    subst h3
    simp only [L_X6_note_r28_2, hb.1]
    refine ⟨fun _ => ?_, fun c => absurd ((zle_n (by omega) (by omega)).mpr (Nat.le_refl _)) c⟩
    exact hq A2 hf (fun s hs => by rw [h2 s]; simp [hs])
theorem C_freed_no_35 {Ln : Nat} {I A : Nat → Nat → Int32} {Q : Int32 → (Nat → Nat → Int32) → Prop} (hq : Q 0 A) : W_X6_freed_r35 Ln I A (zi 9) Q := by
  unfold W_X6_freed_r35
  exact ⟨fun c => absurd c (by decide), fun _ => ⟨fun c => absurd c (by decide), fun _ => hq⟩⟩
theorem C_freed_35 {Ln : Nat} {D : Nat → Nat → Nat} {I A : Nat → Nat → Int32} {p rw : Nat} {Q : Int32 → (Nat → Nat → Int32) → Prop} (hd : BD D) (hb : CB D I A) (hp : p < dn D) (hr : A 41 p = zi rw) (hr2 : rw ≤ 60) (h1 : rw + 1 = dro D → Q ((1 : Int32) <<< (zi p &&& 31)) (zw A 41 p (zi ((rw + 1 : Nat) : Int)))) (h0 : ¬ rw + 1 = dro D → Q 0 (zw A 41 p (zi ((rw + 1 : Nat) : Int)))) : W_X6_freed_r35 Ln I A (zi p) Q := by
  have hn := hd
  unfold BD at hn
  unfold W_X6_freed_r35
  rw [zi_nat' (by omega), hr, zi_succ, zw_at, if_pos rfl, hb.2.2.2.1]
  refine ⟨fun c => absurd ((zgt0 (by omega) (by omega)).mp c) (by omega), fun _ => ⟨fun _ => ⟨zin_n (by omega) (by decide), zin_n (by omega) (by decide), zin_n (by omega) (by decide), fun c => ?_, fun c => ?_⟩, fun c => absurd (by rw [zq6, zi_lt (by omega) (by omega) (by omega) (by omega)]; omega) c⟩⟩
  · rintro _ rfl
    rw [ne_eq, zeq_n (by omega) (by omega)] at c
    exact h0 c
  · rintro _ rfl
    rw [ne_eq, Decidable.not_not, zeq_n (by omega) (by omega)] at c
    exact h1 c
theorem C_note_35 {Ln : Nat} {D : Nat → Nat → Nat} {I A : Nat → Nat → Int32} {p : Nat → Bool} {x : Int32} {Q : (Nat → Nat → Int32) → Prop} (hd : BD D) (hb : CB D I A) (hq : ∀ A', (∀ a, a ≠ 36 → A' a = A a) → (∀ s, s < dn D → A' 36 s = if p s = true then x else A 36 s) → Q A') : W_X6_note_r35 Ln I A (zm p) x Q := by
  have hn := hd.1
  unfold W_X6_note_r35
  refine zLoop.inv (fun i σ => σ.1 = zi i ∧ (∀ a, a ≠ 36 → σ.2 a = A a) ∧ ∀ s, σ.2 36 s = if (decide (s < i) && p s) = true then x else A 36 s) (dn D) ⟨rfl, fun _ _ => rfl, fun s => by simp⟩ ?_ ?_
  · rintro i ⟨v3, A2⟩ hi ⟨h3, hf, h2⟩ K hk
    simp only at h3 hf h2
    subst h3
    simp only [L_X6_note_r35_2, hb.1]
    rw [zm_bit p (by omega), zi_nat' (by omega)]
    refine ⟨fun c => absurd ((zle_n (by omega) (by omega)).mp c) (by omega), fun _ => ⟨fun c => ?_, fun c => ⟨zin_n (by omega) (by decide), ?_⟩⟩⟩
    · cases he : p i with
      | true => rw [he] at c; exact absurd rfl c
      | false =>
        rw [zi_succ]
        refine hk _ ⟨rfl, hf, fun s => ?_⟩
        dsimp only
        rw [h2 s]
        by_cases e : s = i
        · subst e; simp [he]
        · rw [show decide (s < i) = decide (s < i + 1) from decide_eq_decide.mpr (by omega)]
    · cases he : p i with
      | false => rw [he] at c; exact absurd (show (0 : Int32) ≠ 1 by decide) c
      | true =>
        rw [zi_succ]
        refine hk _ ⟨rfl, fun a ha => (zw_ne ha).trans (hf a ha), fun s => ?_⟩
        try dsimp only
        rw [zw_at, h2 s]
        by_cases e : s = i
        · subst e; simp [he]
        · rw [if_neg e, show decide (s < i) = decide (s < i + 1) from decide_eq_decide.mpr (by omega)]
  · rintro ⟨v3, A2⟩ ⟨h3, hf, h2⟩ K
    simp only at h3 hf h2
    subst h3
    simp only [L_X6_note_r35_2, hb.1]
    refine ⟨fun _ => ?_, fun c => absurd ((zle_n (by omega) (by omega)).mpr (Nat.le_refl _)) c⟩
    exact hq A2 hf (fun s hs => by rw [h2 s]; simp [hs])
theorem C_fill_29 {Ln : Nat} {I A : Nat → Nat → Int32} {x : Int32} {Q : (Nat → Nat → Int32) → Prop} (hq : ∀ A', (∀ a, a ≠ 29 → A' a = A a) → (∀ s, s < 6 → A' 29 s = x) → Q A') : W_J7_fill_53178_r29 Ln I A x Q := by
  unfold W_J7_fill_53178_r29
  refine zLoop.inv (fun i σ => σ.1 = zi i ∧ (∀ a, a ≠ 29 → σ.2 a = A a) ∧ ∀ s, s < i → σ.2 29 s = x) 6 ⟨rfl, fun _ _ => rfl, fun s h => by omega⟩ ?_ ?_
  · rintro i ⟨v3, A2⟩ hi ⟨h3, hf, h2⟩ K hk
    simp only at h3 hf h2
    subst h3
    simp only [L_J7_fill_53178_r29_5]
    rw [zi_nat' (by omega)]
    refine ⟨fun c => absurd c (by rw [zq6, zi_le (by omega) (by omega) (by omega) (by omega)]; omega), fun _ => ⟨zin_n (by omega) (by decide), ?_⟩⟩
    rw [zi_succ]
    refine hk _ ⟨rfl, fun a ha => (zw_ne ha).trans (hf a ha), fun s hs => ?_⟩
    try dsimp only
    rw [zw_at]
    by_cases e : s = i
    · rw [if_pos e]
    · rw [if_neg e]; exact h2 s (by omega)
  · rintro ⟨v3, A2⟩ ⟨h3, hf, h2⟩ K
    simp only at h3 hf h2
    subst h3
    simp only [L_J7_fill_53178_r29_5]
    exact ⟨fun _ => hq A2 hf h2, fun c => absurd (by decide) c⟩
theorem C_fill_34 {Ln : Nat} {I A : Nat → Nat → Int32} {x : Int32} {Q : (Nat → Nat → Int32) → Prop} (hq : ∀ A', (∀ a, a ≠ 34 → A' a = A a) → (∀ s, s < 6 → A' 34 s = x) → Q A') : W_J7_fill_53178_r34 Ln I A x Q := by
  unfold W_J7_fill_53178_r34
  refine zLoop.inv (fun i σ => σ.1 = zi i ∧ (∀ a, a ≠ 34 → σ.2 a = A a) ∧ ∀ s, s < i → σ.2 34 s = x) 6 ⟨rfl, fun _ _ => rfl, fun s h => by omega⟩ ?_ ?_
  · rintro i ⟨v3, A2⟩ hi ⟨h3, hf, h2⟩ K hk
    simp only at h3 hf h2
    subst h3
    simp only [L_J7_fill_53178_r34_5]
    rw [zi_nat' (by omega)]
    refine ⟨fun c => absurd c (by rw [zq6, zi_le (by omega) (by omega) (by omega) (by omega)]; omega), fun _ => ⟨zin_n (by omega) (by decide), ?_⟩⟩
    rw [zi_succ]
    refine hk _ ⟨rfl, fun a ha => (zw_ne ha).trans (hf a ha), fun s hs => ?_⟩
    try dsimp only
    rw [zw_at]
    by_cases e : s = i
    · rw [if_pos e]
    · rw [if_neg e]; exact h2 s (by omega)
  · rintro ⟨v3, A2⟩ ⟨h3, hf, h2⟩ K
    simp only at h3 hf h2
    subst h3
    simp only [L_J7_fill_53178_r34_5]
    exact ⟨fun _ => hq A2 hf h2, fun c => absurd (by decide) c⟩
theorem C_fill_36 {Ln : Nat} {I A : Nat → Nat → Int32} {x : Int32} {Q : (Nat → Nat → Int32) → Prop} (hq : ∀ A', (∀ a, a ≠ 36 → A' a = A a) → (∀ s, s < 6 → A' 36 s = x) → Q A') : W_J7_fill_53178_r36 Ln I A x Q := by
  unfold W_J7_fill_53178_r36
  refine zLoop.inv (fun i σ => σ.1 = zi i ∧ (∀ a, a ≠ 36 → σ.2 a = A a) ∧ ∀ s, s < i → σ.2 36 s = x) 6 ⟨rfl, fun _ _ => rfl, fun s h => by omega⟩ ?_ ?_
  · rintro i ⟨v3, A2⟩ hi ⟨h3, hf, h2⟩ K hk
    simp only at h3 hf h2
    subst h3
    simp only [L_J7_fill_53178_r36_5]
    rw [zi_nat' (by omega)]
    refine ⟨fun c => absurd c (by rw [zq6, zi_le (by omega) (by omega) (by omega) (by omega)]; omega), fun _ => ⟨zin_n (by omega) (by decide), ?_⟩⟩
    rw [zi_succ]
    refine hk _ ⟨rfl, fun a ha => (zw_ne ha).trans (hf a ha), fun s hs => ?_⟩
    try dsimp only
    rw [zw_at]
    by_cases e : s = i
    · rw [if_pos e]
    · rw [if_neg e]; exact h2 s (by omega)
  · rintro ⟨v3, A2⟩ ⟨h3, hf, h2⟩ K
    simp only at h3 hf h2
    subst h3
    simp only [L_J7_fill_53178_r36_5]
    exact ⟨fun _ => hq A2 hf h2, fun c => absurd (by decide) c⟩
theorem C_fill_41 {Ln : Nat} {I A : Nat → Nat → Int32} {x : Int32} {Q : (Nat → Nat → Int32) → Prop} (hq : ∀ A', (∀ a, a ≠ 41 → A' a = A a) → (∀ s, s < 6 → A' 41 s = x) → Q A') : W_J7_fill_53178_r41 Ln I A x Q := by
  unfold W_J7_fill_53178_r41
  refine zLoop.inv (fun i σ => σ.1 = zi i ∧ (∀ a, a ≠ 41 → σ.2 a = A a) ∧ ∀ s, s < i → σ.2 41 s = x) 6 ⟨rfl, fun _ _ => rfl, fun s h => by omega⟩ ?_ ?_
  · rintro i ⟨v3, A2⟩ hi ⟨h3, hf, h2⟩ K hk
    simp only at h3 hf h2
    subst h3
    simp only [L_J7_fill_53178_r41_5]
    rw [zi_nat' (by omega)]
    refine ⟨fun c => absurd c (by rw [zq6, zi_le (by omega) (by omega) (by omega) (by omega)]; omega), fun _ => ⟨zin_n (by omega) (by decide), ?_⟩⟩
    rw [zi_succ]
    refine hk _ ⟨rfl, fun a ha => (zw_ne ha).trans (hf a ha), fun s hs => ?_⟩
    try dsimp only
    rw [zw_at]
    by_cases e : s = i
    · rw [if_pos e]
    · rw [if_neg e]; exact h2 s (by omega)
  · rintro ⟨v3, A2⟩ ⟨h3, hf, h2⟩ K
    simp only at h3 hf h2
    subst h3
    simp only [L_J7_fill_53178_r41_5]
    exact ⟨fun _ => hq A2 hf h2, fun c => absurd (by decide) c⟩
theorem C_rank_28_42 {Ln : Nat} {D : Nat → Nat → Nat} {co : Nat → Int} {lw : Nat} {I A : Nat → Nat → Int32} {s : Nat} {Q : Int32 → Prop} (hd : BD D) (hb : CB D I A) (hc : CC D co 42 A) (hl : lw < 3) (hs : s < dn D) (hq : Q (zi (zrk D co lw s))) : W_X6_rank_r28_r42 Ln I A (zi s) (zi lw) Q := by
  have hn := hd.1
  unfold W_X6_rank_r28_r42
  rw [zi_nat' (by omega), zi_toInt (by omega) (by omega), hc s hs, (hb.2.2.2.2.1 s hs).2.2.2, zi_neg]
  unfold zrk at hq
  refine ⟨fun c => C_heavy hd hb hs ?_, fun c => ⟨zin_n (by omega) (by decide), ?_⟩, fun c1 c2 => ⟨zin_n (by omega) (by decide), ?_⟩⟩
  · rw [if_neg (by omega), if_pos (by omega)] at hq; exact hq
  · rw [if_neg (by omega), if_neg (by omega)] at hq; exact hq
  · rw [if_pos (by omega)] at hq; exact hq
theorem C_lineUp_28_42 {Ln : Nat} {D : Nat → Nat → Nat} {co : Nat → Int} {lw : Nat} {I A : Nat → Nat → Int32} {Q : (Nat → Nat → Int32) → Prop} (hd : BD D) (hco : CD co) (hb : CB D I A) (hc : CC D co 42 A) (hl : lw < 3) (hq : ∀ A' ro, (∀ a, a ≠ 33 → A' a = A a) → zSo (dn D) (zrk D co lw) ro → (∀ i, i < dn D → A' 33 i = zi (ro i)) → Q A') : W_X6_lineUp_r28_r42 Ln I A (zi lw) Q := by
  have hn := hd.1
  unfold W_X6_lineUp_r28_r42
  refine zLoop.inv (fun i σ => σ.1 = zi i ∧ (∀ a, a ≠ 33 → σ.2 a = A a) ∧ ∃ ro, zSo i (zrk D co lw) ro ∧ ∀ j, j < i → σ.2 33 j = zi (ro j)) (dn D) ⟨rfl, fun _ _ => rfl, fun _ => 0, ⟨fun i h => by omega, fun i h => by omega, fun i j h1 h2 => by omega⟩, fun j h => by omega⟩ ?_ ?_
  · rintro i ⟨v3, A2⟩ hi ⟨h3, hf, ro, hro, h2⟩ K hk
    simp only at h3 hf h2
    subst h3
    simp only [L_X6_lineUp_r28_r42_2, hb.1]
    refine ⟨fun c => absurd ((zle_n (by omega) (by omega)).mp c) (by omega), fun _ => ?_⟩
    -- the one is put into its place
    have hend : ∀ (q : Nat) (A3 : Nat → Nat → Int32), q ≤ i → (∀ a, a ≠ 33 → A3 a = A a) → (∀ j, j < q → A3 33 j = zi (ro j)) → (∀ j, q < j → j ≤ i → A3 33 j = zi (ro (j - 1))) → (∀ j, q ≤ j → j < i → zbf (zrk D co lw) i (ro j) = true) → (q = 0 ∨ zrk D co lw (ro (q - 1)) ≤ zrk D co lw i) → K (zi i + 1, zw A3 33 q (zi i)) := by
      intro q A3 hqi hf3 hlo hhi hbf he
      have hbefore : ∀ j, j < q → zbf (zrk D co lw) (ro j) i = true := by
        intro j hj
        rcases he with he | he
        · omega
        · have hr := hro.1 (q - 1) (by omega)
          have h4 : zbf (zrk D co lw) (ro (q - 1)) i = true := by
            simp only [zbf, Bool.or_eq_true, Bool.and_eq_true, decide_eq_true_eq]; omega
          by_cases e : j = q - 1
          · rw [e]; exact h4
          · exact zbf_tr (hro.2.2 j (q - 1) (by omega) (by omega)) h4
      rw [zi_succ]
      refine hk _ ⟨rfl, fun a ha => (zw_ne ha).trans (hf3 a ha), fun j => if j < q then ro j else if j = q then i else ro (j - 1), ⟨?_, ?_, ?_⟩, ?_⟩
      · intro j hj
        dsimp only
        split
        · have := hro.1 j (by omega); omega
        · split
          · omega
          · have := hro.1 (j - 1) (by omega); omega
      · intro t ht
        by_cases e : t = i
        · exact ⟨q, by omega, by dsimp only; rw [if_neg (by omega), if_pos rfl, e]⟩
        · obtain ⟨j, hj, ej⟩ := hro.2.1 t (by omega)
          by_cases e2 : j < q
          · exact ⟨j, by omega, by dsimp only; rw [if_pos e2]; exact ej⟩
          · exact ⟨j + 1, by omega, by dsimp only; rw [if_neg (by omega), if_neg (by omega)]; exact ej⟩
      · intro j k hjk hk2
        dsimp only
        by_cases e1 : j < q
        · rw [if_pos e1]
          by_cases e2 : k < q
          · rw [if_pos e2]; exact hro.2.2 j k hjk (by omega)
          · rw [if_neg e2]
            by_cases e3 : k = q
            · rw [if_pos e3]; exact hbefore j e1
            · rw [if_neg e3]; exact hro.2.2 j (k - 1) (by omega) (by omega)
        · rw [if_neg e1, if_neg (show ¬ k < q by omega), if_neg (show ¬ k = q by omega)]
          by_cases e3 : j = q
          · rw [if_pos e3]; exact hbf (k - 1) (by omega) (by omega)
          · rw [if_neg e3]; exact hro.2.2 (j - 1) (k - 1) (by omega) (by omega)
      · intro j hj
        dsimp only
        try dsimp only
        rw [zw_at]
        by_cases e3 : j = q
        · rw [if_pos e3, if_neg (by omega), if_pos e3]
        · rw [if_neg e3]
          by_cases e1 : j < q
          · rw [if_pos e1]; exact hlo j e1
          · rw [if_neg e1, if_neg e3]; exact hhi j (by omega) (by omega)
    refine ⟨fun q σ => q ≤ i ∧ σ.1 = zi q ∧ (∀ a, a ≠ 33 → σ.2 a = A a) ∧ (∀ j, j < q → σ.2 33 j = zi (ro j)) ∧ (∀ j, q < j → j ≤ i → σ.2 33 j = zi (ro (j - 1))) ∧ ∀ j, q ≤ j → j < i → zbf (zrk D co lw) i (ro j) = true, ⟨i, Nat.le_refl i, rfl, hf, h2, fun j h4 h5 => by omega, fun j h4 h5 => by omega⟩, ?_⟩
    rintro q ⟨v4, A3⟩ ⟨hqi, h4, hf3, hlo, hhi, hbf⟩
    simp only at h4 hf3 hlo hhi
    subst h4
    have hb3 : CB D I A3 := hb.fr (fun a h1 h2 => hf3 a (by omega))
    have hc3 : CC D co 42 A3 := fun s hs => by rw [hf3 42 (by decide)]; exact hc s hs
    simp only [L_X6_lineUp_r28_r42_16]
    rw [zq0, zi_le (by omega) (by omega) (by omega) (by omega), zi_nat' (show q < 2147483648 by omega)]
    refine ⟨fun c => ⟨zin_n (by omega) (by decide), hend q A3 hqi hf3 hlo hhi hbf (Or.inl (by omega))⟩, fun c => ?_⟩
    obtain ⟨q, rfl⟩ : ∃ q', q = q' + 1 := ⟨q - 1, by omega⟩
    have e1 : zi ((q + 1 : Nat) : Int) - 1 = zi q := by rw [zq1, zi_sub]; congr 1; omega
    rw [e1, zi_nat' (show q < 2147483648 by omega), hlo q (by omega)]
    refine ⟨zin_n (by omega) (by decide), C_rank_28_42 hd hb3 hc3 hl (by have := hro.1 q (by omega); omega) (C_rank_28_42 hd hb3 hc3 hl hi ?_)⟩
    have r1 := zrk_le hd hco lw (ro q)
    have r2 := zrk_le hd hco lw i
    rw [zi_le (by omega) (by omega) (by omega) (by omega)]
    refine ⟨fun c2 => ⟨zin_n (by omega) (by decide), hend (q + 1) A3 hqi hf3 hlo hhi hbf (Or.inr c2)⟩, fun c2 => ⟨zin_n (by omega) (by decide), zin_n (by omega) (by decide), ?_⟩⟩
    rw [show zi ((q + 1 : Nat) : Int) + Int32.ofInt (-1) = zi q by rw [zqm1o, zi_add]; congr 1; omega]
    refine ⟨q, by omega, by omega, rfl, fun a ha => (zw_ne ha).trans (hf3 a ha), fun j hj => ?_, fun j h5 h6 => ?_, fun j h5 h6 => ?_⟩
    · try dsimp only
      rw [zw_at, if_neg (by omega)]; exact hlo j (by omega)
    · try dsimp only
      rw [zw_at]
      by_cases e : j = q + 1
      · rw [if_pos e, e]; rfl
      · rw [if_neg e]; exact hhi j (by omega) h6
    · by_cases e : j = q
      · subst e
        simp only [zbf, Bool.or_eq_true, Bool.and_eq_true, decide_eq_true_eq]; omega
      · exact hbf j (by omega) h6
  · rintro ⟨v3, A2⟩ ⟨h3, hf, ro, hro, h2⟩ K
    simp only at h3 hf h2
    subst h3
    simp only [L_X6_lineUp_r28_r42_2, hb.1]
    refine ⟨fun _ => hq A2 ro hf hro h2, fun c => absurd ((zle_n (by omega) (by omega)).mpr (Nat.le_refl _)) c⟩
theorem C_rank_35_42 {Ln : Nat} {D : Nat → Nat → Nat} {co : Nat → Int} {lw : Nat} {I A : Nat → Nat → Int32} {s : Nat} {Q : Int32 → Prop} (hd : BD D) (hb : CB D I A) (hc : CC D co 42 A) (hl : lw < 3) (hs : s < dn D) (hq : Q (zi (zrk D co lw s))) : W_X6_rank_r35_r42 Ln I A (zi s) (zi lw) Q := by
  have hn := hd.1
  unfold W_X6_rank_r35_r42
  rw [zi_nat' (by omega), zi_toInt (by omega) (by omega), hc s hs, (hb.2.2.2.2.1 s hs).2.2.2, zi_neg]
  unfold zrk at hq
  refine ⟨fun c => C_heavy hd hb hs ?_, fun c => ⟨zin_n (by omega) (by decide), ?_⟩, fun c1 c2 => ⟨zin_n (by omega) (by decide), ?_⟩⟩
  · rw [if_neg (by omega), if_pos (by omega)] at hq; exact hq
  · rw [if_neg (by omega), if_neg (by omega)] at hq; exact hq
  · rw [if_pos (by omega)] at hq; exact hq
theorem C_lineUp_35_42 {Ln : Nat} {D : Nat → Nat → Nat} {co : Nat → Int} {lw : Nat} {I A : Nat → Nat → Int32} {Q : (Nat → Nat → Int32) → Prop} (hd : BD D) (hco : CD co) (hb : CB D I A) (hc : CC D co 42 A) (hl : lw < 3) (hq : ∀ A' ro, (∀ a, a ≠ 40 → A' a = A a) → zSo (dn D) (zrk D co lw) ro → (∀ i, i < dn D → A' 40 i = zi (ro i)) → Q A') : W_X6_lineUp_r35_r42 Ln I A (zi lw) Q := by
  have hn := hd.1
  unfold W_X6_lineUp_r35_r42
  refine zLoop.inv (fun i σ => σ.1 = zi i ∧ (∀ a, a ≠ 40 → σ.2 a = A a) ∧ ∃ ro, zSo i (zrk D co lw) ro ∧ ∀ j, j < i → σ.2 40 j = zi (ro j)) (dn D) ⟨rfl, fun _ _ => rfl, fun _ => 0, ⟨fun i h => by omega, fun i h => by omega, fun i j h1 h2 => by omega⟩, fun j h => by omega⟩ ?_ ?_
  · rintro i ⟨v3, A2⟩ hi ⟨h3, hf, ro, hro, h2⟩ K hk
    simp only at h3 hf h2
    subst h3
    simp only [L_X6_lineUp_r35_r42_2, hb.1]
    refine ⟨fun c => absurd ((zle_n (by omega) (by omega)).mp c) (by omega), fun _ => ?_⟩
    -- the one is put into its place
    have hend : ∀ (q : Nat) (A3 : Nat → Nat → Int32), q ≤ i → (∀ a, a ≠ 40 → A3 a = A a) → (∀ j, j < q → A3 40 j = zi (ro j)) → (∀ j, q < j → j ≤ i → A3 40 j = zi (ro (j - 1))) → (∀ j, q ≤ j → j < i → zbf (zrk D co lw) i (ro j) = true) → (q = 0 ∨ zrk D co lw (ro (q - 1)) ≤ zrk D co lw i) → K (zi i + 1, zw A3 40 q (zi i)) := by
      intro q A3 hqi hf3 hlo hhi hbf he
      have hbefore : ∀ j, j < q → zbf (zrk D co lw) (ro j) i = true := by
        intro j hj
        rcases he with he | he
        · omega
        · have hr := hro.1 (q - 1) (by omega)
          have h4 : zbf (zrk D co lw) (ro (q - 1)) i = true := by
            simp only [zbf, Bool.or_eq_true, Bool.and_eq_true, decide_eq_true_eq]; omega
          by_cases e : j = q - 1
          · rw [e]; exact h4
          · exact zbf_tr (hro.2.2 j (q - 1) (by omega) (by omega)) h4
      rw [zi_succ]
      refine hk _ ⟨rfl, fun a ha => (zw_ne ha).trans (hf3 a ha), fun j => if j < q then ro j else if j = q then i else ro (j - 1), ⟨?_, ?_, ?_⟩, ?_⟩
      · intro j hj
        dsimp only
        split
        · have := hro.1 j (by omega); omega
        · split
          · omega
          · have := hro.1 (j - 1) (by omega); omega
      · intro t ht
        by_cases e : t = i
        · exact ⟨q, by omega, by dsimp only; rw [if_neg (by omega), if_pos rfl, e]⟩
        · obtain ⟨j, hj, ej⟩ := hro.2.1 t (by omega)
          by_cases e2 : j < q
          · exact ⟨j, by omega, by dsimp only; rw [if_pos e2]; exact ej⟩
          · exact ⟨j + 1, by omega, by dsimp only; rw [if_neg (by omega), if_neg (by omega)]; exact ej⟩
      · intro j k hjk hk2
        dsimp only
        by_cases e1 : j < q
        · rw [if_pos e1]
          by_cases e2 : k < q
          · rw [if_pos e2]; exact hro.2.2 j k hjk (by omega)
          · rw [if_neg e2]
            by_cases e3 : k = q
            · rw [if_pos e3]; exact hbefore j e1
            · rw [if_neg e3]; exact hro.2.2 j (k - 1) (by omega) (by omega)
        · rw [if_neg e1, if_neg (show ¬ k < q by omega), if_neg (show ¬ k = q by omega)]
          by_cases e3 : j = q
          · rw [if_pos e3]; exact hbf (k - 1) (by omega) (by omega)
          · rw [if_neg e3]; exact hro.2.2 (j - 1) (k - 1) (by omega) (by omega)
      · intro j hj
        dsimp only
        try dsimp only
        rw [zw_at]
        by_cases e3 : j = q
        · rw [if_pos e3, if_neg (by omega), if_pos e3]
        · rw [if_neg e3]
          by_cases e1 : j < q
          · rw [if_pos e1]; exact hlo j e1
          · rw [if_neg e1, if_neg e3]; exact hhi j (by omega) (by omega)
    refine ⟨fun q σ => q ≤ i ∧ σ.1 = zi q ∧ (∀ a, a ≠ 40 → σ.2 a = A a) ∧ (∀ j, j < q → σ.2 40 j = zi (ro j)) ∧ (∀ j, q < j → j ≤ i → σ.2 40 j = zi (ro (j - 1))) ∧ ∀ j, q ≤ j → j < i → zbf (zrk D co lw) i (ro j) = true, ⟨i, Nat.le_refl i, rfl, hf, h2, fun j h4 h5 => by omega, fun j h4 h5 => by omega⟩, ?_⟩
    rintro q ⟨v4, A3⟩ ⟨hqi, h4, hf3, hlo, hhi, hbf⟩
    simp only at h4 hf3 hlo hhi
    subst h4
    have hb3 : CB D I A3 := hb.fr (fun a h1 h2 => hf3 a (by omega))
    have hc3 : CC D co 42 A3 := fun s hs => by rw [hf3 42 (by decide)]; exact hc s hs
    simp only [L_X6_lineUp_r35_r42_16]
    rw [zq0, zi_le (by omega) (by omega) (by omega) (by omega), zi_nat' (show q < 2147483648 by omega)]
    refine ⟨fun c => ⟨zin_n (by omega) (by decide), hend q A3 hqi hf3 hlo hhi hbf (Or.inl (by omega))⟩, fun c => ?_⟩
    obtain ⟨q, rfl⟩ : ∃ q', q = q' + 1 := ⟨q - 1, by omega⟩
    have e1 : zi ((q + 1 : Nat) : Int) - 1 = zi q := by rw [zq1, zi_sub]; congr 1; omega
    rw [e1, zi_nat' (show q < 2147483648 by omega), hlo q (by omega)]
    refine ⟨zin_n (by omega) (by decide), C_rank_35_42 hd hb3 hc3 hl (by have := hro.1 q (by omega); omega) (C_rank_35_42 hd hb3 hc3 hl hi ?_)⟩
    have r1 := zrk_le hd hco lw (ro q)
    have r2 := zrk_le hd hco lw i
    rw [zi_le (by omega) (by omega) (by omega) (by omega)]
    refine ⟨fun c2 => ⟨zin_n (by omega) (by decide), hend (q + 1) A3 hqi hf3 hlo hhi hbf (Or.inr c2)⟩, fun c2 => ⟨zin_n (by omega) (by decide), zin_n (by omega) (by decide), ?_⟩⟩
    rw [show zi ((q + 1 : Nat) : Int) + Int32.ofInt (-1) = zi q by rw [zqm1o, zi_add]; congr 1; omega]
    refine ⟨q, by omega, by omega, rfl, fun a ha => (zw_ne ha).trans (hf3 a ha), fun j hj => ?_, fun j h5 h6 => ?_, fun j h5 h6 => ?_⟩
    · try dsimp only
      rw [zw_at, if_neg (by omega)]; exact hlo j (by omega)
    · try dsimp only
      rw [zw_at]
      by_cases e : j = q + 1
      · rw [if_pos e, e]; rfl
      · rw [if_neg e]; exact hhi j (by omega) h6
    · by_cases e : j = q
      · subst e
        simp only [zbf, Bool.or_eq_true, Bool.and_eq_true, decide_eq_true_eq]; omega
      · exact hbf j (by omega) h6
  · rintro ⟨v3, A2⟩ ⟨h3, hf, ro, hro, h2⟩ K
    simp only at h3 hf h2
    subst h3
    simp only [L_X6_lineUp_r35_r42_2, hb.1]
    refine ⟨fun _ => hq A2 ro hf hro h2, fun c => absurd ((zle_n (by omega) (by omega)).mpr (Nat.le_refl _)) c⟩
theorem C_rank_35_43 {Ln : Nat} {D : Nat → Nat → Nat} {co : Nat → Int} {lw : Nat} {I A : Nat → Nat → Int32} {s : Nat} {Q : Int32 → Prop} (hd : BD D) (hb : CB D I A) (hc : CC D co 43 A) (hl : lw < 3) (hs : s < dn D) (hq : Q (zi (zrk D co lw s))) : W_X6_rank_r35_r43 Ln I A (zi s) (zi lw) Q := by
  have hn := hd.1
  unfold W_X6_rank_r35_r43
  rw [zi_nat' (by omega), zi_toInt (by omega) (by omega), hc s hs, (hb.2.2.2.2.1 s hs).2.2.2, zi_neg]
  unfold zrk at hq
  refine ⟨fun c => C_heavy hd hb hs ?_, fun c => ⟨zin_n (by omega) (by decide), ?_⟩, fun c1 c2 => ⟨zin_n (by omega) (by decide), ?_⟩⟩
  · rw [if_neg (by omega), if_pos (by omega)] at hq; exact hq
  · rw [if_neg (by omega), if_neg (by omega)] at hq; exact hq
  · rw [if_pos (by omega)] at hq; exact hq
theorem C_lineUp_35_43 {Ln : Nat} {D : Nat → Nat → Nat} {co : Nat → Int} {lw : Nat} {I A : Nat → Nat → Int32} {Q : (Nat → Nat → Int32) → Prop} (hd : BD D) (hco : CD co) (hb : CB D I A) (hc : CC D co 43 A) (hl : lw < 3) (hq : ∀ A' ro, (∀ a, a ≠ 40 → A' a = A a) → zSo (dn D) (zrk D co lw) ro → (∀ i, i < dn D → A' 40 i = zi (ro i)) → Q A') : W_X6_lineUp_r35_r43 Ln I A (zi lw) Q := by
  have hn := hd.1
  unfold W_X6_lineUp_r35_r43
  refine zLoop.inv (fun i σ => σ.1 = zi i ∧ (∀ a, a ≠ 40 → σ.2 a = A a) ∧ ∃ ro, zSo i (zrk D co lw) ro ∧ ∀ j, j < i → σ.2 40 j = zi (ro j)) (dn D) ⟨rfl, fun _ _ => rfl, fun _ => 0, ⟨fun i h => by omega, fun i h => by omega, fun i j h1 h2 => by omega⟩, fun j h => by omega⟩ ?_ ?_
  · rintro i ⟨v3, A2⟩ hi ⟨h3, hf, ro, hro, h2⟩ K hk
    simp only at h3 hf h2
    subst h3
    simp only [L_X6_lineUp_r35_r43_2, hb.1]
    refine ⟨fun c => absurd ((zle_n (by omega) (by omega)).mp c) (by omega), fun _ => ?_⟩
    -- the one is put into its place
    have hend : ∀ (q : Nat) (A3 : Nat → Nat → Int32), q ≤ i → (∀ a, a ≠ 40 → A3 a = A a) → (∀ j, j < q → A3 40 j = zi (ro j)) → (∀ j, q < j → j ≤ i → A3 40 j = zi (ro (j - 1))) → (∀ j, q ≤ j → j < i → zbf (zrk D co lw) i (ro j) = true) → (q = 0 ∨ zrk D co lw (ro (q - 1)) ≤ zrk D co lw i) → K (zi i + 1, zw A3 40 q (zi i)) := by
      intro q A3 hqi hf3 hlo hhi hbf he
      have hbefore : ∀ j, j < q → zbf (zrk D co lw) (ro j) i = true := by
        intro j hj
        rcases he with he | he
        · omega
        · have hr := hro.1 (q - 1) (by omega)
          have h4 : zbf (zrk D co lw) (ro (q - 1)) i = true := by
            simp only [zbf, Bool.or_eq_true, Bool.and_eq_true, decide_eq_true_eq]; omega
          by_cases e : j = q - 1
          · rw [e]; exact h4
          · exact zbf_tr (hro.2.2 j (q - 1) (by omega) (by omega)) h4
      rw [zi_succ]
      refine hk _ ⟨rfl, fun a ha => (zw_ne ha).trans (hf3 a ha), fun j => if j < q then ro j else if j = q then i else ro (j - 1), ⟨?_, ?_, ?_⟩, ?_⟩
      · intro j hj
        dsimp only
        split
        · have := hro.1 j (by omega); omega
        · split
          · omega
          · have := hro.1 (j - 1) (by omega); omega
      · intro t ht
        by_cases e : t = i
        · exact ⟨q, by omega, by dsimp only; rw [if_neg (by omega), if_pos rfl, e]⟩
        · obtain ⟨j, hj, ej⟩ := hro.2.1 t (by omega)
          by_cases e2 : j < q
          · exact ⟨j, by omega, by dsimp only; rw [if_pos e2]; exact ej⟩
          · exact ⟨j + 1, by omega, by dsimp only; rw [if_neg (by omega), if_neg (by omega)]; exact ej⟩
      · intro j k hjk hk2
        dsimp only
        by_cases e1 : j < q
        · rw [if_pos e1]
          by_cases e2 : k < q
          · rw [if_pos e2]; exact hro.2.2 j k hjk (by omega)
          · rw [if_neg e2]
            by_cases e3 : k = q
            · rw [if_pos e3]; exact hbefore j e1
            · rw [if_neg e3]; exact hro.2.2 j (k - 1) (by omega) (by omega)
        · rw [if_neg e1, if_neg (show ¬ k < q by omega), if_neg (show ¬ k = q by omega)]
          by_cases e3 : j = q
          · rw [if_pos e3]; exact hbf (k - 1) (by omega) (by omega)
          · rw [if_neg e3]; exact hro.2.2 (j - 1) (k - 1) (by omega) (by omega)
      · intro j hj
        dsimp only
        try dsimp only
        rw [zw_at]
        by_cases e3 : j = q
        · rw [if_pos e3, if_neg (by omega), if_pos e3]
        · rw [if_neg e3]
          by_cases e1 : j < q
          · rw [if_pos e1]; exact hlo j e1
          · rw [if_neg e1, if_neg e3]; exact hhi j (by omega) (by omega)
    refine ⟨fun q σ => q ≤ i ∧ σ.1 = zi q ∧ (∀ a, a ≠ 40 → σ.2 a = A a) ∧ (∀ j, j < q → σ.2 40 j = zi (ro j)) ∧ (∀ j, q < j → j ≤ i → σ.2 40 j = zi (ro (j - 1))) ∧ ∀ j, q ≤ j → j < i → zbf (zrk D co lw) i (ro j) = true, ⟨i, Nat.le_refl i, rfl, hf, h2, fun j h4 h5 => by omega, fun j h4 h5 => by omega⟩, ?_⟩
    rintro q ⟨v4, A3⟩ ⟨hqi, h4, hf3, hlo, hhi, hbf⟩
    simp only at h4 hf3 hlo hhi
    subst h4
    have hb3 : CB D I A3 := hb.fr (fun a h1 h2 => hf3 a (by omega))
    have hc3 : CC D co 43 A3 := fun s hs => by rw [hf3 43 (by decide)]; exact hc s hs
    simp only [L_X6_lineUp_r35_r43_16]
    rw [zq0, zi_le (by omega) (by omega) (by omega) (by omega), zi_nat' (show q < 2147483648 by omega)]
    refine ⟨fun c => ⟨zin_n (by omega) (by decide), hend q A3 hqi hf3 hlo hhi hbf (Or.inl (by omega))⟩, fun c => ?_⟩
    obtain ⟨q, rfl⟩ : ∃ q', q = q' + 1 := ⟨q - 1, by omega⟩
    have e1 : zi ((q + 1 : Nat) : Int) - 1 = zi q := by rw [zq1, zi_sub]; congr 1; omega
    rw [e1, zi_nat' (show q < 2147483648 by omega), hlo q (by omega)]
    refine ⟨zin_n (by omega) (by decide), C_rank_35_43 hd hb3 hc3 hl (by have := hro.1 q (by omega); omega) (C_rank_35_43 hd hb3 hc3 hl hi ?_)⟩
    have r1 := zrk_le hd hco lw (ro q)
    have r2 := zrk_le hd hco lw i
    rw [zi_le (by omega) (by omega) (by omega) (by omega)]
    refine ⟨fun c2 => ⟨zin_n (by omega) (by decide), hend (q + 1) A3 hqi hf3 hlo hhi hbf (Or.inr c2)⟩, fun c2 => ⟨zin_n (by omega) (by decide), zin_n (by omega) (by decide), ?_⟩⟩
    rw [show zi ((q + 1 : Nat) : Int) + Int32.ofInt (-1) = zi q by rw [zqm1o, zi_add]; congr 1; omega]
    refine ⟨q, by omega, by omega, rfl, fun a ha => (zw_ne ha).trans (hf3 a ha), fun j hj => ?_, fun j h5 h6 => ?_, fun j h5 h6 => ?_⟩
    · try dsimp only
      rw [zw_at, if_neg (by omega)]; exact hlo j (by omega)
    · try dsimp only
      rw [zw_at]
      by_cases e : j = q + 1
      · rw [if_pos e, e]; rfl
      · rw [if_neg e]; exact hhi j (by omega) h6
    · by_cases e : j = q
      · subst e
        simp only [zbf, Bool.or_eq_true, Bool.and_eq_true, decide_eq_true_eq]; omega
      · exact hbf j (by omega) h6
  · rintro ⟨v3, A2⟩ ⟨h3, hf, ro, hro, h2⟩ K
    simp only at h3 hf h2
    subst h3
    simp only [L_X6_lineUp_r35_r43_2, hb.1]
    refine ⟨fun _ => hq A2 ro hf hro h2, fun c => absurd ((zle_n (by omega) (by omega)).mpr (Nat.le_refl _)) c⟩

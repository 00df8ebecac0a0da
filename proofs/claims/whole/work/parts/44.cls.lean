/-! the class's nights: what its methods answer -/
def CB (D : Nat → Nat → Nat) (I A : Nat → Nat → Int32) : Prop := I 11 0 = zi (dn D) ∧ I 11 1 = zi (dse D) ∧ I 11 2 = zi (dbe D) ∧ I 11 3 = zi (dro D) ∧ (∀ s, s < dn D → A 12 s = zi (dk D s) ∧ A 13 s = zi (dt D s) ∧ A 14 s = zi (dw D s) ∧ A 15 s = zi (dc D s)) ∧ (∀ d, d < 60 → A 16 d = zm (zcame D d)) ∧ ∀ p : Nat → Bool, (∀ s, dn D ≤ s → s < 6 → p s = false) → A 17 (zmk p) = zi (zld (zhv D) p)
theorem CB.fr {D : Nat → Nat → Nat} {I A A' : Nat → Nat → Int32} (h : CB D I A) (h2 : ∀ a, 12 ≤ a → a ≤ 17 → A' a = A a) : CB D I A' := by
  obtain ⟨h0, h1, h3, h4, h5, h6, h7⟩ := h
  refine ⟨h0, h1, h3, h4, ?_, ?_, ?_⟩
  · intro s hs; rw [h2 12 (by decide) (by decide), h2 13 (by decide) (by decide), h2 14 (by decide) (by decide), h2 15 (by decide) (by decide)]; exact h5 s hs
  · rw [h2 16 (by decide) (by decide)]; exact h6
  · rw [h2 17 (by decide) (by decide)]; exact h7
def CC (D : Nat → Nat → Nat) (co : Nat → Int) (a : Nat) (A : Nat → Nat → Int32) : Prop := ∀ s, s < dn D → A a s = zi (co s)
theorem C_heavy {Ln : Nat} {D : Nat → Nat → Nat} {I A : Nat → Nat → Int32} {i : Nat} {Q : Int32 → Prop} (hd : BD D) (hb : CB D I A) (hi : i < dn D) (hq : Q (zi (zhv D i))) : W_X0_heavy_r11 Ln I A (zi i) Q := by
  have hn := hd.1
  obtain ⟨hk, _, hw, _⟩ := hb.2.2.2.2.1 i hi
  obtain ⟨hk2, _, hw2, _⟩ := hd.2.2.2.2 i
  unfold W_X0_heavy_r11
  rw [zi_nat' (by omega), hk, hw, zi_toInt (by omega) (by omega)]
  refine ⟨zin_n (by omega) (by decide), fun c => ⟨zin_n (by omega) (by decide), ?_⟩, fun c => ⟨zin_n (by omega) (by decide), ?_⟩, fun c1 c2 => ⟨zin_n (by omega) (by decide), ?_⟩⟩
  · rw [zq2, zi_add, show ((dw D i : Int) + 2) = (zhv D i : Int) by unfold zhv; rw [if_neg (by omega), if_pos (by omega)]; omega]; exact hq
  · rw [zq2, zi_add, zi_mul, show (2 * ((dw D i : Int) + 2)) = (zhv D i : Int) by unfold zhv; rw [if_pos (by omega)]; omega]; exact hq
  · rw [show ((dw D i : Int)) = (zhv D i : Int) by unfold zhv; rw [if_neg (by omega), if_neg (by omega)]]; exact hq
theorem C_price {Ln : Nat} {D : Nat → Nat → Nat} {I A : Nat → Nat → Int32} {i : Nat} {Q : Int32 → Prop} (hd : BD D) (hb : CB D I A) (hi : i < dn D) (hq : Q (zi ((dk D i : Int) + 1))) : W_X0_price_r11 Ln I A (zi i) Q := by
  have hn := hd.1
  obtain ⟨hk, _, hw, _⟩ := hb.2.2.2.2.1 i hi
  obtain ⟨hk2, _, hw2, _⟩ := hd.2.2.2.2 i
  unfold W_X0_price_r11
  rw [zi_nat' (by omega), hk, zi_toInt (by omega) (by omega)]
  refine ⟨zin_n (by omega) (by decide), fun c => ?_, fun c => ?_, fun c1 c2 => ?_⟩
  · rw [zq2, show (2 : Int) = (dk D i : Int) + 1 by omega]; exact hq
  · rw [zq3, show (3 : Int) = (dk D i : Int) + 1 by omega]; exact hq
  · rw [zq1, show (1 : Int) = (dk D i : Int) + 1 by omega]; exact hq
theorem C_whoPays_42 {Ln : Nat} {D : Nat → Nat → Nat} {co : Nat → Int} {I A : Nat → Nat → Int32} {Q : Int32 → Prop} (hd : BD D) (hco : CD co) (hb : CB D I A) (hc : CC D co 42 A) (hq : Q (zm (zpay D co))) : W_X0_whoPays_r11_r42 Ln I A Q := by
  have hn := hd.1
  unfold W_X0_whoPays_r11_r42
  refine zLoop.count (fun i => (zm (zup (zpay D co) i), zi i)) (dn D) (Prod.ext (zm_up0 _) rfl) ?_ ?_
  · intro i hi K hk
    have hk2 := (hd.2.2.2.2 i).1
    have hc2 := hco i
    simp only [L_X0_whoPays_r11_r42_4, hb.1]
    refine ⟨fun c => absurd ((zle_n (by omega) (by omega)).mp c) (by omega), fun _ => ⟨zin_n (by omega) (by decide), C_price hd hb hi ?_⟩⟩
    rw [zi_nat' (by omega), hc i hi]
    rintro _ rfl
    rw [zi_lt (by omega) (by omega) (by omega) (by omega)]
    refine ⟨fun c => ?_, fun c => ?_⟩
    · rw [zi_succ, zup_no (by simp only [zpay, Bool.and_eq_false_iff, decide_eq_false_iff_not]; omega)]; exact hk
    · rw [zi_succ, zup_yes (by omega) (by simp only [zpay, Bool.and_eq_true, decide_eq_true_eq]; omega)]; exact hk
  · intro K
    simp only [L_X0_whoPays_r11_r42_4, hb.1]
    refine ⟨fun _ => ?_, fun c => absurd ((zle_n (by omega) (by omega)).mpr (Nat.le_refl _)) c⟩
    rw [zup_all (by intro s h; simp only [zpay, Bool.and_eq_false_iff, decide_eq_false_iff_not]; omega)]; exact hq
theorem C_whoPays_43 {Ln : Nat} {D : Nat → Nat → Nat} {co : Nat → Int} {I A : Nat → Nat → Int32} {Q : Int32 → Prop} (hd : BD D) (hco : CD co) (hb : CB D I A) (hc : CC D co 43 A) (hq : Q (zm (zpay D co))) : W_X0_whoPays_r11_r43 Ln I A Q := by
  have hn := hd.1
  unfold W_X0_whoPays_r11_r43
  refine zLoop.count (fun i => (zm (zup (zpay D co) i), zi i)) (dn D) (Prod.ext (zm_up0 _) rfl) ?_ ?_
  · intro i hi K hk
    have hk2 := (hd.2.2.2.2 i).1
    have hc2 := hco i
    simp only [L_X0_whoPays_r11_r43_4, hb.1]
    refine ⟨fun c => absurd ((zle_n (by omega) (by omega)).mp c) (by omega), fun _ => ⟨zin_n (by omega) (by decide), C_price hd hb hi ?_⟩⟩
    rw [zi_nat' (by omega), hc i hi]
    rintro _ rfl
    rw [zi_lt (by omega) (by omega) (by omega) (by omega)]
    refine ⟨fun c => ?_, fun c => ?_⟩
    · rw [zi_succ, zup_no (by simp only [zpay, Bool.and_eq_false_iff, decide_eq_false_iff_not]; omega)]; exact hk
    · rw [zi_succ, zup_yes (by omega) (by simp only [zpay, Bool.and_eq_true, decide_eq_true_eq]; omega)]; exact hk
  · intro K
    simp only [L_X0_whoPays_r11_r43_4, hb.1]
    refine ⟨fun _ => ?_, fun c => absurd ((zle_n (by omega) (by omega)).mpr (Nat.le_refl _)) c⟩
    rw [zup_all (by intro s h; simp only [zpay, Bool.and_eq_false_iff, decide_eq_false_iff_not]; omega)]; exact hq
theorem C_bitCount {Ln : Nat} {I A : Nat → Nat → Int32} {p : Nat → Bool} {Q : Int32 → Prop} (hq : Q (zi (zct p))) : W_J6_bitCount_0f7a4 Ln I A (zm p) Q := by
  have h : W_J6_bitCount_0f7a4 Ln I A (zm p) (fun x => x = zi (zct p)) := by
    unfold W_J6_bitCount_0f7a4
    simp only [zm, zmk, zct]
    generalize p 0 = a0; generalize p 1 = a1; generalize p 2 = a2; generalize p 3 = a3; generalize p 4 = a4; generalize p 5 = a5
    revert a0 a1 a2 a3 a4 a5; decide +kernel
  unfold W_J6_bitCount_0f7a4 at h ⊢
  rw [h]; exact hq
theorem C_carries {Ln : Nat} {D : Nat → Nat → Nat} {I A : Nat → Nat → Int32} {p : Nat → Bool} {Q : Int32 → Prop} (hd : BD D) (hb : CB D I A) (hp : ∀ s, dn D ≤ s → s < 6 → p s = false) (h1 : zfit D p = true → Q 1) (h0 : zfit D p = false → Q 0) : W_X0_carries_r11 Ln I A (zm p) Q := by
  have hn := hd
  unfold BD at hn
  have hc := zct_le p
  have hl : zld (zhv D) p ≤ 132 := by
    have e := zhv_le hd
    have e0 := e 0; have e1 := e 1; have e2 := e 2; have e3 := e 3; have e4 := e 4; have e5 := e 5
    unfold zld
    cases p 0 <;> cases p 1 <;> cases p 2 <;> cases p 3 <;> cases p 4 <;> cases p 5 <;> simp only [cond_true, cond_false] <;> omega
  unfold W_X0_carries_r11
  refine C_bitCount ?_
  rw [hb.2.1, zlt_n (by omega) (by omega)]
  refine ⟨fun c => h0 ?_, fun c => ⟨zm_zin p, ?_⟩⟩
  · simp only [zfit, Bool.and_eq_false_iff, decide_eq_false_iff_not]; omega
  · rw [zm_nat, hb.2.2.1, hb.2.2.2.2.2.2 p hp, zlt_n (by omega) (by omega)]
    refine ⟨fun c2 => h0 ?_, fun c2 => h1 ?_⟩
    · simp only [zfit, Bool.and_eq_false_iff, decide_eq_false_iff_not]; omega
    · simp only [zfit, Bool.and_eq_true, decide_eq_true_eq]; omega
def zfd : Option Nat → Int
  | none => 9
  | some s => s
theorem C_firstOf_28 {Ln : Nat} {D : Nat → Nat → Nat} {I A : Nat → Nat → Int32} {ro : Nat → Nat} {p : Nat → Bool} {Q : Int32 → Prop} (hd : BD D) (hb : CB D I A) (hr : ∀ i, i < dn D → A 33 i = zi (ro i) ∧ ro i < dn D) (hq : Q (zi (zfd (zfo ro p (dn D) 0)))) : W_X6_firstOf_r28 Ln I A (zm p) Q := by
  have hn := hd.1
  unfold W_X6_firstOf_r28
  refine zLoop.inv (fun i v => v = zi i ∧ zfo ro p (dn D - i) i = zfo ro p (dn D) 0) (dn D) ⟨rfl, rfl⟩ ?_ ?_
  · rintro i v2 hi ⟨rfl, h2⟩ K hk
    obtain ⟨h3, h4⟩ := hr i hi
    simp only [L_X6_firstOf_r28_2, hb.1]
    rw [zi_nat' (by omega), h3, zm_bit p (by omega)]
    rw [show dn D - i = (dn D - (i + 1)) + 1 by omega, zfo_s] at h2
    refine ⟨fun c => absurd ((zle_n (by omega) (by omega)).mp c) (by omega), fun _ => ⟨zin_n (by omega) (by decide), fun c => ?_, fun c => ⟨zin_n (by omega) (by decide), ?_⟩⟩⟩
    · cases he : p (ro i) with
      | true => rw [he] at c; exact absurd rfl c
      | false =>
        rw [he] at h2
        simp only [Bool.false_eq_true, if_false] at h2
        rw [zi_succ]; exact hk _ ⟨rfl, h2⟩
    · cases he : p (ro i) with
      | true =>
        rw [he] at h2
        simp only [if_true] at h2
        rw [← h2] at hq; exact hq
      | false => rw [he] at c; exact absurd (show (0 : Int32) ≠ 1 by decide) c
  · rintro v2 ⟨rfl, h2⟩ K
    simp only [L_X6_firstOf_r28_2, hb.1]
    refine ⟨fun _ => ?_, fun c => absurd ((zle_n (by omega) (by omega)).mpr (Nat.le_refl _)) c⟩
    rw [Nat.sub_self] at h2
    rw [← h2] at hq; exact hq
theorem C_seat_28 {Ln : Nat} {D : Nat → Nat → Nat} {I A : Nat → Nat → Int32} {ro : Nat → Nat} {p : Nat → Bool} {Q : Int32 → Prop} (hd : BD D) (hb : CB D I A) (hr : ∀ i, i < dn D → A 33 i = zi (ro i) ∧ ro i < dn D) (hq : Q (zm (zse ro (zfit D) p (dn D) 0 (fun _ => false)))) : W_X6_seat_r28 Ln I A (zm p) Q := by
  have hn := hd.1
  unfold W_X6_seat_r28
  refine zLoop.inv (fun i σ => σ.2 = zi i ∧ ∃ b : Nat → Bool, σ.1 = zm b ∧ (∀ s, dn D ≤ s → b s = false) ∧ zse ro (zfit D) p (dn D - i) i b = zse ro (zfit D) p (dn D) 0 (fun _ => false)) (dn D) ⟨rfl, _, zm_none, fun _ _ => rfl, rfl⟩ ?_ ?_
  · rintro i ⟨v2, v3⟩ hi ⟨h3, b, h1, hbn, h2⟩ K hk
    simp only at h3 h1
    subst h3; subst h1
    obtain ⟨h3, h4⟩ := hr i hi
    simp only [L_X6_seat_r28_4, hb.1]
    rw [zi_nat' (by omega), h3, zm_one (by omega), zm_and, zm_or]
    rw [show dn D - i = (dn D - (i + 1)) + 1 by omega, zse_s] at h2
    refine ⟨fun c => absurd ((zle_n (by omega) (by omega)).mp c) (by omega), fun _ => ⟨zin_n (by omega) (by decide), ?_⟩⟩
    cases he : p (ro i) with
    | true =>
      have e : zm (fun s => b s || (p s && s == ro i)) = zm (zadd b (ro i)) := zm_congr (fun s _ => by
        unfold zadd
        by_cases e : s = ro i
        · subst e; simp [he]
        · rw [show (s == ro i) = false from beq_eq_false_iff_ne.mpr e]; simp)
      have hz : ∀ s, dn D ≤ s → zadd b (ro i) s = false := by
        intro s hs; simp only [zadd, hbn s hs, Bool.false_or, beq_eq_false_iff_ne]; omega
      rw [e]
      rw [he, Bool.true_and] at h2
      refine C_carries hd hb (fun s h _ => hz s h) (fun hf => ?_) (fun hf => ?_)
      · rintro _ rfl
        rw [hf] at h2
        simp only [if_true] at h2
        refine ⟨fun c => absurd c (by decide), fun _ => ?_⟩
        rw [zm_or, e, zi_succ]; exact hk _ ⟨rfl, _, rfl, hz, h2⟩
      · rintro _ rfl
        rw [hf] at h2
        simp only [Bool.false_eq_true, if_false] at h2
        refine ⟨fun _ => ?_, fun c => absurd rfl c⟩
        rw [zi_succ]; exact hk _ ⟨rfl, _, rfl, hbn, h2⟩
    | false =>
      have e : zm (fun s => b s || (p s && s == ro i)) = zm b := zm_congr (fun s _ => by
        by_cases e : s = ro i
        · subst e; simp [he]
        · rw [show (s == ro i) = false from beq_eq_false_iff_ne.mpr e]; simp)
      rw [e]
      rw [he, Bool.false_and] at h2
      simp only [Bool.false_eq_true, if_false] at h2
      refine C_carries hd hb (fun s h _ => hbn s h) (fun hf => ?_) (fun hf => ?_)
      · rintro _ rfl
        refine ⟨fun c => absurd c (by decide), fun _ => ?_⟩
        rw [zm_or, e, zi_succ]; exact hk _ ⟨rfl, _, rfl, hbn, h2⟩
      · rintro _ rfl
        refine ⟨fun _ => ?_, fun c => absurd rfl c⟩
        rw [zi_succ]; exact hk _ ⟨rfl, _, rfl, hbn, h2⟩
  · rintro ⟨v2, v3⟩ ⟨h3, b, h1, hbn, h2⟩ K
    simp only at h3 h1
    subst h3; subst h1
    simp only [L_X6_seat_r28_4, hb.1]
    refine ⟨fun _ => ?_, fun c => absurd ((zle_n (by omega) (by omega)).mpr (Nat.le_refl _)) c⟩
    rw [Nat.sub_self] at h2
    rw [← h2] at hq; exact hq
theorem C_firstOf_35 {Ln : Nat} {D : Nat → Nat → Nat} {I A : Nat → Nat → Int32} {ro : Nat → Nat} {p : Nat → Bool} {Q : Int32 → Prop} (hd : BD D) (hb : CB D I A) (hr : ∀ i, i < dn D → A 40 i = zi (ro i) ∧ ro i < dn D) (hq : Q (zi (zfd (zfo ro p (dn D) 0)))) : W_X6_firstOf_r35 Ln I A (zm p) Q := by
  have hn := hd.1
  unfold W_X6_firstOf_r35
  refine zLoop.inv (fun i v => v = zi i ∧ zfo ro p (dn D - i) i = zfo ro p (dn D) 0) (dn D) ⟨rfl, rfl⟩ ?_ ?_
  · rintro i v2 hi ⟨rfl, h2⟩ K hk
    obtain ⟨h3, h4⟩ := hr i hi
    simp only [L_X6_firstOf_r35_2, hb.1]
    rw [zi_nat' (by omega), h3, zm_bit p (by omega)]
    rw [show dn D - i = (dn D - (i + 1)) + 1 by omega, zfo_s] at h2
    refine ⟨fun c => absurd ((zle_n (by omega) (by omega)).mp c) (by omega), fun _ => ⟨zin_n (by omega) (by decide), fun c => ?_, fun c => ⟨zin_n (by omega) (by decide), ?_⟩⟩⟩
    · cases he : p (ro i) with
      | true => rw [he] at c; exact absurd rfl c
      | false =>
        rw [he] at h2
        simp only [Bool.false_eq_true, if_false] at h2
        rw [zi_succ]; exact hk _ ⟨rfl, h2⟩
    · cases he : p (ro i) with
      | true =>
        rw [he] at h2
        simp only [if_true] at h2
        rw [← h2] at hq; exact hq
      | false => rw [he] at c; exact absurd (show (0 : Int32) ≠ 1 by decide) c
  · rintro v2 ⟨rfl, h2⟩ K
    simp only [L_X6_firstOf_r35_2, hb.1]
    refine ⟨fun _ => ?_, fun c => absurd ((zle_n (by omega) (by omega)).mpr (Nat.le_refl _)) c⟩
    rw [Nat.sub_self] at h2
    rw [← h2] at hq; exact hq
theorem C_seat_35 {Ln : Nat} {D : Nat → Nat → Nat} {I A : Nat → Nat → Int32} {ro : Nat → Nat} {p : Nat → Bool} {Q : Int32 → Prop} (hd : BD D) (hb : CB D I A) (hr : ∀ i, i < dn D → A 40 i = zi (ro i) ∧ ro i < dn D) (hq : Q (zm (zse ro (zfit D) p (dn D) 0 (fun _ => false)))) : W_X6_seat_r35 Ln I A (zm p) Q := by
  have hn := hd.1
  unfold W_X6_seat_r35
  refine zLoop.inv (fun i σ => σ.2 = zi i ∧ ∃ b : Nat → Bool, σ.1 = zm b ∧ (∀ s, dn D ≤ s → b s = false) ∧ zse ro (zfit D) p (dn D - i) i b = zse ro (zfit D) p (dn D) 0 (fun _ => false)) (dn D) ⟨rfl, _, zm_none, fun _ _ => rfl, rfl⟩ ?_ ?_
  · rintro i ⟨v2, v3⟩ hi ⟨h3, b, h1, hbn, h2⟩ K hk
    simp only at h3 h1
    subst h3; subst h1
    obtain ⟨h3, h4⟩ := hr i hi
    simp only [L_X6_seat_r35_4, hb.1]
    rw [zi_nat' (by omega), h3, zm_one (by omega), zm_and, zm_or]
    rw [show dn D - i = (dn D - (i + 1)) + 1 by omega, zse_s] at h2
    refine ⟨fun c => absurd ((zle_n (by omega) (by omega)).mp c) (by omega), fun _ => ⟨zin_n (by omega) (by decide), ?_⟩⟩
    cases he : p (ro i) with
    | true =>
      have e : zm (fun s => b s || (p s && s == ro i)) = zm (zadd b (ro i)) := zm_congr (fun s _ => by
        unfold zadd
        by_cases e : s = ro i
        · subst e; simp [he]
        · rw [show (s == ro i) = false from beq_eq_false_iff_ne.mpr e]; simp)
      have hz : ∀ s, dn D ≤ s → zadd b (ro i) s = false := by
        intro s hs; simp only [zadd, hbn s hs, Bool.false_or, beq_eq_false_iff_ne]; omega
      rw [e]
      rw [he, Bool.true_and] at h2
      refine C_carries hd hb (fun s h _ => hz s h) (fun hf => ?_) (fun hf => ?_)
      · rintro _ rfl
        rw [hf] at h2
        simp only [if_true] at h2
        refine ⟨fun c => absurd c (by decide), fun _ => ?_⟩
        rw [zm_or, e, zi_succ]; exact hk _ ⟨rfl, _, rfl, hz, h2⟩
      · rintro _ rfl
        rw [hf] at h2
        simp only [Bool.false_eq_true, if_false] at h2
        refine ⟨fun _ => ?_, fun c => absurd rfl c⟩
        rw [zi_succ]; exact hk _ ⟨rfl, _, rfl, hbn, h2⟩
    | false =>
      have e : zm (fun s => b s || (p s && s == ro i)) = zm b := zm_congr (fun s _ => by
        by_cases e : s = ro i
        · subst e; simp [he]
        · rw [show (s == ro i) = false from beq_eq_false_iff_ne.mpr e]; simp)
      rw [e]
      rw [he, Bool.false_and] at h2
      simp only [Bool.false_eq_true, if_false] at h2
      refine C_carries hd hb (fun s h _ => hbn s h) (fun hf => ?_) (fun hf => ?_)
      · rintro _ rfl
        refine ⟨fun c => absurd c (by decide), fun _ => ?_⟩
        rw [zm_or, e, zi_succ]; exact hk _ ⟨rfl, _, rfl, hbn, h2⟩
      · rintro _ rfl
        refine ⟨fun _ => ?_, fun c => absurd rfl c⟩
        rw [zi_succ]; exact hk _ ⟨rfl, _, rfl, hbn, h2⟩
  · rintro ⟨v2, v3⟩ ⟨h3, b, h1, hbn, h2⟩ K
    simp only at h3 h1
    subst h3; subst h1
    simp only [L_X6_seat_r35_4, hb.1]
    refine ⟨fun _ => ?_, fun c => absurd ((zle_n (by omega) (by omega)).mpr (Nat.le_refl _)) c⟩
    rw [Nat.sub_self] at h2
    rw [← h2] at hq; exact hq

/-! the reference's nights: what its methods answer -/
theorem zle_n {n i : Nat} (h : n < 2147483648) (hi : i < 2147483648) : zi (n : Int) ≤ zi (i : Int) ↔ n ≤ i := by rw [zi_le (by omega) (by omega) (by omega) (by omega)]; omega
theorem zlt_n {n i : Nat} (h : n < 2147483648) (hi : i < 2147483648) : zi (n : Int) < zi (i : Int) ↔ n < i := by rw [zi_lt (by omega) (by omega) (by omega) (by omega)]; omega
theorem zeq_n {n i : Nat} (h : n < 2147483648) (hi : i < 2147483648) : zi (n : Int) = zi (i : Int) ↔ n = i := by rw [zi_inj (by omega) (by omega) (by omega) (by omega)]; omega
/-- those of p below i -/
def zup (p : Nat → Bool) (i : Nat) : Nat → Bool := fun s => decide (s < i) && p s
theorem zm_up0 (p : Nat → Bool) : (0 : Int32) = zm (zup p 0) := by rw [zm_none]; exact zm_congr (fun s _ => by simp [zup])
theorem zm_or0 (p : Nat → Bool) : zm p ||| 0 = zm p := by rw [zm_none, zm_or]; exact zm_congr (fun s _ => by simp)
theorem zup_no {p : Nat → Bool} {i : Nat} (h : p i = false) : zm (zup p i) = zm (zup p (i + 1)) := zm_congr (fun s _ => by
  unfold zup
  by_cases e : s = i
  · subst e; simp [h]
  · rw [show decide (s < i) = decide (s < i + 1) from decide_eq_decide.mpr (by omega)])
theorem zup_yes {p : Nat → Bool} {i : Nat} (hi : i < 6) (h : p i = true) : zm (zup p i) ||| ((1 : Int32) <<< (zi (i : Int) &&& 31)) = zm (zup p (i + 1)) := by
  rw [zm_one hi, zm_or]
  refine zm_congr (fun s _ => ?_)
  unfold zup
  by_cases e : s = i
  · subst e; simp [h]
  · rw [show decide (s < i) = decide (s < i + 1) from decide_eq_decide.mpr (by omega), show (s == i) = false from beq_eq_false_iff_ne.mpr e]; simp
theorem zup_all {p : Nat → Bool} {n : Nat} (h : ∀ s, n ≤ s → p s = false) : zm (zup p n) = zm p := zm_congr (fun s _ => by
  unfold zup
  by_cases e : s < n
  · simp [e]
  · simp [e, h s (by omega)])
def RB (D : Nat → Nat → Nat) (I A : Nat → Nat → Int32) : Prop := I 44 4 = zi (dn D) ∧ I 44 1 = zi (dse D) ∧ I 44 2 = zi (dbe D) ∧ I 44 3 = zi (dro D) ∧ ∀ s, s < dn D → A 45 s = zi (dk D s) ∧ A 46 s = zi (dt D s) ∧ A 47 s = zi (dw D s) ∧ A 48 s = zi (dc D s)
def RC (D : Nat → Nat → Nat) (co : Nat → Int) (lw : Nat) (I A : Nat → Nat → Int32) : Prop := I 44 10 = zi lw ∧ lw < 3 ∧ ∀ s, s < dn D → A 49 s = zi (co s)
theorem K_cameBy {Ln : Nat} {D : Nat → Nat → Nat} {I A : Nat → Nat → Int32} {d : Nat} {Q : Int32 → Prop} (hd : BD D) (hb : RB D I A) (hdd : d < 60) (hq : Q (zm (zcame D d))) : W_X8_cameBy_r44 Ln I A (zi d) Q := by
  have hn := hd.1
  unfold W_X8_cameBy_r44
  refine zLoop.count (fun i => (zm (zup (zcame D d) i), zi i)) (dn D) (Prod.ext (zm_up0 _) rfl) ?_ ?_
  · intro i hi K hk
    have hc := (hb.2.2.2.2 i hi).2.2.2
    have hc2 := (hd.2.2.2.2 i).2.2.2
    simp only [L_X8_cameBy_r44_4, hb.1, zi_nat' (show i < 2147483648 by omega), hc]
    refine ⟨fun c => absurd ((zle_n (by omega) (by omega)).mp c) (by omega), fun _ => ⟨zin_n (by omega) (by decide), fun c => ?_, fun c => ?_⟩⟩
    · rw [zlt_n (by omega) (by omega)] at c
      rw [zm_or0, zi_succ, zup_no (by simp only [zcame, Bool.and_eq_false_iff, decide_eq_false_iff_not]; omega)]; exact hk
    · rw [zlt_n (by omega) (by omega)] at c
      rw [zi_succ, zup_yes (by omega) (by simp only [zcame, Bool.and_eq_true, decide_eq_true_eq]; omega)]; exact hk
  · intro K
    simp only [L_X8_cameBy_r44_4, hb.1]
    refine ⟨fun _ => ?_, fun c => absurd ((zle_n (by omega) (by omega)).mpr (Nat.le_refl _)) c⟩
    rw [zup_all (by intro s h; simp only [zcame, Bool.and_eq_false_iff, decide_eq_false_iff_not]; omega)]; exact hq
theorem K_overNow {Ln : Nat} {D : Nat → Nat → Nat} {I A : Nat → Nat → Int32} {on : Nat → Nat} {Q : Int32 → Prop} (hd : BD D) (hb : RB D I A) (ho : ∀ s, s < dn D → A 57 s = zi (on s) ∧ on s ≤ 99) (hq : Q (zm (zovr D on))) : W_X8_overNow_r44 Ln I A Q := by
  have hn := hd.1
  unfold W_X8_overNow_r44
  refine zLoop.count (fun i => (zm (zup (zovr D on) i), zi i)) (dn D) (Prod.ext (zm_up0 _) rfl) ?_ ?_
  · intro i hi K hk
    have hc := (ho i hi).1
    have hc2 := (ho i hi).2
    simp only [L_X8_overNow_r44_4, hb.1, zi_nat' (show i < 2147483648 by omega), hc, zq99]
    refine ⟨fun c => absurd ((zle_n (by omega) (by omega)).mp c) (by omega), fun _ => ⟨zin_n (by omega) (by decide), fun c => ?_, fun c => ?_⟩⟩
    · rw [zi_le (by omega) (by omega) (by omega) (by omega)] at c
      rw [zm_or0, zi_succ, zup_no (by simp only [zovr, Bool.and_eq_false_iff, decide_eq_false_iff_not]; omega)]; exact hk
    · rw [zi_le (by omega) (by omega) (by omega) (by omega)] at c
      rw [zi_succ, zup_yes (by omega) (by simp only [zovr, Bool.and_eq_true, decide_eq_true_eq]; omega)]; exact hk
  · intro K
    simp only [L_X8_overNow_r44_4, hb.1]
    refine ⟨fun _ => ?_, fun c => absurd ((zle_n (by omega) (by omega)).mpr (Nat.le_refl _)) c⟩
    rw [zup_all (by intro s h; simp only [zovr, Bool.and_eq_false_iff, decide_eq_false_iff_not]; omega)]; exact hq
theorem K_canPay {Ln : Nat} {D : Nat → Nat → Nat} {co : Nat → Int} {lw : Nat} {I A : Nat → Nat → Int32} {i : Nat} {Q : Int32 → Prop} (hd : BD D) (hco : CD co) (hb : RB D I A) (hc : RC D co lw I A) (hi : i < dn D) (h1 : zpay D co i = true → Q 1) (h0 : zpay D co i = false → Q 0) : W_X8_canPay_r44 Ln I A (zi i) Q := by
  have hn := hd.1
  have hk := (hb.2.2.2.2 i hi).1
  have hk2 := (hd.2.2.2.2 i).1
  have hcc := hc.2.2 i hi
  have hc2 := hco i
  unfold W_X8_canPay_r44 W_X8_paysOf_r44
  rw [zi_nat' (by omega), hk, hcc, zq1, zi_add]
  refine ⟨zin_n (by omega) (by decide), zin_n (by omega) (by decide), ?_⟩
  rintro _ rfl
  rw [zi_lt (by omega) (by omega) (by omega) (by omega)]
  refine ⟨fun c => h0 ?_, fun c => h1 ?_⟩
  · simp only [zpay, Bool.and_eq_false_iff, decide_eq_false_iff_not]; omega
  · simp only [zpay, Bool.and_eq_true, decide_eq_true_eq]; omega
theorem K_whoCanPay {Ln : Nat} {D : Nat → Nat → Nat} {co : Nat → Int} {lw : Nat} {I A : Nat → Nat → Int32} {Q : Int32 → Prop} (hd : BD D) (hco : CD co) (hb : RB D I A) (hc : RC D co lw I A) (hq : Q (zm (zpay D co))) : W_X8_whoCanPay_r44 Ln I A Q := by
  have hn := hd.1
  unfold W_X8_whoCanPay_r44
  refine zLoop.count (fun i => (zm (zup (zpay D co) i), zi i)) (dn D) (Prod.ext (zm_up0 _) rfl) ?_ ?_
  · intro i hi K hk
    simp only [L_X8_whoCanPay_r44_4, hb.1]
    refine ⟨fun c => absurd ((zle_n (by omega) (by omega)).mp c) (by omega), fun _ => K_canPay hd hco hb hc hi (fun h => ⟨fun c => absurd c (by decide), fun _ => ?_⟩) (fun h => ⟨fun _ => ?_, fun c => absurd rfl c⟩)⟩
    · rw [zi_succ, zup_yes (by omega) h]; exact hk
    · rw [zm_or0, zi_succ, zup_no h]; exact hk
  · intro K
    simp only [L_X8_whoCanPay_r44_4, hb.1]
    refine ⟨fun _ => ?_, fun c => absurd ((zle_n (by omega) (by omega)).mpr (Nat.le_refl _)) c⟩
    rw [zup_all (by intro s h; simp only [zpay, Bool.and_eq_false_iff, decide_eq_false_iff_not]; omega)]; exact hq
theorem K_heavyOf {Ln : Nat} {D : Nat → Nat → Nat} {I A : Nat → Nat → Int32} {i : Nat} {Q : Int32 → Prop} (hd : BD D) (hb : RB D I A) (hi : i < dn D) (hq : Q (zi (zhv D i))) : W_X8_heavyOf_r44 Ln I A (zi i) Q := by
  have hn := hd.1
  obtain ⟨hk, _, hw, _⟩ := hb.2.2.2.2 i hi
  obtain ⟨hk2, _, hw2, _⟩ := hd.2.2.2.2 i
  unfold W_X8_heavyOf_r44 J_X8_heavyOf_r44_20_s2
  simp only [zi_nat' (show i < 2147483648 by omega), hk, hw, zq0, zq1, zq2, zq3, zq4, zq5, zq6, zq7, zq8, zq9, zq10, zq20, zq31, zq48, zq59, zq60, zq63, zq64, zq99, zq100, zq101, zq1000, zq9999, zqm1, zqm9, zqm1o, ne_eq, zi_add, zi_sub, zi_mul, zi_neg]
  refine ⟨zin_n (by omega) (by decide), zin_n (by omega) (by decide), fun c => ?_, fun c => ?_⟩
  · rintro _ rfl
    rw [zi_le (by omega) (by omega) (by omega) (by omega)] at c
    refine ⟨zin_n (by omega) (by decide), fun _ => ?_, fun c2 => ?_⟩
    · rw [zi_add]
      rw [show ((dw D i : Int) + 0) = (zhv D i : Int) by unfold zhv; rw [if_neg (by omega), if_neg (by omega)]; omega]; exact hq
    · rw [zi_inj (by omega) (by omega) (by omega) (by omega)] at c2; omega
  · rintro _ rfl
    rw [zi_le (by omega) (by omega) (by omega) (by omega)] at c
    refine ⟨zin_n (by omega) (by decide), fun c2 => ?_, fun c2 => ?_⟩
    · rw [zi_inj (by omega) (by omega) (by omega) (by omega)] at c2
      rw [zi_add, show ((dw D i : Int) + 2) = (zhv D i : Int) by unfold zhv; rw [if_neg (by omega), if_pos (by omega)]; omega]; exact hq
    · rw [zi_inj (by omega) (by omega) (by omega) (by omega)] at c2
      rw [zi_add, zi_mul, show (2 * ((dw D i : Int) + 2)) = (zhv D i : Int) by unfold zhv; rw [if_pos (by omega)]; omega]; exact hq
theorem K_isAhead {Ln : Nat} {D : Nat → Nat → Nat} {co : Nat → Int} {lw : Nat} {I A : Nat → Nat → Int32} {s t : Nat} {Q : Int32 → Prop} (hd : BD D) (hco : CD co) (hb : RB D I A) (hc : RC D co lw I A) (hs : s < dn D) (ht : t < dn D) (h1 : zbf (zrk D co lw) s t = true → Q 1) (h0 : zbf (zrk D co lw) s t = false → Q 0) : W_X8_isAhead_r44 Ln I A (zi s) (zi t) Q := by
  have hn := hd.1
  have hl := hc.2.1
  have r1 := zrk_le hd hco lw s
  have r2 := zrk_le hd hco lw t
  have hj : J_X8_isAhead_r44_58_s1 Ln I A (zi s) (zi t) (zi (zrk D co lw t - zrk D co lw s)) Q := by
    unfold J_X8_isAhead_r44_58_s1
    rw [zq0, zi_lt (by omega) (by omega) (by omega) (by omega), ne_eq, zi_inj (by omega) (by omega) (by omega) (by omega), zle_n (by omega) (by omega)]
    refine ⟨fun c => h1 ?_, fun c => ⟨fun c2 => h0 ?_, fun c2 => ⟨fun c3 => h0 ?_, fun c3 => h1 ?_⟩⟩⟩
    · simp only [zbf, Bool.or_eq_true, Bool.and_eq_true, decide_eq_true_eq]; omega
    · simp only [zbf, Bool.or_eq_false_iff, Bool.and_eq_false_iff, decide_eq_false_iff_not]; omega
    · simp only [zbf, Bool.or_eq_false_iff, Bool.and_eq_false_iff, decide_eq_false_iff_not]; omega
    · simp only [zbf, Bool.or_eq_true, Bool.and_eq_true, decide_eq_true_eq]; omega
  unfold W_X8_isAhead_r44
  rw [hc.1]
  refine ⟨fun c => ⟨fun c2 => ?_, fun c2 => ?_⟩, fun c => ?_⟩
  · rw [ne_eq, zq0, zi_inj (by omega) (by omega) (by omega) (by omega)] at c
    rw [ne_eq, zq1, zi_inj (by omega) (by omega) (by omega) (by omega)] at c2
    refine ⟨zin_n (by omega) (by decide), zin_n (by omega) (by decide), ?_⟩
    rw [zi_nat' (by omega), zi_nat' (by omega), hc.2.2 s hs, hc.2.2 t ht, zi_sub, show co s - co t = zrk D co lw t - zrk D co lw s by unfold zrk; rw [if_neg (by omega), if_neg (by omega), if_neg (by omega), if_neg (by omega)]; omega]
    exact hj
  · rw [ne_eq, zq1, zi_inj (by omega) (by omega) (by omega) (by omega), Decidable.not_not] at c2
    refine K_heavyOf hd hb ht (K_heavyOf hd hb hs ?_)
    have e0 : ¬ lw = 0 := by omega
    have e1 : lw = 1 := by omega
    rw [zi_sub, show (zhv D t : Int) - zhv D s = zrk D co lw t - zrk D co lw s by simp only [zrk, if_neg e0, if_pos e1]]
    exact hj
  · rw [ne_eq, zq0, zi_inj (by omega) (by omega) (by omega) (by omega), Decidable.not_not] at c
    refine ⟨zin_n (by omega) (by decide), zin_n (by omega) (by decide), ?_⟩
    rw [zi_nat' (by omega), zi_nat' (by omega), (hb.2.2.2.2 s hs).2.2.2, (hb.2.2.2.2 t ht).2.2.2, zi_sub, show (dc D t : Int) - dc D s = zrk D co lw t - zrk D co lw s by unfold zrk; rw [if_pos (by omega), if_pos (by omega)]]
    exact hj
theorem K_isIn {Ln : Nat} {I A : Nat → Nat → Int32} {p : Nat → Bool} {i : Nat} {Q : Int32 → Prop} (hi : i < 6) (h1 : p i = true → Q 1) (h0 : p i = false → Q 0) : W_X8_isIn Ln I A (zm p) (zi i) Q := by
  unfold W_X8_isIn
  rw [zm_bit p hi]
  cases h : p i with
  | true => exact ⟨fun c => absurd rfl c, fun _ => h1 h⟩
  | false => exact ⟨fun _ => h0 h, fun c => absurd (show (0 : Int32) ≠ 1 by decide) c⟩
/-- the first of p below i -/
def zfc : Option Nat → Int
  | none => -9
  | some s => s
theorem K_firstOf {Ln : Nat} {D : Nat → Nat → Nat} {co : Nat → Int} {lw : Nat} {I A : Nat → Nat → Int32} {ro : Nat → Nat} {p : Nat → Bool} {Q : Int32 → Prop} (hd : BD D) (hco : CD co) (hb : RB D I A) (hc : RC D co lw I A) (hro : zSo (dn D) (zrk D co lw) ro) (hp : ∀ s, dn D ≤ s → p s = false) (hq : Q (zi (zfc (zfo ro p (dn D) 0)))) : W_X8_firstOf_r44 Ln I A (zm p) Q := by
  have hn := hd.1
  unfold W_X8_firstOf_r44
  refine zLoop.inv (fun i σ => σ.2 = zi i ∧ ((σ.1 = zi (-9) ∧ ∀ s, s < i → p s = false) ∨ ∃ b, b < i ∧ σ.1 = zi b ∧ zFi i (zrk D co lw) p b)) (dn D) ⟨rfl, Or.inl ⟨by decide, fun s h => by omega⟩⟩ ?_ ?_
  · rintro i ⟨v2, v3⟩ hi ⟨h3, h2⟩ K hk
    simp only at h3 h2
    subst h3
    simp only [L_X8_firstOf_r44_5, hb.1]
    refine ⟨fun c => absurd ((zle_n (by omega) (by omega)).mp c) (by omega), fun _ => K_isIn (by omega) (fun h => ⟨fun c => absurd c (by decide), fun _ => ?_⟩) (fun h => ⟨fun _ => ?_, fun c => absurd rfl c⟩)⟩
    · rcases h2 with ⟨rfl, h2⟩ | ⟨b, hbi, rfl, h2⟩
      · refine ⟨fun _ => ?_, fun c => absurd (show zi (-9) < 0 by decide) c⟩
        rw [zi_succ]
        refine hk _ ⟨rfl, Or.inr ⟨i, by omega, rfl, by omega, h, fun t ht hpt hne => ?_⟩⟩
        have := h2 t (by omega); rw [hpt] at this; cases this
      · refine ⟨fun c => absurd c (by rw [zq0, zi_lt (by omega) (by omega) (by omega) (by omega)]; omega), fun _ => ?_⟩
        refine K_isAhead hd hco hb hc hi (by omega) (fun h4 => ⟨fun c => absurd c (by decide), fun _ => ?_⟩) (fun h4 => ⟨fun _ => ?_, fun c => absurd rfl c⟩)
        · rw [zi_succ]
          refine hk _ ⟨rfl, Or.inr ⟨i, by omega, rfl, by omega, h, fun t ht hpt hne => ?_⟩⟩
          by_cases e : t = b
          · rw [e]; exact h4
          · exact zbf_tr h4 (h2.2.2 t (by omega) hpt e)
        · rw [zi_succ]
          refine hk _ ⟨rfl, Or.inr ⟨b, by omega, rfl, by omega, h2.2.1, fun t ht hpt hne => ?_⟩⟩
          by_cases e : t = i
          · subst e
            rcases zbf_tot (r := zrk D co lw) hne with q | q
            · rw [q] at h4; cases h4
            · exact q
          · exact h2.2.2 t (by omega) hpt hne
    · rw [zi_succ]
      refine hk _ ⟨rfl, ?_⟩
      rcases h2 with ⟨rfl, h2⟩ | ⟨b, hbi, rfl, h2⟩
      · refine Or.inl ⟨rfl, fun s hs => ?_⟩
        by_cases e : s = i
        · rw [e]; exact h
        · exact h2 s (by omega)
      · refine Or.inr ⟨b, by omega, rfl, by omega, h2.2.1, fun t ht hpt hne => ?_⟩
        by_cases e : t = i
        · subst e; rw [hpt] at h; cases h
        · exact h2.2.2 t (by omega) hpt hne
  · rintro ⟨v2, v3⟩ ⟨h3, h2⟩ K
    simp only at h3 h2
    subst h3
    simp only [L_X8_firstOf_r44_5, hb.1]
    refine ⟨fun _ => ?_, fun c => absurd ((zle_n (by omega) (by omega)).mpr (Nat.le_refl _)) c⟩
    rcases h2 with ⟨rfl, h2⟩ | ⟨b, hbi, rfl, h2⟩
    · rw [(zfo_no hro).mpr h2] at hq; exact hq
    · cases he : zfo ro p (dn D) 0 with
      | none => have := (zfo_no hro).mp he b hbi; rw [h2.2.1] at this; cases this
      | some s => rw [he, zFi_uniq (zfo_fi hro he) h2] at hq; exact hq

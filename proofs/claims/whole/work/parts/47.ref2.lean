/-! the reference's nights gone through -/
def RF (I A I' A' : Nat → Nat → Int32) : Prop := (∀ o, o ≠ 44 → I' o = I o) ∧ (∀ k, k ≠ 26 → k ≠ 27 → I' 44 k = I 44 k) ∧ ∀ a, a ≠ 57 → a ≠ 58 → A' a = A a
theorem RF.refl (I A : Nat → Nat → Int32) : RF I A I A := ⟨fun _ _ => rfl, fun _ _ _ => rfl, fun _ _ _ => rfl⟩
theorem RF.trans {I A I' A' I2 A2 : Nat → Nat → Int32} (h : RF I A I' A') (h2 : RF I' A' I2 A2) : RF I A I2 A2 := ⟨fun o ho => (h2.1 o ho).trans (h.1 o ho), fun k h3 h4 => (h2.2.1 k h3 h4).trans (h.2.1 k h3 h4), fun a h3 h4 => (h2.2.2 a h3 h4).trans (h.2.2 a h3 h4)⟩
theorem RB.fr {D : Nat → Nat → Nat} {I A I' A' : Nat → Nat → Int32} (h : RB D I A) (h2 : RF I A I' A') : RB D I' A' := by
  obtain ⟨a, b, c, d, e⟩ := h
  obtain ⟨_, f, g⟩ := h2
  refine ⟨?_, ?_, ?_, ?_, ?_⟩
  · rw [f _ (by decide) (by decide)]; exact a
  · rw [f _ (by decide) (by decide)]; exact b
  · rw [f _ (by decide) (by decide)]; exact c
  · rw [f _ (by decide) (by decide)]; exact d
  · intro s hs
    rw [g 45 (by decide) (by decide), g 46 (by decide) (by decide), g 47 (by decide) (by decide), g 48 (by decide) (by decide)]; exact e s hs
theorem RC.fr {D : Nat → Nat → Nat} {co : Nat → Int} {lw : Nat} {I A I' A' : Nat → Nat → Int32} (h : RC D co lw I A) (h2 : RF I A I' A') : RC D co lw I' A' := by
  obtain ⟨a, b, c⟩ := h
  obtain ⟨_, f, g⟩ := h2
  refine ⟨?_, b, ?_⟩
  · rw [f _ (by decide) (by decide)]; exact a
  · rw [g 49 (by decide) (by decide)]; exact c
theorem RF.i {I A I' A' : Nat → Nat → Int32} (k : Nat) (hk : k = 26 ∨ k = 27) (x : Int32) (h : RF I A I' A') : RF I A (zp I' 44 k x) A' := by
  refine ⟨fun o ho => by rw [zp_ne ho]; exact h.1 o ho, fun j h3 h4 => ?_, h.2.2⟩
  rw [zp_at, if_neg (by omega)]; exact h.2.1 j h3 h4
theorem RF.a {I A I' A' : Nat → Nat → Int32} (a i : Nat) (ha : a = 57 ∨ a = 58) (x : Int32) (h : RF I A I' A') : RF I A I' (zw A' a i x) := by
  refine ⟨h.1, h.2.1, fun b h3 h4 => ?_⟩
  rw [zw_ne (by omega)]; exact h.2.2 b h3 h4
theorem K_begin {Ln : Nat} {I A : Nat → Nat → Int32} {Q : (Nat → Nat → Int32) → Prop} (hq : ∀ A', RF I A I A' → (∀ s, s < 6 → A' 57 s = zi 99 ∧ A' 58 s = zi 0) → Q A') : W_X8_begin_r44 Ln I A Q := by
  unfold W_X8_begin_r44
  refine zLoop.inv (fun i σ => σ.1 = zi i ∧ RF I A I σ.2 ∧ ∀ s, s < i → σ.2 57 s = zi 99 ∧ σ.2 58 s = zi 0) 6 ⟨rfl, RF.refl I A, fun s h => by omega⟩ ?_ ?_
  · rintro i ⟨v1, A2⟩ hi ⟨h3, hf, h2⟩ K hk
    simp only at h3 hf h2
    subst h3
    simp only [L_X8_begin_r44_2]
    rw [zi_nat' (by omega)]
    refine ⟨fun c => absurd c (by rw [zq6, zi_le (by omega) (by omega) (by omega) (by omega)]; omega), fun _ => ⟨zin_n (by omega) (by decide), zin_n (by omega) (by decide), ?_⟩⟩
    rw [zi_succ]
    refine hk _ ⟨rfl, RF.a 58 i (Or.inr rfl) _ (RF.a 57 i (Or.inl rfl) _ hf), fun s hs => ?_⟩
    dsimp only
    rw [zw_ne (by decide), zw_at, zw_at, zw_ne (by decide)]
    by_cases e : s = i
    · rw [if_pos e, if_pos e]; exact ⟨rfl, rfl⟩
    · rw [if_neg e, if_neg e]; exact h2 s (by omega)
  · rintro ⟨v1, A2⟩ ⟨h3, hf, h2⟩ K
    simp only at h3 hf h2
    subst h3
    simp only [L_X8_begin_r44_2]
    exact ⟨fun _ => hq A2 hf h2, fun c => absurd (by decide) c⟩
theorem zct_s (p : Nat → Bool) : zm (fun s => p s) = zm p := rfl
theorem zbit_and (p : Nat → Bool) : zm p &&& 1 = bif p 0 then 1 else 0 := by
  simp only [zm, zmk]
  generalize p 0 = a0; generalize p 1 = a1; generalize p 2 = a2; generalize p 3 = a3; generalize p 4 = a4; generalize p 5 = a5
  revert a0 a1 a2 a3 a4 a5; decide +kernel
theorem zshr (p : Nat → Bool) : zm p >>> (1 &&& 31) = zm (fun s => decide (s < 5) && p (s + 1)) := by
  simp only [zm, zmk]
  generalize p 0 = a0; generalize p 1 = a1; generalize p 2 = a2; generalize p 3 = a3; generalize p 4 = a4; generalize p 5 = a5; generalize p (5 + 1) = a6
  revert a0 a1 a2 a3 a4 a5 a6; decide +kernel
theorem K_bits {Ln : Nat} {I A : Nat → Nat → Int32} {p : Nat → Bool} {Q : Int32 → Prop} (hq : Q (zi (zct p))) : W_X8_bits Ln I A (zm p) Q := by
  unfold W_X8_bits
  refine zLoop.inv (fun i σ => ∃ (q : Nat → Bool) (k : Nat), σ.1 = zi k ∧ σ.2 = zm q ∧ k + zct q = zct p ∧ ∀ s, 6 - i ≤ s → s < 6 → q s = false) 6 ⟨p, 0, rfl, rfl, by omega, fun s h h2 => by omega⟩ ?_ ?_
  · rintro i ⟨v1, v2⟩ hi ⟨q, k, h1, h2, h3, h4⟩ K hk
    simp only at h1 h2
    subst h1; subst h2
    simp only [L_X8_bits_4]
    rw [zm_le0, zbit_and, zshr]
    refine ⟨fun c => ?_, fun _ => ?_⟩
    · rw [show k = zct p by have := zct_0.mpr c; omega]; exact hq
    · refine hk _ ⟨_, k + (bif q 0 then 1 else 0), ?_, rfl, ?_, ?_⟩
      · dsimp only
        cases q 0
        · simp only [cond_false]; rw [zq0, zi_add]; rfl
        · simp only [cond_true]; rw [zi_succ]
      · rw [← h3]
        simp only [zct, show decide (0 < 5) = true from rfl, show decide (1 < 5) = true from rfl, show decide (2 < 5) = true from rfl, show decide (3 < 5) = true from rfl, show decide (4 < 5) = true from rfl, show decide (5 < 5) = false from rfl, Bool.true_and, Bool.false_and, cond_false, show (0 + 1 : Nat) = 1 from rfl, show (1 + 1 : Nat) = 2 from rfl, show (2 + 1 : Nat) = 3 from rfl, show (3 + 1 : Nat) = 4 from rfl, show (4 + 1 : Nat) = 5 from rfl]
        omega
      · intro s hs hs6
        by_cases e : s < 5
        · simp only [e, decide_true, Bool.true_and]; exact h4 (s + 1) (by omega) (by omega)
        · simp [e]
  · rintro ⟨v1, v2⟩ ⟨q, k, h1, h2, h3, h4⟩ K
    simp only at h1 h2
    subst h1; subst h2
    simp only [L_X8_bits_4]
    rw [zm_le0]
    have hz : ∀ s, s < 6 → q s = false := fun s hs => h4 s (by omega) hs
    refine ⟨fun _ => ?_, fun c => absurd hz c⟩
    rw [show k = zct p by have := zct_0.mpr hz; omega]; exact hq
theorem zfit_add {D : Nat → Nat → Nat} {b : Nat → Bool} {s : Nat} (hs : s < 6) (h : b s = false) : zfit D (zadd b s) = (decide (zct b < dse D) && decide (zld (zhv D) b + zhv D s ≤ dbe D)) := by
  unfold zfit
  rw [zct_ad b hs h, zld_ad _ b hs h]
  rfl
theorem zld_le {D : Nat → Nat → Nat} (hd : BD D) (p : Nat → Bool) : zld (zhv D) p ≤ 132 := by
  have e := zhv_le hd
  have e0 := e 0; have e1 := e 1; have e2 := e 2; have e3 := e 3; have e4 := e 4; have e5 := e 5
  unfold zld
  cases p 0 <;> cases p 1 <;> cases p 2 <;> cases p 3 <;> cases p 4 <;> cases p 5 <;> simp only [cond_true, cond_false] <;> omega
/-- who sits, by the reference: the first of those left, again and again -/
theorem K_seats {Ln : Nat} {D : Nat → Nat → Nat} {co : Nat → Int} {lw : Nat} {I A : Nat → Nat → Int32} {ro : Nat → Nat} {p : Nat → Bool} {d : Nat} {v2 v3 : Int32} {on : Nat → Nat} {Q : (Nat → Nat → Int32) → (Nat → Nat → Int32) → Prop} (hd : BD D) (hco : CD co) (hb : RB D I A) (hc : RC D co lw I A) (hro : zSo (dn D) (zrk D co lw) ro) (hp : ∀ s, dn D ≤ s → p s = false) (hs0 : I 44 27 = zi 0) (ho : ∀ s, s < dn D → A 57 s = zi (on s))
    (hq : ∀ I' A', RF I A I' A' → I' 44 26 = I 44 26 → I' 44 27 = zm (zse ro (zfit D) p (dn D) 0 (fun _ => false)) → A' 58 = A 58 → (∀ s, s < dn D → A' 57 s = zi ((if zse ro (zfit D) p (dn D) 0 (fun _ => false) s then d else on s : Nat) : Int)) → ∀ v4 K, L_X8_goNight_r44_65 Ln (zi d) v2 v3 Q (v4, 0, I', A') K) : zLoop (L_X8_goNight_r44_65 Ln (zi d) v2 v3 Q) (0, zm p, I, A) := by
  have hn := hd
  unfold BD at hn
  have hinj : ∀ i j, i < dn D → j < dn D → ro i = ro j → i = j := by
    intro i j hi hj e
    by_cases h1 : i < j
    · have := hro.2.2 i j h1 hj; rw [e, zbf_ir] at this; cases this
    · by_cases h2 : j < i
      · have := hro.2.2 j i h2 hi; rw [e, zbf_ir] at this; cases this
      · omega
  refine ⟨fun m σ => ∃ (j : Nat) (q b : Nat → Bool), j ≤ dn D ∧ m = dn D - j ∧ σ.1 = zi (zld (zhv D) b) ∧ σ.2.1 = zm q ∧ RF I A σ.2.2.1 σ.2.2.2 ∧ σ.2.2.1 44 26 = I 44 26 ∧ σ.2.2.1 44 27 = zm b ∧ σ.2.2.2 58 = A 58 ∧ (∀ s, s < dn D → σ.2.2.2 57 s = zi ((if b s then d else on s : Nat) : Int)) ∧ (∀ s, dn D ≤ s → q s = false) ∧ (∀ i, i < dn D → q (ro i) = (p (ro i) && decide (j ≤ i))) ∧ (∀ i, j ≤ i → i < dn D → b (ro i) = false) ∧ zse ro (zfit D) p (dn D - j) j b = zse ro (zfit D) p (dn D) 0 (fun _ => false), ⟨dn D, 0, p, fun _ => false, Nat.zero_le _, rfl, rfl, rfl, RF.refl I A, rfl, hs0.trans zm_none, rfl, fun s hs => by simp only [Bool.false_eq_true, if_false]; exact ho s hs, hp, fun i hi => by simp, fun _ _ _ => rfl, rfl⟩, ?_⟩
  rintro m ⟨v4, v5, I', A'⟩ ⟨j, q, b, hj, rfl, h1, h2, h3, h4, h5, h6, h7, h8, h9, h10, h11⟩
  simp only at h1 h2 h3 h4 h5 h6 h7
  subst h1; subst h2
  have hb' := hb.fr h3
  have hc' := hc.fr h3
  by_cases hz : ∀ s, s < 6 → q s = false
  · have e0 : zse ro (zfit D) p (dn D - j) j b = b := by
      have := zse_skip (ro := ro) (fit := zfit D) (p := p) (b := b) (k := 0) (i := j) (dn D - j) (fun t ht1 ht2 => by
        have q1 := h9 t (by omega)
        have q2 := hro.1 t (by omega)
        rw [hz _ (by omega)] at q1
        simpa [ht1] using q1.symm)
      rw [Nat.zero_add] at this
      exact this
    rw [e0] at h11
    rw [← h11] at hq
    rw [show zm q = 0 from (zm_eq0 q).mpr hz]
    exact hq I' A' h3 h4 h5 h6 h7 _ _
  · simp only [L_X8_goNight_r44_65]
    rw [zm_le0]
    refine ⟨fun c => absurd c hz, fun _ => ?_⟩
    refine K_firstOf hd hco hb' hc' hro h8 ?_
    cases hf : zfo ro q (dn D) 0 with
    | none =>
      refine absurd (fun s hs => ?_) hz
      by_cases e : s < dn D
      · exact (zfo_no hro).mp hf s e
      · exact h8 s (by omega)
    | some s =>
      obtain ⟨i, _, hi, hs, hqs, hbef⟩ := zfo_some hf
      have hi' : i < dn D := by omega
      subst hs
      have hri := hro.1 i hi'
      have hq9 := h9 i hi'
      rw [hqs] at hq9
      have hpi : p (ro i) = true := by
        cases hp9 : p (ro i) with
        | true => rfl
        | false => rw [hp9] at hq9; cases hq9
      have hji : j ≤ i := by rw [hpi, Bool.true_and] at hq9; exact of_decide_eq_true hq9.symm
      have hbi := h10 i hji hi'
      -- what stands between is passed by
      have hskip : zse ro (zfit D) p (dn D - i) i b = zse ro (zfit D) p (dn D) 0 (fun _ => false) := by
        rw [← h11]
        have := zse_skip (ro := ro) (fit := zfit D) (p := p) (b := b) (k := dn D - i) (i := j) (i - j) (fun t ht1 ht2 => by
          have q1 := h9 t (by omega)
          rw [hbef t (Nat.zero_le t) (by omega)] at q1
          simpa [ht1] using q1.symm)
        rw [show dn D - i + (i - j) = dn D - j by omega, show j + (i - j) = i by omega] at this
        exact this.symm
      rw [show dn D - i = (dn D - (i + 1)) + 1 by omega, zse_s, hpi, Bool.true_and] at hskip
      have hleft : zm q &&& (((1 : Int32) <<< (zi (ro i) &&& 31)) ^^^ (-1)) = zm (zwo q (ro i)) := by
        rw [zm_one (by omega), zm_andnot]; rfl
      have hw8 : ∀ s, dn D ≤ s → zwo q (ro i) s = false := fun s hs => by simp [zwo, h8 s hs]
      have hw9 : ∀ t, t < dn D → zwo q (ro i) (ro t) = (p (ro t) && decide (i + 1 ≤ t)) := by
        intro t ht
        unfold zwo
        by_cases e : t = i
        · subst e; simp
        · rw [show (ro t == ro i) = false from beq_eq_false_iff_ne.mpr (fun c => e (hinj t i ht hi' c))]
          simp only [Bool.not_false, Bool.and_true]
          by_cases e2 : t < i
          · rw [hbef t (Nat.zero_le t) e2]; simp; intro; omega
          · rw [h9 t ht, show decide (j ≤ t) = decide (i + 1 ≤ t) from decide_eq_decide.mpr (by omega)]
      simp only [zfc]
      rw [h5]
      refine K_bits ?_
      rintro _ rfl
      rw [hleft, hb'.2.1, zle_n (by omega) (by have := zct_le b; omega)]
      have hmm : dn D - (i + 1) < dn D - j := by omega
      have hl := zld_le hd b
      have hh := zhv_le hd (ro i)
      rw [zfit_add (by omega) hbi] at hskip
      refine ⟨fun c => ?_, fun c => ?_⟩
      · rw [show decide (zct b < dse D) = false from decide_eq_false (by omega), Bool.false_and] at hskip
        simp only [Bool.false_eq_true, if_false] at hskip
        exact ⟨dn D - (i + 1), hmm, i + 1, zwo q (ro i), b, by omega, rfl, rfl, rfl, h3, h4, rfl, h6, h7, hw8, hw9, fun t ht1 ht2 => h10 t (by omega) ht2, hskip⟩
      · rw [show decide (zct b < dse D) = true from decide_eq_true (by omega), Bool.true_and] at hskip
        refine K_heavyOf hd hb' hri ?_
        rw [zi_add, hb'.2.2.1, zi_lt (by omega) (by omega) (by omega) (by omega)]
        refine ⟨fun c2 => ?_, fun c2 => ?_⟩
        · rw [show decide (zld (zhv D) b + zhv D (ro i) ≤ dbe D) = false from decide_eq_false (by omega)] at hskip
          simp only [Bool.false_eq_true, if_false] at hskip
          exact ⟨dn D - (i + 1), hmm, i + 1, zwo q (ro i), b, by omega, rfl, rfl, rfl, h3, h4, rfl, h6, h7, hw8, hw9, fun t ht1 ht2 => h10 t (by omega) ht2, hskip⟩
        · rw [show decide (zld (zhv D) b + zhv D (ro i) ≤ dbe D) = true from decide_eq_true (by omega)] at hskip
          simp only [if_true] at hskip
          rintro _ rfl
          rw [zi_nat' (by omega), zm_one (by omega), zm_or]
          have h3' := RF.i 27 (Or.inr rfl) (zm (fun s => b s || s == ro i)) h3
          refine K_heavyOf hd (hb.fr h3') hri ⟨zin_n (by omega) (by decide), ?_⟩
          refine ⟨dn D - (i + 1), hmm, i + 1, zwo q (ro i), zadd b (ro i), by omega, rfl, ?_, rfl, RF.a 57 _ (Or.inl rfl) _ h3', ?_, ?_, ?_, ?_, hw8, hw9, ?_, hskip⟩
          · rw [zi_add, zld_ad _ b (by omega) hbi]; rfl
          · try dsimp only
            rw [zp_at, if_neg (by decide)]; exact h4
          · try dsimp only
            rw [zp_at, if_pos rfl]; rfl
          · try dsimp only
            rw [zw_ne (by decide)]; exact h6
          · intro s hs
            try dsimp only
            rw [zw_at]
            by_cases e : s = ro i
            · rw [if_pos e, if_pos (by simp [zadd, e])]
            · rw [if_neg e, h7 s hs, show zadd b (ro i) s = b s by unfold zadd; rw [show (s == ro i) = false from beq_eq_false_iff_ne.mpr e, Bool.or_false]]
          · intro t ht1 ht2
            have := h10 t (by omega) ht2
            unfold zadd
            rw [this, Bool.false_or, beq_eq_false_iff_ne]
            intro c
            have := hinj t i ht2 hi' c
            omega
theorem zwt_ge {D : Nat → Nat → Nat} {d : Nat} {σ : ZS} {s : Nat} (h : dn D ≤ s) : zwt D d σ s = false := by
  unfold zwt zcame
  rw [show decide (s < dn D) = false from decide_eq_false (by omega)]; rfl
/-- what the reference holds before night d -/
def RN (D : Nat → Nat → Nat) (σ : ZS) (A : Nat → Nat → Int32) : Prop := ∀ s, s < dn D → A 57 s = zi (σ.1 s) ∧ A 58 s = zi (σ.2 s)
theorem K_goNight {Ln : Nat} {D : Nat → Nat → Nat} {co : Nat → Int} {lw : Nat} {I A : Nat → Nat → Int32} {ro : Nat → Nat} {d : Nat} {σ : ZS} {Q : (Nat → Nat → Int32) → (Nat → Nat → Int32) → Prop} (hd : BD D) (hco : CD co) (hb : RB D I A) (hc : RC D co lw I A) (hro : zSo (dn D) (zrk D co lw) ro) (hd6 : d < 60) (hok : zok σ d) (hn : RN D σ A)
    (hq : ∀ I' A', RF I A I' A' → RN D (zni D co ro d σ) A' → I' 44 26 = zi (zrwr D co ro d σ) → I' 44 27 = zm (zsit D co ro d σ) → Q I' A') : W_X8_goNight_r44 Ln I A (zi d) Q := by
  have hn6 := hd
  unfold BD at hn6
  unfold W_X8_goNight_r44
  refine K_cameBy hd hb hd6 (K_overNow (on := σ.1) hd hb (fun s hs => ⟨(hn s hs).1, by have := (hok s).1; omega⟩) (K_whoCanPay hd hco hb hc ?_))
  rintro _ rfl
  rw [zm_wt, zm_andnot]
  refine K_firstOf hd hco hb hc hro (fun s hs => by rw [zwt_ge hs]; rfl) ?_
  -- the rest, whoever rows
  have hJ : ∀ (r : Int32) (po : Option Nat), zpoor D co ro d σ = po → r = zi (zrwr D co ro d σ) → (znone (zwt D d σ) = true → po = none) → J_X8_goNight_r44_46_s2 Ln I A (zi d) (zm (zwt D d σ)) (zi (zfc po)) r Q := by
    rintro r po hpo rfl hnz
    unfold J_X8_goNight_r44_46_s2
    rintro I6 hI6
    have h6 : RF I A I6 A := by rw [hI6]; exact RF.i 27 (Or.inr rfl) _ (RF.i 26 (Or.inl rfl) _ (RF.refl I A))
    refine K_whoCanPay hd hco (hb.fr h6) (hc.fr h6) ?_
    rw [zm_and]
    refine K_seats (d := d) hd hco (hb.fr h6) (hc.fr h6) hro (fun s hs => by rw [zwt_ge hs]; rfl) (by rw [hI6, zp_at, if_pos rfl]; rfl) (fun s hs => (hn s hs).1) ?_
    intro I' A' f1 g26 g27 g58 g57 v4 K
    have e26 : I' 44 26 = zi (zrwr D co ro d σ) := by rw [g26, hI6, zp_at, if_neg (by decide), zp_at, if_pos rfl]
    have f2 : RF I A I' A' := h6.trans f1
    have eb : zse ro (zfit D) (fun s => zwt D d σ s && zpay D co s) (dn D) 0 (fun _ => false) = zboat D co ro d σ := rfl
    rw [eb] at g27 g57
    have hempty : znone (zwt D d σ) = true → ∀ s, zboat D co ro d σ s = false := by
      intro h s
      cases hb2 : zboat D co ro d σ s with
      | false => rfl
      | true =>
        have h3 := (zboat_sub hb2).1
        rw [(znone_iff _).mp h s (by have := (zwt_lt h3).1; omega)] at h3; cases h3
    have e27 : I' 44 27 = zm (zsit D co ro d σ) := by
      rw [g27]
      refine zm_congr (fun s _ => ?_)
      unfold zsit
      split
      · next h => exact hempty h s
      · rfl
    simp only [L_X8_goNight_r44_65]
    refine ⟨fun _ => ?_, fun c => absurd (by decide) c⟩
    cases po with
    | none =>
      refine ⟨fun _ => ?_, fun c => absurd (show zi (zfc none) < 0 by decide) c⟩
      refine hq I' A' f2 (fun s hs => ?_) e26 e27
      rw [g57 s hs, g58, (hn s hs).2]
      unfold zni
      by_cases h : znone (zwt D d σ) = true
      · rw [if_pos h, hempty h s]; simp
      · rw [if_neg h, hpo]; exact ⟨rfl, rfl⟩
    | some p =>
      have hpl := zpoor_lt hpo
      have hnn : znone (zwt D d σ) = false := by
        cases h : znone (zwt D d σ) with
        | false => rfl
        | true => cases hnz h
      have hok2 := (hok p).2
      have hb2 := hb.fr f2
      refine ⟨fun c => absurd c (by simp only [zfc]; rw [zgt0 (by omega) (by omega)]; omega), fun _ => ?_⟩
      simp only [zfc]
      have hz := zin_n (L := 6) (s := p) (by omega) (by decide)
      rw [zi_nat' (by omega), zw_at, if_pos rfl, g58, (hn p hpl).2, zi_succ, hb2.2.2.2.1, ne_eq, zeq_n (by omega) (by omega)]
      refine ⟨hz, hz, hz, fun c => ?_, fun c => ?_⟩
      · rintro _ rfl
        refine ⟨hz, hq _ _ (RF.a 57 _ (Or.inl rfl) _ (RF.a 58 _ (Or.inr rfl) _ f2)) (fun s hs => ?_) e26 e27⟩
        unfold zni
        rw [hnn, hpo]
        simp only [Bool.false_eq_true, if_false]
        rw [zw_at, zw_ne (show 58 ≠ 57 by decide), zw_at, zw_ne (show 57 ≠ 58 by decide)]
        by_cases e : s = p
        · rw [if_pos e, if_pos e, if_pos e, if_pos e, if_neg c]; exact ⟨rfl, rfl⟩
        · rw [if_neg e, if_neg e, if_neg e, if_neg e, g57 s hs, g58, (hn s hs).2]; exact ⟨rfl, rfl⟩
      · rw [Decidable.not_not] at c
        rintro _ rfl
        refine ⟨hz, hq _ _ (RF.a 57 _ (Or.inl rfl) _ (RF.a 58 _ (Or.inr rfl) _ f2)) (fun s hs => ?_) e26 e27⟩
        unfold zni
        rw [hnn, hpo]
        simp only [Bool.false_eq_true, if_false]
        rw [zw_at, zw_ne (show 58 ≠ 57 by decide), zw_at, zw_ne (show 57 ≠ 58 by decide)]
        by_cases e : s = p
        · rw [if_pos e, if_pos e, if_pos e, if_pos e, if_pos c]; exact ⟨rfl, rfl⟩
        · rw [if_neg e, if_neg e, if_neg e, if_neg e, g57 s hs, g58, (hn s hs).2]; exact ⟨rfl, rfl⟩
  have hpo : zfo ro (fun s => zwt D d σ s && !zpay D co s) (dn D) 0 = zpoor D co ro d σ := rfl
  rw [hpo, ne_eq, zm_znone]
  refine ⟨fun c => ⟨fun c2 => ?_, fun c2 => ?_⟩, fun c => ?_⟩
  · have hnn := Bool.eq_false_iff.mpr c
    cases hp : zpoor D co ro d σ with
    | none => rw [hp] at c2; exact absurd c2 (by decide)
    | some p => exact hJ _ (some p) hp (by unfold zrwr; rw [hnn, hp]; rfl) (fun h => by rw [hnn] at h; cases h)
  · have hnn := Bool.eq_false_iff.mpr c
    cases hp : zpoor D co ro d σ with
    | none => exact hJ _ none hp (by unfold zrwr; rw [hnn, hp]; rfl) (fun _ => rfl)
    | some p =>
      have hpl := zpoor_lt hp
      rw [hp] at c2
      exact absurd (by simp only [zfc]; rw [zq0, zi_le (by omega) (by omega) (by omega) (by omega)]; omega) c2
  · rw [Decidable.not_not] at c
    have hp : zpoor D co ro d σ = none := by
      refine (zfo_no hro).mpr (fun t ht => ?_)
      rw [(znone_iff _).mp c t (by omega)]; rfl
    rw [hp]
    exact hJ _ none hp (by unfold zrwr; rw [if_pos c]; exact zqm9) (fun _ => rfl)
theorem K_goTo {Ln : Nat} {D : Nat → Nat → Nat} {co : Nat → Int} {lw : Nat} {I A : Nat → Nat → Int32} {ro : Nat → Nat} {d : Nat} {Q : (Nat → Nat → Int32) → (Nat → Nat → Int32) → Prop} (hd : BD D) (hco : CD co) (hb : RB D I A) (hc : RC D co lw I A) (hro : zSo (dn D) (zrk D co lw) ro) (hd6 : d < 60)
    (hq : ∀ I' A', RF I A I' A' → RN D (zrun D co ro (d + 1)) A' → I' 44 26 = zi (zrwr D co ro d (zrun D co ro d)) → I' 44 27 = zm (zsit D co ro d (zrun D co ro d)) → Q I' A') : W_X8_goTo_r44 Ln I A (zi d) Q := by
  have hn := hd.1
  unfold W_X8_goTo_r44
  refine K_begin (fun A1 f1 g1 => ?_)
  refine zLoop.inv (fun i σ => σ.1 = zi i ∧ RF I A σ.2.1 σ.2.2 ∧ RN D (zrun D co ro i) σ.2.2 ∧ (i = d + 1 → σ.2.1 44 26 = zi (zrwr D co ro d (zrun D co ro d)) ∧ σ.2.1 44 27 = zm (zsit D co ro d (zrun D co ro d)))) (d + 1) ⟨rfl, f1, fun s hs => g1 s (by omega), fun h => by omega⟩ ?_ ?_
  · rintro i ⟨v2, I2, A2⟩ hi ⟨h1, hf, hr, _⟩ K hk
    simp only at h1 hf hr
    subst h1
    simp only [L_X8_goTo_r44_6]
    rw [zlt_n (by omega) (by omega)]
    refine ⟨fun c => by omega, fun _ => K_goNight hd hco (hb.fr hf) (hc.fr hf) hro (by omega) (zrun_ok D co ro i) hr (fun I3 A3 f3 g3 e26 e27 => ?_)⟩
    rw [zi_succ]
    refine hk _ ⟨rfl, hf.trans f3, g3, fun e => ?_⟩
    have : i = d := by omega
    subst this
    exact ⟨e26, e27⟩
  · rintro ⟨v2, I2, A2⟩ ⟨h1, hf, hr, h26⟩ K
    have h27 := h26 rfl
    simp only at h1 hf hr h27
    subst h1
    simp only [L_X8_goTo_r44_6]
    rw [zlt_n (by omega) (by omega)]
    exact ⟨fun _ => hq I2 A2 hf hr h27.1 h27.2, fun c => absurd (Nat.lt_succ_self d) c⟩
theorem K_goAll {Ln : Nat} {D : Nat → Nat → Nat} {co : Nat → Int} {lw : Nat} {I A : Nat → Nat → Int32} {ro : Nat → Nat} {Q : (Nat → Nat → Int32) → (Nat → Nat → Int32) → Prop} (hd : BD D) (hco : CD co) (hb : RB D I A) (hc : RC D co lw I A) (hro : zSo (dn D) (zrk D co lw) ro)
    (hq : ∀ I' A', RF I A I' A' → RN D (zrun D co ro 60) A' → Q I' A') : W_X8_goAll_r44 Ln I A Q := by
  unfold W_X8_goAll_r44
  rw [zq59]
  exact K_goTo (d := 59) hd hco hb hc hro (by decide) (fun I' A' f g _ _ => hq I' A' f g)

/-! the nights: more of the plain picture -/
theorem zfo_s {ro : Nat → Nat} {p : Nat → Bool} {k i : Nat} : zfo ro p (k + 1) i = if p (ro i) then some (ro i) else zfo ro p k (i + 1) := rfl
theorem zse_s {ro : Nat → Nat} {fit : (Nat → Bool) → Bool} {p b : Nat → Bool} {k i : Nat} : zse ro fit p (k + 1) i b = zse ro fit p k (i + 1) (if p (ro i) && fit (zadd b (ro i)) then zadd b (ro i) else b) := rfl
theorem zse_skip {ro : Nat → Nat} {fit : (Nat → Bool) → Bool} {p : Nat → Bool} {b : Nat → Bool} : ∀ {k i : Nat} (e : Nat), (∀ t, i ≤ t → t < i + e → p (ro t) = false) → zse ro fit p (k + e) i b = zse ro fit p k (i + e) b
  | k, i, 0, _ => rfl
  | k, i, e + 1, h => by
    rw [show k + (e + 1) = (k + e) + 1 by omega]
    show zse ro fit p (k + e) (i + 1) (if p (ro i) && fit (zadd b (ro i)) then zadd b (ro i) else b) = _
    rw [h i (Nat.le_refl i) (by omega), Bool.false_and]
    simp only [Bool.false_eq_true, if_false]
    rw [zse_skip e (fun t h1 h2 => h t (by omega) (by omega)), show i + 1 + e = i + (e + 1) by omega]
theorem zse_sub {ro : Nat → Nat} {fit : (Nat → Bool) → Bool} {p : Nat → Bool} : ∀ {k i : Nat} {b : Nat → Bool} {s : Nat}, zse ro fit p k i b s = true → b s = true ∨ p s = true
  | 0, i, b, s, h => Or.inl h
  | k + 1, i, b, s, h => by
    unfold zse at h
    rcases zse_sub h with h | h
    · split at h
      · next hc =>
        rw [Bool.and_eq_true] at hc
        simp only [zadd, Bool.or_eq_true, beq_iff_eq] at h
        rcases h with h | h
        · exact Or.inl h
        · exact Or.inr (by rw [h]; exact hc.1)
      · exact Or.inl h
    · exact Or.inr h
theorem zboat_sub {D : Nat → Nat → Nat} {co : Nat → Int} {ro : Nat → Nat} {d : Nat} {σ : ZS} {s : Nat} (h : zboat D co ro d σ s = true) : zwt D d σ s = true ∧ zpay D co s = true := by
  rcases zse_sub h with h | h
  · cases h
  · rwa [Bool.and_eq_true] at h
theorem zpoor_sub {D : Nat → Nat → Nat} {co : Nat → Int} {ro : Nat → Nat} {d : Nat} {σ : ZS} {s : Nat} (h : zpoor D co ro d σ = some s) : zwt D d σ s = true ∧ zpay D co s = false := by
  obtain ⟨j, _, _, _, h4, _⟩ := zfo_some h
  rw [Bool.and_eq_true, Bool.not_eq_true'] at h4
  exact h4
theorem zwt_lt {D : Nat → Nat → Nat} {d : Nat} {σ : ZS} {s : Nat} (h : zwt D d σ s = true) : s < dn D ∧ dc D s ≤ d ∧ 99 ≤ σ.1 s := by
  simp only [zwt, zcame, zovr, Bool.and_eq_true, decide_eq_true_eq, Bool.not_eq_true', Bool.and_eq_false_iff, decide_eq_false_iff_not] at h
  omega
theorem zovr_lt {D : Nat → Nat → Nat} {on : Nat → Nat} {s : Nat} (h : zovr D on s = true) : s < dn D ∧ on s < 99 := by
  simpa only [zovr, Bool.and_eq_true, decide_eq_true_eq] using h
def zok (σ : ZS) (d : Nat) : Prop := ∀ s, (σ.1 s = 99 ∨ σ.1 s < d) ∧ σ.2 s ≤ d
def zfb (D : Nat → Nat → Nat) (co : Nat → Int) (ro : Nat → Nat) (d : Nat) (σ : ZS) (s : Nat) : Bool :=
  match zpoor D co ro d σ with | none => false | some p => s == p && σ.2 p + 1 == dro D
theorem zni_ok {D : Nat → Nat → Nat} {co : Nat → Int} {ro : Nat → Nat} {d : Nat} {σ : ZS} (h : zok σ d) : zok (zni D co ro d σ) (d + 1) := by
  intro s
  have hs := h s
  unfold zni
  split
  · omega
  · split
    · dsimp only
      split <;> omega
    · next p hp =>
      have h2 := h p
      dsimp only
      split
      · split <;> omega
      · split <;> omega
theorem zrun_ok (D : Nat → Nat → Nat) (co : Nat → Int) (ro : Nat → Nat) : ∀ d, zok (zrun D co ro d) d
  | 0 => fun _ => ⟨Or.inl rfl, Nat.le_refl 0⟩
  | d + 1 => zni_ok (zrun_ok D co ro d)
theorem zni_over {D : Nat → Nat → Nat} {co : Nat → Int} {ro : Nat → Nat} {d : Nat} {σ : ZS} (hd : d < 60) (hok : zok σ d) (hn : znone (zwt D d σ) = false) (s : Nat) : zovr D (zni D co ro d σ).1 s = (zovr D σ.1 s || (zboat D co ro d σ s || zfb D co ro d σ s)) := by
  unfold zni zfb
  rw [hn]
  simp only [Bool.false_eq_true, if_false]
  cases hp : zpoor D co ro d σ with
  | none =>
    simp only [Bool.or_false]
    by_cases hb : zboat D co ro d σ s = true
    · have := zwt_lt (zboat_sub hb).1
      simp only [zovr, hb, if_true, Bool.or_true, Bool.and_eq_true, decide_eq_true_eq]
      omega
    · have hb' := Bool.eq_false_iff.mpr hb
      simp only [zovr, hb', Bool.false_eq_true, if_false, Bool.or_false]
  | some p =>
    dsimp only
    obtain ⟨h1, h2⟩ := zpoor_sub hp
    have h3 := zwt_lt h1
    by_cases e : s = p
    · subst e
      have hb : zboat D co ro d σ s = false := by
        cases hb : zboat D co ro d σ s with
        | false => rfl
        | true => rw [(zboat_sub hb).2] at h2; cases h2
      have ho : zovr D σ.1 s = false := by
        simp only [zovr, Bool.and_eq_false_iff, decide_eq_false_iff_not]; omega
      rw [hb, ho]
      simp only [zovr, if_true, Bool.false_or, beq_self_eq_true, Bool.true_and]
      by_cases e2 : σ.2 s + 1 = dro D
      · rw [if_pos e2, show (σ.2 s + 1 == dro D) = true from beq_iff_eq.mpr e2]
        simp only [Bool.and_eq_true, decide_eq_true_eq]; omega
      · rw [if_neg e2, show (σ.2 s + 1 == dro D) = false from beq_eq_false_iff_ne.mpr e2]
        simp
    · rw [show (s == p) = false from beq_eq_false_iff_ne.mpr e, Bool.false_and, Bool.or_false]
      by_cases hb : zboat D co ro d σ s = true
      · have := zwt_lt (zboat_sub hb).1
        simp only [zovr, if_neg e, hb, if_true, Bool.or_true, Bool.and_eq_true, decide_eq_true_eq]
        omega
      · have hb' := Bool.eq_false_iff.mpr hb
        simp only [zovr, if_neg e, hb', Bool.false_eq_true, if_false, Bool.or_false]
theorem zni_on {D : Nat → Nat → Nat} {co : Nat → Int} {ro : Nat → Nat} {d : Nat} {σ : ZS} (hd : d < 60) (hok : zok σ d) (hn : znone (zwt D d σ) = false) (s : Nat) : (zni D co ro d σ).1 s = if (zwt D d σ s && zovr D (zni D co ro d σ).1 s) = true then d else σ.1 s := by
  rw [zni_over hd hok hn]
  have hs := (hok s).1
  by_cases hw : zwt D d σ s = true
  · have h3 := zwt_lt hw
    have ho : zovr D σ.1 s = false := by simp only [zovr, Bool.and_eq_false_iff, decide_eq_false_iff_not]; omega
    rw [hw, ho, Bool.true_and, Bool.false_or]
    unfold zni zfb
    rw [hn]
    simp only [Bool.false_eq_true, if_false]
    cases hp : zpoor D co ro d σ with
    | none => simp only [Bool.or_false]
    | some p =>
      dsimp only
      by_cases e : s = p
      · subst e
        have hb : zboat D co ro d σ s = false := by
          cases hb : zboat D co ro d σ s with
          | false => rfl
          | true => have h2 := (zpoor_sub hp).2; rw [(zboat_sub hb).2] at h2; cases h2
        rw [hb]
        simp only [if_true, Bool.false_or, beq_self_eq_true, Bool.true_and, beq_iff_eq]
        split
        · rfl
        · omega
      · simp only [show (s == p) = false from beq_eq_false_iff_ne.mpr e, Bool.false_and, Bool.or_false, if_neg e]
  · have hw' := Bool.eq_false_iff.mpr hw
    rw [hw', Bool.false_and]
    simp only [Bool.false_eq_true, if_false]
    unfold zni
    rw [hn]
    simp only [Bool.false_eq_true, if_false]
    have hb : zboat D co ro d σ s = false := by
      cases hb : zboat D co ro d σ s with
      | false => rfl
      | true => rw [(zboat_sub hb).1] at hw'; cases hw'
    cases hp : zpoor D co ro d σ with
    | none => simp only [hb, Bool.false_eq_true, if_false]
    | some p =>
      dsimp only
      have e : ¬ s = p := fun e => by subst e; rw [(zpoor_sub hp).1] at hw'; cases hw'
      rw [if_neg e, hb]; simp only [Bool.false_eq_true, if_false]
/-- rows of the heap that are written -/
theorem zw_ne {A : Nat → Nat → Int32} {a b i : Nat} {x : Int32} (h : b ≠ a) : zw A a i x b = A b := by unfold zw va_up; rw [if_neg h]
theorem zw_eq {A : Nat → Nat → Int32} {a i : Nat} {x : Int32} : zw A a i x a = upd (A a) i x := by unfold zw va_up; rw [if_pos rfl]
theorem zw_at {A : Nat → Nat → Int32} {a i : Nat} {x : Int32} (j : Nat) : zw A a i x a j = if j = i then x else A a j := by rw [zw_eq]; rfl
theorem zp_ne {I : Nat → Nat → Int32} {o k q : Nat} {v : Int32} (h : q ≠ o) : zp I o k v q = I q := by unfold zp va_up; rw [if_neg h]
theorem zp_at {I : Nat → Nat → Int32} {o k : Nat} {v : Int32} (j : Nat) : zp I o k v o j = if j = k then v else I o j := by unfold zp va_up; rw [if_pos rfl]

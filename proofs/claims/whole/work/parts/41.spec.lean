/-! what is told of the boat and the shades, and the nights, in plain numbers -/
abbrev dn (D : Nat → Nat → Nat) : Nat := D 0 0
abbrev dse (D : Nat → Nat → Nat) : Nat := D 0 1
abbrev dbe (D : Nat → Nat → Nat) : Nat := D 0 2
abbrev dro (D : Nat → Nat → Nat) : Nat := D 0 3
abbrev dk (D : Nat → Nat → Nat) (s : Nat) : Nat := D 1 s
abbrev dt (D : Nat → Nat → Nat) (s : Nat) : Nat := D 2 s
abbrev dw (D : Nat → Nat → Nat) (s : Nat) : Nat := D 3 s
abbrev dc (D : Nat → Nat → Nat) (s : Nat) : Nat := D 4 s
def BD (D : Nat → Nat → Nat) : Prop := dn D ≤ 6 ∧ dse D ≤ 9 ∧ dbe D ≤ 99 ∧ dro D ≤ 9 ∧ ∀ s, dk D s ≤ 2 ∧ dt D s ≤ 9 ∧ dw D s ≤ 9 ∧ dc D s ≤ 29
def CD (co : Nat → Int) : Prop := ∀ s, -100 ≤ co s ∧ co s ≤ 100
def zhv (D : Nat → Nat → Nat) (s : Nat) : Nat := if dk D s = 2 then 2 * (dw D s + 2) else if dk D s = 1 then dw D s + 2 else dw D s
theorem zhv_le {D : Nat → Nat → Nat} (hd : BD D) (s : Nat) : zhv D s ≤ 22 := by
  have := (hd.2.2.2.2 s)
  unfold zhv
  split
  · omega
  · split <;> omega
def zrk (D : Nat → Nat → Nat) (co : Nat → Int) (lw : Nat) (s : Nat) : Int := if lw = 0 then dc D s else if lw = 1 then zhv D s else - co s
theorem zrk_le {D : Nat → Nat → Nat} {co : Nat → Int} (hd : BD D) (hc : CD co) (lw s : Nat) : -100 ≤ zrk D co lw s ∧ zrk D co lw s ≤ 100 := by
  have h1 := (hd.2.2.2.2 s)
  have h2 := zhv_le hd s
  have h3 := hc s
  unfold zrk
  split
  · omega
  · split <;> omega
def zbf (r : Nat → Int) (s t : Nat) : Bool := decide (r s < r t) || (decide (r s = r t) && decide (s < t))
theorem zbf_tr {r : Nat → Int} {a b c : Nat} (h1 : zbf r a b = true) (h2 : zbf r b c = true) : zbf r a c = true := by
  simp only [zbf, Bool.or_eq_true, Bool.and_eq_true, decide_eq_true_eq] at *
  omega
theorem zbf_ir {r : Nat → Int} {a : Nat} : zbf r a a = false := by simp [zbf]
theorem zbf_as {r : Nat → Int} {a b : Nat} (h1 : zbf r a b = true) : zbf r b a = false := by
  simp only [zbf, Bool.or_eq_true, Bool.and_eq_true, decide_eq_true_eq, Bool.or_eq_false_iff, Bool.and_eq_false_iff, decide_eq_false_iff_not] at *
  omega
theorem zbf_tot {r : Nat → Int} {a b : Nat} (h : a ≠ b) : zbf r a b = true ∨ zbf r b a = true := by
  simp only [zbf, Bool.or_eq_true, Bool.and_eq_true, decide_eq_true_eq]
  omega
/-- ro lines the first n up -/
def zSo (n : Nat) (r : Nat → Int) (ro : Nat → Nat) : Prop := (∀ i, i < n → ro i < n) ∧ (∀ t, t < n → ∃ i, i < n ∧ ro i = t) ∧ ∀ i j, i < j → j < n → zbf r (ro i) (ro j) = true
/-- s is the first of p -/
def zFi (n : Nat) (r : Nat → Int) (p : Nat → Bool) (s : Nat) : Prop := s < n ∧ p s = true ∧ ∀ t, t < n → p t = true → t ≠ s → zbf r s t = true
/-- the first of p, from place i on, k places -/
def zfo (ro : Nat → Nat) (p : Nat → Bool) : Nat → Nat → Option Nat
  | 0, _ => none
  | k + 1, i => if p (ro i) then some (ro i) else zfo ro p k (i + 1)
/-- who sits: from place i on, k places -/
def zse (ro : Nat → Nat) (fit : (Nat → Bool) → Bool) (p : Nat → Bool) : Nat → Nat → (Nat → Bool) → (Nat → Bool)
  | 0, _, b => b
  | k + 1, i, b => zse ro fit p k (i + 1) (if p (ro i) && fit (zadd b (ro i)) then zadd b (ro i) else b)
def zfit (D : Nat → Nat → Nat) (p : Nat → Bool) : Bool := decide (zct p ≤ dse D) && decide (zld (zhv D) p ≤ dbe D)
def zpay (D : Nat → Nat → Nat) (co : Nat → Int) (s : Nat) : Bool := decide (s < dn D) && decide ((dk D s : Int) + 1 ≤ co s)
def zcame (D : Nat → Nat → Nat) (d s : Nat) : Bool := decide (s < dn D) && decide (dc D s ≤ d)
def zovr (D : Nat → Nat → Nat) (on : Nat → Nat) (s : Nat) : Bool := decide (s < dn D) && decide (on s < 99)
/-- a state of the nights: on which night each is over (99: never), how often each has rowed -/
abbrev ZS := (Nat → Nat) × (Nat → Nat)
def zwt (D : Nat → Nat → Nat) (d : Nat) (σ : ZS) (s : Nat) : Bool := zcame D d s && !zovr D σ.1 s
def znone (p : Nat → Bool) : Bool := !(p 0 || p 1 || p 2 || p 3 || p 4 || p 5)
theorem znone_iff (p : Nat → Bool) : znone p = true ↔ ∀ s, s < 6 → p s = false := by
  constructor
  · intro h s hs
    simp only [znone, Bool.not_eq_true', Bool.or_eq_false_iff] at h
    rcases zlt6 hs with rfl | rfl | rfl | rfl | rfl | rfl <;> simp only [h]
  · intro h; simp [znone, h 0, h 1, h 2, h 3, h 4, h 5]
/-- who must row on night d -/
def zpoor (D : Nat → Nat → Nat) (co : Nat → Int) (ro : Nat → Nat) (d : Nat) (σ : ZS) : Option Nat := zfo ro (fun s => zwt D d σ s && !zpay D co s) (dn D) 0
def zboat (D : Nat → Nat → Nat) (co : Nat → Int) (ro : Nat → Nat) (d : Nat) (σ : ZS) : Nat → Bool := zse ro (zfit D) (fun s => zwt D d σ s && zpay D co s) (dn D) 0 (fun _ => false)
/-- the state after night d -/
def zni (D : Nat → Nat → Nat) (co : Nat → Int) (ro : Nat → Nat) (d : Nat) (σ : ZS) : ZS :=
  if znone (zwt D d σ) then σ else
  match zpoor D co ro d σ with
  | none => (fun s => if zboat D co ro d σ s then d else σ.1 s, σ.2)
  | some p => (fun s => if s = p then (if σ.2 p + 1 = dro D then d else 99) else if zboat D co ro d σ s then d else σ.1 s, fun s => if s = p then σ.2 p + 1 else σ.2 s)
def zrwr (D : Nat → Nat → Nat) (co : Nat → Int) (ro : Nat → Nat) (d : Nat) (σ : ZS) : Int :=
  if znone (zwt D d σ) then -9 else match zpoor D co ro d σ with | none => 9 | some p => p
def zsit (D : Nat → Nat → Nat) (co : Nat → Int) (ro : Nat → Nat) (d : Nat) (σ : ZS) (s : Nat) : Bool :=
  if znone (zwt D d σ) then false else zboat D co ro d σ s
/-- the state before night d -/
def zrun (D : Nat → Nat → Nat) (co : Nat → Int) (ro : Nat → Nat) : Nat → ZS
  | 0 => (fun _ => 99, fun _ => 0)
  | d + 1 => zni D co ro d (zrun D co ro d)
theorem zfo_none {ro : Nat → Nat} {p : Nat → Bool} : ∀ {k i : Nat}, zfo ro p k i = none ↔ ∀ j, i ≤ j → j < i + k → p (ro j) = false
  | 0, i => by simp only [zfo, true_iff]; intro j h1 h2; omega
  | k + 1, i => by
    unfold zfo
    by_cases h : p (ro i) = true
    · rw [if_pos h]
      constructor
      · intro q; cases q
      · intro q; have := q i (Nat.le_refl i) (by omega); rw [h] at this; cases this
    · rw [if_neg h, zfo_none]
      constructor
      · intro q j h1 h2
        by_cases e : j = i
        · subst e; exact Bool.eq_false_iff.mpr h
        · exact q j (by omega) (by omega)
      · intro q j h1 h2; exact q j (by omega) (by omega)
theorem zfo_some {ro : Nat → Nat} {p : Nat → Bool} {s : Nat} : ∀ {k i : Nat}, zfo ro p k i = some s → ∃ j, i ≤ j ∧ j < i + k ∧ ro j = s ∧ p s = true ∧ ∀ t, i ≤ t → t < j → p (ro t) = false
  | 0, i, h => by simp only [zfo] at h; cases h
  | k + 1, i, h => by
    unfold zfo at h
    by_cases hp : p (ro i) = true
    · rw [if_pos hp] at h
      injection h with h
      exact ⟨i, Nat.le_refl i, by omega, h, by rw [← h]; exact hp, fun t h1 h2 => by omega⟩
    · rw [if_neg hp] at h
      obtain ⟨j, h1, h2, h3, h4, h5⟩ := zfo_some h
      refine ⟨j, by omega, by omega, h3, h4, ?_⟩
      intro t h6 h7
      by_cases e : t = i
      · subst e; exact Bool.eq_false_iff.mpr hp
      · exact h5 t (by omega) h7
/-- what is first in the row is first -/
theorem zfo_fi {n : Nat} {r : Nat → Int} {ro : Nat → Nat} {p : Nat → Bool} {s : Nat} (hs : zSo n r ro) (h : zfo ro p n 0 = some s) : zFi n r p s := by
  obtain ⟨j, _, h2, h3, h4, h5⟩ := zfo_some h
  refine ⟨by rw [← h3]; exact hs.1 j (by omega), h4, ?_⟩
  intro t ht hp hne
  obtain ⟨i, hi, e⟩ := hs.2.1 t ht
  have : ¬ i < j := fun q => by have := h5 i (Nat.zero_le i) q; rw [e, hp] at this; cases this
  have hij : i ≠ j := fun q => hne (by rw [← e, q, h3])
  rw [← h3, ← e]
  exact hs.2.2 j i (by omega) hi
theorem zfo_no {n : Nat} {r : Nat → Int} {ro : Nat → Nat} {p : Nat → Bool} (hs : zSo n r ro) : zfo ro p n 0 = none ↔ ∀ t, t < n → p t = false := by
  rw [zfo_none]
  constructor
  · intro h t ht
    obtain ⟨i, hi, e⟩ := hs.2.1 t ht
    rw [← e]; exact h i (Nat.zero_le i) (by omega)
  · intro h j _ hj; exact h _ (hs.1 j (by omega))
theorem zFi_uniq {n : Nat} {r : Nat → Int} {p : Nat → Bool} {s t : Nat} (h1 : zFi n r p s) (h2 : zFi n r p t) : s = t := by
  by_cases e : s = t
  · exact e
  · have a := h1.2.2 t h2.1 h2.2.1 (fun q => e q.symm)
    have b := h2.2.2 s h1.1 h1.2.1 e
    rw [zbf_as a] at b; cases b

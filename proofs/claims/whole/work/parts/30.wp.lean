/-! from a point of a method it ends so that P; loops by invariant -/
def zSem (y pc k sl : Nat) (L : zLc) (st : List Value) (g : zSg) (P : zRs → Prop) : Prop := ∃ r, zEv y pc k sl L st g r ∧ P r
theorem zS1 {y pc k sl y' pc' k' sl' : Nat} {L L' : zLc} {st st' : List Value} {g g' : zSg} {P : zRs → Prop} (h : ∀ r, zEv y' pc' k' sl' L' st' g' r → zEv y pc k sl L st g r) (hk : zSem y' pc' k' sl' L' st' g' P) : zSem y pc k sl L st g P := by
  obtain ⟨r, he, hp⟩ := hk
  exact ⟨r, h r he, hp⟩
/-- a loop: an invariant that sinks -/
def zLoop {σ : Type} (body : σ → (σ → Prop) → Prop) (s : σ) : Prop := ∃ R : Nat → σ → Prop, (∃ m, R m s) ∧ ∀ m s, R m s → body s (fun s' => ∃ m', m' < m ∧ R m' s')
theorem zLoop.sound {σ : Type} {body : σ → (σ → Prop) → Prop} {Sem : σ → Prop} (hb : ∀ s K, (∀ s', K s' → Sem s') → body s K → Sem s) : ∀ p, zLoop body p → Sem p := by
  rintro p ⟨R, ⟨m, h0⟩, hs⟩
  have key : ∀ m p, R m p → Sem p := by
    intro m
    induction m using Nat.strongRecOn with
    | ind m ih =>
      intro p hp
      refine hb p _ ?_ (hs m p hp)
      rintro s' ⟨m', hm, h'⟩
      exact ih m' hm s' h'
  exact key m p h0
/-- for i = 0 .. n - 1: what holds at each turn -/
theorem zLoop.inv {σ : Type} {body : σ → (σ → Prop) → Prop} {s : σ} (R : Nat → σ → Prop) (n : Nat) (h0 : R 0 s) (hs : ∀ i s, i < n → R i s → ∀ K : σ → Prop, (∀ s', R (i + 1) s' → K s') → body s K) (he : ∀ s, R n s → ∀ K : σ → Prop, body s K) : zLoop body s := by
  refine ⟨fun m s => ∃ i, i ≤ n ∧ m = n - i ∧ R i s, ⟨n, 0, Nat.zero_le n, rfl, h0⟩, ?_⟩
  rintro m s ⟨i, hi, rfl, hr⟩
  by_cases hn : i = n
  · subst hn; exact he s hr _
  · refine hs i s (by omega) hr _ ?_
    intro s' hr'
    exact ⟨n - (i + 1), by omega, i + 1, by omega, rfl, hr'⟩
/-- the same, where the state at turn i is known -/
theorem zLoop.count {σ : Type} {body : σ → (σ → Prop) → Prop} {s : σ} (f : Nat → σ) (n : Nat) (h0 : s = f 0) (hs : ∀ i, i < n → ∀ K : σ → Prop, K (f (i + 1)) → body (f i) K) (he : ∀ K : σ → Prop, body (f n) K) : zLoop body s :=
  zLoop.inv (fun i s => s = f i) n h0 (fun i s hi hs' K hk => by subst hs'; exact hs i hi K (hk _ rfl)) (fun s hs' K => by subst hs'; exact he K)

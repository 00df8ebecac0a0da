/-! the law, run by the abstract machine -/
theorem INV_new (xs : Nat → Int32) : INV xs ziI33 (ziA59 xs) := by
  have hsh : ∀ o c k, (o = 3 ∨ o = 5 ∨ o = 7 ∨ o = 9) → (k = 0 ∨ k = 1 ∨ k = 2 ∨ k = 3) → SH1 o c k ziI33 (ziA59 xs) := by
    intro o c k ho hk
    refine Or.inl ⟨?_, ?_⟩
    · rcases ho with rfl | rfl | rfl | rfl <;> rfl
    · rcases hk with rfl | rfl | rfl | rfl <;> rfl
  have h16 : ziA59 xs 16 = fun _ => 0 := rfl
  have h17 : ziA59 xs 17 = fun _ => 0 := rfl
  refine ⟨fun _ _ => 0, fun _ _ => 0, ⟨by decide, by decide, by decide, by decide, fun _ => ⟨Nat.zero_le _, Nat.zero_le _, Nat.zero_le _, Nat.zero_le _⟩⟩, ⟨by decide, by decide, by decide, fun _ => Nat.zero_le _, fun j h => absurd h (Nat.not_lt_zero j), fun j h => absurd h (Nat.not_lt_zero j), fun _ => Nat.zero_le _⟩, ⟨rfl, rfl, rfl, rfl, fun s h => absurd h (Nat.not_lt_zero s), fun d _ => ?_, fun p hp => ?_⟩, ⟨rfl, rfl, rfl, rfl, fun s h => absurd h (Nat.not_lt_zero s)⟩, ⟨rfl, by decide, fun s h => absurd h (Nat.not_lt_zero s)⟩, ⟨rfl, fun s h => absurd h (Nat.not_lt_zero s)⟩, ⟨rfl, rfl, fun j h => absurd h (Nat.not_lt_zero j)⟩, ⟨rfl, rfl, fun j h => absurd h (Nat.not_lt_zero j)⟩, fun h => absurd h (Nat.not_lt_zero 0), ⟨rfl, rfl⟩, ⟨hsh 3 4 0 (by decide) (by decide), hsh 5 6 1 (by decide) (by decide), hsh 7 8 2 (by decide) (by decide), hsh 9 10 3 (by decide) (by decide)⟩, rfl⟩
  · rw [h16, zm_congr (q := fun _ => false) (fun s _ => by simp [zcame])]
    exact zm_none
  · rw [h17, zld_congr (q := fun _ => false) (fun s h => hp s (Nat.zero_le s) h)]
    rfl
theorem zlaw_true (L : Nat) (xs : Nat → Int32) (hL : L ≤ 384) : ∃ n g', zex n 164 0 0 0 (zpad (zmx 164) (zal0 [.ref 0])) [] (zg0 L xs) = some (some (.int 1), g') := by
  obtain ⟨r, he, x, I1, A1, hr, hx⟩ := T_L_law_r0 L ziI33 (ziA59 xs) 0 _ (law_all hL (INV_new xs))
  obtain ⟨n, hn⟩ := zinit L xs he
  subst hr
  subst hx
  exact ⟨n, _, hn⟩

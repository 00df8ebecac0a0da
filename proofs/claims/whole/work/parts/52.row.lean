/-! the row is one, and there is one; who is over stays over -/
theorem zSo_inj {n : Nat} {r : Nat → Int} {ro : Nat → Nat} (h : zSo n r ro) {i j : Nat} (hi : i < n) (hj : j < n) (e : ro i = ro j) : i = j := by
  by_cases h1 : i < j
  · have := h.2.2 i j h1 hj; rw [e, zbf_ir] at this; cases this
  · by_cases h2 : j < i
    · have := h.2.2 j i h2 hi; rw [e, zbf_ir] at this; cases this
    · omega
theorem zSo_one {n : Nat} {r : Nat → Int} {ro ro' : Nat → Nat} (h : zSo n r ro) (h' : zSo n r ro') : ∀ i, i < n → ro i = ro' i := by
  intro i
  induction i using Nat.strongRecOn with
  | ind i ih =>
    intro hi
    obtain ⟨j, hj, ej⟩ := h'.2.1 (ro i) (h.1 i hi)
    obtain ⟨k, hk, ek⟩ := h.2.1 (ro' i) (h'.1 i hi)
    have hji : i ≤ j := by
      by_cases c : j < i
      · have h3 := ih j c hj
        rw [ej] at h3
        have := zSo_inj h hj hi h3; omega
      · omega
    have hki : i ≤ k := by
      by_cases c : k < i
      · have h3 := ih k c hk
        rw [ek] at h3
        have := zSo_inj h' hi hk h3; omega
      · omega
    by_cases e1 : j = i
    · rw [← ej, e1]
    · by_cases e2 : k = i
      · rw [← ek, e2]
      · have a := h'.2.2 i j (by omega) hj
        rw [ej] at a
        have b := h.2.2 i k (by omega) hk
        rw [ek] at b
        rw [zbf_as a] at b; cases b
theorem zSo_ex (r : Nat → Int) : ∀ n : Nat, ∃ ro, zSo n r ro
  | 0 => ⟨fun _ => 0, fun i h => by omega, fun i h => by omega, fun i j h1 h2 => by omega⟩
  | n + 1 => by
    obtain ⟨ro, hro⟩ := zSo_ex r n
    have hp : ∀ k, k ≤ n → ∃ p, p ≤ k ∧ (∀ j, j < p → zbf r (ro j) n = true) ∧ ∀ j, p ≤ j → j < k → zbf r n (ro j) = true := by
      intro k
      induction k with
      | zero => intro _; exact ⟨0, Nat.le_refl 0, fun j hj => by omega, fun j h1 h2 => by omega⟩
      | succ k ih =>
        intro hk
        obtain ⟨p, h1, h2, h3⟩ := ih (by omega)
        by_cases c : zbf r (ro k) n = true
        · refine ⟨k + 1, Nat.le_refl _, fun j hj => ?_, fun j h4 h5 => by omega⟩
          by_cases e : j = k
          · rw [e]; exact c
          · exact zbf_tr (hro.2.2 j k (by omega) (by omega)) c
        · refine ⟨p, by omega, h2, fun j hj1 hj2 => ?_⟩
          by_cases e : j = k
          · rw [e]
            have hne : ro k ≠ n := by have := hro.1 k (by omega); omega
            rcases zbf_tot (r := r) hne with q | q
            · exact absurd q c
            · exact q
          · exact h3 j hj1 (by omega)
    obtain ⟨p, hpn, hlo, hhi⟩ := hp n (Nat.le_refl n)
    refine ⟨fun j => if j < p then ro j else if j = p then n else ro (j - 1), ?_, ?_, ?_⟩
    · intro j hj
      dsimp only
      split
      · have := hro.1 j (by omega); omega
      · split
        · omega
        · have := hro.1 (j - 1) (by omega); omega
    · intro t ht
      by_cases e : t = n
      · exact ⟨p, by omega, by dsimp only; rw [if_neg (by omega), if_pos rfl, e]⟩
      · obtain ⟨j, hj, ej⟩ := hro.2.1 t (by omega)
        by_cases e2 : j < p
        · exact ⟨j, by omega, by dsimp only; rw [if_pos e2]; exact ej⟩
        · exact ⟨j + 1, by omega, by dsimp only; rw [if_neg (by omega), if_neg (by omega)]; exact ej⟩
    · intro j k hjk hk2
      dsimp only
      by_cases e1 : j < p
      · rw [if_pos e1]
        by_cases e2 : k < p
        · rw [if_pos e2]; exact hro.2.2 j k hjk (by omega)
        · rw [if_neg e2]
          by_cases e3 : k = p
          · rw [if_pos e3]; exact hlo j e1
          · rw [if_neg e3]; exact zbf_tr (hlo j e1) (hhi (k - 1) (by omega) (by omega))
      · rw [if_neg e1, if_neg (show ¬ k < p by omega), if_neg (show ¬ k = p by omega)]
        by_cases e3 : j = p
        · rw [if_pos e3]; exact hhi (k - 1) (by omega) (by omega)
        · rw [if_neg e3]; exact hro.2.2 (j - 1) (k - 1) (by omega) (by omega)
noncomputable def zRo (D : Nat → Nat → Nat) (co : Nat → Int) (lw : Nat) : Nat → Nat := Classical.choose (zSo_ex (zrk D co lw) (dn D))
theorem zRo_so (D : Nat → Nat → Nat) (co : Nat → Int) (lw : Nat) : zSo (dn D) (zrk D co lw) (zRo D co lw) := Classical.choose_spec (zSo_ex (zrk D co lw) (dn D))
theorem zfo_cg {n : Nat} {ro ro' : Nat → Nat} {p : Nat → Bool} (h : ∀ i, i < n → ro i = ro' i) : ∀ k i, i + k ≤ n → zfo ro p k i = zfo ro' p k i
  | 0, _, _ => rfl
  | k + 1, i, hi => by
    rw [zfo_s, zfo_s, h i (by omega), zfo_cg h k (i + 1) (by omega)]
theorem zse_cg {n : Nat} {ro ro' : Nat → Nat} {fit : (Nat → Bool) → Bool} {p : Nat → Bool} (h : ∀ i, i < n → ro i = ro' i) : ∀ k i b, i + k ≤ n → zse ro fit p k i b = zse ro' fit p k i b
  | 0, _, _, _ => rfl
  | k + 1, i, b, hi => by
    rw [zse_s, zse_s, h i (by omega), zse_cg h k (i + 1) _ (by omega)]
theorem zpoor_cg {D : Nat → Nat → Nat} {co : Nat → Int} {ro ro' : Nat → Nat} (h : ∀ i, i < dn D → ro i = ro' i) (d : Nat) (σ : ZS) : zpoor D co ro d σ = zpoor D co ro' d σ := zfo_cg h _ _ (by omega)
theorem zboat_cg {D : Nat → Nat → Nat} {co : Nat → Int} {ro ro' : Nat → Nat} (h : ∀ i, i < dn D → ro i = ro' i) (d : Nat) (σ : ZS) : zboat D co ro d σ = zboat D co ro' d σ := zse_cg h _ _ _ (by omega)
theorem zni_cg {D : Nat → Nat → Nat} {co : Nat → Int} {ro ro' : Nat → Nat} (h : ∀ i, i < dn D → ro i = ro' i) (d : Nat) (σ : ZS) : zni D co ro d σ = zni D co ro' d σ := by
  unfold zni; rw [zpoor_cg h d σ, zboat_cg h d σ]
theorem zrun_cg {D : Nat → Nat → Nat} {co : Nat → Int} {ro ro' : Nat → Nat} (h : ∀ i, i < dn D → ro i = ro' i) : ∀ d, zrun D co ro d = zrun D co ro' d
  | 0 => rfl
  | d + 1 => by rw [zrun_s, zrun_s, zrun_cg h d, zni_cg h]
theorem VY_cg {D : Nat → Nat → Nat} {co : Nat → Int} {ro ro' : Nat → Nat} {a b s o : Nat} {A : Nat → Nat → Int32} (h : ∀ i, i < dn D → ro i = ro' i) (hv : VY D co ro a b s o A) : VY D co ro' a b s o A := by
  unfold VY at hv ⊢
  refine ⟨fun t ht => by rw [← zrun_cg h]; exact hv.1 t ht, fun d hd => ?_⟩
  have h2 := hv.2 d hd
  unfold zrwr at h2 ⊢
  rw [← zrun_cg h, ← zrun_cg h, ← zpoor_cg h]
  refine ⟨h2.1, h2.2.1.trans (zm_congr (fun t _ => ?_)), h2.2.2⟩
  unfold zsit; rw [zboat_cg h]
/-- one that is over stays so -/
theorem zni_keep {D : Nat → Nat → Nat} {co : Nat → Int} {ro : Nat → Nat} {d : Nat} {σ : ZS} {s : Nat} (h : σ.1 s < 99) : (zni D co ro d σ).1 s = σ.1 s := by
  have hb : ¬ zboat D co ro d σ s = true := fun c => by have := zwt_lt (zboat_sub c).1; omega
  unfold zni
  split
  · rfl
  · split
    · dsimp only; rw [if_neg hb]
    · next p hp =>
      have h2 := zwt_lt (zpoor_sub hp).1
      dsimp only
      rw [if_neg (by rintro rfl; omega), if_neg hb]
theorem zni_new {D : Nat → Nat → Nat} {co : Nat → Int} {ro : Nat → Nat} {d : Nat} {σ : ZS} {s : Nat} : (zni D co ro d σ).1 s = 99 ∨ (zni D co ro d σ).1 s = d ∨ (zni D co ro d σ).1 s = σ.1 s := by
  unfold zni
  split
  · exact Or.inr (Or.inr rfl)
  · split
    · dsimp only; split
      · exact Or.inr (Or.inl rfl)
      · exact Or.inr (Or.inr rfl)
    · dsimp only; split
      · split
        · exact Or.inr (Or.inl rfl)
        · exact Or.inl rfl
      · split
        · exact Or.inr (Or.inl rfl)
        · exact Or.inr (Or.inr rfl)
theorem zrun_keep {D : Nat → Nat → Nat} {co : Nat → Int} {ro : Nat → Nat} {d s : Nat} (h : (zrun D co ro d).1 s < 99) : ∀ k, (zrun D co ro (d + k)).1 s = (zrun D co ro d).1 s
  | 0 => rfl
  | k + 1 => by
    rw [show d + (k + 1) = (d + k) + 1 by omega, zrun_s, zni_keep (by rw [zrun_keep h k]; exact h), zrun_keep h k]
theorem zrun_later {D : Nat → Nat → Nat} {co : Nat → Int} {ro : Nat → Nat} {d s : Nat} (hd : d ≤ 99) (h : (zrun D co ro d).1 s = 99) : ∀ k, d ≤ (zrun D co ro (d + k)).1 s
  | 0 => by rw [Nat.add_zero, h]; exact hd
  | k + 1 => by
    have ih := zrun_later hd h k
    rw [show d + (k + 1) = (d + k) + 1 by omega, zrun_s]
    rcases zni_new (D := D) (co := co) (ro := ro) (d := d + k) (σ := zrun D co ro (d + k)) (s := s) with e | e | e
    · rw [e]; exact hd
    · rw [e]; omega
    · rw [e]; exact ih
theorem zrun_by {D : Nat → Nat → Nat} {co : Nat → Int} {ro : Nat → Nat} {d s : Nat} (hd : d < 60) : (zrun D co ro (d + 1)).1 s < 99 ↔ (zrun D co ro 60).1 s ≤ d := by
  have hok := (zrun_ok D co ro (d + 1) s).1
  constructor
  · intro h
    have := zrun_keep h (60 - (d + 1))
    rw [show d + 1 + (60 - (d + 1)) = 60 by omega] at this
    omega
  · intro h
    rcases hok with e | e
    · have := zrun_later (by omega) e (60 - (d + 1))
      rw [show d + 1 + (60 - (d + 1)) = 60 by omega] at this
      omega
    · omega
/-! frames -/
theorem zpJ {f : Nat → Nat → Bool} {I : Nat → Nat → Int32} {o k : Nat} {v : Int32} (h : f o k = false) {o' k' : Nat} (h' : f o' k' = true) : zp I o k v o' k' = I o' k' := by
  by_cases e : o' = o
  · subst e
    rw [zp_at]
    by_cases e2 : k' = k
    · subst e2; rw [h] at h'; cases h'
    · rw [if_neg e2]
  · rw [zp_ne e]
theorem zwJ {f : Nat → Bool} {A : Nat → Nat → Int32} {a i : Nat} {v : Int32} (h : f a = false) {a' : Nat} (h' : f a' = true) : zw A a i v a' = A a' := zw_ne (by rintro rfl; rw [h] at h'; cases h')
/-- all that holds between the calls but for sheets, traces and faults -/
def zkI (o k : Nat) : Bool := [(1, 9), (11, 0), (11, 1), (11, 2), (11, 3), (18, 3), (22, 3), (44, 1), (44, 2), (44, 3), (44, 4), (44, 10), (44, 20), (44, 31)].contains (o, k)
def zkA (a : Nat) : Bool := [0, 12, 13, 14, 15, 16, 17, 19, 20, 21, 23, 24, 25, 29, 30, 31, 32, 42, 45, 46, 47, 48, 49, 54, 55, 56, 62, 63, 64].contains a
theorem Iv.mk' {xs : Nat → Int32} {D E : Nat → Nat → Nat} {I A I' A' : Nat → Nat → Int32} (h : Iv xs D E I A) (hI : ∀ o k, zkI o k = true → I' o k = I o k) (hA : ∀ a, zkA a = true → A' a = A a) (ht : I' 1 10 = I' 44 39) (hf : I' 1 11 = I' 44 0) (hs : SH I' A') : Iv xs D E I' A' := by
  unfold Iv CB RB RC CC LN RD VN VY at h ⊢
  simp only [hI 1 9 rfl, hI 11 0 rfl, hI 11 1 rfl, hI 11 2 rfl, hI 11 3 rfl, hI 18 3 rfl, hI 22 3 rfl, hI 44 1 rfl, hI 44 2 rfl, hI 44 3 rfl, hI 44 4 rfl, hI 44 10 rfl, hI 44 20 rfl, hI 44 31 rfl, hA 0 rfl, hA 12 rfl, hA 13 rfl, hA 14 rfl, hA 15 rfl, hA 16 rfl, hA 17 rfl, hA 19 rfl, hA 20 rfl, hA 21 rfl, hA 23 rfl, hA 24 rfl, hA 25 rfl, hA 29 rfl, hA 30 rfl, hA 31 rfl, hA 32 rfl, hA 42 rfl, hA 45 rfl, hA 46 rfl, hA 47 rfl, hA 48 rfl, hA 49 rfl, hA 54 rfl, hA 55 rfl, hA 56 rfl, hA 62 rfl, hA 63 rfl, hA 64 rfl]
  exact ⟨h.1, h.2.1, h.2.2.1, h.2.2.2.1, h.2.2.2.2.1, h.2.2.2.2.2.1, h.2.2.2.2.2.2.1, h.2.2.2.2.2.2.2.1, h.2.2.2.2.2.2.2.2.1, ⟨ht, hf⟩, hs, h.2.2.2.2.2.2.2.2.2.2.2⟩
theorem SH1.fr {o c k : Nat} {I A I' A' : Nat → Nat → Int32} (h : SH1 o c k I A) (hI : ∀ j, 1 ≤ j → j ≤ 3 → I' o j = I o j) (h65 : A' 65 k = A 65 k) (h66 : A' 66 k = A 66 k) (hc : ∀ i, i < 60 → A' c i = A c i) (h67 : ∀ i, i < 60 → A' 67 (60 * k + i) = A 67 (60 * k + i)) : SH1 o c k I' A' := by
  unfold SH1 at h ⊢
  rw [hI 1 (by decide) (by decide), hI 2 (by decide) (by decide), hI 3 (by decide) (by decide), h65, h66]
  rcases h with h | ⟨n, l, h1, h2, h3, h4, h5, h6, h7, h8⟩
  · exact Or.inl h
  · exact Or.inr ⟨n, l, h1, h2, h3, h4, h5, h6, h7, fun i hi => by rw [hc i (by omega), h67 i (by omega)]; exact h8 i hi⟩
theorem SH.fr {I A I' A' : Nat → Nat → Int32} (h : SH I A) (hI : ∀ o j, (o = 3 ∨ o = 5 ∨ o = 7 ∨ o = 9) → I' o j = I o j) (hA : ∀ a, (a = 4 ∨ a = 6 ∨ a = 8 ∨ a = 10 ∨ a = 65 ∨ a = 66 ∨ a = 67) → A' a = A a) : SH I' A' := by
  obtain ⟨h1, h2, h3, h4⟩ := h
  have e65 : ∀ k, A' 65 k = A 65 k := fun k => by rw [hA 65 (by omega)]
  have e66 : ∀ k, A' 66 k = A 66 k := fun k => by rw [hA 66 (by omega)]
  have e67 : ∀ k, A' 67 k = A 67 k := fun k => by rw [hA 67 (by omega)]
  exact ⟨h1.fr (fun j _ _ => hI 3 j (by omega)) (e65 _) (e66 _) (fun i _ => by rw [hA 4 (by omega)]) (fun i _ => e67 _), h2.fr (fun j _ _ => hI 5 j (by omega)) (e65 _) (e66 _) (fun i _ => by rw [hA 6 (by omega)]) (fun i _ => e67 _), h3.fr (fun j _ _ => hI 7 j (by omega)) (e65 _) (e66 _) (fun i _ => by rw [hA 8 (by omega)]) (fun i _ => e67 _), h4.fr (fun j _ _ => hI 9 j (by omega)) (e65 _) (e66 _) (fun i _ => by rw [hA 10 (by omega)]) (fun i _ => e67 _)⟩
theorem Iv.sh {xs : Nat → Int32} {D E : Nat → Nat → Nat} {I A : Nat → Nat → Int32} (h : Iv xs D E I A) : SH I A := h.2.2.2.2.2.2.2.2.2.2.1
theorem Iv.tr {xs : Nat → Int32} {D E : Nat → Nat → Nat} {I A : Nat → Nat → Int32} (h : Iv xs D E I A) : I 1 10 = I 44 39 ∧ I 1 11 = I 44 0 := h.2.2.2.2.2.2.2.2.2.1
/-- only traces and faults become others -/
def zkT (o k : Nat) : Bool := [(1, 10), (1, 11), (44, 0), (44, 39)].contains (o, k)
theorem Iv.tf {xs : Nat → Int32} {D E : Nat → Nat → Nat} {I A I' : Nat → Nat → Int32} (h : Iv xs D E I A) (hI : ∀ o k, zkT o k = false → I' o k = I o k) (ht : I' 1 10 = I' 44 39) (hf : I' 1 11 = I' 44 0) : Iv xs D E I' A := by
  refine h.mk' (fun o k hk => hI o k ?_) (fun _ _ => rfl) ht hf (h.sh.fr (fun o j ho => hI o j ?_) (fun _ _ => rfl))
  · cases hT : zkT o k with
    | false => rfl
    | true =>
      simp only [zkT, List.contains_cons, List.contains_nil, Bool.or_false, Bool.or_eq_true, beq_iff_eq, Prod.mk.injEq] at hT
      rcases hT with ⟨rfl, rfl⟩ | ⟨rfl, rfl⟩ | ⟨rfl, rfl⟩ | ⟨rfl, rfl⟩ <;> cases hk
  · cases hT : zkT o j with
    | false => rfl
    | true =>
      simp only [zkT, List.contains_cons, List.contains_nil, Bool.or_false, Bool.or_eq_true, beq_iff_eq, Prod.mk.injEq] at hT
      omega
theorem zpT {I : Nat → Nat → Int32} {o k : Nat} {v : Int32} (h : zkT o k = true) {o' k' : Nat} (h' : zkT o' k' = false) : zp I o k v o' k' = I o' k' := zpJ (f := fun o k => !zkT o k) (by simp [h]) (by simp [h'])
/-- a call that names faults, refused or failed -/
theorem Iv.ft {xs : Nat → Int32} {D E : Nat → Nat → Nat} {I A : Nat → Nat → Int32} (h : Iv xs D E I A) (f : Int32) : Iv xs D E (zp (zp I 1 11 f) 44 0 f) A := by
  refine h.tf (fun o k hk => (zpT rfl hk).trans (zpT rfl hk)) ?_ ?_
  · exact h.tr.1
  · rw [zp_ne (by decide), zp_at, if_pos rfl, zp_at, if_pos rfl]

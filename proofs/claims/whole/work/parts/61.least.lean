/-! the least waiting: sets as numbers, and what is left to wait from a set on -/
theorem zbif {a b : Bool} {n : Nat} (h : a = true → b = true) : (bif a then n else 0) ≤ (bif b then n else 0) := by
  cases a with
  | false => exact Nat.zero_le _
  | true => rw [h rfl]; exact Nat.le_refl _
theorem zct_mono {p q : Nat → Bool} (h : ∀ s, s < 6 → p s = true → q s = true) : zct p ≤ zct q := by
  unfold zct
  exact Nat.add_le_add (Nat.add_le_add (Nat.add_le_add (Nat.add_le_add (Nat.add_le_add (zbif (h 0 (by decide))) (zbif (h 1 (by decide)))) (zbif (h 2 (by decide)))) (zbif (h 3 (by decide)))) (zbif (h 4 (by decide)))) (zbif (h 5 (by decide)))
theorem zmk_mono {p q : Nat → Bool} (h : ∀ s, s < 6 → p s = true → q s = true) : zmk p ≤ zmk q := by
  unfold zmk
  exact Nat.add_le_add (Nat.add_le_add (Nat.add_le_add (Nat.add_le_add (Nat.add_le_add (zbif (h 0 (by decide))) (zbif (h 1 (by decide)))) (zbif (h 2 (by decide)))) (zbif (h 3 (by decide)))) (zbif (h 4 (by decide)))) (zbif (h 5 (by decide)))
theorem zld_mono {g : Nat → Nat} {p q : Nat → Bool} (h : ∀ s, s < 6 → p s = true → q s = true) : zld g p ≤ zld g q := by
  unfold zld
  exact Nat.add_le_add (Nat.add_le_add (Nat.add_le_add (Nat.add_le_add (Nat.add_le_add (zbif (h 0 (by decide))) (zbif (h 1 (by decide)))) (zbif (h 2 (by decide)))) (zbif (h 3 (by decide)))) (zbif (h 4 (by decide)))) (zbif (h 5 (by decide)))
theorem zfit_mono {D : Nat → Nat → Nat} {p q : Nat → Bool} (h : ∀ s, s < 6 → p s = true → q s = true) (hq : zfit D q = true) : zfit D p = true := by
  have h1 := zct_mono h
  have h2 := zld_mono (g := zhv D) h
  simp only [zfit, Bool.and_eq_true, decide_eq_true_eq] at hq ⊢
  omega
theorem zi_or {o c : Nat} (ho : o < 64) (hc : c < 64) : zi (o : Int) ||| zi (c : Int) = zi ((o ||| c : Nat) : Int) := by
  have h : o ||| c < 64 := Nat.or_lt_two_pow (n := 6) ho hc
  rw [zm_of ho, zm_of hc, zm_or, zm_of h]
  exact zm_congr (fun s _ => (Nat.testBit_or o c s).symm)
theorem zm_or2 {o c : Nat} (ho : o < 64) (hc : c < 64) : zi (o : Int) ||| zm (fun s => c.testBit s) = zi ((o ||| c : Nat) : Int) := by rw [← zm_of hc]; exact zi_or ho hc
theorem or64 {o c : Nat} (ho : o < 64) (hc : c < 64) : o ||| c < 64 := Nat.or_lt_two_pow (n := 6) ho hc
def vch (D : Nat → Nat → Nat) (co : Nat → Int) (d o c : Nat) : Bool := zmc D co (fun s => c.testBit s) && (znone (fun s => c.testBit s && o.testBit s) && znone (fun s => c.testBit s && !zcame D d s))
def vw (D : Nat → Nat → Nat) (d o c : Nat) : Nat := zct (fun s => zcame D d s && !o.testBit s && !c.testBit s)
def vmn (P : Nat → Bool) (f : Nat → Nat) : Nat → Nat
  | 0 => 9999
  | c + 1 => if P c = true ∧ f c < vmn P f c then f c else vmn P f c
theorem vmn_s {P : Nat → Bool} {f : Nat → Nat} {c : Nat} : vmn P f (c + 1) = if P c = true ∧ f c < vmn P f c then f c else vmn P f c := rfl
def vv (D : Nat → Nat → Nat) (co : Nat → Int) : Nat → Nat → Nat
  | 0, _ => 0
  | k + 1, o => vmn (vch D co (59 - k) o) (fun c => vw D (59 - k) o c + vv D co k (o ||| c)) 64
theorem vv_s {D : Nat → Nat → Nat} {co : Nat → Int} {k o : Nat} : vv D co (k + 1) o = vmn (vch D co (59 - k) o) (fun c => vw D (59 - k) o c + vv D co k (o ||| c)) 64 := rfl
theorem vch_iff {D : Nat → Nat → Nat} {co : Nat → Int} {d o c : Nat} : vch D co d o c = true ↔ (∀ s, s < 6 → c.testBit s = true → zpay D co s = true ∧ o.testBit s = false ∧ zcame D d s = true) ∧ zfit D (fun s => c.testBit s) = true := by
  unfold vch zmc
  rw [Bool.and_eq_true, Bool.and_eq_true, Bool.and_eq_true, znone_iff, znone_iff, znone_iff]
  constructor
  · rintro ⟨⟨h1, h2⟩, h3, h4⟩
    refine ⟨fun s hs hc => ?_, h2⟩
    have k1 := h1 s hs
    have k3 := h3 s hs
    have k4 := h4 s hs
    dsimp only at k1 k3 k4
    rw [hc] at k1 k3 k4
    exact ⟨by simpa using k1, by simpa using k3, by simpa using k4⟩
  · rintro ⟨h1, h2⟩
    refine ⟨⟨fun s hs => ?_, h2⟩, fun s hs => ?_, fun s hs => ?_⟩ <;> (try dsimp only) <;> cases hc : c.testBit s with
    | false => rfl
    | true => obtain ⟨k1, k2, k3⟩ := h1 s hs hc; first | rw [k1]; rfl | rw [k2]; rfl | rw [k3]; rfl
theorem vmn_le {P : Nat → Bool} {f : Nat → Nat} : ∀ {n c : Nat}, c < n → P c = true → vmn P f n ≤ f c
  | 0, _, h, _ => by omega
  | n + 1, c, h, hp => by
    rw [vmn_s]
    by_cases e : c = n
    · subst e
      split
      · exact Nat.le_refl _
      · next q => exact Nat.le_of_not_lt (fun h2 => q ⟨hp, h2⟩)
    · have := vmn_le (P := P) (f := f) (n := n) (c := c) (by omega) hp
      split
      · next q => have := q.2; omega
      · exact this
theorem vmn_ex {P : Nat → Bool} {f : Nat → Nat} : ∀ n, vmn P f n = 9999 ∨ ∃ c, c < n ∧ P c = true ∧ vmn P f n = f c
  | 0 => Or.inl rfl
  | n + 1 => by
    rw [vmn_s]
    split
    · next q => exact Or.inr ⟨n, by omega, q.1, rfl⟩
    · rcases vmn_ex (P := P) (f := f) n with h | ⟨c, h1, h2, h3⟩
      · exact Or.inl h
      · exact Or.inr ⟨c, by omega, h2, h3⟩
theorem vmn_ext {P : Nat → Bool} {f : Nat → Nat} {m : Nat} : ∀ j, (∀ c, m ≤ c → c < m + j → P c = false) → vmn P f (m + j) = vmn P f m
  | 0, _ => rfl
  | j + 1, h => by
    rw [show m + (j + 1) = (m + j) + 1 by omega, vmn_s, h (m + j) (by omega) (by omega), if_neg (fun q => by cases q.1), vmn_ext j (fun c h1 h2 => h c h1 (by omega))]
theorem vch_0 {D : Nat → Nat → Nat} {co : Nat → Int} {d o : Nat} : vch D co d o 0 = true := by
  rw [vch_iff]
  refine ⟨fun s _ h => absurd ((Nat.zero_testBit s).symm.trans h) (by decide), ?_⟩
  unfold zfit
  rw [zct_congr (q := fun _ => false) (fun s _ => Nat.zero_testBit s), zld_congr (q := fun _ => false) (fun s _ => Nat.zero_testBit s)]
  simp [zct, zld]
theorem vv_le {D : Nat → Nat → Nat} {co : Nat → Int} : ∀ k o, vv D co k o ≤ 6 * k
  | 0, _ => Nat.le_refl 0
  | k + 1, o => by
    have h1 := vmn_le (P := vch D co (59 - k) o) (f := fun c => vw D (59 - k) o c + vv D co k (o ||| c)) (n := 64) (c := 0) (by decide) vch_0
    have h2 := vv_le (D := D) (co := co) k (o ||| 0)
    have h3 : vw D (59 - k) o 0 ≤ 6 := zct_le _
    rw [vv_s]
    omega
theorem vv_st {D : Nat → Nat → Nat} {co : Nat → Int} {k o c : Nat} (hc : c < 64) (h : vch D co (59 - k) o c = true) : vv D co (k + 1) o ≤ vw D (59 - k) o c + vv D co k (o ||| c) := vmn_le hc h
theorem vv_at {D : Nat → Nat → Nat} {co : Nat → Int} {k o : Nat} (hk : k < 60) : ∃ c, c < 64 ∧ vch D co (59 - k) o c = true ∧ vv D co (k + 1) o = vw D (59 - k) o c + vv D co k (o ||| c) := by
  rcases vmn_ex (P := vch D co (59 - k) o) (f := fun c => vw D (59 - k) o c + vv D co k (o ||| c)) 64 with h | h
  · have := vv_le (D := D) (co := co) (k + 1) o
    rw [vv_s, h] at this
    omega
  · exact h
/-- whoever has more over waits less -/
theorem vv_mono {D : Nat → Nat → Nat} {co : Nat → Int} : ∀ {k : Nat} (_ : k ≤ 60) {o o' : Nat}, (∀ s, s < 6 → o.testBit s = true → o'.testBit s = true) → vv D co k o' ≤ vv D co k o
  | 0, _, _, _, _ => Nat.le_refl 0
  | k + 1, hk, o, o', h => by
    obtain ⟨c, hc, hch, hat⟩ := vv_at (D := D) (co := co) (k := k) (o := o) (by omega)
    obtain ⟨h1, h2⟩ := vch_iff.mp hch
    have htb : ∀ s, s < 6 → (zmk (fun s => c.testBit s && !o'.testBit s)).testBit s = (c.testBit s && !o'.testBit s) := fun s hs => zmk_tb _ hs
    have hc' : zmk (fun s => c.testBit s && !o'.testBit s) < 64 := zmk_lt _
    generalize zmk (fun s => c.testBit s && !o'.testBit s) = c' at htb hc'
    have hsub : ∀ s, s < 6 → c'.testBit s = true → c.testBit s = true ∧ o'.testBit s = false := fun s hs q => by
      rw [htb s hs, Bool.and_eq_true, Bool.not_eq_true'] at q; exact q
    have hok : vch D co (59 - k) o' c' = true := vch_iff.mpr ⟨fun s hs q => ⟨(h1 s hs (hsub s hs q).1).1, (hsub s hs q).2, (h1 s hs (hsub s hs q).1).2.2⟩, zfit_mono (fun s hs q => (hsub s hs q).1) h2⟩
    refine Nat.le_trans (vv_st hc' hok) ?_
    rw [hat]
    refine Nat.add_le_add (zct_mono (fun s hs q => ?_)) (vv_mono (by omega) (fun s hs q => ?_))
    · rw [htb s hs] at q
      cases e1 : zcame D (59 - k) s <;> cases e2 : o'.testBit s <;> cases e3 : c.testBit s <;> rw [e1, e2, e3] at q <;> try (cases q; done)
      cases e4 : o.testBit s with
      | false => rfl
      | true => rw [h s hs e4] at e2; cases e2
    · rw [Nat.testBit_or, Bool.or_eq_true] at q
      rw [Nat.testBit_or, htb s hs]
      cases e2 : o'.testBit s with
      | true => rfl
      | false =>
        rcases q with q | q
        · rw [h s hs q] at e2; cases e2
        · rw [q]; rfl
/-- who can board alone -/
def vab (D : Nat → Nat → Nat) (co : Nat → Int) (s : Nat) : Bool := zpay D co s && zfit D (fun t => t == s)
def vbd (D : Nat → Nat → Nat) (co : Nat → Int) (d o s : Nat) : Bool := zcame D d s && !o.testBit s && vab D co s
theorem vbd_of {D : Nat → Nat → Nat} {co : Nat → Int} {d o c : Nat} (h : vch D co d o c = true) : ∀ s, s < 6 → c.testBit s = true → vbd D co d o s = true := by
  obtain ⟨h1, h2⟩ := vch_iff.mp h
  intro s hs hc
  obtain ⟨k1, k2, k3⟩ := h1 s hs hc
  unfold vbd vab
  rw [k1, k2, k3, zfit_mono (fun t ht q => by rw [beq_iff_eq.mp q]; exact hc) h2]; rfl
theorem vch_of {D : Nat → Nat → Nat} {co : Nat → Int} {d o c : Nat} (h1 : ∀ s, s < 6 → c.testBit s = true → vbd D co d o s = true) (h2 : zfit D (fun s => c.testBit s) = true) : vch D co d o c = true := by
  refine vch_iff.mpr ⟨fun s hs hc => ?_, h2⟩
  have h3 := h1 s hs hc
  unfold vbd vab at h3
  simp only [Bool.and_eq_true, Bool.not_eq_true'] at h3
  exact ⟨h3.2.1, h3.1.2, h3.1.1⟩
/-- an empty boat shortens no waiting -/
theorem vv_best {D : Nat → Nat → Nat} {co : Nat → Int} {k o : Nat} (hk : k < 60) : ∃ c, c < 64 ∧ (znone (vbd D co (59 - k) o) = false → 1 ≤ c) ∧ vch D co (59 - k) o c = true ∧ vw D (59 - k) o c + vv D co k (o ||| c) ≤ vv D co (k + 1) o := by
  obtain ⟨c, hc, hch, hat⟩ := vv_at (D := D) (co := co) (k := k) (o := o) hk
  by_cases h0 : c = 0
  · subst h0
    by_cases hz : znone (vbd D co (59 - k) o) = true
    · exact ⟨0, hc, fun q => absurd (hz.symm.trans q) (by decide), hch, Nat.le_of_eq hat.symm⟩
    · obtain ⟨s, hs, hb⟩ : ∃ s, s < 6 ∧ vbd D co (59 - k) o s = true := by
        by_cases q : ∃ s, s < 6 ∧ vbd D co (59 - k) o s = true
        · exact q
        · exact absurd ((znone_iff _).mpr (fun s hs => Bool.eq_false_iff.mpr (fun q2 => q ⟨s, hs, q2⟩))) hz
      have htb : ∀ t, t < 6 → (zmk (fun t => t == s)).testBit t = (t == s) := fun t ht => zmk_tb _ ht
      have hc' : zmk (fun t => t == s) < 64 := zmk_lt _
      generalize zmk (fun t => t == s) = c' at htb hc'
      have hb2 := hb
      unfold vbd vab at hb2
      simp only [Bool.and_eq_true, Bool.not_eq_true'] at hb2
      refine ⟨c', hc', fun _ => ?_, vch_of (fun t ht q => ?_) ?_, ?_⟩
      · cases c' with
        | zero => have := htb s hs; rw [Nat.zero_testBit] at this; simp at this
        | succ c' => omega
      · rw [htb t ht] at q; rw [beq_iff_eq.mp q]; exact hb
      · exact zfit_mono (fun t ht q => by rw [htb t ht] at q; exact q) hb2.2.2
      · rw [hat]
        refine Nat.add_le_add (zct_mono (fun t ht q => ?_)) (vv_mono (by omega) (fun t ht q => ?_))
        · rw [Nat.zero_testBit]
          cases e1 : zcame D (59 - k) t <;> cases e2 : o.testBit t <;> rw [e1, e2] at q <;> first | rfl | (simp at q; done)
        · rw [Nat.or_zero] at q
          rw [Nat.testBit_or, q]; rfl
  · exact ⟨c, hc, fun _ => by omega, hch, Nat.le_of_eq hat.symm⟩
theorem zw_row {A : Nat → Nat → Int32} {a i : Nat} {x : Int} {G : Nat → Nat} {n : Nat} {y : Nat} (h : ∀ o, o < n → A a o = zi (G o)) (hx : x = y) : ∀ o, o < n → zw A a i (zi x) a o = zi ((if o = i then y else G o : Nat) : Int) := by
  intro o ho
  rw [zw_at]
  split
  · rw [hx]
  · exact h o ho
/-- the best is still among those from o on -/
def vCP (D : Nat → Nat → Nat) (co : Nat → Int) (k T o : Nat) (G : Nat → Nat) : Prop := ∃ q, q < 64 ∧ o ≤ q ∧ G q ≠ 1000 ∧ G q + vv D co k q ≤ T
theorem C_crossIn {Ln : Nat} {D : Nat → Nat → Nat} {co : Nat → Int} {k T o os cs st : Nat} {F : Nat → Nat} {A0 I A : Nat → Nat → Int32} {Q : (Nat → Nat → Int32) → Prop} {K3 : Int32 × (Nat → Nat → Int32) → Prop} (hd : BD D) (hb : CB D I A0) (hk : k < 60) (ho : o < 64) (hF1 : F o ≤ 6 * (59 - k)) (hF2 : T ≤ F o + vv D co (k + 1) o) (hst : st ≤ zmk (vbd D co (59 - k) o) + 1) (hcs : o = os → st ≤ cs ∧ cs < 64 ∧ vch D co (59 - k) o cs = true ∧ F o + (vw D (59 - k) o cs + vv D co k (o ||| cs)) ≤ T)
    (hA : ∀ a, a ≠ 27 → A a = A0 a) {G0 : Nat → Nat} (hG0 : ∀ q, q < 64 → A 27 q = zi (G0 q)) (hlo : ∀ q, q < o → G0 q = F q) (hhi : ∀ q, q < 64 → o ≤ q → G0 q = 1000 ∨ (G0 q ≤ 6 * (60 - k) ∧ T ≤ G0 q + vv D co k q)) (hcp : o < os → vCP D co k T o G0)
    (hK : ∀ (A' : Nat → Nat → Int32) (G : Nat → Nat), (∀ a, a ≠ 27 → A' a = A0 a) → (∀ q, q < 64 → A' 27 q = zi (G q)) → (∀ q, q < o → G q = F q) → (∀ q, q < 64 → o ≤ q → G q = 1000 ∨ (G q ≤ 6 * (60 - k) ∧ T ≤ G q + vv D co k q)) → (o ≤ os → vCP D co k T o G) → K3 (zi (o : Int) + Int32.ofInt (-1), A')) : zLoop (L_X1_cross_r26_60 Ln I (zm (zcame D (59 - k))) (zm (vab D co)) (zi o) (zi (F o)) (zm (fun s => zcame D (59 - k) s && !o.testBit s)) (zm (vbd D co (59 - k) o)) K3 Q) (zi st, A) := by
  have hbl := zmk_lt (vbd D co (59 - k) o)
  have hzb : zm (vbd D co (59 - k) o) = zi (zmk (vbd D co (59 - k) o) : Int) := rfl
  refine zLoop.inv (fun j σ => σ.1 = zi ((st + j : Nat) : Int) ∧ (∀ a, a ≠ 27 → σ.2 a = A0 a) ∧ ∃ G : Nat → Nat, (∀ q, q < 64 → σ.2 27 q = zi (G q)) ∧ (∀ q, q < o → G q = F q) ∧ (∀ q, q < 64 → o ≤ q → G q = 1000 ∨ (G q ≤ 6 * (60 - k) ∧ T ≤ G q + vv D co k q)) ∧ (o < os ∨ (o = os ∧ cs < st + j) → vCP D co k T o G)) (zmk (vbd D co (59 - k) o) + 1 - st) ⟨rfl, hA, G0, hG0, hlo, hhi, fun q => ?_⟩ ?_ ?_
  · rcases q with q | ⟨q1, q2⟩
    · exact hcp q
    · have := (hcs q1).1; omega
  · rintro j ⟨v7, A1⟩ hj ⟨g1, g2, G, g3, g4, g5, g6⟩ K hk2
    simp only at g1 g2 g3
    subst g1
    have hc64 : st + j < 64 := by omega
    generalize hce : st + j = c at hc64 g6 hk2
    have hcle : c ≤ zmk (vbd D co (59 - k) o) := by omega
    have hcj : st + (j + 1) = c + 1 := by omega
    rw [hcj] at hk2
    simp only [L_X1_cross_r26_60]
    rw [show zm (vbd D co (59 - k) o) < zi (c : Int) ↔ zmk (vbd D co (59 - k) o) < c from zlt_n (by omega) (by omega), zm_of hc64, zm_andnot, znz, zm_or2 ho hc64, show zm (fun s => c.testBit s) + 1 = zi ((c + 1 : Nat) : Int) from by rw [← zm_of hc64]; exact zi_succ c]
    refine ⟨fun q => by omega, fun _ => ⟨fun q => hk2 _ ⟨rfl, g2, G, g3, g4, g5, fun q2 => g6 ?_⟩, fun q => ?_⟩⟩
    · -- not of those who can board
      rcases q2 with q2 | ⟨q2, q3⟩
      · exact Or.inl q2
      · refine Or.inr ⟨q2, ?_⟩
        by_cases e : cs = c
        · refine absurd ((znone_iff _).mpr (fun s hs => ?_)) (Bool.eq_false_iff.mp q)
          have h7 := vbd_of (hcs q2).2.2.1 s hs
          rw [e] at h7
          cases e2 : c.testBit s with
          | false => rfl
          | true => rw [h7 e2]; rfl
        · omega
    · rw [Bool.not_eq_false, znone_iff] at q
      have hsub : ∀ s, s < 6 → c.testBit s = true → vbd D co (59 - k) o s = true := fun s hs h7 => by
        have h8 := q s hs
        try dsimp only at h8
        rw [h7] at h8
        simpa using h8
      have hb1 : CB D I A1 := hb.fr (fun a h1 h2 => g2 a (by omega))
      refine C_carries hd hb1 (fun s hs hs6 => ?_) (fun hf => ⟨fun _ => ?_, fun h7 => absurd (show (1 : Int32) ≠ 0 by decide) h7⟩) (fun hf => ⟨fun h7 => absurd rfl h7, fun _ => hk2 _ ⟨rfl, g2, G, g3, g4, g5, fun q2 => g6 ?_⟩⟩)
      · cases e2 : c.testBit s with
        | false => rfl
        | true =>
          have h7 := hsub s hs6 e2
          unfold vbd zcame at h7
          rw [show decide (s < dn D) = false from decide_eq_false (by omega)] at h7; cases h7
      · have hok := vch_of hsub hf
        have hoc := or64 ho hc64
        have hwl : vw D (59 - k) o c ≤ 6 := zct_le _
        have hstp := vv_st (D := D) (co := co) (k := k) (o := o) hc64 hok
        rw [zm_andnot]
        refine C_bitCount ?_
        rw [zi_nat' (show o ||| c < 2147483648 by omega), g3 _ hoc]
        have hgb : G (o ||| c) ≤ 1000 := by
          by_cases h7 : o ≤ o ||| c
          · rcases g5 _ hoc h7 with e | e <;> omega
          · exact absurd (Nat.left_le_or) h7
        have hz := zin_n (L := 64) (s := o ||| c) hoc (by decide)
        refine ⟨hz, hz, ?_⟩
        rw [show zi ((F o : Nat) : Int) + zi ((zct (fun s => zcame D (59 - k) s && !o.testBit s && !c.testBit s) : Nat) : Int) = zi ((F o + vw D (59 - k) o c : Nat) : Int) from by rw [zi_add]; rfl]
        have hlt : zi ((F o + vw D (59 - k) o c : Nat) : Int) < zi ((G (o ||| c) : Nat) : Int) ↔ F o + vw D (59 - k) o c < G (o ||| c) := zlt_n (by omega) (by omega)
        rw [show (if zi ((F o + vw D (59 - k) o c : Nat) : Int) < zi ((G (o ||| c) : Nat) : Int) then zi ((F o + vw D (59 - k) o c : Nat) : Int) else zi ((G (o ||| c) : Nat) : Int)) = zi ((min (F o + vw D (59 - k) o c) (G (o ||| c)) : Nat) : Int) from by
          by_cases h7 : F o + vw D (59 - k) o c < G (o ||| c)
          · rw [if_pos (hlt.mpr h7), Nat.min_eq_left (by omega)]
          · rw [if_neg (fun h8 => h7 (hlt.mp h8)), Nat.min_eq_right (by omega)]]
        have hole : o ≤ o ||| c := Nat.left_le_or
        refine hk2 _ ⟨rfl, fun a ha => (zw_ne ha).trans (g2 a ha), fun q => if q = o ||| c then min (F o + vw D (59 - k) o c) (G (o ||| c)) else G q, zw_row g3 rfl, fun q2 h7 => ?_, fun q2 h7 h8 => ?_, fun h7 => ?_⟩
        · dsimp only
          rw [if_neg (by omega)]; exact g4 q2 h7
        · dsimp only
          by_cases e : q2 = o ||| c
          · rw [if_pos e, e]
            refine Or.inr ⟨by omega, ?_⟩
            rcases g5 _ hoc hole with e2 | e2
            · omega
            · omega
          · rw [if_neg e]; exact g5 q2 h7 h8
        · by_cases e3 : o = os ∧ cs = c
          · unfold vCP
            refine ⟨o ||| c, hoc, hole, ?_, ?_⟩
            · dsimp only
              rw [if_pos rfl]; omega
            · dsimp only
              rw [if_pos rfl]
              have h9 := (hcs e3.1).2.2.2
              rw [e3.2] at h9
              omega
          · obtain ⟨q2, h8, h9, h10, h11⟩ := g6 (by
              rcases h7 with h7 | ⟨h7, h8⟩
              · exact Or.inl h7
              · exact Or.inr ⟨h7, by have : cs ≠ c := fun e4 => e3 ⟨h7, e4⟩
                                     omega⟩)
            unfold vCP
            refine ⟨q2, h8, h9, ?_, ?_⟩
            · dsimp only
              split
              · omega
              · exact h10
            · dsimp only
              split
              · next e => rw [← e]; omega
              · exact h11
      · rcases q2 with q2 | ⟨q2, q3⟩
        · exact Or.inl q2
        · refine Or.inr ⟨q2, ?_⟩
          by_cases e : cs = c
          · have h7 := (vch_iff.mp (hcs q2).2.2.1).2
            rw [e, hf] at h7; cases h7
          · omega
  · rintro ⟨v7, A1⟩ ⟨g1, g2, G, g3, g4, g5, g6⟩ K
    simp only at g1 g2 g3
    subst g1
    rw [show st + (zmk (vbd D co (59 - k) o) + 1 - st) = zmk (vbd D co (59 - k) o) + 1 by omega] at g6 ⊢
    simp only [L_X1_cross_r26_60]
    rw [show zm (vbd D co (59 - k) o) < zi ((zmk (vbd D co (59 - k) o) + 1 : Nat) : Int) ↔ zmk (vbd D co (59 - k) o) < zmk (vbd D co (59 - k) o) + 1 from zlt_n (by omega) (by omega)]
    refine ⟨fun _ => hK A1 G g2 g3 g4 g5 (fun q => g6 ?_), fun c => absurd (Nat.lt_succ_self _) c⟩
    by_cases e : o < os
    · exact Or.inl e
    · have e2 : o = os := by omega
      obtain ⟨k1, k2, k3, k4⟩ := hcs e2
      refine Or.inr ⟨e2, ?_⟩
      have h7 : zmk (fun s => cs.testBit s) ≤ zmk (vbd D co (59 - k) o) := zmk_mono (vbd_of k3)
      rw [zmk_of k2] at h7
      omega

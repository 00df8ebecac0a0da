/-! what holds between the calls -/
abbrev elw (E : Nat → Nat → Nat) : Nat := E 0 0
abbrev elc (E : Nat → Nat → Nat) : Nat := E 0 1
abbrev erc (E : Nat → Nat → Nat) : Nat := E 0 2
def zsum (X L : Nat → Nat) : Nat → Nat → Nat
  | 0, _ => 0
  | c + 1, s => zsum X L c s + (if X c = s then L c else 0)
theorem zsum_le {X L : Nat → Nat} (hl : ∀ j, L j ≤ 3) : ∀ c s, zsum X L c s ≤ 3 * c
  | 0, _ => Nat.le_refl 0
  | c + 1, s => by
    have := zsum_le (X := X) hl c s
    have := hl c
    unfold zsum
    split <;> omega
/-- what each has now -/
def zco (D E : Nat → Nat → Nat) (s : Nat) : Int := (dt D s : Int) - zsum (E 1) (E 3) (elc E) s + zsum (E 2) (E 3) (elc E) s
def BE (D E : Nat → Nat → Nat) : Prop := elw E < 3 ∧ elc E ≤ 6 ∧ erc E ≤ 6 ∧ (∀ j, E 3 j ≤ 3) ∧ (∀ j, j < elc E → E 1 j < dn D ∧ E 2 j < dn D) ∧ (∀ j, j < erc E → E 4 j < dn D ∧ E 5 j < 60) ∧ ∀ j, E 6 j ≤ 1
theorem zco_ok {D E : Nat → Nat → Nat} (hd : BD D) (he : BE D E) : CD (zco D E) := by
  intro s
  have h1 := zsum_le (X := E 1) he.2.2.2.1 (elc E) s
  have h2 := zsum_le (X := E 2) he.2.2.2.1 (elc E) s
  have h3 := (hd.2.2.2.2 s).2.1
  have h4 := he.2.1
  unfold zco
  omega
def LN (D E : Nat → Nat → Nat) (I A : Nat → Nat → Int32) : Prop := I 18 3 = zi (elc E) ∧ I 44 20 = zi (elc E) ∧ ∀ j, j < elc E → (A 19 j = zi (E 1 j) ∧ A 20 j = zi (E 2 j) ∧ A 21 j = zi (E 3 j)) ∧ A 54 j = zi (E 1 j) ∧ A 55 j = zi (E 2 j) ∧ A 56 j = zi (E 3 j)
def RD (D E : Nat → Nat → Nat) (I A : Nat → Nat → Int32) : Prop := I 22 3 = zi (erc E) ∧ I 44 31 = zi (erc E) ∧ ∀ j, j < erc E → (A 23 j = zi (E 4 j) ∧ A 24 j = zi (E 5 j) ∧ A 25 j = zi (E 6 j)) ∧ A 62 j = zi (E 4 j) ∧ A 63 j = zi (E 5 j) ∧ A 64 j = zi (E 6 j)
def VN (D E : Nat → Nat → Nat) (A : Nat → Nat → Int32) : Prop := 0 < dn D → ∃ ro, zSo (dn D) (zrk D (zco D E) (elw E)) ro ∧ VY D (zco D E) ro 29 30 31 32 A
def SH1 (o c k : Nat) (I A : Nat → Nat → Int32) : Prop := (I o 1 = 0 ∧ A 65 k = zi (-1)) ∨ ∃ n l : Nat, n ≤ 60 ∧ l < 3 ∧ I o 1 = 1 ∧ I o 2 = zi l ∧ I o 3 = zi n ∧ A 65 k = zi n ∧ A 66 k = zi l ∧ ∀ i, i < n → A c i = A 67 (60 * k + i)
def SH (I A : Nat → Nat → Int32) : Prop := SH1 3 4 0 I A ∧ SH1 5 6 1 I A ∧ SH1 7 8 2 I A ∧ SH1 9 10 3 I A
def Iv (xs : Nat → Int32) (D E : Nat → Nat → Nat) (I A : Nat → Nat → Int32) : Prop := BD D ∧ BE D E ∧ CB D I A ∧ RB D I A ∧ RC D (zco D E) (elw E) I A ∧ (I 1 9 = zi (elw E) ∧ CC D (zco D E) 42 A) ∧ LN D E I A ∧ RD D E I A ∧ VN D E A ∧ (I 1 10 = I 44 39 ∧ I 1 11 = I 44 0) ∧ SH I A ∧ A 0 = xs
def INV (xs : Nat → Int32) (I A : Nat → Nat → Int32) : Prop := ∃ D E, Iv xs D E I A
def zcA (a : Nat) : Bool := [0, 4, 6, 8, 10, 12, 13, 14, 15, 16, 17, 19, 20, 21, 23, 24, 25, 29, 30, 31, 32, 42, 45, 46, 47, 48, 49, 54, 55, 56, 62, 63, 64, 65, 66, 67].contains a
def zcI (o k : Nat) : Bool := [(1, 9), (1, 10), (1, 11), (3, 1), (3, 2), (3, 3), (5, 1), (5, 2), (5, 3), (7, 1), (7, 2), (7, 3), (9, 1), (9, 2), (9, 3), (11, 0), (11, 1), (11, 2), (11, 3), (18, 3), (22, 3), (44, 0), (44, 1), (44, 2), (44, 3), (44, 4), (44, 10), (44, 20), (44, 31), (44, 39)].contains (o, k)
theorem Iv.fr {xs : Nat → Int32} {D E : Nat → Nat → Nat} {I A I' A' : Nat → Nat → Int32} (h : Iv xs D E I A) (hI : ∀ o k, zcI o k = true → I' o k = I o k) (hA : ∀ a, zcA a = true → A' a = A a) : Iv xs D E I' A' := by
  unfold Iv CB RB RC CC LN RD VN VY SH SH1 at h ⊢
  simp only [hI 1 9 rfl, hI 1 10 rfl, hI 1 11 rfl, hI 3 1 rfl, hI 3 2 rfl, hI 3 3 rfl, hI 5 1 rfl, hI 5 2 rfl, hI 5 3 rfl, hI 7 1 rfl, hI 7 2 rfl, hI 7 3 rfl, hI 9 1 rfl, hI 9 2 rfl, hI 9 3 rfl, hI 11 0 rfl, hI 11 1 rfl, hI 11 2 rfl, hI 11 3 rfl, hI 18 3 rfl, hI 22 3 rfl, hI 44 0 rfl, hI 44 1 rfl, hI 44 2 rfl, hI 44 3 rfl, hI 44 4 rfl, hI 44 10 rfl, hI 44 20 rfl, hI 44 31 rfl, hI 44 39 rfl, hA 0 rfl, hA 4 rfl, hA 6 rfl, hA 8 rfl, hA 10 rfl, hA 12 rfl, hA 13 rfl, hA 14 rfl, hA 15 rfl, hA 16 rfl, hA 17 rfl, hA 19 rfl, hA 20 rfl, hA 21 rfl, hA 23 rfl, hA 24 rfl, hA 25 rfl, hA 29 rfl, hA 30 rfl, hA 31 rfl, hA 32 rfl, hA 42 rfl, hA 45 rfl, hA 46 rfl, hA 47 rfl, hA 48 rfl, hA 49 rfl, hA 54 rfl, hA 55 rfl, hA 56 rfl, hA 62 rfl, hA 63 rfl, hA 64 rfl, hA 65 rfl, hA 66 rfl, hA 67 rfl]
  exact h
theorem Iv.rf {xs : Nat → Int32} {D E : Nat → Nat → Nat} {I A I' A' : Nat → Nat → Int32} (h : Iv xs D E I A) (h2 : RF I A I' A') : Iv xs D E I' A' := by
  refine h.fr (fun o k hk => ?_) (fun a ha => h2.2.2 a (by rintro rfl; cases ha) (by rintro rfl; cases ha))
  by_cases e : o = 44
  · subst e; exact h2.2.1 k (by rintro rfl; cases hk) (by rintro rfl; cases hk)
  · rw [h2.1 o e]
/-! who is asked for -/
theorem lgN (x y : Int64) : lg_cmp x y < 0 ↔ x.toInt < y.toInt := by
  unfold lg_cmp
  simp only [gt_iff_lt, Int64.lt_iff_toInt_lt, ← Int64.toInt_inj]
  split
  · exact ⟨fun q => absurd q (by decide), fun q => absurd q (by omega)⟩
  · split
    · exact ⟨fun q => absurd q (by decide), fun q => absurd q (by omega)⟩
    · exact ⟨fun _ => by omega, fun _ => by decide⟩
theorem lgP (x y : Int64) : 0 < lg_cmp x y ↔ y.toInt < x.toInt := by
  unfold lg_cmp
  simp only [gt_iff_lt, Int64.lt_iff_toInt_lt, ← Int64.toInt_inj]
  split
  · exact ⟨fun _ => by omega, fun _ => by decide⟩
  · split
    · exact ⟨fun q => absurd q (by decide), fun q => absurd q (by omega)⟩
    · exact ⟨fun q => absurd q (by decide), fun q => absurd q (by omega)⟩
theorem K_in_y {Ln : Nat} {I A : Nat → Nat → Int32} {v : Int32} {lo hi : Int64} {Q : Int32 → Prop} (h1 : lo.toInt ≤ v.toInt) (h2 : v.toInt ≤ hi.toInt) (hq : Q 1) : W_X8_in Ln I A (Int32.toInt64 v) lo hi Q := by
  unfold W_X8_in
  rw [lgN, lgP, Int32.toInt_toInt64]
  exact ⟨fun c => by omega, fun _ => ⟨fun c => by omega, fun _ => hq⟩⟩
theorem K_in_n {Ln : Nat} {I A : Nat → Nat → Int32} {v : Int32} {lo hi : Int64} {Q : Int32 → Prop} (h1 : ¬ (lo.toInt ≤ v.toInt ∧ v.toInt ≤ hi.toInt)) (hq : Q 0) : W_X8_in Ln I A (Int32.toInt64 v) lo hi Q := by
  unfold W_X8_in
  rw [lgN, lgP, Int32.toInt_toInt64]
  exact ⟨fun c => hq, fun _ => ⟨fun c => hq, fun _ => by omega⟩⟩
theorem z64_pred {n : Nat} (h : n ≤ 60) : (Int32.toInt64 (zi n) - 1).toInt = (n : Int) - 1 := (show ∀ n : Nat, n ≤ 60 → (Int32.toInt64 (zi n) - 1).toInt = (n : Int) - 1 from by decide +kernel) n h
theorem zasn {v : Int32} {n : Nat} (h : 0 ≤ v.toInt ∧ v.toInt < n) : ∃ s : Nat, s < n ∧ v = zi s := ⟨v.toInt.toNat, by omega, by rw [Int.toNat_of_nonneg h.1, zi_self]⟩
theorem zlt0 {v : Int32} : v < 0 ↔ v.toInt < 0 := by rw [Int32.lt_iff_toInt_lt, show (0 : Int32).toInt = 0 from rfl]
theorem zle_v {v : Int32} {n : Nat} (h : n < 2147483648) : zi n ≤ v ↔ (n : Int) ≤ v.toInt := by rw [Int32.le_iff_toInt_le, zi_toInt (by omega) (by omega)]
theorem zvlt {v : Int32} {n : Nat} (h : n < 2147483648) : v < zi n ↔ v.toInt < (n : Int) := by rw [Int32.lt_iff_toInt_lt, zi_toInt (by omega) (by omega)]
theorem C_isShade_y {Ln : Nat} {n s : Nat} {I A : Nat → Nat → Int32} {Q : Int32 → Prop} (hn : I 11 0 = zi n) (hn6 : n ≤ 6) (hs : s < n) (hq : Q 1) : W_X7_isShade_r1 Ln I A (zi s) Q := by
  unfold W_X7_isShade_r1
  rw [hn, zlt0, zi_toInt (by omega) (by omega), zle_n (by omega) (by omega)]
  exact ⟨fun c => by omega, fun _ => ⟨fun c => by omega, fun _ => hq⟩⟩
theorem C_isShade_n {Ln : Nat} {n : Nat} {I A : Nat → Nat → Int32} {v : Int32} {Q : Int32 → Prop} (hn : I 11 0 = zi n) (hn6 : n ≤ 6) (hs : ¬ (0 ≤ v.toInt ∧ v.toInt < n)) (hq : Q 0) : W_X7_isShade_r1 Ln I A v Q := by
  unfold W_X7_isShade_r1
  rw [hn, zlt0, zle_v (by omega)]
  exact ⟨fun c => hq, fun _ => ⟨fun c => hq, fun _ => by omega⟩⟩
theorem K_noShade_y {Ln : Nat} {n s : Nat} {I A : Nat → Nat → Int32} {Q : Int32 → Prop} (hn : I 44 4 = zi n) (hn6 : n ≤ 6) (hs : s < n) (hq : Q 0) : W_X8_noShade_r44 Ln I A (zi s) Q := by
  unfold W_X8_noShade_r44
  rw [hn]
  exact K_in_y (by rw [zi_toInt (by omega) (by omega)]; show (0 : Int) ≤ s; omega) (by rw [zi_toInt (by omega) (by omega), z64_pred (by omega)]; omega) ⟨fun _ => hq, fun c => absurd (show (1 : Int32) ≠ 0 by decide) c⟩
theorem K_noShade_n {Ln : Nat} {n : Nat} {I A : Nat → Nat → Int32} {v : Int32} {Q : Int32 → Prop} (hn : I 44 4 = zi n) (hn6 : n ≤ 6) (hs : ¬ (0 ≤ v.toInt ∧ v.toInt < n)) (hq : Q 1) : W_X8_noShade_r44 Ln I A v Q := by
  unfold W_X8_noShade_r44
  rw [hn]
  exact K_in_n (by rw [z64_pred (by omega), show (0 : Int64).toInt = 0 from rfl]; omega) ⟨fun c => absurd rfl c, fun _ => hq⟩
theorem C_isNight_y {Ln : Nat} {d : Nat} {I A : Nat → Nat → Int32} {Q : Int32 → Prop} (hd : d < 60) (hq : Q 1) : W_X7_isNight Ln I A (zi d) Q := by
  unfold W_X7_isNight
  rw [zlt0, zi_toInt (by omega) (by omega), show (60 : Int32) = zi (60 : Nat) from rfl, zle_n (by omega) (by omega)]
  exact ⟨fun c => by omega, fun _ => ⟨fun c => by omega, fun _ => hq⟩⟩
theorem C_isNight_n {Ln : Nat} {I A : Nat → Nat → Int32} {v : Int32} {Q : Int32 → Prop} (hs : ¬ (0 ≤ v.toInt ∧ v.toInt < (60 : Nat))) (hq : Q 0) : W_X7_isNight Ln I A v Q := by
  unfold W_X7_isNight
  rw [zlt0, show (60 : Int32) = zi (60 : Nat) from rfl, zle_v (by omega)]
  exact ⟨fun c => hq, fun _ => ⟨fun c => hq, fun _ => by omega⟩⟩
theorem K_noNight_y {Ln : Nat} {d : Nat} {I A : Nat → Nat → Int32} {Q : Int32 → Prop} (hd : d < 60) (hq : Q 0) : W_X8_noNight Ln I A (zi d) Q := by
  unfold W_X8_noNight
  exact K_in_y (by rw [zi_toInt (by omega) (by omega)]; show (0 : Int) ≤ d; omega) (by rw [zi_toInt (by omega) (by omega), show (59 : Int64).toInt = 59 from rfl]; omega) ⟨fun _ => hq, fun c => absurd (show (1 : Int32) ≠ 0 by decide) c⟩
theorem K_noNight_n {Ln : Nat} {I A : Nat → Nat → Int32} {v : Int32} {Q : Int32 → Prop} (hs : ¬ (0 ≤ v.toInt ∧ v.toInt < (60 : Nat))) (hq : Q 1) : W_X8_noNight Ln I A v Q := by
  unfold W_X8_noNight
  exact K_in_n (by rw [show (59 : Int64).toInt = 59 from rfl, show (0 : Int64).toInt = 0 from rfl]; omega) ⟨fun c => absurd rfl c, fun _ => hq⟩
theorem C_noBank_y {Ln : Nat} {n : Nat} {I A : Nat → Nat → Int32} {Q : Int32 → Prop} (hn : I 11 0 = zi n) (hn6 : n ≤ 6) (h : 0 < n) (hq : Q 0) : W_X7_noBank_r1 Ln I A Q := by
  unfold W_X7_noBank_r1
  rw [hn, ne_eq, show (0 : Int32) = zi (0 : Nat) from rfl, zeq_n (by omega) (by omega)]
  exact ⟨fun _ => hq, fun c => by omega⟩
theorem C_noBank_n {Ln : Nat} {n : Nat} {I A : Nat → Nat → Int32} {Q : Int32 → Prop} (hn : I 11 0 = zi n) (h : n = 0) (hq : Q 1) : W_X7_noBank_r1 Ln I A Q := by
  unfold W_X7_noBank_r1
  rw [hn, h]
  exact ⟨fun c => absurd (show zi (0 : Nat) = 0 from rfl) c, fun _ => hq⟩
theorem K_refusedFor_y {Ln : Nat} {n d : Nat} {I A : Nat → Nat → Int32} {Q : Int32 → Prop} (hn : I 44 4 = zi n) (hn6 : n ≤ 6) (h : 0 < n) (hd : d < 60) (hq : Q 0) : W_X8_refusedFor_r44 Ln I A (zi d) Q := by
  unfold W_X8_refusedFor_r44
  refine K_noNight_y hd ⟨fun _ => ?_, fun c => absurd rfl c⟩
  rw [hn, ne_eq, show (0 : Int32) = zi (0 : Nat) from rfl, zeq_n (by omega) (by omega)]
  exact ⟨fun _ => hq, fun c => by omega⟩
theorem K_refusedFor_0 {Ln : Nat} {n d : Nat} {I A : Nat → Nat → Int32} {Q : Int32 → Prop} (hn : I 44 4 = zi n) (h : n = 0) (hd : d < 60) (hq : Q (-3)) : W_X8_refusedFor_r44 Ln I A (zi d) Q := by
  unfold W_X8_refusedFor_r44
  refine K_noNight_y hd ⟨fun _ => ?_, fun c => absurd rfl c⟩
  rw [hn, h]
  exact ⟨fun c => absurd (show zi (0 : Nat) = 0 from rfl) c, fun _ => hq⟩
theorem K_refusedFor_n {Ln : Nat} {I A : Nat → Nat → Int32} {v : Int32} {Q : Int32 → Prop} (hs : ¬ (0 ≤ v.toInt ∧ v.toInt < (60 : Nat))) (hq : Q (-1)) : W_X8_refusedFor_r44 Ln I A v Q := by
  unfold W_X8_refusedFor_r44
  exact K_noNight_n hs ⟨fun c => absurd c (by decide), fun _ => hq⟩

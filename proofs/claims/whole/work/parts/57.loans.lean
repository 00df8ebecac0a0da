/-! loans, the law, readings -/
def eput (E : Nat → Nat → Nat) (a i v : Nat) : Nat → Nat → Nat := fun b => if b = a then (fun j => if j = i then v else E a j) else E b
theorem eput_ne {E : Nat → Nat → Nat} {a i v b : Nat} (h : b ≠ a) : eput E a i v b = E b := by unfold eput; rw [if_neg h]
theorem eput_at {E : Nat → Nat → Nat} {a i v : Nat} (j : Nat) : eput E a i v a j = if j = i then v else E a j := by unfold eput; rw [if_pos rfl]
def LC (E : Nat → Nat → Nat) (I A : Nat → Nat → Int32) : Prop := I 18 3 = zi (elc E) ∧ ∀ j, j < elc E → A 19 j = zi (E 1 j) ∧ A 20 j = zi (E 2 j) ∧ A 21 j = zi (E 3 j)
theorem LN.c {D E : Nat → Nat → Nat} {I A : Nat → Nat → Int32} (h : LN D E I A) : LC E I A := ⟨h.1, fun j hj => (h.2.2 j hj).1⟩
theorem C_sum_19 {Ln : Nat} {X L : Nat → Nat} {c s : Nat} {I A : Nat → Nat → Int32} {Q : Int32 → Prop} (hc : c ≤ 6) (h0 : I 18 3 = zi c) (h1 : ∀ j, j < c → A 19 j = zi (X j) ∧ A 21 j = zi (L j) ∧ X j < 6) (hs : s < 6) (hq : Q (zi (zsum X L c s))) : W_X2_sum_r18_r19 Ln I A (zi s) Q := by
  unfold W_X2_sum_r18_r19
  refine zLoop.count (fun i => (zi (zsum X L i s), zi i)) c rfl ?_ ?_
  · intro i hi K hk
    obtain ⟨e1, e2, e3⟩ := h1 i hi
    simp only [L_X2_sum_r18_r19_5]
    rw [h0, zle_n (by omega) (by omega), zi_nat' (by omega), e1, e2, ne_eq, zeq_n (by omega) (by omega)]
    refine ⟨fun q => by omega, fun _ => ⟨zin_n (by omega) (by decide), fun q => ?_, fun q => ⟨zin_n (by omega) (by decide), ?_⟩⟩⟩
    · rw [zi_succ, show zsum X L i s = zsum X L (i + 1) s from by show _ = zsum X L i s + (if X i = s then L i else 0); rw [if_neg q]; rfl]; exact hk
    · rw [zi_succ, zi_add, show ((zsum X L i s : Nat) : Int) + (L i : Nat) = (zsum X L (i + 1) s : Nat) from by show _ = ((zsum X L i s + (if X i = s then L i else 0) : Nat) : Int); rw [if_pos (Decidable.not_not.mp q)]; rfl]; exact hk
  · intro K
    simp only [L_X2_sum_r18_r19_5]
    rw [h0, zle_n (by omega) (by omega)]
    exact ⟨fun _ => hq, fun q => absurd (Nat.le_refl _) q⟩
theorem C_sum_20 {Ln : Nat} {X L : Nat → Nat} {c s : Nat} {I A : Nat → Nat → Int32} {Q : Int32 → Prop} (hc : c ≤ 6) (h0 : I 18 3 = zi c) (h1 : ∀ j, j < c → A 20 j = zi (X j) ∧ A 21 j = zi (L j) ∧ X j < 6) (hs : s < 6) (hq : Q (zi (zsum X L c s))) : W_X2_sum_r18_r20 Ln I A (zi s) Q := by
  unfold W_X2_sum_r18_r20
  refine zLoop.count (fun i => (zi (zsum X L i s), zi i)) c rfl ?_ ?_
  · intro i hi K hk
    obtain ⟨e1, e2, e3⟩ := h1 i hi
    simp only [L_X2_sum_r18_r20_5]
    rw [h0, zle_n (by omega) (by omega), zi_nat' (by omega), e1, e2, ne_eq, zeq_n (by omega) (by omega)]
    refine ⟨fun q => by omega, fun _ => ⟨zin_n (by omega) (by decide), fun q => ?_, fun q => ⟨zin_n (by omega) (by decide), ?_⟩⟩⟩
    · rw [zi_succ, show zsum X L i s = zsum X L (i + 1) s from by show _ = zsum X L i s + (if X i = s then L i else 0); rw [if_neg q]; rfl]; exact hk
    · rw [zi_succ, zi_add, show ((zsum X L i s : Nat) : Int) + (L i : Nat) = (zsum X L (i + 1) s : Nat) from by show _ = ((zsum X L i s + (if X i = s then L i else 0) : Nat) : Int); rw [if_pos (Decidable.not_not.mp q)]; rfl]; exact hk
  · intro K
    simp only [L_X2_sum_r18_r20_5]
    rw [h0, zle_n (by omega) (by omega)]
    exact ⟨fun _ => hq, fun q => absurd (Nat.le_refl _) q⟩
theorem C_goThroughNights {Ln : Nat} {D E : Nat → Nat → Nat} {I A : Nat → Nat → Int32} {Q : (Nat → Nat → Int32) → Prop} (hd : BD D) (he : BE D E) (hb : CB D I A) (h19 : I 1 9 = zi (elw E)) (hl : LC E I A) (hq : ∀ A', (∀ a, a ≠ 42 → (a < 29 ∨ 34 < a) → A' a = A a) → CC D (zco D E) 42 A' → VY D (zco D E) (zRo D (zco D E) (elw E)) 29 30 31 32 A' → Q A') : W_X7_goThroughNights_r1 Ln I A Q := by
  have hn := hd.1
  have hco := zco_ok hd he
  have hc6 := he.2.1
  unfold W_X7_goThroughNights_r1
  refine zLoop.inv (fun i σ => σ.1 = zi i ∧ (∀ a, a ≠ 42 → σ.2 a = A a) ∧ ∀ s, s < i → σ.2 42 s = zi (zco D E s)) (dn D) ⟨rfl, fun _ _ => rfl, fun s h => by omega⟩ ?_ ?_
  · rintro i ⟨v3, A2⟩ hi ⟨h3, hf, h2⟩ K hk
    simp only at h3 hf h2
    subst h3
    simp only [L_X7_goThroughNights_r1_2]
    have hz := zin_n (L := 6) (s := i) (by omega) (by decide)
    have hl2 := he.2.2.2.2.1
    rw [hb.1, zle_n (by omega) (by omega), zi_nat' (by omega), hf 13 (by decide), (hb.2.2.2.2.1 i hi).2.1]
    refine ⟨fun q => by omega, fun _ => ⟨hz, ?_⟩⟩
    unfold W_X2_lentBy_r18 W_X2_lentTo_r18
    refine C_sum_19 (X := E 1) (L := E 3) hc6 hl.1 (fun j hj => ?_) (by omega) ?_
    · rw [hf 19 (by decide), hf 21 (by decide)]; exact ⟨(hl.2 j hj).1, (hl.2 j hj).2.2, by have := (hl2 j hj).1; omega⟩
    rintro _ rfl
    refine C_sum_20 (X := E 2) (L := E 3) hc6 hl.1 (fun j hj => ?_) (by omega) ⟨hz, ?_⟩
    · rw [hf 20 (by decide), hf 21 (by decide)]; exact ⟨(hl.2 j hj).2.1, (hl.2 j hj).2.2, by have := (hl2 j hj).2; omega⟩
    rw [zi_succ, zi_sub, zi_add]
    refine hk _ ⟨rfl, fun a ha => (zw_ne ha).trans (hf a ha), fun s hs => ?_⟩
    dsimp only
    rw [zw_at]
    by_cases e : s = i
    · rw [if_pos e, e]; rfl
    · rw [if_neg e]; exact h2 s (by omega)
  · rintro ⟨v3, A2⟩ ⟨h3, hf, h2⟩ K
    simp only at h3 hf h2
    subst h3
    simp only [L_X7_goThroughNights_r1_2]
    rw [hb.1, zle_n (by omega) (by omega), h19]
    refine ⟨fun _ => ?_, fun q => absurd (Nat.le_refl _) q⟩
    refine C_goThrough_28_42 hd hco (hb.fr (fun a h1 h4 => hf a (by omega))) h2 he.1 (fun A3 ro f3 hro hvy => ?_)
    refine hq A3 (fun a h1 h4 => (f3 a h4).trans (hf a h1)) (fun s hs => by rw [f3 42 (by decide)]; exact h2 s hs) (VY_cg (zSo_one hro (zRo_so _ _ _)) hvy)
/-- the law, or a loan, becomes another -/
def zkL (o k : Nat) : Bool := [(11, 0), (11, 1), (11, 2), (11, 3), (22, 3), (44, 1), (44, 2), (44, 3), (44, 4), (44, 31)].contains (o, k)
def zkM (a : Nat) : Bool := [0, 12, 13, 14, 15, 16, 17, 23, 24, 25, 45, 46, 47, 48, 62, 63, 64].contains a
theorem Iv.newE {xs : Nat → Int32} {D E E' : Nat → Nat → Nat} {I A I' A' : Nat → Nat → Int32} (h : Iv xs D E I A) (he : BE D E') (hE : erc E' = erc E ∧ E' 4 = E 4 ∧ E' 5 = E 5 ∧ E' 6 = E 6) (hI : ∀ o k, zkL o k = true → I' o k = I o k) (hA : ∀ a, zkM a = true → A' a = A a) (hrc : RC D (zco D E') (elw E') I' A') (h19 : I' 1 9 = zi (elw E')) (hcc : CC D (zco D E') 42 A') (hln : LN D E' I' A') (hvy : VY D (zco D E') (zRo D (zco D E') (elw E')) 29 30 31 32 A') (ht : I' 1 10 = I 1 10 ∧ I' 44 39 = I 44 39 ∧ I' 1 11 = I 1 11 ∧ I' 44 0 = I 44 0) (hs : SH I' A') : Iv xs D E' I' A' := by
  unfold Iv CB RB RD at h ⊢
  rw [hE.1, hE.2.1, hE.2.2.1, hE.2.2.2]
  simp only [hI 11 0 rfl, hI 11 1 rfl, hI 11 2 rfl, hI 11 3 rfl, hI 22 3 rfl, hI 44 1 rfl, hI 44 2 rfl, hI 44 3 rfl, hI 44 4 rfl, hI 44 31 rfl, hA 0 rfl, hA 12 rfl, hA 13 rfl, hA 14 rfl, hA 15 rfl, hA 16 rfl, hA 17 rfl, hA 23 rfl, hA 24 rfl, hA 25 rfl, hA 45 rfl, hA 46 rfl, hA 47 rfl, hA 48 rfl, hA 62 rfl, hA 63 rfl, hA 64 rfl]
  obtain ⟨a1, a2, a3, a4, a5, a6, a7, a8, a9, a10, a11, a12⟩ := h
  exact ⟨a1, he, a3, a4, hrc, ⟨h19, hcc⟩, hln, a8, fun _ => ⟨_, zRo_so _ _ _, hvy⟩, ⟨by rw [ht.1, ht.2.1]; exact a10.1, by rw [ht.2.2.1, ht.2.2.2]; exact a10.2⟩, hs, a12⟩
theorem Iv.parts {xs : Nat → Int32} {D E : Nat → Nat → Nat} {I A : Nat → Nat → Int32} (h : Iv xs D E I A) : BD D ∧ BE D E ∧ CB D I A ∧ RB D I A ∧ RC D (zco D E) (elw E) I A ∧ (I 1 9 = zi (elw E) ∧ CC D (zco D E) 42 A) ∧ LN D E I A ∧ RD D E I A ∧ VN D E A ∧ (I 1 10 = I 44 39 ∧ I 1 11 = I 44 0) ∧ SH I A ∧ A 0 = xs := h
theorem CB.fi {D : Nat → Nat → Nat} {I I' A A' : Nat → Nat → Int32} (h : CB D I A) (hI : ∀ k, I' 11 k = I 11 k) (h2 : ∀ a, 12 ≤ a → a ≤ 17 → A' a = A a) : CB D I' A' := by
  have h3 := h.fr h2
  unfold CB at h3 ⊢
  simp only [hI]; exact h3
theorem OP_law {Ln : Nat} {xs : Nat → Int32} {I A : Nat → Nat → Int32} {v : Int32} {Q : Int32 → (Nat → Nat → Int32) → (Nat → Nat → Int32) → Prop} (hv : INV xs I A) (hq : ∀ x I' A', A' 0 = A 0 → (∀ Q2 : Int32 → (Nat → Nat → Int32) → Prop, (∀ I2, INV xs I2 A' → Q2 x I2) → W_X8_law_r44 Ln I' A' v Q2) → Q x I' A') : W_X7_law_r1 Ln I A v Q := by
  obtain ⟨D, E, hv⟩ := hv
  obtain ⟨hd, he, hb, hr, hc, ⟨h19, h42⟩, hl, hrd, hvn, ht, hsh, h0⟩ := hv.parts
  have hn := hd.1
  unfold W_X7_law_r1
  by_cases hl3 : 0 ≤ v.toInt ∧ v.toInt < (3 : Nat)
  · obtain ⟨w, hw, rfl⟩ := zasn hl3
    rw [zlt0, zi_toInt (by omega) (by omega), show (3 : Int32) = zi (3 : Nat) from rfl, zlt_n (by omega) (by omega)]
    refine ⟨fun c => by omega, fun _ => ⟨fun _ => ?_, fun c => by omega⟩⟩
    by_cases hnb : 0 < dn D
    · refine C_noBank_y hb.1 hn hnb ⟨fun _ => ?_, fun c => absurd rfl c⟩
      rintro I2 hI2
      have he2 : BE D (eput E 0 0 w) := by
        obtain ⟨_, b2, b3, b4, b5, b6, b7⟩ := he
        exact ⟨hw, b2, b3, b4, b5, b6, b7⟩
      refine C_goThroughNights (E := eput E 0 0 w) hd he2 (hb.fi (fun k => by rw [hI2, zp_ne (by decide)]) (fun _ _ _ => rfl)) (by rw [hI2, zp_eq]; rfl) ⟨by rw [hI2]; exact hl.c.1, hl.c.2⟩ (fun A3 f3 hcc hvy => ?_)
      refine hq _ _ _ (f3 0 (by decide) (by decide)) (fun Q2 h2 => ?_)
      unfold W_X8_law_r44
      refine K_lane_y hw ⟨fun _ => ?_, fun c => absurd (show (1 : Int32) ≠ 0 by decide) c⟩
      rw [show I2 44 4 = zi (dn D) from by rw [hI2]; exact hr.1, K_shades hn, show I2 44 10 = I 1 9 from by rw [hI2]; exact hc.1.trans h19.symm]
      refine ⟨fun _ => h2 _ ⟨D, eput E 0 0 w, ?_⟩, fun c => absurd hnb c⟩
      refine hv.newE he2 ⟨rfl, rfl, rfl, rfl⟩ (fun o k hk => by rw [zpJ (f := zkL) rfl hk, hI2, zpJ (f := zkL) rfl hk]) (fun a ha => f3 a (by rintro rfl; cases ha) ?_) ⟨by rw [zp_eq]; rfl, hw, fun s hs => ?_⟩ (by rw [zp_ne (by decide), hI2, zp_eq]; rfl) hcc ⟨?_, ?_, fun j hj => ?_⟩ hvy (by rw [hI2]; exact ⟨rfl, rfl, rfl, rfl⟩) (hsh.fr (fun o j ho => by rw [zp_ne (by omega), hI2, zp_ne (by omega)]) (fun a ha => f3 a (by omega) (by omega)))
      · by_cases c : a < 29 ∨ 34 < a
        · exact c
        · have : a = 29 ∨ a = 30 ∨ a = 31 ∨ a = 32 ∨ a = 33 ∨ a = 34 := by omega
          rcases this with rfl | rfl | rfl | rfl | rfl | rfl <;> cases ha
      · rw [f3 49 (by decide) (by decide)]; exact hc.2.2 s hs
      · rw [zp_ne (by decide), hI2, zp_ne (by decide)]; exact hl.1
      · rw [zp_at, if_neg (by decide), hI2, zp_ne (by decide)]; exact hl.2.1
      · rw [f3 19 (by decide) (by decide), f3 20 (by decide) (by decide), f3 21 (by decide) (by decide), f3 54 (by decide) (by decide), f3 55 (by decide) (by decide), f3 56 (by decide) (by decide)]; exact hl.2.2 j hj
    · refine C_noBank_n hb.1 (by omega) ⟨fun c => absurd c (by decide), fun _ => hq _ _ _ rfl (fun Q2 h2 => ?_)⟩
      unfold W_X8_law_r44
      refine K_lane_y hw ⟨fun _ => ?_, fun c => absurd (show (1 : Int32) ≠ 0 by decide) c⟩
      rw [hr.1, K_shades hn]
      exact ⟨fun c => absurd c hnb, fun _ => h2 _ ⟨D, E, hv⟩⟩
  · have hr2 : Q (-2) I A := by
      refine hq _ _ _ rfl (fun Q2 h2 => ?_)
      unfold W_X8_law_r44
      exact K_lane_n hl3 ⟨fun c => absurd rfl c, fun _ => h2 _ ⟨D, E, hv⟩⟩
    rw [zlt0, show (3 : Int32) = zi (3 : Nat) from rfl, zvlt (by omega)]
    exact ⟨fun _ => hr2, fun c => ⟨fun c2 => by omega, fun _ => hr2⟩⟩
theorem zm0a {a : Nat} (ha : zkM a = true) : a ≠ 42 ∧ (a < 29 ∨ 34 < a) := by
  constructor
  · rintro rfl; cases ha
  · by_cases c : a < 29 ∨ 34 < a
    · exact c
    · have : a = 29 ∨ a = 30 ∨ a = 31 ∨ a = 32 ∨ a = 33 ∨ a = 34 := by omega
      rcases this with rfl | rfl | rfl | rfl | rfl | rfl <;> cases ha
theorem K_lend {Ln : Nat} {n a b c : Nat} {co : Nat → Int} {I A : Nat → Nat → Int32} {Q : (Nat → Nat → Int32) → Prop} (hn : n ≤ 6) (ha : a < n) (hb : b < n) (hc : ∀ s, s < n → A 49 s = zi (co s)) (hq : ∀ A', (∀ x, x ≠ 49 → A' x = A x) → (∀ s, s < n → A' 49 s = zi (co s - (if a = s then (c : Int) else 0) + (if b = s then (c : Int) else 0))) → Q A') : W_X8_lend_r44 Ln I A (zi a) (zi b) (zi c) Q := by
  have hz := zin_n (L := 6) (s := a) (by omega) (by decide)
  have hz2 := zin_n (L := 6) (s := b) (by omega) (by decide)
  unfold W_X8_lend_r44
  rw [zi_nat' (by omega), zi_nat' (by omega)]
  refine ⟨hz, hz, hz2, hz2, hq _ (fun x hx => by rw [zw_ne hx, zw_ne hx]) (fun s hs => ?_)⟩
  rw [zw_at, zw_at, zw_at, hc a ha, hc b hb, hc s hs, zi_sub]
  by_cases e1 : s = b
  · subst e1
    rw [if_pos rfl, if_pos rfl]
    by_cases e2 : s = a
    · subst e2; rw [if_pos rfl, if_pos rfl, zi_add]
    · rw [if_neg e2, if_neg (show ¬ a = s from fun q => e2 q.symm), zi_add]; congr 1; omega
  · rw [if_neg e1, if_neg (show ¬ b = s from fun q => e1 q.symm)]
    by_cases e2 : s = a
    · subst e2; rw [if_pos rfl, if_pos rfl]; congr 1; omega
    · rw [if_neg e2, if_neg (show ¬ a = s from fun q => e2 q.symm)]; congr 1; omega
theorem zsum_s {X L : Nat → Nat} {c s : Nat} : zsum X L (c + 1) s = zsum X L c s + (if X c = s then L c else 0) := rfl
theorem zsum_cg {X X' L L' : Nat → Nat} : ∀ {c : Nat} {s : Nat}, (∀ j, j < c → X j = X' j ∧ L j = L' j) → zsum X L c s = zsum X' L' c s
  | 0, _, _ => rfl
  | c + 1, s, h => by
    rw [zsum_s, zsum_s, zsum_cg (fun j hj => h j (by omega)), (h c (by omega)).1, (h c (by omega)).2]
/-- a loan more -/
def eloan (E : Nat → Nat → Nat) (a b c : Nat) : Nat → Nat → Nat := eput (eput (eput (eput E 3 (elc E) c) 2 (elc E) b) 1 (elc E) a) 0 1 (elc E + 1)
theorem eloan_co {D E : Nat → Nat → Nat} {a b c : Nat} (s : Nat) : zco D (eloan E a b c) s = zco D E s - (if a = s then (c : Int) else 0) + (if b = s then (c : Int) else 0) := by
  have e0 : elc (eloan E a b c) = elc E + 1 := rfl
  have e1 : ∀ j, eloan E a b c 1 j = if j = elc E then a else E 1 j := fun j => rfl
  have e2 : ∀ j, eloan E a b c 2 j = if j = elc E then b else E 2 j := fun j => rfl
  have e3 : ∀ j, eloan E a b c 3 j = if j = elc E then c else E 3 j := fun j => rfl
  unfold zco
  rw [e0, zsum_s, zsum_s]
  rw [zsum_cg (X' := E 1) (L' := E 3) (fun j hj => by rw [e1, e3, if_neg (by omega), if_neg (by omega)]; exact ⟨rfl, rfl⟩), zsum_cg (X := eloan E a b c 2) (X' := E 2) (L' := E 3) (fun j hj => by rw [e2, e3, if_neg (by omega), if_neg (by omega)]; exact ⟨rfl, rfl⟩)]
  rw [e1, e2, e3, if_pos rfl, if_pos rfl, if_pos rfl]
  split <;> split <;> omega
theorem OP_loan {Ln : Nat} {xs : Nat → Int32} {I A : Nat → Nat → Int32} {v w u : Int32} {Q : Int32 → (Nat → Nat → Int32) → (Nat → Nat → Int32) → Prop} (hv : INV xs I A) (hq : ∀ x I' A', A' 0 = A 0 → (∀ Q2 : Int32 → (Nat → Nat → Int32) → (Nat → Nat → Int32) → Prop, (∀ I2 A2, INV xs I2 A2 → Q2 x I2 A2) → W_X8_loan_r44 Ln I' A' v w u Q2) → Q x I' A') : W_X7_loan_r1 Ln I A v w u Q := by
  obtain ⟨D, E, hv⟩ := hv
  obtain ⟨hd, he, hb, hr, hc, ⟨h19, h42⟩, hl, hrd, hvn, ht, hsh, h0⟩ := hv.parts
  have hn := hd.1
  have hco := zco_ok hd he
  have hi : INV xs I A := ⟨D, E, hv⟩
  unfold W_X7_loan_r1
  by_cases hs0 : 0 ≤ v.toInt ∧ v.toInt < dn D
  · obtain ⟨s, hs, rfl⟩ := zasn hs0
    refine C_isShade_y hb.1 hn hs ⟨fun c => absurd c (by decide), fun _ => ?_⟩
    by_cases ht0 : 0 ≤ w.toInt ∧ w.toInt < dn D
    · obtain ⟨t, htt, rfl⟩ := zasn ht0
      refine C_isShade_y hb.1 hn htt ⟨fun c => absurd c (by decide), fun _ => ?_⟩
      have hK : ∀ (J B : Nat → Nat → Int32) (Q2 : Int32 → (Nat → Nat → Int32) → (Nat → Nat → Int32) → Prop), J 44 4 = zi (dn D) → (((zi s : Int32) ≠ zi t → W_X8_in Ln J B (Int32.toInt64 u) 1 3 (fun (r3 : Int32) => (((r3 : Int32) ≠ 0 → ((zin (zi s) 6 = true) ∧ ((u : Int32) ≤ (B 49 (zi s).toNatClampNeg) → ((((J 44 20) : Int32) ≠ 6 → ((zin (J 44 20) 6 = true) ∧ (zin (J 44 20) 6 = true) ∧ (zin (J 44 20) 6 = true) ∧ (W_X8_lend_r44 Ln J (zw (zw (zw B 54 ((J 44 20).toNatClampNeg) (zi s)) 55 ((J 44 20).toNatClampNeg) (zi t)) 56 ((J 44 20).toNatClampNeg) u) (zi s) (zi t) u (fun (A4 : Nat → Nat → Int32) => (Q2 (((J 44 20) + 1) - 1) (zp J 44 20 ((J 44 20) + 1)) A4))))) ∧ (¬ (((J 44 20) : Int32) ≠ 6) → (Q2 (-4) J B)))) ∧ (¬ ((u : Int32) ≤ (B 49 (zi s).toNatClampNeg)) → (Q2 (-3) J B)))) ∧ (¬ ((r3 : Int32) ≠ 0) → (Q2 (-2) J B))))) ∧ (¬ ((zi s : Int32) ≠ zi t) → Q2 (-1) J B)) → W_X8_loan_r44 Ln J B (zi s) (zi t) u Q2 := by
        intro J B Q2 hJ hk
        unfold W_X8_loan_r44
        exact K_noShade_y hJ hn hs ⟨fun c => absurd rfl c, fun _ => K_noShade_y hJ hn htt ⟨fun c => absurd rfl c, fun _ => hk⟩⟩
      refine ⟨fun hst => ?_, fun hst => hq _ _ _ rfl (fun Q2 h2 => hK _ _ _ hr.1 ⟨fun c => absurd c hst, fun _ => h2 _ _ hi⟩)⟩
      by_cases hu : 1 ≤ u.toInt ∧ u.toInt ≤ 3
      · obtain ⟨c, hc4, rfl⟩ := zasn (v := u) (n := 4) ⟨by omega, by omega⟩
        rw [zi_toInt (by omega) (by omega)] at hu
        have hin : ∀ {J B : Nat → Nat → Int32} {Q3 : Int32 → Prop}, Q3 1 → W_X8_in Ln J B (Int32.toInt64 (zi c)) 1 3 Q3 := fun h3 => K_in_y (by rw [zi_toInt (by omega) (by omega)]; show (1 : Int) ≤ c; omega) (by rw [zi_toInt (by omega) (by omega)]; show (c : Int) ≤ 3; omega) h3
        have hcs := hco s
        have hz := zin_n (L := 6) (s := s) (by omega) (by decide)
        rw [zi_nat' (show s < 2147483648 by omega), h42 s hs, zq1, zq3, zi_lt (by omega) (by omega) (by omega) (by omega), zi_le (by omega) (by omega) (by omega) (by omega), zi_le (by omega) (by omega) (by omega) (by omega), hl.1]
        refine ⟨fun q => by omega, fun _ => ⟨fun _ => ⟨hz, fun hle => ⟨fun hne => ?_, fun hne => hq _ _ _ rfl (fun Q2 h2 => hK _ _ _ hr.1 ⟨fun _ => hin ⟨fun _ => ⟨hz, fun _ => ⟨fun q => ?_, fun _ => h2 _ _ hi⟩, fun q => ?_⟩, fun q => absurd (show (1 : Int32) ≠ 0 by decide) q⟩, fun q => absurd hst q⟩)⟩, fun hle => hq _ _ _ rfl (fun Q2 h2 => hK _ _ _ hr.1 ⟨fun _ => hin ⟨fun _ => ⟨hz, fun q => ?_, fun _ => h2 _ _ hi⟩, fun q => absurd (show (1 : Int32) ≠ 0 by decide) q⟩, fun q => absurd hst q⟩)⟩, fun q => absurd hu.2 q⟩⟩
        · have hlc := he.2.1
          have hlt : elc E < 6 := by
            rw [ne_eq, zq6, show (6 : Int) = ((6 : Nat) : Int) from rfl, zeq_n (by omega) (by omega)] at hne; omega
          have hz6 := zin_n (L := 6) (s := elc E) hlt (by decide)
          have hne2 : s ≠ t := by rintro rfl; exact hst rfl
          have he2 : BE D (eloan E s t c) := by
            obtain ⟨b1, b2, b3, b4, b5, b6, b7⟩ := he
            refine ⟨b1, by show elc E + 1 ≤ 6; omega, b3, fun j => ?_, fun j hj => ?_, b6, b7⟩
            · show (if j = elc E then c else E 3 j) ≤ 3
              have := b4 j
              split <;> omega
            · have hj2 : j < elc E + 1 := hj
              show (if j = elc E then s else E 1 j) < dn D ∧ (if j = elc E then t else E 2 j) < dn D
              by_cases e : j = elc E
              · rw [if_pos e, if_pos e]; exact ⟨hs, htt⟩
              · rw [if_neg e, if_neg e]; exact b5 j (by omega)
          unfold W_X2_add_r18
          rw [hl.1, zi_nat' (by omega), zi_succ]
          refine ⟨hz6, hz6, hz6, ?_⟩
          refine C_goThroughNights (E := eloan E s t c) hd he2 (hb.fi (fun k => by rw [zp_ne (by decide)]) (fun a h1 h2 => by rw [zw_ne (by omega), zw_ne (by omega), zw_ne (by omega)])) (by rw [zp_ne (by decide)]; exact h19) ⟨by rw [zp_eq]; rfl, fun j hj => ?_⟩ (fun A3 f3 hcc hvy => ?_)
          · have hj2 : j < elc E + 1 := hj
            rw [zw_ne (show (19 : Nat) ≠ 21 by decide), zw_ne (show (19 : Nat) ≠ 20 by decide), zw_at, zw_ne (show (20 : Nat) ≠ 21 by decide), zw_at, zw_ne (show (20 : Nat) ≠ 19 by decide), zw_at, zw_ne (show (21 : Nat) ≠ 20 by decide), zw_ne (show (21 : Nat) ≠ 19 by decide)]
            show _ = zi ((if j = elc E then s else E 1 j : Nat) : Int) ∧ _ = zi ((if j = elc E then t else E 2 j : Nat) : Int) ∧ _ = zi ((if j = elc E then c else E 3 j : Nat) : Int)
            by_cases e : j = elc E
            · rw [if_pos e, if_pos e, if_pos e, if_pos e, if_pos e, if_pos e]; exact ⟨rfl, rfl, rfl⟩
            · rw [if_neg e, if_neg e, if_neg e, if_neg e, if_neg e, if_neg e]; exact (hl.2.2 j (by omega)).1
          have f4 : ∀ a, a ≠ 42 → (a < 29 ∨ 34 < a) → a ≠ 19 → a ≠ 20 → a ≠ 21 → A3 a = A a := fun a h1 h2 h3 h4 h5 => by rw [f3 a h1 h2, zw_ne h5, zw_ne h4, zw_ne h3]
          refine hq _ _ _ (f4 0 (by decide) (by decide) (by decide) (by decide) (by decide)) (fun Q2 h2 => hK _ _ _ (by rw [zp_ne (by decide)]; exact hr.1) ⟨fun _ => hin ⟨fun _ => ⟨hz, fun _ => ?_, fun q => ?_⟩, fun q => absurd (show (1 : Int32) ≠ 0 by decide) q⟩, fun q => absurd hst q⟩)
          · rw [show zp I 18 3 (zi ((elc E + 1 : Nat) : Int)) 44 20 = zi (elc E) from hl.2.1, zi_nat' (by omega), zi_succ]
            refine ⟨fun _ => ⟨hz6, hz6, hz6, ?_⟩, fun q => absurd hne q⟩
            refine K_lend (co := zco D E) hn hs htt (fun q hq2 => ?_) (fun A4 f5 g49 => h2 _ _ ⟨D, eloan E s t c, ?_⟩)
            · rw [zw_ne (by decide), zw_ne (by decide), zw_ne (by decide), f4 49 (by decide) (by decide) (by decide) (by decide) (by decide)]; exact hc.2.2 q hq2
            have f6 : ∀ a, a ≠ 49 → a ≠ 54 → a ≠ 55 → a ≠ 56 → A4 a = A3 a := fun a h1 h2 h3 h4 => by rw [f5 a h1, zw_ne h4, zw_ne h3, zw_ne h2]
            refine hv.newE he2 ⟨rfl, rfl, rfl, rfl⟩ (fun o k hk => by rw [zpJ (f := zkL) rfl hk, zpJ (f := zkL) rfl hk]) (fun a ha => ?_) ⟨hc.1, hc.2.1, fun q hq2 => ?_⟩ h19 (fun q hq2 => ?_) ⟨?_, ?_, fun j hj => ⟨?_, ?_⟩⟩ ?_ ⟨rfl, rfl, rfl, rfl⟩ (hsh.fr (fun o j ho => by rw [zp_ne (by omega), zp_ne (by omega)]) (fun a ha => by rw [f6 a (by omega) (by omega) (by omega) (by omega), f4 a (by omega) (by omega) (by omega) (by omega) (by omega)]))
            · have hm := zm0a ha
              rw [f6 a (by rintro rfl; cases ha) (by rintro rfl; cases ha) (by rintro rfl; cases ha) (by rintro rfl; cases ha), f4 a hm.1 hm.2 (by rintro rfl; cases ha) (by rintro rfl; cases ha) (by rintro rfl; cases ha)]
            · rw [g49 q hq2, eloan_co]
            · rw [f6 42 (by decide) (by decide) (by decide) (by decide)]; exact hcc q hq2
            · rw [zp_ne (by decide), zp_eq]; rfl
            · rw [zp_eq]; rfl
            · rw [f6 19 (by decide) (by decide) (by decide) (by decide), f6 20 (by decide) (by decide) (by decide) (by decide), f6 21 (by decide) (by decide) (by decide) (by decide), f3 19 (by decide) (by decide), f3 20 (by decide) (by decide), f3 21 (by decide) (by decide)]
              have hj2 : j < elc E + 1 := hj
              rw [zw_ne (show (19 : Nat) ≠ 21 by decide), zw_ne (show (19 : Nat) ≠ 20 by decide), zw_at, zw_ne (show (20 : Nat) ≠ 21 by decide), zw_at, zw_ne (show (20 : Nat) ≠ 19 by decide), zw_at, zw_ne (show (21 : Nat) ≠ 20 by decide), zw_ne (show (21 : Nat) ≠ 19 by decide)]
              show _ = zi ((if j = elc E then s else E 1 j : Nat) : Int) ∧ _ = zi ((if j = elc E then t else E 2 j : Nat) : Int) ∧ _ = zi ((if j = elc E then c else E 3 j : Nat) : Int)
              by_cases e : j = elc E
              · rw [if_pos e, if_pos e, if_pos e, if_pos e, if_pos e, if_pos e]; exact ⟨rfl, rfl, rfl⟩
              · rw [if_neg e, if_neg e, if_neg e, if_neg e, if_neg e, if_neg e]; exact (hl.2.2 j (by omega)).1
            · have hj2 : j < elc E + 1 := hj
              rw [f5 54 (by decide), f5 55 (by decide), f5 56 (by decide)]
              rw [zw_ne (show (54 : Nat) ≠ 56 by decide), zw_ne (show (54 : Nat) ≠ 55 by decide), zw_at, zw_ne (show (55 : Nat) ≠ 56 by decide), zw_at, zw_ne (show (55 : Nat) ≠ 54 by decide), zw_at, zw_ne (show (56 : Nat) ≠ 55 by decide), zw_ne (show (56 : Nat) ≠ 54 by decide), f4 54 (by decide) (by decide) (by decide) (by decide) (by decide), f4 55 (by decide) (by decide) (by decide) (by decide) (by decide), f4 56 (by decide) (by decide) (by decide) (by decide) (by decide)]
              show _ = zi ((if j = elc E then s else E 1 j : Nat) : Int) ∧ _ = zi ((if j = elc E then t else E 2 j : Nat) : Int) ∧ _ = zi ((if j = elc E then c else E 3 j : Nat) : Int)
              by_cases e : j = elc E
              · rw [if_pos e, if_pos e, if_pos e, if_pos e, if_pos e, if_pos e]; exact ⟨rfl, rfl, rfl⟩
              · rw [if_neg e, if_neg e, if_neg e, if_neg e, if_neg e, if_neg e]; exact (hl.2.2 j (by omega)).2
            · unfold VY at hvy ⊢
              rw [f6 29 (by decide) (by decide) (by decide) (by decide), f6 30 (by decide) (by decide) (by decide) (by decide), f6 31 (by decide) (by decide) (by decide) (by decide), f6 32 (by decide) (by decide) (by decide) (by decide)]; exact hvy
          · rw [zi_nat' (by omega), f4 49 (by decide) (by decide) (by decide) (by decide) (by decide), hc.2.2 s hs, zi_le (by omega) (by omega) (by omega) (by omega)] at q; exact absurd hle q
        · rw [show I 44 20 = zi (elc E) from hl.2.1] at q; exact absurd q hne
        · rw [zi_nat' (by omega), hc.2.2 s hs, zi_le (by omega) (by omega) (by omega) (by omega)] at q; exact absurd hle q
        · rw [zi_nat' (by omega), hc.2.2 s hs, zi_le (by omega) (by omega) (by omega) (by omega)] at q; exact absurd q hle
      · have hr2 : Q (-2) I A := hq _ _ _ rfl (fun Q2 h2 => hK _ _ _ hr.1 ⟨fun _ => K_in_n hu ⟨fun c => absurd rfl c, fun _ => h2 _ _ hi⟩, fun c => absurd hst c⟩)
        rw [Int32.lt_iff_toInt_lt, Int32.le_iff_toInt_le, show (1 : Int32).toInt = 1 from rfl, show (3 : Int32).toInt = 3 from rfl]
        exact ⟨fun _ => hr2, fun c => ⟨fun c2 => by omega, fun _ => hr2⟩⟩
    · refine C_isShade_n hb.1 hn ht0 ⟨fun _ => hq _ _ _ rfl (fun Q2 h2 => ?_), fun c => absurd rfl c⟩
      unfold W_X8_loan_r44
      exact K_noShade_y hr.1 hn hs ⟨fun c => absurd rfl c, fun _ => K_noShade_n hr.1 hn ht0 ⟨fun _ => h2 _ _ hi, fun c => absurd (show (1 : Int32) ≠ 0 by decide) c⟩⟩
  · refine C_isShade_n hb.1 hn hs0 ⟨fun _ => hq _ _ _ rfl (fun Q2 h2 => ?_), fun c => absurd rfl c⟩
    unfold W_X8_loan_r44
    exact K_noShade_n hr.1 hn hs0 ⟨fun _ => h2 _ _ hi, fun c => absurd (show (1 : Int32) ≠ 0 by decide) c⟩
theorem eundo_co {D E : Nat → Nat → Nat} {n s : Nat} : zco D (eput E 0 1 n) s = zco D (eput E 0 1 (n + 1)) s - (if E 2 n = s then (E 3 n : Int) else 0) + (if E 1 n = s then (E 3 n : Int) else 0) := by
  show (dt D s : Int) - zsum (E 1) (E 3) n s + zsum (E 2) (E 3) n s = (dt D s : Int) - (zsum (E 1) (E 3) n s + (if E 1 n = s then E 3 n else 0) : Nat) + (zsum (E 2) (E 3) n s + (if E 2 n = s then E 3 n else 0) : Nat) - (if E 2 n = s then (E 3 n : Int) else 0) + (if E 1 n = s then (E 3 n : Int) else 0)
  split <;> split <;> omega
theorem OP_undo {Ln : Nat} {xs : Nat → Int32} {I A : Nat → Nat → Int32} {v : Int32} {Q : Int32 → (Nat → Nat → Int32) → (Nat → Nat → Int32) → Prop} (hv : INV xs I A) (hq : ∀ x I' A', A' 0 = A 0 → (∀ Q2 : Int32 → (Nat → Nat → Int32) → (Nat → Nat → Int32) → Prop, (∀ I2 A2, INV xs I2 A2 → Q2 x I2 A2) → W_X8_undo_r44 Ln I' A' v Q2) → Q x I' A') : W_X7_undo_r1 Ln I A v Q := by
  obtain ⟨D, E, hv⟩ := hv
  obtain ⟨hd, he, hb, hr, hc, ⟨h19, h42⟩, hl, hrd, hvn, ht, hsh, h0⟩ := hv.parts
  have hn := hd.1
  have hi : INV xs I A := ⟨D, E, hv⟩
  have hlc := he.2.1
  have h64 : (Int32.toInt64 (zi (elc E))).toInt = (elc E : Int) := by rw [Int32.toInt_toInt64, zi_toInt (by omega) (by omega)]
  unfold W_X7_undo_r1
  by_cases hk0 : 0 ≤ v.toInt ∧ v.toInt ≤ elc E
  · obtain ⟨k, hk, rfl⟩ := zasn (v := v) (n := elc E + 1) ⟨hk0.1, by omega⟩
    rw [zlt0, zi_toInt (by omega) (by omega), hl.1, zle_n (by omega) (by omega)]
    refine ⟨fun c => by omega, fun _ => ⟨fun _ I1 hI1 => ?_, fun c => by omega⟩⟩
    rw [zi_sub, show ((elc E : Nat) : Int) - (k : Nat) = ((elc E - k : Nat) : Int) from by omega] at hI1
    have he2 : BE D (eput E 0 1 (elc E - k)) := by
      obtain ⟨b1, b2, b3, b4, b5, b6, b7⟩ := he
      refine ⟨b1, by show elc E - k ≤ 6; omega, b3, b4, fun j hj => ?_, b6, b7⟩
      have hj2 : j < elc E - k := hj
      exact b5 j (by omega)
    refine C_goThroughNights (E := eput E 0 1 (elc E - k)) hd he2 (hb.fi (fun k => by rw [hI1, zp_ne (by decide)]) (fun _ _ _ => rfl)) (by rw [hI1, zp_ne (by decide)]; exact h19) ⟨by rw [hI1, zp_eq]; rfl, fun j hj => ?_⟩ (fun A3 f3 hcc hvy => ?_)
    · have hj2 : j < elc E - k := hj
      exact (hl.2.2 j (by omega)).1
    refine hq _ _ _ (f3 0 (by decide) (by decide)) (fun Q2 h2 => ?_)
    unfold W_X8_undo_r44
    have e20 : I1 44 20 = zi (elc E) := by rw [hI1, zp_ne (by decide)]; exact hl.2.1
    rw [e20]
    refine K_in_y (by rw [zi_toInt (by omega) (by omega)]; show (0 : Int) ≤ k; omega) (by rw [zi_toInt (by omega) (by omega), h64]; omega) ⟨fun _ => ?_, fun c => absurd (show (1 : Int32) ≠ 0 by decide) c⟩
    refine zLoop.inv (fun i σ => σ.1 = zi i ∧ (∀ o q, (o, q) ≠ (44, 20) → σ.2.1 o q = I1 o q) ∧ σ.2.1 44 20 = zi ((elc E - i : Nat) : Int) ∧ (∀ a, a ≠ 49 → σ.2.2 a = A3 a) ∧ ∀ s, s < dn D → σ.2.2 49 s = zi (zco D (eput E 0 1 (elc E - i)) s)) k ⟨rfl, fun _ _ _ => rfl, e20, fun _ _ => rfl, fun s hs => ?_⟩ ?_ ?_
    · dsimp only
      rw [f3 49 (by decide) (by decide)]; exact hc.2.2 s hs
    · rintro i ⟨v2, J, B⟩ hik ⟨g1, g2, g3, g4, g5⟩ K hk2
      simp only at g1 g2 g3 g4 g5
      subst g1
      obtain ⟨n, hn2⟩ : ∃ n, elc E - i = n + 1 := ⟨elc E - i - 1, by omega⟩
      rw [hn2] at g3 g5
      have hln := (hl.2.2 n (by omega)).2
      have hbl := he.2.2.2.2.1 n (by omega)
      have hzn := zin_n (L := 6) (s := n) (by omega) (by decide)
      simp only [L_X8_undo_r44_19]
      rw [zle_n (by omega) (by omega), g3, show zi ((n + 1 : Nat) : Int) - 1 = zi n from by rw [zq1, zi_sub]; congr 1; omega, zi_nat' (by omega), g4 55 (by decide), g4 54 (by decide), g4 56 (by decide), f3 55 (by decide) (by decide), f3 54 (by decide) (by decide), f3 56 (by decide) (by decide), hln.1, hln.2.1, hln.2.2]
      refine ⟨fun c => by omega, fun _ => ⟨hzn, hzn, hzn, fun I2 hI2 => ?_⟩⟩
      refine K_lend (co := fun s => zco D (eput E 0 1 (n + 1)) s) hn hbl.2 hbl.1 g5 (fun A4 f5 g49 => ?_)
      rw [zi_succ]
      refine hk2 _ ⟨rfl, fun o q hoq => ?_, ?_, fun a ha => (f5 a ha).trans (g4 a ha), fun s hs => ?_⟩
      · dsimp only
        rw [hI2]
        by_cases eo : o = 44
        · subst eo
          rw [zp_at, if_neg (by rintro rfl; exact hoq rfl)]; exact g2 44 q hoq
        · rw [zp_ne eo]; exact g2 o q hoq
      · dsimp only
        rw [hI2, zp_eq, show elc E - (i + 1) = n by omega]
      · dsimp only
        rw [g49 s hs, show elc E - (i + 1) = n by omega, eundo_co (n := n)]
    · rintro ⟨v2, J, B⟩ ⟨g1, g2, g3, g4, g5⟩ K
      simp only at g1 g2 g3 g4 g5
      subst g1
      simp only [L_X8_undo_r44_19]
      rw [zle_n (by omega) (by omega), g3]
      refine ⟨fun _ => ?_, fun c => absurd (Nat.le_refl _) c⟩
      rw [show I1 18 3 = zi ((elc E - k : Nat) : Int) from by rw [hI1, zp_eq]] at h2
      refine h2 _ _ ⟨D, eput E 0 1 (elc E - k), ?_⟩
      have fJ : ∀ o q, (o, q) ≠ (44, 20) → (o, q) ≠ (18, 3) → J o q = I o q := by
        intro o q h1 h3
        rw [g2 o q h1, hI1]
        by_cases eo : o = 18
        · subst eo
          rw [zp_at, if_neg (by rintro rfl; exact h3 rfl)]
        · rw [zp_ne eo]
      have fA : ∀ a, a ≠ 49 → a ≠ 42 → (a < 29 ∨ 34 < a) → B a = A a := fun a h1 h3 h4 => by rw [g4 a h1, f3 a h3 h4]
      refine hv.newE he2 ⟨rfl, rfl, rfl, rfl⟩ (fun o q hk3 => fJ o q (by intro c; cases c; cases hk3) (by intro c; cases c; cases hk3)) (fun a ha => fA a (by rintro rfl; cases ha) (zm0a ha).1 (zm0a ha).2) ⟨?_, hc.2.1, g5⟩ ?_ (fun s hs => ?_) ⟨?_, g3, fun j hj => ?_⟩ ?_ ⟨fJ _ _ (by decide) (by decide), fJ _ _ (by decide) (by decide), fJ _ _ (by decide) (by decide), fJ _ _ (by decide) (by decide)⟩ (hsh.fr (fun o j ho => fJ o j (by intro c; cases c; omega) (by intro c; cases c; omega)) (fun a ha => fA a (by omega) (by omega) (by omega)))
      · rw [fJ _ _ (by decide) (by decide)]; exact hc.1
      · rw [fJ _ _ (by decide) (by decide)]; exact h19
      · rw [g4 42 (by decide)]; exact hcc s hs
      · rw [g2 18 3 (by decide), hI1, zp_eq]; rfl
      · have hj2 : j < elc E - k := hj
        rw [fA 19 (by decide) (by decide) (by decide), fA 20 (by decide) (by decide) (by decide), fA 21 (by decide) (by decide) (by decide), fA 54 (by decide) (by decide) (by decide), fA 55 (by decide) (by decide) (by decide), fA 56 (by decide) (by decide) (by decide)]
        exact hl.2.2 j (by omega)
      · unfold VY at hvy ⊢
        rw [g4 29 (by decide), g4 30 (by decide), g4 31 (by decide), g4 32 (by decide)]; exact hvy
  · have hr2 : Q (-2) I A := by
      refine hq _ _ _ rfl (fun Q2 h2 => ?_)
      unfold W_X8_undo_r44
      rw [show I 44 20 = zi (elc E) from hl.2.1]
      exact K_in_n (by rw [h64, show (0 : Int64).toInt = 0 from rfl]; exact hk0) ⟨fun c => absurd rfl c, fun _ => h2 _ _ hi⟩
    rw [zlt0, hl.1, Int32.le_iff_toInt_le, zi_toInt (show (-2147483648 : Int) ≤ elc E by omega) (by omega)]
    exact ⟨fun _ => hr2, fun c => ⟨fun c2 => by omega, fun _ => hr2⟩⟩
theorem Iv.newR {xs : Nat → Int32} {D E E' : Nat → Nat → Nat} {I A I' A' : Nat → Nat → Int32} (h : Iv xs D E I A) (he : BE D E') (hE : elw E' = elw E ∧ elc E' = elc E ∧ E' 1 = E 1 ∧ E' 2 = E 2 ∧ E' 3 = E 3) (hI : ∀ o k, (o, k) ≠ (22, 3) → (o, k) ≠ (44, 31) → I' o k = I o k) (hA : ∀ a, a ≠ 23 → a ≠ 24 → a ≠ 25 → a ≠ 62 → a ≠ 63 → a ≠ 64 → A' a = A a) (hrd : RD D E' I' A') : Iv xs D E' I' A' := by
  have hz : zco D E' = zco D E := by unfold zco; rw [hE.2.1, hE.2.2.1, hE.2.2.2.1, hE.2.2.2.2]
  obtain ⟨a1, a2, a3, a4, a5, a6, a7, a8, a9, a10, a11, a12⟩ := h.parts
  have hs := a11.fr (I' := I') (A' := A') (fun o j ho => hI o j (by intro c; cases c; omega) (by intro c; cases c; omega)) (fun a ha => hA a (by omega) (by omega) (by omega) (by omega) (by omega) (by omega))
  have hi : ∀ {o k : Nat}, (o, k) ≠ (22, 3) → (o, k) ≠ (44, 31) → I' o k = I o k := fun h1 h2 => hI _ _ h1 h2
  unfold Iv CB RB RC CC LN VN VY at *
  rw [hz, hE.1, hE.2.1, hE.2.2.1, hE.2.2.2.1, hE.2.2.2.2]
  rw [hi (o := 11) (k := 0) (by decide) (by decide), hi (o := 11) (k := 1) (by decide) (by decide), hi (o := 11) (k := 2) (by decide) (by decide), hi (o := 11) (k := 3) (by decide) (by decide), hi (o := 44) (k := 1) (by decide) (by decide), hi (o := 44) (k := 2) (by decide) (by decide), hi (o := 44) (k := 3) (by decide) (by decide), hi (o := 44) (k := 4) (by decide) (by decide), hi (o := 44) (k := 10) (by decide) (by decide), hi (o := 1) (k := 9) (by decide) (by decide), hi (o := 1) (k := 10) (by decide) (by decide), hi (o := 1) (k := 11) (by decide) (by decide), hi (o := 44) (k := 39) (by decide) (by decide), hi (o := 44) (k := 0) (by decide) (by decide), hi (o := 18) (k := 3) (by decide) (by decide), hi (o := 44) (k := 20) (by decide) (by decide)]
  simp only [hA 0 (by decide) (by decide) (by decide) (by decide) (by decide) (by decide), hA 12 (by decide) (by decide) (by decide) (by decide) (by decide) (by decide), hA 13 (by decide) (by decide) (by decide) (by decide) (by decide) (by decide), hA 14 (by decide) (by decide) (by decide) (by decide) (by decide) (by decide), hA 15 (by decide) (by decide) (by decide) (by decide) (by decide) (by decide), hA 16 (by decide) (by decide) (by decide) (by decide) (by decide) (by decide), hA 17 (by decide) (by decide) (by decide) (by decide) (by decide) (by decide), hA 19 (by decide) (by decide) (by decide) (by decide) (by decide) (by decide), hA 20 (by decide) (by decide) (by decide) (by decide) (by decide) (by decide), hA 21 (by decide) (by decide) (by decide) (by decide) (by decide) (by decide), hA 29 (by decide) (by decide) (by decide) (by decide) (by decide) (by decide), hA 30 (by decide) (by decide) (by decide) (by decide) (by decide) (by decide), hA 31 (by decide) (by decide) (by decide) (by decide) (by decide) (by decide), hA 32 (by decide) (by decide) (by decide) (by decide) (by decide) (by decide), hA 42 (by decide) (by decide) (by decide) (by decide) (by decide) (by decide), hA 45 (by decide) (by decide) (by decide) (by decide) (by decide) (by decide), hA 46 (by decide) (by decide) (by decide) (by decide) (by decide) (by decide), hA 47 (by decide) (by decide) (by decide) (by decide) (by decide) (by decide), hA 48 (by decide) (by decide) (by decide) (by decide) (by decide) (by decide), hA 49 (by decide) (by decide) (by decide) (by decide) (by decide) (by decide), hA 54 (by decide) (by decide) (by decide) (by decide) (by decide) (by decide), hA 55 (by decide) (by decide) (by decide) (by decide) (by decide) (by decide), hA 56 (by decide) (by decide) (by decide) (by decide) (by decide) (by decide)]
  exact ⟨a1, he, a3, a4, a5, a6, a7, hrd, a9, a10, hs, a12⟩
theorem OP_back {Ln : Nat} {xs : Nat → Int32} {I A : Nat → Nat → Int32} {v : Int32} {Q : Int32 → (Nat → Nat → Int32) → Prop} (hv : INV xs I A) (hq : ∀ x I', (∀ Q2 : Int32 → (Nat → Nat → Int32) → Prop, (∀ I2, INV xs I2 A → Q2 x I2) → W_X8_back_r44 Ln I' A v Q2) → Q x I') : W_X7_back_r1 Ln I A v Q := by
  obtain ⟨D, E, hv⟩ := hv
  obtain ⟨hd, he, hb, hr, hc, ⟨h19, h42⟩, hl, hrd, hvn, ht, hsh, h0⟩ := hv.parts
  have hi : INV xs I A := ⟨D, E, hv⟩
  have hlc := he.2.2.1
  have h64 : (Int32.toInt64 (zi (erc E))).toInt = (erc E : Int) := by rw [Int32.toInt_toInt64, zi_toInt (by omega) (by omega)]
  unfold W_X7_back_r1
  by_cases hk0 : 0 ≤ v.toInt ∧ v.toInt ≤ erc E
  · obtain ⟨k, hk, rfl⟩ := zasn (v := v) (n := erc E + 1) ⟨hk0.1, by omega⟩
    rw [zlt0, zi_toInt (by omega) (by omega), hrd.1, zle_n (by omega) (by omega), zi_sub, show ((erc E : Nat) : Int) - (k : Nat) = ((erc E - k : Nat) : Int) from by omega]
    refine ⟨fun c => by omega, fun _ => ⟨fun _ => hq _ _ (fun Q2 h2 => ?_), fun c => by omega⟩⟩
    unfold W_X8_back_r44
    rw [show zp I 22 3 (zi ((erc E - k : Nat) : Int)) 44 31 = zi (erc E) from hrd.2.1]
    refine K_in_y (by rw [zi_toInt (by omega) (by omega)]; show (0 : Int) ≤ k; omega) (by rw [zi_toInt (by omega) (by omega), h64]; omega) ⟨fun _ => ?_, fun c => absurd (show (1 : Int32) ≠ 0 by decide) c⟩
    rw [zi_sub, show ((erc E : Nat) : Int) - (k : Nat) = ((erc E - k : Nat) : Int) from by omega]
    have he2 : BE D (eput E 0 2 (erc E - k)) := by
      obtain ⟨b1, b2, b3, b4, b5, b6, b7⟩ := he
      refine ⟨b1, b2, by show erc E - k ≤ 6; omega, b4, b5, fun j hj => ?_, b7⟩
      have hj2 : j < erc E - k := hj
      exact b6 j (by omega)
    refine h2 _ ⟨D, eput E 0 2 (erc E - k), hv.newR he2 ⟨rfl, rfl, rfl, rfl, rfl⟩ (fun o q h1 h3 => ?_) (fun _ _ _ _ _ _ _ => rfl) ⟨by rw [zp_ne (by decide), zp_eq]; rfl, by rw [zp_eq]; rfl, fun j hj => ?_⟩⟩
    · by_cases eo : o = 44
      · subst eo
        rw [zp_at, if_neg (by rintro rfl; exact h3 rfl), zp_ne (by decide)]
      · rw [zp_ne eo]
        by_cases e2 : o = 22
        · subst e2
          rw [zp_at, if_neg (by rintro rfl; exact h1 rfl)]
        · rw [zp_ne e2]
    · have hj2 : j < erc E - k := hj
      exact hrd.2.2 j (by omega)
  · have hr2 : Q (-2) I := by
      refine hq _ _ (fun Q2 h2 => ?_)
      unfold W_X8_back_r44
      rw [show I 44 31 = zi (erc E) from hrd.2.1]
      exact K_in_n (by rw [h64, show (0 : Int64).toInt = 0 from rfl]; exact hk0) ⟨fun c => absurd rfl c, fun _ => h2 _ hi⟩
    rw [zlt0, hrd.1, Int32.le_iff_toInt_le, zi_toInt (show (-2147483648 : Int) ≤ erc E by omega) (by omega)]
    exact ⟨fun _ => hr2, fun c => ⟨fun c2 => by omega, fun _ => hr2⟩⟩
def eread (E : Nat → Nat → Nat) (a b c : Nat) : Nat → Nat → Nat := eput (eput (eput (eput E 6 (erc E) c) 5 (erc E) b) 4 (erc E) a) 0 2 (erc E + 1)
theorem OP_reading {Ln : Nat} {xs : Nat → Int32} {I A : Nat → Nat → Int32} {v w : Int32} {u : Nat} {Q : Int32 → (Nat → Nat → Int32) → (Nat → Nat → Int32) → Prop} (hu : u ≤ 1) (hv : INV xs I A) (hq : ∀ x I' A', A' 0 = A 0 → (∀ Q2 : Int32 → (Nat → Nat → Int32) → (Nat → Nat → Int32) → Prop, (∀ I2 A2, INV xs I2 A2 → Q2 x I2 A2) → W_X8_reading_r44 Ln I' A' v w (zi u) Q2) → Q x I' A') : W_X7_reading_r1 Ln I A v w (zi u) Q := by
  obtain ⟨D, E, hv⟩ := hv
  obtain ⟨hd, he, hb, hr, hc, ⟨h19, h42⟩, hl, hrd, hvn, ht, hsh, h0⟩ := hv.parts
  have hn := hd.1
  have hi : INV xs I A := ⟨D, E, hv⟩
  have hlc := he.2.2.1
  have hnar : vp_nar .boolean (zi u) = zi u := by
    have : u = 0 ∨ u = 1 := by omega
    rcases this with rfl | rfl <;> decide
  unfold W_X7_reading_r1
  by_cases hs0 : 0 ≤ v.toInt ∧ v.toInt < dn D
  · obtain ⟨s, hs, rfl⟩ := zasn hs0
    refine C_isShade_y hb.1 hn hs ⟨fun c => absurd c (by decide), fun _ => ?_⟩
    by_cases ht0 : 0 ≤ w.toInt ∧ w.toInt < (60 : Nat)
    · obtain ⟨d, hd6, rfl⟩ := zasn ht0
      refine C_isNight_y hd6 ⟨fun _ => ?_, fun c => absurd (show (1 : Int32) ≠ 0 by decide) c⟩
      rw [hrd.1, ne_eq, show (6 : Int32) = zi (6 : Nat) from rfl, zeq_n (by omega) (by omega)]
      refine ⟨fun hne => ?_, fun hne => hq _ _ _ rfl (fun Q2 h2 => ?_)⟩
      · have hz6 := zin_n (L := 6) (s := erc E) (by omega) (by decide)
        unfold W_X3_add_r22
        rw [hrd.1, zi_nat' (by omega), zi_succ, hnar]
        refine ⟨hz6, hz6, hz6, hq _ _ _ (by rw [zw_ne (by decide), zw_ne (by decide), zw_ne (by decide)]) (fun Q2 h2 => ?_)⟩
        unfold W_X8_reading_r44
        refine K_noShade_y (by rw [zp_ne (by decide)]; exact hr.1) hn hs ⟨fun c => absurd rfl c, fun _ => K_noNight_y hd6 ⟨fun _ => ?_, fun c => absurd rfl c⟩⟩
        rw [show zp I 22 3 (zi ((erc E + 1 : Nat) : Int)) 44 31 = zi (erc E) from hrd.2.1, ne_eq, show (6 : Int32) = zi (6 : Nat) from rfl, zeq_n (by omega) (by omega), zi_nat' (by omega), zi_succ, hnar]
        refine ⟨fun _ => ⟨hz6, hz6, hz6, h2 _ _ ⟨D, eread E s d u, ?_⟩⟩, fun c => absurd hne c⟩
        have he2 : BE D (eread E s d u) := by
          obtain ⟨b1, b2, b3, b4, b5, b6, b7⟩ := he
          refine ⟨b1, b2, by show erc E + 1 ≤ 6; omega, b4, b5, fun j hj => ?_, fun j => ?_⟩
          · have hj2 : j < erc E + 1 := hj
            show (if j = erc E then s else E 4 j) < dn D ∧ (if j = erc E then d else E 5 j) < 60
            by_cases e : j = erc E
            · rw [if_pos e, if_pos e]; exact ⟨hs, hd6⟩
            · rw [if_neg e, if_neg e]; exact b6 j (by omega)
          · show (if j = erc E then u else E 6 j) ≤ 1
            have := b7 j
            split <;> omega
        refine hv.newR he2 ⟨rfl, rfl, rfl, rfl, rfl⟩ (fun o q h1 h3 => ?_) (fun a h1 h3 h4 h5 h6 h7 => by rw [zw_ne h7, zw_ne h6, zw_ne h5, zw_ne h4, zw_ne h3, zw_ne h1]) ⟨by rw [zp_ne (by decide), zp_eq]; rfl, by rw [zp_eq]; rfl, fun j hj => ?_⟩
        · by_cases eo : o = 44
          · subst eo
            rw [zp_at, if_neg (by rintro rfl; exact h3 rfl), zp_ne (by decide)]
          · rw [zp_ne eo]
            by_cases e2 : o = 22
            · subst e2
              rw [zp_at, if_neg (by rintro rfl; exact h1 rfl)]
            · rw [zp_ne e2]
        · have hj2 : j < erc E + 1 := hj
          simp only [zw_at, zw_ne (show (62 : Nat) ≠ 64 by decide), zw_ne (show (62 : Nat) ≠ 63 by decide), zw_ne (show (63 : Nat) ≠ 64 by decide), zw_ne (show (63 : Nat) ≠ 62 by decide), zw_ne (show (64 : Nat) ≠ 63 by decide), zw_ne (show (64 : Nat) ≠ 62 by decide), zw_ne (show (23 : Nat) ≠ 64 by decide), zw_ne (show (23 : Nat) ≠ 63 by decide), zw_ne (show (23 : Nat) ≠ 62 by decide), zw_ne (show (24 : Nat) ≠ 64 by decide), zw_ne (show (24 : Nat) ≠ 63 by decide), zw_ne (show (24 : Nat) ≠ 62 by decide), zw_ne (show (25 : Nat) ≠ 64 by decide), zw_ne (show (25 : Nat) ≠ 63 by decide), zw_ne (show (25 : Nat) ≠ 62 by decide), zw_ne (show (23 : Nat) ≠ 25 by decide), zw_ne (show (23 : Nat) ≠ 24 by decide), zw_ne (show (24 : Nat) ≠ 25 by decide), zw_ne (show (24 : Nat) ≠ 23 by decide), zw_ne (show (25 : Nat) ≠ 24 by decide), zw_ne (show (25 : Nat) ≠ 23 by decide), zw_ne (show (62 : Nat) ≠ 25 by decide), zw_ne (show (62 : Nat) ≠ 24 by decide), zw_ne (show (62 : Nat) ≠ 23 by decide), zw_ne (show (63 : Nat) ≠ 25 by decide), zw_ne (show (63 : Nat) ≠ 24 by decide), zw_ne (show (63 : Nat) ≠ 23 by decide), zw_ne (show (64 : Nat) ≠ 25 by decide), zw_ne (show (64 : Nat) ≠ 24 by decide), zw_ne (show (64 : Nat) ≠ 23 by decide)]
          have x4 : eread E s d u 4 j = if j = erc E then s else E 4 j := rfl
          have x5 : eread E s d u 5 j = if j = erc E then d else E 5 j := rfl
          have x6 : eread E s d u 6 j = if j = erc E then u else E 6 j := rfl
          rw [x4, x5, x6]
          by_cases e : j = erc E
          · simp only [if_pos e]; refine ⟨⟨?_, ?_, ?_⟩, ?_, ?_, ?_⟩ <;> trivial
          · simp only [if_neg e]; exact hrd.2.2 j (by omega)
      · unfold W_X8_reading_r44
        rw [hrd.2.1, ne_eq, show (6 : Int32) = zi (6 : Nat) from rfl, zeq_n (by omega) (by omega)]
        exact K_noShade_y hr.1 hn hs ⟨fun c => absurd rfl c, fun _ => K_noNight_y hd6 ⟨fun _ => ⟨fun c => absurd c hne, fun _ => h2 _ _ hi⟩, fun c => absurd rfl c⟩⟩
    · refine C_isNight_n ht0 ⟨fun c => absurd rfl c, fun _ => hq _ _ _ rfl (fun Q2 h2 => ?_)⟩
      unfold W_X8_reading_r44
      exact K_noShade_y hr.1 hn hs ⟨fun c => absurd rfl c, fun _ => K_noNight_n ht0 ⟨fun c => absurd c (by decide), fun _ => h2 _ _ hi⟩⟩
  · refine C_isShade_n hb.1 hn hs0 ⟨fun _ => hq _ _ _ rfl (fun Q2 h2 => ?_), fun c => absurd rfl c⟩
    unfold W_X8_reading_r44
    exact K_noShade_n hr.1 hn hs0 ⟨fun _ => h2 _ _ hi, fun c => absurd (show (1 : Int32) ≠ 0 by decide) c⟩

/-! the law up to its loop, by program (wip/whole/gen_init.py) -/
theorem ziC_eq : ziC68 = zC0 := by
  funext i
  by_cases h : i < 69
  · exact (show ∀ i, i < 69 → ziC68 i = zC0 i from by decide +kernel) i h
  · have e : ∀ k, k < 69 → i ≠ k := fun k hk => by omega
    have e2 : zC0 i = 200 := by unfold zC0; rw [List.getD_eq_getElem?_getD, List.getElem?_eq_none (by simpa using Nat.le_of_not_lt h)]; rfl
    rw [e2]
    simp only [ziC0, ziC1, ziC2, ziC3, ziC4, ziC5, ziC6, ziC7, ziC8, ziC9, ziC10, ziC11, ziC12, ziC13, ziC14, ziC15, ziC16, ziC17, ziC18, ziC19, ziC20, ziC21, ziC22, ziC23, ziC24, ziC25, ziC26, ziC27, ziC28, ziC29, ziC30, ziC31, ziC32, ziC33, ziC34, ziC35, ziC36, ziC37, ziC38, ziC39, ziC40, ziC41, ziC42, ziC43, ziC44, ziC45, ziC46, ziC47, ziC48, ziC49, ziC50, ziC51, ziC52, ziC53, ziC54, ziC55, ziC56, ziC57, ziC58, ziC59, ziC60, ziC61, ziC62, ziC63, ziC64, ziC65, ziC66, ziC67, ziC68, va_up]
    repeat rw [if_neg (e _ (by decide))]
theorem ziL_eq (Ln : Nat) : ziL56 Ln = zL0 Ln := by
  funext i
  by_cases h : i < 69
  · have hc : i = 0 ∨ i = 1 ∨ i = 2 ∨ i = 3 ∨ i = 4 ∨ i = 5 ∨ i = 6 ∨ i = 7 ∨ i = 8 ∨ i = 9 ∨ i = 10 ∨ i = 11 ∨ i = 12 ∨ i = 13 ∨ i = 14 ∨ i = 15 ∨ i = 16 ∨ i = 17 ∨ i = 18 ∨ i = 19 ∨ i = 20 ∨ i = 21 ∨ i = 22 ∨ i = 23 ∨ i = 24 ∨ i = 25 ∨ i = 26 ∨ i = 27 ∨ i = 28 ∨ i = 29 ∨ i = 30 ∨ i = 31 ∨ i = 32 ∨ i = 33 ∨ i = 34 ∨ i = 35 ∨ i = 36 ∨ i = 37 ∨ i = 38 ∨ i = 39 ∨ i = 40 ∨ i = 41 ∨ i = 42 ∨ i = 43 ∨ i = 44 ∨ i = 45 ∨ i = 46 ∨ i = 47 ∨ i = 48 ∨ i = 49 ∨ i = 50 ∨ i = 51 ∨ i = 52 ∨ i = 53 ∨ i = 54 ∨ i = 55 ∨ i = 56 ∨ i = 57 ∨ i = 58 ∨ i = 59 ∨ i = 60 ∨ i = 61 ∨ i = 62 ∨ i = 63 ∨ i = 64 ∨ i = 65 ∨ i = 66 ∨ i = 67 ∨ i = 68 := by omega
    rcases hc with rfl | rfl | rfl | rfl | rfl | rfl | rfl | rfl | rfl | rfl | rfl | rfl | rfl | rfl | rfl | rfl | rfl | rfl | rfl | rfl | rfl | rfl | rfl | rfl | rfl | rfl | rfl | rfl | rfl | rfl | rfl | rfl | rfl | rfl | rfl | rfl | rfl | rfl | rfl | rfl | rfl | rfl | rfl | rfl | rfl | rfl | rfl | rfl | rfl | rfl | rfl | rfl | rfl | rfl | rfl | rfl | rfl | rfl | rfl | rfl | rfl | rfl | rfl | rfl | rfl | rfl | rfl | rfl | rfl <;> rfl
  · have e : ∀ k, k < 69 → i ≠ k := fun k hk => by omega
    unfold zL0
    rw [if_neg (e 0 (by decide)), List.getD_eq_getElem?_getD, List.getElem?_eq_none (by simpa using Nat.le_of_not_lt h), Option.getD_none]
    simp only [ziL0, ziL1, ziL2, ziL3, ziL4, ziL5, ziL6, ziL7, ziL8, ziL9, ziL10, ziL11, ziL12, ziL13, ziL14, ziL15, ziL16, ziL17, ziL18, ziL19, ziL20, ziL21, ziL22, ziL23, ziL24, ziL25, ziL26, ziL27, ziL28, ziL29, ziL30, ziL31, ziL32, ziL33, ziL34, ziL35, ziL36, ziL37, ziL38, ziL39, ziL40, ziL41, ziL42, ziL43, ziL44, ziL45, ziL46, ziL47, ziL48, ziL49, ziL50, ziL51, ziL52, ziL53, ziL54, ziL55, ziL56, va_up]
    repeat rw [if_neg (e _ (by decide))]
theorem zif_0 : ∀ o k, 40 ≤ k → ziF0 o k = 0 := fun _ _ _ => rfl
theorem zif_new {F : Nat → Nat → Nat} {a : Nat} (h : ∀ o k, 40 ≤ k → F o k = 0) : ∀ o k, 40 ≤ k → va_up F a (fun _ => 0) o k = 0 := by
  intro o k hk
  simp only [va_up]
  split
  · rfl
  · exact h o k hk
theorem zif_up {F : Nat → Nat → Nat} {a j v : Nat} (h : ∀ o k, 40 ≤ k → F o k = 0) (hj : j < 40) : ∀ o k, 40 ≤ k → va_up F a (va_up (F a) j v) o k = 0 := by
  intro o k hk
  simp only [va_up]
  split
  · show (if k = j then v else F a k) = 0
    rw [if_neg (by omega)]; exact h a k hk
  · exact h o k hk
set_option maxRecDepth 100000 in
theorem ziF_hi : ∀ o k, 40 ≤ k → ziF82 o k = 0 := (zif_up (zif_up (zif_up (zif_up (zif_up (zif_up (zif_up (zif_up (zif_up (zif_up (zif_up (zif_up (zif_up (zif_up (zif_up (zif_up (zif_up (zif_up (zif_up (zif_up (zif_up (zif_up (zif_up (zif_up (zif_new (zif_up (zif_up (zif_up (zif_up (zif_up (zif_up (zif_up (zif_up (zif_up (zif_up (zif_new (zif_up (zif_up (zif_up (zif_up (zif_up (zif_up (zif_up (zif_up (zif_new (zif_up (zif_up (zif_up (zif_new (zif_up (zif_up (zif_up (zif_up (zif_new (zif_up (zif_up (zif_up (zif_up (zif_new (zif_up (zif_up (zif_up (zif_up (zif_up (zif_up (zif_up (zif_up (zif_new (zif_up (zif_up (zif_new (zif_up (zif_up (zif_new (zif_up (zif_up (zif_new (zif_up (zif_up (zif_new (zif_new (zif_new zif_0))) (by decide)) (by decide))) (by decide)) (by decide))) (by decide)) (by decide))) (by decide)) (by decide))) (by decide)) (by decide)) (by decide)) (by decide)) (by decide)) (by decide)) (by decide)) (by decide))) (by decide)) (by decide)) (by decide)) (by decide))) (by decide)) (by decide)) (by decide)) (by decide))) (by decide)) (by decide)) (by decide))) (by decide)) (by decide)) (by decide)) (by decide)) (by decide)) (by decide)) (by decide)) (by decide))) (by decide)) (by decide)) (by decide)) (by decide)) (by decide)) (by decide)) (by decide)) (by decide)) (by decide)) (by decide))) (by decide)) (by decide)) (by decide)) (by decide)) (by decide)) (by decide)) (by decide)) (by decide)) (by decide)) (by decide)) (by decide)) (by decide)) (by decide)) (by decide)) (by decide)) (by decide)) (by decide)) (by decide)) (by decide)) (by decide)) (by decide)) (by decide)) (by decide)) (by decide))
theorem ziF_eq : ziF82 = zF0 := by
  funext o k
  by_cases h : o < 69
  · by_cases hk : k < 40
    · exact (show ∀ o, o < 69 → ∀ k, k < 40 → ziF82 o k = zF0 o k from by decide +kernel) o h k hk
    · rw [ziF_hi o k (Nat.le_of_not_lt hk)]
      unfold zF0
      rw [List.getD_eq_getElem?_getD (l := List.getD _ _ _), List.getElem?_eq_none, Option.getD_none]
      refine Nat.le_trans ?_ (Nat.le_of_not_lt hk)
      revert o
      decide +kernel
  · have e : ∀ j, j < 69 → o ≠ j := fun j hj => by omega
    have e2 : zF0 o k = 0 := by unfold zF0; rw [List.getD_eq_getElem?_getD, List.getD_eq_getElem?_getD, List.getElem?_eq_none (i := o) (by simpa using Nat.le_of_not_lt h)]; rfl
    rw [e2]
    simp only [ziF0, ziF1, ziF2, ziF3, ziF4, ziF5, ziF6, ziF7, ziF8, ziF9, ziF10, ziF11, ziF12, ziF13, ziF14, ziF15, ziF16, ziF17, ziF18, ziF19, ziF20, ziF21, ziF22, ziF23, ziF24, ziF25, ziF26, ziF27, ziF28, ziF29, ziF30, ziF31, ziF32, ziF33, ziF34, ziF35, ziF36, ziF37, ziF38, ziF39, ziF40, ziF41, ziF42, ziF43, ziF44, ziF45, ziF46, ziF47, ziF48, ziF49, ziF50, ziF51, ziF52, ziF53, ziF54, ziF55, ziF56, ziF57, ziF58, ziF59, ziF60, ziF61, ziF62, ziF63, ziF64, ziF65, ziF66, ziF67, ziF68, ziF69, ziF70, ziF71, ziF72, ziF73, ziF74, ziF75, ziF76, ziF77, ziF78, ziF79, ziF80, ziF81, ziF82, va_up]
    repeat rw [if_neg (e _ (by decide))]
    rfl

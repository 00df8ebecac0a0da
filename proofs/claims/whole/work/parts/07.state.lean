/-! THE MACHINE'S STATE AND THE ABSTRACT ONE -/
theorem zlt {a b : Nat} (h : a < b) : a < b := h
def zad (b bs i : Nat) : Nat := if i = 0 then b else bs + i
def zv (b bs : Nat) (v : Value) : Value := match v with
  | .ref i => .ref (zad b bs i)
  | v => v
theorem zv_cat (b bs : Nat) (v : Value) : (zv b bs v).category = v.category := by cases v <;> rfl
theorem zv_cats (b bs : Nat) (r : List Value) : ((r.map (zv b bs)).map fun v => v.category).sum = zcs r := by
  unfold zcs
  rw [List.map_map]
  congr 1
  exact List.map_congr_left fun v _ => zv_cat b bs v
def zor (bs r : Nat) : Option Nat := if r = 0 then none else some (bs + r)
def zfs (bs : Nat) (g : zSg) (ci i : Nat) : List Value := (List.range (zfk.getD ci []).length).map (fun k => if zkd ci k = 1 then va_rf (zor bs (zF g i k)) else .int (zI g i k))
def zce (cy : Nat → ClassId) (bs : Nat) (g : zSg) (i : Nat) : va_E :=
  if zC g i = 100 then .inl (cy 0, zLn g i, .inl (zA g i))
  else if zC g i = 101 then .inl (cy 1, zLn g i, .inl (zA g i))
  else if zC g i = 102 then .inl (cy 2, zLn g i, .inr (.inr (.inr (.inr (fun j => zor bs (zF g i j))))))
  else .inr (zC g i, zfs bs g (zC g i) i)
def zws (cy : Nat → ClassId) (bs : Nat) (g : zSg) : va_W := (List.range (zN g - 1)).map (fun j => (bs + (j + 1), zce cy bs g (j + 1)))
def zRp (D : va_G) (cy : Nat → ClassId) (bs Ln : Nat) (xs : Nat → Int32) (g : zSg) (H : Heap) : Prop :=
  1 ≤ zN g ∧ va_P D vwCl (zws cy bs g) H ∧ (zC g 0 = 103 ∧ zLn g 0 = Ln ∧ zA g 0 = xs) ∧ (∀ i, zN g ≤ i → 199 < zC g i) ∧ ∀ i, 0 < i → zC g i ≠ 103
def zAs (bs : Nat) : Nat → Prop := fun q => bs < q
theorem zws_at {cy : Nat → ClassId} {bs : Nat} {g : zSg} {i : Nat} (h0 : 0 < i) (h : i < zN g) : (zws cy bs g)[i - 1]? = some (bs + i, zce cy bs g i) := by
  unfold zws
  rw [List.getElem?_map, List.getElem?_range (by omega)]
  simp only [Option.map_some]
  rw [show i - 1 + 1 = i by omega]
theorem zws_D (cy : Nat → ClassId) (bs : Nat) (g : zSg) : va_D (zAs bs) (zws cy bs g) := by
  have key : ∀ (k : Nat) (q : Nat × va_E), (zws cy bs g)[k]? = some q → q.1 = bs + (k + 1) := by
    intro k q h
    unfold zws at h
    rw [List.getElem?_map] at h
    cases hr : (List.range (zN g - 1))[k]? with
    | none => rw [hr] at h; cases h
    | some j =>
      rw [hr] at h
      have : j = k := by
        have := List.getElem?_eq_some_iff.mp hr
        obtain ⟨h1, h2⟩ := this
        simpa using h2.symm
      subst this
      cases h
      rfl
  refine ⟨fun i j p q hi hj hpq => ?_, fun k q hk => ?_⟩
  · have := key i p hi
    have := key j q hj
    omega
  · have := key k q hk
    show bs < q.1
    omega
theorem zws_set {cy : Nat → ClassId} {bs : Nat} {g g' : zSg} {i : Nat} {e : va_E} (h0 : 0 < i) (hn : zN g' = zN g) (he : zce cy bs g' i = e) (ho : ∀ j, j ≠ i → zce cy bs g' j = zce cy bs g j) : (zws cy bs g).set (i - 1) (bs + i, e) = zws cy bs g' := by
  unfold zws
  apply List.ext_getElem?
  intro k
  rw [List.getElem?_set, List.length_map, List.length_range]
  by_cases hk : i - 1 = k
  · rw [if_pos hk]
    subst hk
    by_cases hl : i - 1 < zN g - 1
    · rw [if_pos hl, List.getElem?_map, List.getElem?_range (by omega)]
      simp only [Option.map_some]
      rw [show i - 1 + 1 = i by omega, he]
    · rw [if_neg hl, List.getElem?_map, List.getElem?_eq_none (by simp; omega)]
      rfl
  · rw [if_neg hk, List.getElem?_map, List.getElem?_map, hn]
    cases hr : (List.range (zN g - 1))[k]? with
    | none => rfl
    | some j =>
      have : j = k := by
        obtain ⟨h1, h2⟩ := List.getElem?_eq_some_iff.mp hr
        simpa using h2.symm
      subst this
      simp only [Option.map_some]
      rw [ho (j + 1) (by omega)]
theorem zws_push {cy : Nat → ClassId} {bs : Nat} {g g' : zSg} {e : va_E} (h1 : 1 ≤ zN g) (hn : zN g' = zN g + 1) (he : zce cy bs g' (zN g) = e) (ho : ∀ j, j ≠ zN g → zce cy bs g' j = zce cy bs g j) : zws cy bs g ++ [(bs + zN g, e)] = zws cy bs g' := by
  unfold zws
  rw [hn, show zN g + 1 - 1 = (zN g - 1) + 1 by omega, List.range_succ, List.map_append]
  congr 1
  · apply List.map_congr_left
    intro j hj
    have := List.mem_range.mp hj
    rw [ho (j + 1) (by omega)]
  · simp only [List.map_cons, List.map_nil]
    rw [show zN g - 1 + 1 = zN g by omega, he]
/-- the locals -/
def zLH (b bs : Nat) (ls : Array Slot) (n : Nat) (L : zLc) : Prop := ls.size = n ∧ lv_wf ls ∧ L.length = n ∧ ∀ (i : Nat) (v : Value), zget L i = some v → ls[i]? = some (.val (zv b bs v))
theorem zget_set : ∀ (L : zLc) (i j : Nat) (v : Option Value), zget (zset L i v) j = if j = i ∧ i < L.length then v else zget L j
  | [], i, j, v => by simp [zset, zget]
  | w :: t, 0, 0, v => by simp [zset, zget]
  | w :: t, 0, j + 1, v => by simp [zset, zget]
  | w :: t, i + 1, 0, v => by simp [zset, zget]
  | w :: t, i + 1, j + 1, v => by
    simp only [zset, zget, List.length_cons]
    rw [zget_set t i j v]
    simp
theorem zset_len : ∀ (L : zLc) (i : Nat) (v : Option Value), (zset L i v).length = L.length
  | [], i, v => by simp [zset]
  | w :: t, 0, v => by simp [zset]
  | w :: t, i + 1, v => by simp [zset, zset_len t i v]
theorem zclr_len (L : zLc) (i : Nat) : (zclr L i).length = L.length := by
  cases i with
  | zero => rfl
  | succ j =>
    simp only [zclr]
    split
    · split
      · exact zset_len _ _ _
      · rfl
    · rfl
theorem zget_lt : ∀ {L : zLc} {i : Nat} {v : Value}, zget L i = some v → i < L.length
  | [], i, v, h => by simp [zget] at h
  | w :: t, 0, v, h => by simp
  | w :: t, i + 1, v, h => by
    simp only [zget] at h
    have := zget_lt h
    simp; omega
def zas (L : zLc) : List (Nat × Value) := (List.range L.length).filterMap (fun i => (zget L i).map (fun v => (i, v)))
theorem zas_mem {L : zLc} {q : Nat × Value} : q ∈ zas L ↔ zget L q.1 = some q.2 := by
  unfold zas
  rw [List.mem_filterMap]
  constructor
  · rintro ⟨i, -, h⟩
    cases hg : zget L i with
    | none => rw [hg] at h; cases h
    | some v => rw [hg] at h; cases h; exact hg
  · intro h
    exact ⟨q.1, List.mem_range.mpr (zget_lt h), by rw [h]; rfl⟩
theorem zLH.has {b bs : Nat} {ls : Array Slot} {n : Nat} {L : zLc} (h : zLH b bs ls n L) : lv_has ls n ((zas L).map (fun q => (q.1, zv b bs q.2))) := by
  refine ⟨h.1, h.2.1, fun q hq => ?_⟩
  obtain ⟨q0, h0, rfl⟩ := List.mem_map.mp hq
  exact h.2.2.2 q0.1 q0.2 (zas_mem.mp h0)
theorem zLH.store {b bs : Nat} {ls ls' : Array Slot} {n i : Nat} {L : zLc} {v : Value} (h : zLH b bs ls n L) (hi : i < n) (hs : lv_has ls' n ((i, zv b bs v) :: ((zas L).map (fun q => (q.1, zv b bs q.2))).filter (fun q => !(q.1 == i) && !(q.1 + 1 == i && q.2.category == 2)))) : zLH b bs ls' n (zst L i v) := by
  refine ⟨hs.1, hs.2.1, ?_, fun j w hj => ?_⟩
  · unfold zst
    rw [zset_len, zclr_len]
    exact h.2.2.1
  · unfold zst at hj
    rw [zget_set, zclr_len, h.2.2.1] at hj
    by_cases hji : j = i
    · rw [if_pos ⟨hji, hi⟩] at hj
      cases hj
      subst hji
      exact hs.2.2 (j, zv b bs v) List.mem_cons_self
    · rw [if_neg (fun q => hji q.1)] at hj
      refine hs.2.2 (j, zv b bs w) (List.mem_cons_of_mem _ (List.mem_filter.mpr ⟨List.mem_map.mpr ⟨(j, w), zas_mem.mpr ?_, rfl⟩, ?_⟩))
      · cases i with
        | zero => exact hj
        | succ k =>
          simp only [zclr] at hj
          split at hj
          · split at hj
            · rw [zget_set] at hj
              split at hj
              · cases hj
              · exact hj
            · exact hj
          · exact hj
      · have e1 : (j == i) = false := by simpa using hji
        by_cases hk : j + 1 = i
        · subst hk
          have hc : w.category ≠ 2 := by
            intro hc
            simp only [zclr] at hj
            split at hj
            · next u hu =>
              split at hj
              · rw [zget_set] at hj
                split at hj
                · cases hj
                · next hn => exact hn ⟨rfl, zget_lt hu⟩
              · next hu2 =>
                rw [hu] at hj
                cases hj
                exact hu2 hc
            · next hu => rw [hu] at hj; cases hj
          simp [zv_cat, hc]
        · have e2 : (j + 1 == i) = false := by simpa using hk
          simp [e1, e2]
theorem zal0_len : ∀ (vs : List Value) (b bs : Nat), (lg_sl (vs.map (zv b bs))).length = (zal0 vs).length
  | [], b, bs => rfl
  | v :: t, b, bs => by
    have ih := zal0_len t b bs
    simp only [lg_sl, List.map_cons, List.flatMap_cons, List.length_append, zv_cat] at ih ⊢
    by_cases hc : v.category = 2
    · simp [zal0, hc, ih]; omega
    · simp [zal0, hc, ih]; omega
theorem zal0_args : ∀ (vs : List Value) (b bs k i : Nat) (v : Value), zget (zal0 vs) i = some v → (k + i, zv b bs v) ∈ lv_args k (vs.map (zv b bs))
  | [], b, bs, k, i, v, h => by simp [zal0, zget] at h
  | w :: t, b, bs, k, i, v, h => by
    simp only [List.map_cons, lv_args, zv_cat]
    by_cases hc : w.category = 2
    · simp only [zal0, hc, if_true] at h ⊢
      match i, h with
      | 0, h => simp only [zget] at h; cases h; exact List.mem_cons_self
      | 1, h => simp [zget] at h
      | j + 2, h =>
        simp only [zget] at h
        have := zal0_args t b bs (k + 2) j v h
        rw [show k + 2 + j = k + (j + 2) by omega] at this
        exact List.mem_cons_of_mem _ this
    · simp only [zal0, hc, if_false] at h ⊢
      match i, h with
      | 0, h => simp only [zget] at h; cases h; exact List.mem_cons_self
      | j + 1, h =>
        simp only [zget] at h
        have := zal0_args t b bs (k + 1) j v h
        rw [show k + 1 + j = k + (j + 1) by omega] at this
        exact List.mem_cons_of_mem _ this
theorem zget_app : ∀ (L : zLc) (m i : Nat) (v : Value), zget (L ++ List.replicate m none) i = some v → zget L i = some v
  | [], m, i, v, h => by
    exfalso
    rw [List.nil_append] at h
    induction m generalizing i with
    | zero => simp [zget] at h
    | succ m ih =>
      rw [List.replicate_succ] at h
      cases i with
      | zero => simp [zget] at h
      | succ i => exact ih i (by simpa [zget] using h)
  | w :: t, m, 0, v, h => by simpa [zget] using h
  | w :: t, m, i + 1, v, h => by
    simp only [List.cons_append, zget] at h ⊢
    exact zget_app t m i v h
/-- how a method begins -/
theorem zLH_entry (b bs : Nat) (vs : List Value) {n : Nat} (h : (zal0 vs).length ≤ n) : zLH b bs ((lg_sl (vs.map (zv b bs)) ++ List.replicate (n - (lg_sl (vs.map (zv b bs))).length) Slot.unset).toArray) n (zpad n (zal0 vs)) := by
  have he := lv_entry (vs.map (zv b bs)) (n := n) (by rw [zal0_len]; exact h)
  refine ⟨he.1, he.2.1, by unfold zpad; simp; omega, fun i v hi => ?_⟩
  have h1 := zal0_args vs b bs 0 i v (zget_app _ _ _ _ hi)
  rw [Nat.zero_add] at h1
  exact he.2.2 (i, zv b bs v) h1

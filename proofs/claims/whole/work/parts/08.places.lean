/-! what every method may take as given of the machine -/
def zNest (U : State) : Prop := va_AO "RowBack$Sheet" U ∧ ∀ t ∈ zNT, va_Nw (.methodLinkNest (zcn.getD t.1 RX0) t.2.1 (znm t.2.2) "RowBack") U
theorem zNest.moved {s U : State} (hW : s.WarmedH U.vm) (h : zNest s) : zNest U := ⟨h.1.moved hW.alike, fun t ht => va_Nw.warmM hW (h.2 t ht)⟩
theorem zNest.same {s U : State} (hv : s.vm = U.vm) (h : zNest s) : zNest U := ⟨h.1.moved (by rw [hv]; exact Vm.Alike.refl _), fun t ht => va_Nw.same rfl hv (h.2 t ht)⟩
abbrev ztys (cy : Nat → ClassId) : List (ClassId × FieldType) := [(cy 0, .int), (cy 1, .boolean), (cy 2, .object RX4)]
/-- a method's start -/
def zPre (D : va_G) (cy : Nat → ClassId) (b bs Ln : Nat) (xs : Nat → Int32) (as : List Value) (g : zSg) : Array Value → State → Prop :=
  va_Pc (as.map (zv b bs)) (fun U => zRp D cy bs Ln xs g U.heap ∧ U.heap.size = bs + zN g ∧ va_K D vwCl (ztys cy) U ∧ zNest U ∧ va_X b Ln xs U U.heap ∧ b ≤ bs)
/-- a method's end -/
def zPost (D : va_G) (cy : Nat → ClassId) (b bs Ln : Nat) (xs : Nat → Int32) (y : Nat) (r : zRs) : Array Value → State → Outcome → State → Prop :=
  fun _ st o t => (o = .returned (r.1.map (zv b bs)) ∧ zRp D cy bs Ln xs r.2 t.heap ∧ st.heap.size + (zal.getD y (0, 0)).1 = bs + zN r.2) ∧ va_F (zAs bs) st t
def zrm (y : Nat) : Room := { frames := zfr y, cells := (zal.getD y (0, 0)).1, slots := (zal.getD y (0, 0)).2, locals := zlo y }
def zWs (y : Nat) : List Cond := .code (znm y) (zby y) (zmx y) (zrt y) :: zW
def zMet (l : Launch) (D : va_G) (cy : Nat → ClassId) (b bs Ln : Nat) (xs : Nat → Int32) (y : Nat) (as : List Value) (g : zSg) (r : zRs) : Prop :=
  Met l (znm y) (zWs y) (zrm y) (zPre D cy b bs Ln xs as g) (zPost D cy b bs Ln xs y r) (zal.getD y (0, 0)).1 (zal.getD y (0, 0)).2 (zAs bs)
theorem zPre_blind {D : va_G} {cy : Nat → ClassId} {b bs Ln : Nat} {xs : Nat → Int32} {as : List Value} {g : zSg} : FrameBlind (zPre D cy b bs Ln xs as g) := by
  intro a U f mk h
  obtain ⟨h1, h2, hz, h3, h4, h5, h6⟩ := h
  exact ⟨h1, h2, hz, va_K.moved (u := U) (U := U.calling f mk a) (Vm.Alike.refl U.vm) h3, h4.same rfl, va_X.moved (u := U) (U := U.calling f mk a) (Vm.Alike.refl U.vm) h5, h6⟩
section zS
variable {p : Program} {l : Launch} {e : Env} {R : Room} {s : State} {m : MethodId} {args : Array Value} {below : List Frame} {meth : Method} {c : Code} {Q : State → Prop}
/-- where a method of number y runs -/
def zCx (p : Program) (R : Room) (s : State) (m : MethodId) (args : Array Value) (meth : Method) (c : Code) (D : va_G) (cy : Nat → ClassId) (b bs Ln : Nat) (xs : Nat → Int32) (y : Nat) : Prop :=
  (p.tables.exec = Jvm.exec ∧ c.code = zby y ∧ c.maxLocals = zmx y ∧ s.vm.findClass (zow y) = some m.cls ∧ meth.sig.returnType = zrt y ∧ meth.locks = false ∧ (y ≠ 164 → meth.name = (znm y).name)) ∧
  (∀ w ∈ zW, w.before args s = true) ∧ va_K D vwCl (ztys cy) s ∧ zNest s ∧ (va_X b Ln xs s s.heap ∧ b ≤ bs ∧ bs < s.heap.size) ∧ zfr y ≤ R.frames ∧ zlo y ≤ R.locals ∧ (zal.getD y (0, 0)).1 ≤ R.cells ∧ (zal.getD y (0, 0)).2 ≤ R.slots
/-- what holds at a point of it -/
def zAt (s : State) (D : va_G) (cy : Nat → ClassId) (b bs Ln : Nat) (xs : Nat → Int32) (y k sl : Nat) (H : Heap) (locs : List Loc) (ls : Array Slot) (L : zLc) (g : zSg) : Prop :=
  zLH b bs ls (zmx y) L ∧ zRp D cy bs Ln xs g H ∧ va_S (zAs bs) s.heap H locs ∧ s.heap.size + k = bs + zN g ∧ k ≤ (zal.getD y (0, 0)).1 ∧ sl ≤ (zal.getD y (0, 0)).2
variable {D : va_G} {cy : Nat → ClassId} {b bs Ln : Nat} {xs : Nat → Int32} {y pc k sl : Nat} {H : Heap} {locs : List Loc} {ls : Array Slot} {L : zLc} {g : zSg} {st : List Value} {len : Nat} {ax : List Nat}
/-- the goal of a step -/
abbrev zG (p : Program) (l : Launch) (e : Env) (R : Room) (s : State) (m : MethodId) (args : Array Value) (below : List Frame) (meth : Method) (c : Code) (Q : State → Prop) (b bs : Nat) (H : Heap) (locs : List Loc) (k sl : Nat) (pc : Nat) (ls : Array Slot) (st : List Value) : Prop :=
  W p l e R s m args below meth c H locs k sl Q (F0 m pc ls (st.map (zv b bs)))
/-- what a step leads to -/
def zTo (p : Program) (l : Launch) (e : Env) (R : Room) (s : State) (m : MethodId) (args : Array Value) (below : List Frame) (meth : Method) (c : Code) (Q : State → Prop) (D : va_G) (cy : Nat → ClassId) (b bs Ln : Nat) (xs : Nat → Int32) (y : Nat) (out : zOut) : Prop := match out with
  | .inl f => ∀ (H : Heap) (locs : List Loc) (ls : Array Slot), zAt s D cy b bs Ln xs y f.2.1 f.2.2.1 H locs ls f.2.2.2.1 f.2.2.2.2.2 → zG p l e R s m args below meth c Q b bs H locs f.2.1 f.2.2.1 f.1 ls f.2.2.2.2.1
  | .inr r => ∀ (pc k sl : Nat) (H : Heap) (locs : List Loc) (ls : Array Slot), zRp D cy bs Ln xs r.2 H → va_S (zAs bs) s.heap H locs → k ≤ (zal.getD y (0, 0)).1 → sl ≤ (zal.getD y (0, 0)).2 → s.heap.size + k = bs + zN r.2 → (k = (zal.getD y (0, 0)).1 ∨ (zal.getD y (0, 0)).1 = 600000) →
      ((∃ v, r.1 = some (.int v) ∧ decode (zby y) pc = .ok (.ireturn, 1) ∧ (zrt y = some .int ∨ (zrt y = some .boolean ∧ (v = 0 ∨ v = 1)))) ∨ (∃ v, r.1 = some (.long v) ∧ decode (zby y) pc = .ok (.lreturn, 1) ∧ zrt y = some .long) ∨ (r.1 = none ∧ decode (zby y) pc = .ok (.return_, 1) ∧ zrt y = none)) →
      W p l e R s m args below meth c H locs k sl Q (F0 m pc ls r.1.toList)
theorem zAt.st1 {i : Nat} {v : Value} {ls' : Array Slot} (h : zAt s D cy b bs Ln xs y k sl H locs ls L g) (hi : i < L.length) (hs : lv_has ls' (zmx y) ((i, zv b bs v) :: ((zas L).map (fun q => (q.1, zv b bs q.2))).filter (fun q => !(q.1 == i) && !(q.1 + 1 == i && q.2.category == 2)))) : zAt s D cy b bs Ln xs y k sl H locs ls' (zst L i v) g :=
  ⟨h.1.store (by rw [← h.1.2.2.1]; exact hi) hs, h.2⟩
/-- a cell of the abstract state is a cell of the heap -/
theorem zRp.at {i : Nat} (h : zRp D cy bs Ln xs g H) (hc : zC g i ≤ 102) : 0 < i ∧ i < zN g ∧ (zws cy bs g)[i - 1]? = some (bs + i, zce cy bs g i) := by
  have h0 : 0 < i := by
    rcases Nat.eq_zero_or_pos i with q | q
    · subst q
      have := h.2.2.1.1
      omega
    · exact q
  have hn : i < zN g := by
    rcases Nat.lt_or_ge i (zN g) with q | q
    · exact q
    · have := h.2.2.2.1 i q
      omega
  exact ⟨h0, hn, zws_at h0 hn⟩
theorem zad_pos {i : Nat} (h : 0 < i) : zad b bs i = bs + i := by
  unfold zad
  rw [if_neg (by omega)]
theorem zfs_at {ci i k : Nat} (hk : k < (zfk.getD ci []).length) : (zfs bs g ci i)[k]? = some (if zkd ci k = 1 then va_rf (zor bs (zF g i k)) else .int (zI g i k)) := by
  unfold zfs
  rw [List.getElem?_map, List.getElem?_range hk]
  rfl
/-- the heap's size is known at each point: no more cells than were counted, no fewer than are told -/
theorem zRp.size_le (h : zRp D cy bs Ln xs g H) (hS : va_S (zAs bs) s.heap H locs) (hbs : bs < s.heap.size) : bs + zN g ≤ H.size := by
  rcases Nat.lt_or_ge 1 (zN g) with q | q
  · have hl := (h.2.1 _ _ (zws_at (cy := cy) (bs := bs) (i := zN g - 1) (by omega) (by omega))).lt
    have : bs + (zN g - 1) < H.size := hl
    omega
  · have := hS.1
    omega
theorem zsize {gf : JFrame} (hA : zAt s D cy b bs Ln xs y k sl H locs ls L g) (hbs : bs < s.heap.size) (kk : H.size = bs + zN g → W p l e R s m args below meth c H locs k sl Q gf) : W p l e R s m args below meth c H locs k sl Q gf := by
  intro T hT X
  have h1 := X.heapSize
  rw [hT] at h1
  have h2 := hA.2.1.size_le hA.2.2.1 hbs
  have h3 := hA.2.2.2.1
  exact kk (by omega) T hT X
end zS

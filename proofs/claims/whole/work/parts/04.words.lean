/-! the tables are true of the Statement's words -/
def zd0 : MethodName × ByteArray × Nat × Option FieldType × Nat × Nat := (yL_law, cL_law, 0, none, 0, 0)
abbrev zrow (y : Nat) : MethodName × ByteArray × Nat × Option FieldType × Nat × Nat := zmt.getD y zd0
abbrev znm (y : Nat) : MethodName := (zrow y).1
abbrev zby (y : Nat) : ByteArray := (zrow y).2.1
abbrev zmx (y : Nat) : Nat := (zrow y).2.2.1
abbrev zrt (y : Nat) : Option FieldType := (zrow y).2.2.2.1
abbrev zfr (y : Nat) : Nat := (zrow y).2.2.2.2.1
abbrev zlo (y : Nat) : Nat := (zrow y).2.2.2.2.2
abbrev zow (y : Nat) : String := zcn.getD (zon.getD y 0) RX0
abbrev zcl (ci : Nat) : vw_C := vwCl.getD ci (RX0, TX0, 10)
abbrev zkd (ci k : Nat) : Nat := (zfk.getD ci []).getD k 0
def zFTo (t : Nat × Nat × Nat × Nat) : Cond := .fieldLink (zcn.getD t.1 RX0) t.2.1 ((zcl t.2.2.1).2.1 t.2.2.2).1 ((zcl t.2.2.1).2.1 t.2.2.2).2.1 ((zcl t.2.2.1).2.1 t.2.2.2).2.2.1
def zCTo (t : Nat × Nat × Nat) : Cond := .classLink (zcn.getD t.1 RX0) t.2.1 (zcl t.2.2).1
def zKv (a s : Nat) : Int := if s = 1 then - (a : Int) else (a : Int)
def zKTo (t : Nat × Nat × Nat × Nat × Bool) : Cond := if t.2.2.2.2 = true then .constantLong (zcn.getD t.1 RX0) t.2.1 (Int64.ofInt (zKv t.2.2.1 t.2.2.2.1)) else .constant (zcn.getD t.1 RX0) t.2.1 (Int32.ofInt (zKv t.2.2.1 t.2.2.2.1))
theorem zW_of {w : Cond} {i : Nat} (h : lw_tbl[i]? = some w) (hi : i ∈ zWi) : w ∈ zW := List.mem_filterMap.mpr ⟨i, hi, h⟩
theorem zW_lw : ∀ w ∈ zW, w ∈ lw_tbl := by
  intro w hw
  obtain ⟨i, -, hi⟩ := List.mem_filterMap.mp hw
  exact List.mem_of_getElem? hi
theorem zW_list {ws : List Cond} {is : List Nat} (h : ws = is.filterMap (fun i => lw_tbl[i]?)) (hs : is.all (fun i => zWi.contains i) = true) : ∀ w ∈ ws, w ∈ zW := by
  intro w hw
  rw [h] at hw
  obtain ⟨i, h1, h2⟩ := List.mem_filterMap.mp hw
  exact zW_of h2 (by simpa using List.all_eq_true.mp hs i h1)
theorem zmem {α : Type} {l : List α} {f : α → Cond} (h : ∀ w ∈ l.map f, w ∈ zW) {t : α} {k : Nat} (ht : l[k]? = some t) : f t ∈ zW := h _ (List.mem_map.mpr ⟨t, List.mem_of_getElem? ht, rfl⟩)
set_option maxRecDepth 20000 in
theorem zFT_in {k : Nat} {t : Nat × Nat × Nat × Nat} (h : zFT[k]? = some t) : zFTo t ∈ zW := zmem (zW_list (is := zFTw) (by decide +kernel) (by decide +kernel)) h
set_option maxRecDepth 20000 in
theorem zCT_in {k : Nat} {t : Nat × Nat × Nat} (h : zCT[k]? = some t) : zCTo t ∈ zW := zmem (zW_list (is := zCTw) (by decide +kernel) (by decide +kernel)) h
set_option maxRecDepth 20000 in
theorem zKT_in {k : Nat} {t : Nat × Nat × Nat × Nat × Bool} (h : zKT[k]? = some t) : zKTo t ∈ zW := zmem (zW_list (is := zKTw) (by decide +kernel) (by decide +kernel)) h
set_option maxRecDepth 20000 in
theorem zW_good : ∀ w ∈ zW, goodWord w = true := List.all_eq_true.mp (by decide +kernel)
set_option maxRecDepth 20000 in
theorem zlay0 : ∀ w ∈ u_ws RX0 TX0 10, w ∈ zW := zW_list (is := zlw.getD 0 []) (by decide +kernel) (by decide +kernel)
set_option maxRecDepth 20000 in
theorem zlay1 : ∀ w ∈ u_ws RX1 TX1 2, w ∈ zW := zW_list (is := zlw.getD 1 []) (by decide +kernel) (by decide +kernel)
set_option maxRecDepth 20000 in
theorem zlay2 : ∀ w ∈ u_ws RX2 TX2 4, w ∈ zW := zW_list (is := zlw.getD 2 []) (by decide +kernel) (by decide +kernel)
set_option maxRecDepth 20000 in
theorem zlay3 : ∀ w ∈ u_ws RX3 TX3 4, w ∈ zW := zW_list (is := zlw.getD 3 []) (by decide +kernel) (by decide +kernel)
set_option maxRecDepth 20000 in
theorem zlay4 : ∀ w ∈ u_ws RX4 TX4 4, w ∈ zW := zW_list (is := zlw.getD 4 []) (by decide +kernel) (by decide +kernel)
set_option maxRecDepth 20000 in
theorem zlay5 : ∀ w ∈ u_ws RX6 TX6 7, w ∈ zW := zW_list (is := zlw.getD 5 []) (by decide +kernel) (by decide +kernel)
set_option maxRecDepth 20000 in
theorem zlay6 : ∀ w ∈ u_ws RX7 TX7 12, w ∈ zW := zW_list (is := zlw.getD 6 []) (by decide +kernel) (by decide +kernel)
set_option maxRecDepth 20000 in
theorem zlay7 : ∀ w ∈ u_ws RX8 TX8 40, w ∈ zW := zW_list (is := zlw.getD 7 []) (by decide +kernel) (by decide +kernel)
/-- what is asked of a class's table -/
def zClOk (ci : Nat) (q : vw_C) : Prop := vwCl[ci]? = some q ∧ (∀ w ∈ u_ws q.1 q.2.1 q.2.2, w ∈ zW) ∧ q.2.2 = (zfk.getD ci []).length ∧ (∀ a, a < q.2.2 → ∀ b, b < q.2.2 → a ≠ b → (q.2.1 a).2.1 ≠ (q.2.1 b).2.1) ∧
  ∃ ty : Nat → FieldType, (∀ k, k < q.2.2 → parseFieldDescriptor (q.2.1 k).2.2.1 = some (ty k)) ∧ ∀ k, k < q.2.2 → (zkd ci k = 0 ∧ ty k = .int) ∨ (zkd ci k = 2 ∧ ty k = .boolean) ∨ (zkd ci k = 1 ∧ ((∃ C, ty k = .object C) ∨ ∃ t, ty k = .array t))
theorem zlt_cases {P : Nat → Prop} {n : Nat} (h : ∀ k, k < n → P k) : ∀ k, k < n → P k := h
def zkok (t : FieldType) (d : Nat) : Bool := match t, d with
  | .int, 0 => true
  | .boolean, 2 => true
  | .object _, 1 => true
  | .array _, 1 => true
  | _, _ => false
theorem zkok_spec {t : FieldType} {d : Nat} (h : zkok t d = true) : (d = 0 ∧ t = .int) ∨ (d = 2 ∧ t = .boolean) ∨ (d = 1 ∧ ((∃ C, t = .object C) ∨ ∃ u, t = .array u)) := by
  unfold zkok at h
  split at h <;> simp_all
theorem zClOk_of {ci N : Nat} {C : String} {T : u_T} {ty : Nat → FieldType} (h0 : vwCl[ci]? = some (C, T, N)) (h1 : ∀ w ∈ u_ws C T N, w ∈ zW) (h2 : N = (zfk.getD ci []).length) (h3 : ∀ a, a < N → ∀ b, b < N → a ≠ b → (T a).2.1 ≠ (T b).2.1) (h4 : ∀ k, k < N → parseFieldDescriptor (T k).2.2.1 = some (ty k)) (h5 : ∀ k, k < N → zkok (ty k) (zkd ci k) = true) : zClOk ci (C, T, N) :=
  ⟨h0, h1, h2, h3, ty, h4, fun k hk => zkok_spec (h5 k hk)⟩
theorem zcl_ok : ∀ ci, ci < 8 → zClOk ci (zcl ci) := by
  intro ci h
  match ci, h with
  | 0, _ => exact zClOk_of rfl zlay0 rfl nmX0 tyX0_ok (by decide +kernel)
  | 1, _ => exact zClOk_of rfl zlay1 rfl nmX1 tyX1_ok (by decide +kernel)
  | 2, _ => exact zClOk_of rfl zlay2 rfl nmX2 tyX2_ok (by decide +kernel)
  | 3, _ => exact zClOk_of rfl zlay3 rfl nmX3 tyX3_ok (by decide +kernel)
  | 4, _ => exact zClOk_of rfl zlay4 rfl nmX4 tyX4_ok (by decide +kernel)
  | 5, _ => exact zClOk_of rfl zlay5 rfl nmX6 tyX6_ok (by decide +kernel)
  | 6, _ => exact zClOk_of rfl zlay6 rfl nmX7 tyX7_ok (by decide +kernel)
  | 7, _ => exact zClOk_of rfl zlay7 rfl nmX8 tyX8_ok (by decide +kernel)
  | n + 8, h => exact absurd h (by omega)

/-! .. fields, arrays, new cells -/
section zS3
variable {p : Program} {l : Launch} {e : Env} {R : Room} {s : State} {m : MethodId} {args : Array Value} {below : List Frame} {meth : Method} {c : Code} {Q : State → Prop}
variable {D : va_G} {cy : Nat → ClassId} {b bs Ln : Nat} {xs : Nat → Int32} {y pc k sl : Nat} {H : Heap} {locs : List Loc} {ls : Array Slot} {L : zLc} {g : zSg} {st : List Value} {ax : List Nat}
theorem zin_spec {i : Int32} {n : Nat} (h : zin i n = true) : vp_in i n := by
  unfold zin at h
  simp only [Bool.and_eq_true, decide_eq_true_eq] at h
  intro q
  rcases q with q | q
  · exact h.1 q
  · omega
/-- a field's row in the tables -/
theorem zfield {i ci kf : Nat} (hci : ci < 8) (hF : zFT[zx ax 3]? = some (zon.getD y 0, i, ci, kf)) : Cond.fieldLink (zow y) i ((zcl ci).2.1 kf).1 ((zcl ci).2.1 kf).2.1 ((zcl ci).2.1 kf).2.2.1 ∈ zW := zFT_in hF
theorem zce_obj {i : Nat} (h : zC g i < 8) : zce cy bs g i = .inr (zC g i, zfs bs g (zC g i) i) := by
  unfold zce
  rw [if_neg (by omega), if_neg (by omega), if_neg (by omega)]
theorem zs_getfield {al : Nat × Nat} {call : Nat → List Value → zSg → Option zRs} {e0 i : Nat} {out : zOut} (C : zCx p R s m args meth c D cy b bs Ln xs y) (hA : zAt s D cy b bs Ln xs y k sl H locs ls L g) (hd : decode (zby y) pc = .ok (.getfield i, 3)) (hF : zFT[zx ax 3]? = some (zon.getD y 0, i, zx ax 0, zx ax 1)) (h8 : zx ax 0 < 8) (hkf : zx ax 1 < (zfk.getD (zx ax 0) []).length) (hkd : zkd (zx ax 0) (zx ax 1) = zx ax 2) (hs : zstep call al (e0, .getfield i, 3, ax) pc k sl L st g = some out) (kk : zTo p l e R s m args below meth c Q D cy b bs Ln xs y out) : zG p l e R s m args below meth c Q b bs H locs k sl pc ls st := by
  obtain ⟨⟨hx, hb, hml, hown, hret, hlocks, hname⟩, hts, hK, hN, hX, hfr, hlo, hal⟩ := C
  simp only [zstep] at hs
  unfold zr1 at hs
  split at hs
  · next o r =>
    dsimp only at hs
    split at hs
    · next hc =>
      obtain ⟨h0, hn, hat⟩ := hA.2.1.at (i := o) (by omega)
      obtain ⟨q1, q2, q3, q4, ty, q5, q6⟩ := zcl_ok _ h8
      have hv := zfs_at (bs := bs) (g := g) (i := o) hkf
      rw [zce_obj (by omega), hc] at hat
      show W p l e R s m args below meth c H locs k sl Q (F0 m pc ls (.ref (zad b bs o) :: r.map (zv b bs)))
      rw [zad_pos h0]
      have hlink := hts _ (zfield (y := y) h8 hF)
      split at hs
      · next h1 =>
        rw [hkd, if_pos h1] at hv
        split at hs
        · cases hs
        · next hz =>
          cases hs
          have e1 : va_rf (zor bs (zF g o (zx ax 1))) = zv b bs (.ref (zF g o (zx ax 1))) := by
            show _ = Value.ref (zad b bs _)
            rw [zad_pos (by omega)]
            unfold zor
            rw [if_neg hz]
            rfl
          rw [e1] at hv
          exact va_get hx hb hts q2 hown hK hA.2.1.2.1 (o - 1) hat q1 (zx ax 1) (by rw [q3]; exact hkf) hlink (fun _ h => h) hv hd (kk H locs ls hA)
      · next h1 =>
        rw [hkd, if_neg h1] at hv
        cases hs
        exact va_get hx hb hts q2 hown hK hA.2.1.2.1 (o - 1) hat q1 (zx ax 1) (by rw [q3]; exact hkf) hlink (fun _ h => h) hv hd (kk H locs ls hA)
    · cases hs
  · cases hs
/-- after a store in one cell -/
theorem zRp.put {i : Nat} {g' : zSg} {H1 : Heap} {ev : va_E} (h : zRp D cy bs Ln xs g H) (h0 : 0 < i) (hn : zN g' = zN g) (hcl : zC g' = zC g) (hln : zLn g' = zLn g) (hAz : zA g' 0 = zA g 0) (he : zce cy bs g' i = ev) (ho : ∀ j, j ≠ i → zce cy bs g' j = zce cy bs g j) (hP : va_P D vwCl ((zws cy bs g).set (i - 1) (bs + i, ev)) H1) : zRp D cy bs Ln xs g' H1 := by
  rw [zws_set h0 hn he ho] at hP
  exact ⟨by rw [hn]; exact h.1, hP, ⟨by rw [hcl]; exact h.2.2.1.1, by rw [hln]; exact h.2.2.1.2.1, by rw [hAz]; exact h.2.2.1.2.2⟩, fun j hj => by rw [hcl]; exact h.2.2.2.1 j (by rw [← hn]; exact hj), fun j hj => by rw [hcl]; exact h.2.2.2.2 j hj⟩

theorem zmap_set {α : Type} {F F' : Nat → α} {n kf : Nat} {x : α} (h : ∀ j, j ≠ kf → F' j = F j) (hx : F' kf = x) : ((List.range n).map F).set kf x = (List.range n).map F' := by
  apply List.ext_getElem?
  intro j
  rw [List.getElem?_set, List.length_map, List.length_range, List.getElem?_map, List.getElem?_map]
  by_cases hj : kf = j
  · subst hj
    rw [if_pos rfl]
    by_cases hl : kf < n
    · rw [if_pos hl, List.getElem?_range hl, ← hx]; rfl
    · rw [if_neg hl, List.getElem?_eq_none (by simp; omega)]; rfl
  · rw [if_neg hj]
    cases hr : (List.range n)[j]? with
    | none => rfl
    | some j' =>
      have : j' = j := by
        obtain ⟨h1, h2⟩ := List.getElem?_eq_some_iff.mp hr
        simpa using h2.symm
      subst this
      simp only [Option.map_some]
      rw [h j' (fun q => hj q.symm)]
theorem zce_congr {g' : zSg} {j : Nat} (h1 : zC g' j = zC g j) (h2 : zLn g' j = zLn g j) (h3 : zA g' j = zA g j) (h4 : zF g' j = zF g j) (h5 : zI g' j = zI g j) : zce cy bs g' j = zce cy bs g j := by
  unfold zce zfs
  rw [h1, h2, h3, h4, h5]
theorem zput_row {al : Nat × Nat} {o i ci kf : Nat} {r : List Value} {vc : Value} {ty : FieldType} (C : zCx p R s m args meth c D cy b bs Ln xs y) (hA : zAt s D cy b bs Ln xs y k sl H locs ls L g) (hd : decode (zby y) pc = .ok (.putfield i, 3)) (h8 : ci < 8) (hkf : kf < (zfk.getD ci []).length) (hlink : Cond.fieldLink (zow y) i ((zcl ci).2.1 kf).1 ((zcl ci).2.1 kf).2.1 ((zcl ci).2.1 kf).2.2.1 ∈ zW) (hfin : ((zcl ci).2.1 kf).2.2.2 = false ∨ ((znm y).name = "<init>" ∧ ((zcl ci).2.1 kf).1 = zow y)) {fs : List Value} (hat : (zws cy bs g)[o - 1]? = some (bs + o, .inr (ci, fs))) (hlen : fs.length = (zfk.getD ci []).length) (hty : parseFieldDescriptor ((zcl ci).2.1 kf).2.2.1 = some ty) (hn : narrow ty vc = vc) (hfit : fits ty vc = true)
    (kk : ∀ (H1 : Heap) (locs1 : List Loc), va_P D vwCl ((zws cy bs g).set (o - 1) (bs + o, .inr (ci, fs.set kf vc))) H1 → va_S (zAs bs) s.heap H1 locs1 → W p l e R s m args below meth c H1 locs1 k sl Q (F0 m (pc + 3) ls r)) : W p l e R s m args below meth c H locs k sl Q (F0 m pc ls (vc :: .ref (bs + o) :: r)) := by
  obtain ⟨⟨hx, hb, hml, hown, hret, hlocks, hname⟩, hts, hK, hN, hX, hfr, hlo, hal⟩ := C
  obtain ⟨q1, q2, q3, q4, ty0, q5, q6⟩ := zcl_ok _ h8
  cases hf : ((zcl ci).2.1 kf).2.2.2 with
  | false => exact va_put hx hb hts q2 ty0 q5 q4 hown hK hA.2.1.2.1 (zws_D cy bs g) hA.2.2.1 (o - 1) hat q1 kf (by rw [q3]; exact hkf) (hts _ hlink) (fun _ h => h) hf hty hn hfit (by rw [hlen]; exact hkf) hd (fun H1 locs1 h1 _ h3 => kk H1 locs1 h1 h3)
  | true =>
    rcases hfin with h | ⟨h1, h2⟩
    · rw [hf] at h; cases h
    · exact va_putF hx hb hts q2 ty0 q5 q4 hown hK hA.2.1.2.1 (zws_D cy bs g) hA.2.2.1 (o - 1) hat q1 kf (by rw [q3]; exact hkf) (hts _ hlink) (fun _ h => h) hf ((hname (fun q => by subst q; exact absurd h1 (by decide +kernel))).trans h1) h2 hty hn hfit (by rw [hlen]; exact hkf) hd (fun H1 locs1 h1 _ h3 => kk H1 locs1 h1 h3)
theorem zfs_len {ci i : Nat} : (zfs bs g ci i).length = (zfk.getD ci []).length := by simp [zfs]
theorem znar_b {v : Int32} (h : v = 0 ∨ v = 1) : narrow .boolean (.int v) = .int v := by rcases h with rfl | rfl <;> rfl
theorem zs_putfield {al : Nat × Nat} {call : Nat → List Value → zSg → Option zRs} {e0 i : Nat} {out : zOut} (C : zCx p R s m args meth c D cy b bs Ln xs y) (hA : zAt s D cy b bs Ln xs y k sl H locs ls L g) (hd : decode (zby y) pc = .ok (.putfield i, 3)) (hF : zFT[zx ax 3]? = some (zon.getD y 0, i, zx ax 0, zx ax 1)) (h8 : zx ax 0 < 8) (hkf : zx ax 1 < (zfk.getD (zx ax 0) []).length) (hkd : zkd (zx ax 0) (zx ax 1) = zx ax 2) (hfin : ((zcl (zx ax 0)).2.1 (zx ax 1)).2.2.2 = false ∨ ((znm y).name = "<init>" ∧ ((zcl (zx ax 0)).2.1 (zx ax 1)).1 = zow y)) (hs : zstep call al (e0, .putfield i, 3, ax) pc k sl L st g = some out) (kk : zTo p l e R s m args below meth c Q D cy b bs Ln xs y out) : zG p l e R s m args below meth c Q b bs H locs k sl pc ls st := by
  have hlink := zfield (y := y) h8 hF
  obtain ⟨q1, q2, q3, q4, ty0, q5, q6⟩ := zcl_ok _ h8
  have hty := q5 _ (by rw [q3]; exact hkf)
  have hk6 := q6 _ (by rw [q3]; exact hkf)
  simp only [zstep] at hs
  split at hs
  · next v o r =>
    split at hs
    · next hc =>
      cases hs
      obtain ⟨h0, hn, hat⟩ := hA.2.1.at (i := o) (by omega)
      rw [zce_obj (by omega), hc.1] at hat
      show W p l e R s m args below meth c H locs k sl Q (F0 m pc ls (.int v :: .ref (zad b bs o) :: r.map (zv b bs)))
      rw [zad_pos h0]
      have hnk : zkd (zx ax 0) (zx ax 1) ≠ 1 := by omega
      have hnf : narrow (ty0 (zx ax 1)) (.int v) = .int v ∧ fits (ty0 (zx ax 1)) (.int v) = true := by
        rcases hk6 with ⟨-, ht⟩ | ⟨ha, ht⟩ | ⟨ha, -⟩
        · rw [ht]; exact ⟨rfl, rfl⟩
        · rw [ht]
          rcases hc.2 with h | ⟨-, h⟩
          · omega
          · exact ⟨znar_b h, by rcases h with rfl | rfl <;> rfl⟩
        · exact absurd ha hnk
      refine zput_row (al := al) C hA hd h8 hkf hlink hfin hat zfs_len hty hnf.1 hnf.2 (fun H1 locs1 hP1 hS1 => kk H1 locs1 ls ⟨hA.1, ?_, hS1, hA.2.2.2⟩)
      refine hA.2.1.put h0 rfl rfl rfl rfl ?_ (fun j hj => zce_congr rfl rfl rfl rfl (va_up_ne _ _ hj)) hP1
      rw [zce_obj (by show zC g o < 8; omega)]
      show Sum.inr (zC g o, zfs bs _ (zC g o) o) = _
      rw [hc.1]
      congr 2
      unfold zfs
      refine (zmap_set (fun j hj => ?_) ?_).symm
      · by_cases h1 : zkd (zx ax 0) j = 1
        · rw [if_pos h1, if_pos h1]
        · rw [if_neg h1, if_neg h1]
          simp [zI, va_up, hj]
      · rw [if_neg hnk]
        simp [zI, va_up]
    · cases hs
  · next v o r =>
    split at hs
    · next hc =>
      cases hs
      obtain ⟨h0, hn, hat⟩ := hA.2.1.at (i := o) (by omega)
      rw [zce_obj (by omega), hc.1] at hat
      show W p l e R s m args below meth c H locs k sl Q (F0 m pc ls (.ref (zad b bs v) :: .ref (zad b bs o) :: r.map (zv b bs)))
      rw [zad_pos h0, zad_pos hc.2.2]
      have hnk : zkd (zx ax 0) (zx ax 1) = 1 := by omega
      have hnf : narrow (ty0 (zx ax 1)) (.ref (bs + v)) = .ref (bs + v) ∧ fits (ty0 (zx ax 1)) (.ref (bs + v)) = true := by
        rcases hk6 with ⟨ha, -⟩ | ⟨ha, -⟩ | ⟨-, ⟨C, ht⟩ | ⟨C, ht⟩⟩
        · omega
        · omega
        · rw [ht]; exact ⟨rfl, rfl⟩
        · rw [ht]; exact ⟨rfl, rfl⟩
      refine zput_row (al := al) C hA hd h8 hkf hlink hfin hat zfs_len hty hnf.1 hnf.2 (fun H1 locs1 hP1 hS1 => kk H1 locs1 ls ⟨hA.1, ?_, hS1, hA.2.2.2⟩)
      refine hA.2.1.put h0 rfl rfl rfl rfl ?_ (fun j hj => zce_congr rfl rfl rfl (va_up_ne _ _ hj) rfl) hP1
      rw [zce_obj (by show zC g o < 8; omega)]
      show Sum.inr (zC g o, zfs bs _ (zC g o) o) = _
      rw [hc.1]
      congr 2
      unfold zfs
      refine (zmap_set (fun j hj => ?_) ?_).symm
      · by_cases h1 : zkd (zx ax 0) j = 1
        · rw [if_pos h1, if_pos h1]
          simp [zF, va_up, hj]
        · rw [if_neg h1, if_neg h1]
      · rw [if_pos hnk]
        have e1 : zF (zN g, zC g, zLn g, va_up (zF g) o (va_up (zF g o) (zx ax 1) v), zI g, zA g) o (zx ax 1) = v := by simp [zF, va_up]
        rw [e1]
        unfold zor
        rw [if_neg (Nat.ne_of_gt hc.2.2)]
        rfl
    · cases hs
  · cases hs
theorem zce_100 {i : Nat} (h : zC g i = 100) : zce cy bs g i = .inl (cy 0, zLn g i, .inl (zA g i)) := by unfold zce; rw [if_pos h]
theorem zce_101 {i : Nat} (h : zC g i = 101) : zce cy bs g i = .inl (cy 1, zLn g i, .inl (zA g i)) := by unfold zce; rw [if_neg (by omega), if_pos h]
theorem zce_102 {i : Nat} (h : zC g i = 102) : zce cy bs g i = .inl (cy 2, zLn g i, .inr (.inr (.inr (.inr (fun j => zor bs (zF g i j)))))) := by unfold zce; rw [if_neg (by omega), if_neg (by omega), if_pos h]
theorem zs_iaload {al : Nat × Nat} {call : Nat → List Value → zSg → Option zRs} {e0 : Nat} {out : zOut} (C : zCx p R s m args meth c D cy b bs Ln xs y) (hA : zAt s D cy b bs Ln xs y k sl H locs ls L g) (hd : decode (zby y) pc = .ok (.iaload, 1)) (hs : zstep call al (e0, .iaload, 1, ax) pc k sl L st g = some out) (kk : zTo p l e R s m args below meth c Q D cy b bs Ln xs y out) : zG p l e R s m args below meth c Q b bs H locs k sl pc ls st := by
  obtain ⟨⟨hx, hb, hml, hown, hret, hlocks, hname⟩, hts, hK, hN, hX, hfr, hlo, hal⟩ := C
  simp only [zstep] at hs
  split at hs
  · next i a r =>
    split at hs
    · next hc =>
      cases hs
      show W p l e R s m args below meth c H locs k sl Q (F0 m pc ls (.int i :: .ref (zad b bs a) :: r.map (zv b bs)))
      rcases hc.1 with h | h
      · obtain ⟨h0, hn, hat⟩ := hA.2.1.at (i := a) (by omega)
        rw [zce_100 h] at hat
        rw [zad_pos h0]
        exact va_iald hx hb hK hA.2.1.2.1 (a - 1) 0 hat rfl (zin_spec hc.2) hd (kk H locs ls hA)
      · have h0 : a = 0 := by
          rcases Nat.eq_zero_or_pos a with q | q
          · exact q
          · exact absurd h (hA.2.1.2.2.2.2 a q)
        subst h0
        have h3 := hA.2.1.2.2.1
        have hin := zin_spec hc.2
        rw [h3.2.1] at hin
        show W p l e R s m args below meth c H locs k sl Q (F0 m pc ls (.int i :: .ref b :: r.map (zv b bs)))
        refine va_sld hx hb hX.1 (Nat.lt_of_le_of_lt hX.2.1 hX.2.2) (fun q : bs < b => absurd hX.2.1 (Nat.not_le.mpr q)) hA.2.2.1 hin hd ?_
        rw [← h3.2.2]
        exact kk H locs ls hA
    · cases hs
  · cases hs
theorem zs_baload {al : Nat × Nat} {call : Nat → List Value → zSg → Option zRs} {e0 : Nat} {out : zOut} (C : zCx p R s m args meth c D cy b bs Ln xs y) (hA : zAt s D cy b bs Ln xs y k sl H locs ls L g) (hd : decode (zby y) pc = .ok (.baload, 1)) (hs : zstep call al (e0, .baload, 1, ax) pc k sl L st g = some out) (kk : zTo p l e R s m args below meth c Q D cy b bs Ln xs y out) : zG p l e R s m args below meth c Q b bs H locs k sl pc ls st := by
  obtain ⟨⟨hx, hb, hml, hown, hret, hlocks, hname⟩, hts, hK, hN, hX, hfr, hlo, hal⟩ := C
  simp only [zstep] at hs
  split at hs
  · next i a r =>
    split at hs
    · next hc =>
      cases hs
      show W p l e R s m args below meth c H locs k sl Q (F0 m pc ls (.int i :: .ref (zad b bs a) :: r.map (zv b bs)))
      obtain ⟨h0, hn, hat⟩ := hA.2.1.at (i := a) (by omega)
      rw [zce_101 hc.1] at hat
      rw [zad_pos h0]
      exact va_zald hx hb hK hA.2.1.2.1 (a - 1) 1 hat rfl (zin_spec hc.2) hd (kk H locs ls hA)
    · cases hs
  · cases hs
theorem zs_aaload {al : Nat × Nat} {call : Nat → List Value → zSg → Option zRs} {e0 : Nat} {out : zOut} (C : zCx p R s m args meth c D cy b bs Ln xs y) (hA : zAt s D cy b bs Ln xs y k sl H locs ls L g) (hd : decode (zby y) pc = .ok (.aaload, 1)) (hs : zstep call al (e0, .aaload, 1, ax) pc k sl L st g = some out) (kk : zTo p l e R s m args below meth c Q D cy b bs Ln xs y out) : zG p l e R s m args below meth c Q b bs H locs k sl pc ls st := by
  obtain ⟨⟨hx, hb, hml, hown, hret, hlocks, hname⟩, hts, hK, hN, hX, hfr, hlo, hal⟩ := C
  simp only [zstep] at hs
  split at hs
  · next i a r =>
    split at hs
    · next hc =>
      cases hs
      show W p l e R s m args below meth c H locs k sl Q (F0 m pc ls (.int i :: .ref (zad b bs a) :: r.map (zv b bs)))
      obtain ⟨h0, hn, hat⟩ := hA.2.1.at (i := a) (by omega)
      rw [zce_102 hc.1] at hat
      rw [zad_pos h0]
      have e1 : va_rf (zor bs (zF g a i.toNatClampNeg)) = zv b bs (.ref (zF g a i.toNatClampNeg)) := by
        show _ = Value.ref (zad b bs _)
        rw [zad_pos hc.2.2]
        unfold zor
        rw [if_neg (by omega)]
        rfl
      refine va_aldq hx hb hK hA.2.1.2.1 (a - 1) 2 hat rfl (zin_spec hc.2.1) hd ?_
      show W p l e R s m args below meth c H locs k sl Q (F0 m (pc + 1) ls (va_rf (zor bs (zF g a i.toNatClampNeg)) :: r.map (zv b bs)))
      rw [e1]
      exact kk H locs ls hA
    · cases hs
  · cases hs
theorem zs_arraylength {al : Nat × Nat} {call : Nat → List Value → zSg → Option zRs} {e0 : Nat} {out : zOut} (C : zCx p R s m args meth c D cy b bs Ln xs y) (hA : zAt s D cy b bs Ln xs y k sl H locs ls L g) (hd : decode (zby y) pc = .ok (.arraylength, 1)) (hs : zstep call al (e0, .arraylength, 1, ax) pc k sl L st g = some out) (kk : zTo p l e R s m args below meth c Q D cy b bs Ln xs y out) : zG p l e R s m args below meth c Q b bs H locs k sl pc ls st := by
  obtain ⟨⟨hx, hb, hml, hown, hret, hlocks, hname⟩, hts, hK, hN, hX, hfr, hlo, hal⟩ := C
  simp only [zstep] at hs
  unfold zr1 at hs
  split at hs
  · next a r =>
    dsimp only at hs
    split at hs
    · next hc =>
      cases hs
      show W p l e R s m args below meth c H locs k sl Q (F0 m pc ls (.ref (zad b bs a) :: r.map (zv b bs)))
      rcases hc with h | h
      · obtain ⟨h0, hn, hat⟩ := hA.2.1.at (i := a) (by omega)
        rw [zce_100 h] at hat
        rw [zad_pos h0]
        exact va_alen hx hb hK hA.2.1.2.1 (a - 1) 0 hat rfl rfl hd (kk H locs ls hA)
      · have h0 : a = 0 := by
          rcases Nat.eq_zero_or_pos a with q | q
          · exact q
          · exact absurd h (hA.2.1.2.2.2.2 a q)
        subst h0
        have h3 := hA.2.1.2.2.1
        show W p l e R s m args below meth c H locs k sl Q (F0 m pc ls (.ref b :: r.map (zv b bs)))
        refine va_slen hx hb hX.1 (Nat.lt_of_le_of_lt hX.2.1 hX.2.2) (fun q : bs < b => absurd hX.2.1 (Nat.not_le.mpr q)) hA.2.2.1 hd ?_
        rw [← h3.2.1]
        exact kk H locs ls hA
    · cases hs
  · cases hs
theorem zs_iastore {al : Nat × Nat} {call : Nat → List Value → zSg → Option zRs} {e0 : Nat} {out : zOut} (C : zCx p R s m args meth c D cy b bs Ln xs y) (hA : zAt s D cy b bs Ln xs y k sl H locs ls L g) (hd : decode (zby y) pc = .ok (.iastore, 1)) (hs : zstep call al (e0, .iastore, 1, ax) pc k sl L st g = some out) (kk : zTo p l e R s m args below meth c Q D cy b bs Ln xs y out) : zG p l e R s m args below meth c Q b bs H locs k sl pc ls st := by
  obtain ⟨⟨hx, hb, hml, hown, hret, hlocks, hname⟩, hts, hK, hN, hX, hfr, hlo, hal⟩ := C
  simp only [zstep] at hs
  split at hs
  · next x i a r =>
    split at hs
    · next hc =>
      cases hs
      show W p l e R s m args below meth c H locs k sl Q (F0 m pc ls (.int x :: .int i :: .ref (zad b bs a) :: r.map (zv b bs)))
      obtain ⟨h0, hn, hat⟩ := hA.2.1.at (i := a) (by omega)
      rw [zce_100 hc.1] at hat
      rw [zad_pos h0]
      refine va_iast hx hb hK hA.2.1.2.1 (zws_D cy bs g) hA.2.2.1 (a - 1) 0 hat rfl (zin_spec hc.2) hd (fun H1 locs1 hP1 _ hS1 => kk H1 locs1 ls ⟨hA.1, ?_, hS1, hA.2.2.2⟩)
      refine hA.2.1.put h0 rfl rfl rfl (va_up_ne _ _ (by omega)) ?_ (fun j hj => zce_congr rfl rfl (va_up_ne _ _ hj) rfl rfl) hP1
      rw [zce_100 (by exact hc.1)]
      simp [zA, zLn, va_up]
    · cases hs
  · cases hs
theorem zs_bastore {al : Nat × Nat} {call : Nat → List Value → zSg → Option zRs} {e0 : Nat} {out : zOut} (C : zCx p R s m args meth c D cy b bs Ln xs y) (hA : zAt s D cy b bs Ln xs y k sl H locs ls L g) (hd : decode (zby y) pc = .ok (.bastore, 1)) (hs : zstep call al (e0, .bastore, 1, ax) pc k sl L st g = some out) (kk : zTo p l e R s m args below meth c Q D cy b bs Ln xs y out) : zG p l e R s m args below meth c Q b bs H locs k sl pc ls st := by
  obtain ⟨⟨hx, hb, hml, hown, hret, hlocks, hname⟩, hts, hK, hN, hX, hfr, hlo, hal⟩ := C
  simp only [zstep] at hs
  split at hs
  · next x i a r =>
    split at hs
    · next hc =>
      cases hs
      show W p l e R s m args below meth c H locs k sl Q (F0 m pc ls (.int x :: .int i :: .ref (zad b bs a) :: r.map (zv b bs)))
      obtain ⟨h0, hn, hat⟩ := hA.2.1.at (i := a) (by omega)
      rw [zce_101 hc.1] at hat
      rw [zad_pos h0]
      refine va_zast hx hb hK hA.2.1.2.1 (zws_D cy bs g) hA.2.2.1 (a - 1) 1 hat rfl (zin_spec hc.2) hd (fun H1 locs1 hP1 _ hS1 => kk H1 locs1 ls ⟨hA.1, ?_, hS1, hA.2.2.2⟩)
      refine hA.2.1.put h0 rfl rfl rfl (va_up_ne _ _ (by omega)) ?_ (fun j hj => zce_congr rfl rfl (va_up_ne _ _ hj) rfl rfl) hP1
      rw [zce_101 (by exact hc.1)]
      simp [zA, zLn, va_up]
    · cases hs
  · cases hs
theorem zs_aastore {al : Nat × Nat} {call : Nat → List Value → zSg → Option zRs} {e0 : Nat} {out : zOut} (C : zCx p R s m args meth c D cy b bs Ln xs y) (hA : zAt s D cy b bs Ln xs y k sl H locs ls L g) (hd : decode (zby y) pc = .ok (.aastore, 1)) (hs : zstep call al (e0, .aastore, 1, ax) pc k sl L st g = some out) (kk : zTo p l e R s m args below meth c Q D cy b bs Ln xs y out) : zG p l e R s m args below meth c Q b bs H locs k sl pc ls st := by
  obtain ⟨⟨hx, hb, hml, hown, hret, hlocks, hname⟩, hts, hK, hN, hX, hfr, hlo, hal⟩ := C
  simp only [zstep] at hs
  split at hs
  · next v i a r =>
    split at hs
    · next hc =>
      cases hs
      show W p l e R s m args below meth c H locs k sl Q (F0 m pc ls (.ref (zad b bs v) :: .int i :: .ref (zad b bs a) :: r.map (zv b bs)))
      obtain ⟨h0, hn, hat⟩ := hA.2.1.at (i := a) (by omega)
      obtain ⟨v0, vn, vat⟩ := hA.2.1.at (i := v) (by omega)
      rw [zce_102 hc.1] at hat
      rw [zce_obj (by omega), hc.2.2] at vat
      rw [zad_pos h0, zad_pos v0]
      refine va_astq hx hb hK hA.2.1.2.1 (zws_D cy bs g) hA.2.2.1 (a - 1) 2 (v - 1) 4 (r := (RX4, TX4, 4)) hat rfl vat rfl (zin_spec hc.2.1) hd (fun H1 locs1 hP1 _ hS1 => kk H1 locs1 ls ⟨hA.1, ?_, hS1, hA.2.2.2⟩)
      refine hA.2.1.put h0 rfl rfl rfl rfl ?_ (fun j hj => zce_congr rfl rfl rfl (va_up_ne _ _ hj) rfl) hP1
      rw [zce_102 (by exact hc.1)]
      have e1 : (fun j => zor bs (zF (zN g, zC g, zLn g, va_up (zF g) a (va_up (zF g a) i.toNatClampNeg v), zI g, zA g) a j)) = va_up (fun j => zor bs (zF g a j)) i.toNatClampNeg (some (bs + v)) := by
        funext j
        by_cases hj : j = i.toNatClampNeg
        · subst hj
          have e2 : zF (zN g, zC g, zLn g, va_up (zF g) a (va_up (zF g a) i.toNatClampNeg v), zI g, zA g) a i.toNatClampNeg = v := by simp [zF, va_up]
          rw [e2, va_up_self]
          unfold zor
          rw [if_neg (by omega)]
        · simp [zF, va_up, hj]
      rw [e1]
    · cases hs
  · cases hs
end zS3

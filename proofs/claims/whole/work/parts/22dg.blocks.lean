/-! blocks, by program (wip/whole/gen_blk.py): 22d.front 6 -/
set_option maxRecDepth 100000 in
theorem B_X7_cell_r1_c2_16_s1 (Ln : Nat) (I A : Nat → Nat → Int32) (v2 : Int32) (v3 : Int32) (s0 : Int32) {r : zRs}  (kt : s0 ≠ 0 → zEv 69 23 0 0 [some (.ref 1), some (.int 2), some (.int v2), some (.int v3)] [] (zGs Ln I A) r) (kf : ¬ (s0 ≠ 0) → zEv 69 19 0 0 [some (.ref 1), some (.int 2), some (.int v2), some (.int v3)] [] (zGs Ln I A) r) : zEv 69 16 0 0 [some (.ref 1), some (.int 2), some (.int v2), some (.int v3)] [.int s0] (zGs Ln I A) r := 
  zEv.br0 (tgt := 23) rfl rfl (fun h => kt (of_decide_eq_true h)) (fun h => kf (of_decide_eq_false h))
set_option maxRecDepth 100000 in
theorem B_X7_cell_r1_c2_19 (Ln : Nat) (I A : Nat → Nat → Int32) (v2 : Int32) (v3 : Int32)   : zEv 69 19 0 0 [some (.ref 1), some (.int 2), some (.int v2), some (.int v3)] [] (zGs Ln I A) (some (.long ((-9223372036854775808))), zGs Ln (I) (A)) := 
  zEv.lift 1 (fun _ => by with_unfolding_all rfl) (show zEv 69 22 0 0 [some (.ref 1), some (.int 2), some (.int v2), some (.int v3)] [.long ((-9223372036854775808))] (zGs Ln I A) (some (.long ((-9223372036854775808))), zGs Ln (I) (A)) from zEv.ret rfl)
set_option maxRecDepth 100000 in
theorem B_X7_cell_r1_c2_23 (Ln : Nat) (I A : Nat → Nat → Int32) (v2 : Int32) (v3 : Int32) {r : zRs}  {q : zRs} (hc : zEv 24 0 0 0 [some (.ref 7), some (.int v3), some (.int v2), some (.int 1)] [] (zGs Ln I A) q) {w : Int32} (hn : q.1 = some (.int w)) (hk : zEv 69 36 0 0 [some (.ref 1), some (.int 2), some (.int v2), some (.int v3)] (.int w :: [.ref 1]) q.2 r) : zEv 69 23 0 0 [some (.ref 1), some (.int 2), some (.int v2), some (.int v3)] [] (zGs Ln I A) r := 
  zEv.lift 8 (fun _ => by with_unfolding_all rfl) (show zEv 69 33 0 0 [some (.ref 1), some (.int 2), some (.int v2), some (.int v3)] [.int 1, .int v2, .int v3, .ref 7, .ref 1] (zGs Ln I A) r from zEv.call (as := [.ref 7, .int v3, .int v2, .int 1]) rfl (fun _ => rfl) (Nat.le_of_ble_eq_true rfl) hc (by rw [hn]; exact hk))
set_option maxRecDepth 100000 in
theorem B_X7_cell_r1_c2_36_s2 (Ln : Nat) (I A : Nat → Nat → Int32) (v2 : Int32) (v3 : Int32) (s1 : Int32) {r : zRs}  (kt : s1 ≠ 0 → zEv 69 61 0 0 [some (.ref 1), some (.int 2), some (.int v2), some (.int v3)] [] (zGs Ln (zp I 1 11 s1) A) r) (kf : ¬ (s1 ≠ 0) → zEv 69 46 0 0 [some (.ref 1), some (.int 2), some (.int v2), some (.int v3)] [] (zGs Ln (zp I 1 11 s1) A) r) : zEv 69 36 0 0 [some (.ref 1), some (.int 2), some (.int v2), some (.int v3)] [.int s1, .ref 1] (zGs Ln I A) r := 
  zEv.lift 3 (fun _ => by with_unfolding_all rfl) (show zEv 69 43 0 0 [some (.ref 1), some (.int 2), some (.int v2), some (.int v3)] [.int s1] (zGs Ln (zp I 1 11 s1) A) r from zEv.br0 (tgt := 61) rfl rfl (fun h => kt (of_decide_eq_true h)) (fun h => kf (of_decide_eq_false h)))
set_option maxRecDepth 100000 in
theorem B_X7_cell_r1_c2_46 (Ln : Nat) (I A : Nat → Nat → Int32) (v2 : Int32) (v3 : Int32) {r : zRs} (h1 : zin v2 60 = true) (hk : zEv 69 64 0 0 [some (.ref 1), some (.int 2), some (.int v2), some (.int v3)] [.long (Int32.toInt64 (A 8 (v2).toNatClampNeg))] (zGs Ln I A) r) : zEv 69 46 0 0 [some (.ref 1), some (.int 2), some (.int v2), some (.int v3)] [] (zGs Ln I A) r := 
  zEv.lift 6 (fun _ => by with_unfolding_all rfl) (show zEv 69 56 0 0 [some (.ref 1), some (.int 2), some (.int v2), some (.int v3)] [.int v2, .ref 8] (zGs Ln I A) r from zEv.iald rfl (Or.inl rfl) h1 (show zEv 69 57 0 0 [some (.ref 1), some (.int 2), some (.int v2), some (.int v3)] [.int (A 8 (v2).toNatClampNeg)] (zGs Ln I A) r from zEv.lift 2 (fun _ => by with_unfolding_all rfl) (show zEv 69 64 0 0 [some (.ref 1), some (.int 2), some (.int v2), some (.int v3)] [.long (Int32.toInt64 (A 8 (v2).toNatClampNeg))] (zGs Ln I A) r from hk)))
set_option maxRecDepth 100000 in
theorem B_X7_cell_r1_c2_61 (Ln : Nat) (I A : Nat → Nat → Int32) (v2 : Int32) (v3 : Int32) {r : zRs}  (hk : zEv 69 64 0 0 [some (.ref 1), some (.int 2), some (.int v2), some (.int v3)] [.long ((-9223372036854775808))] (zGs Ln I A) r) : zEv 69 61 0 0 [some (.ref 1), some (.int 2), some (.int v2), some (.int v3)] [] (zGs Ln I A) r := 
  zEv.lift 1 (fun _ => by with_unfolding_all rfl) (show zEv 69 64 0 0 [some (.ref 1), some (.int 2), some (.int v2), some (.int v3)] [.long ((-9223372036854775808))] (zGs Ln I A) r from hk)
set_option maxRecDepth 100000 in
theorem B_X7_cell_r1_c2_64_s1 (Ln : Nat) (I A : Nat → Nat → Int32) (v2 : Int32) (v3 : Int32) (s0 : Int64)   : zEv 69 64 0 0 [some (.ref 1), some (.int 2), some (.int v2), some (.int v3)] [.long (s0)] (zGs Ln I A) (some (.long (s0)), zGs Ln (I) (A)) := 
  zEv.ret rfl
set_option maxRecDepth 100000 in
theorem B_X7_cell_r1_c3_0 (Ln : Nat) (I A : Nat → Nat → Int32) (v2 : Int32) (v3 : Int32) {r : zRs}  {q : zRs} (hc : zEv 80 0 0 0 [some (.int 3)] [] (zGs Ln (zp I 1 11 0) A) q) {w : Int32} (hn : q.1 = some (.int w)) (hk : zEv 69 9 0 0 [some (.ref 1), some (.int 3), some (.int v2), some (.int v3)] (.int w :: []) q.2 r) : zEv 69 0 0 0 [some (.ref 1), some (.int 3), some (.int v2), some (.int v3)] [] (zGs Ln I A) r := 
  zEv.lift 4 (fun _ => by with_unfolding_all rfl) (show zEv 69 6 0 0 [some (.ref 1), some (.int 3), some (.int v2), some (.int v3)] [.int 3] (zGs Ln (zp I 1 11 0) A) r from zEv.call (as := [.int 3]) rfl (fun _ => rfl) (Nat.le_of_ble_eq_true rfl) hc (by rw [hn]; exact hk))
set_option maxRecDepth 100000 in
theorem B_X7_cell_r1_c3_9_s1 (Ln : Nat) (I A : Nat → Nat → Int32) (v2 : Int32) (v3 : Int32) (s0 : Int32) {r : zRs}  (kt : s0 = 0 → zEv 69 19 0 0 [some (.ref 1), some (.int 3), some (.int v2), some (.int v3)] [] (zGs Ln I A) r) (kf : ¬ (s0 = 0) → zEv 69 12 0 0 [some (.ref 1), some (.int 3), some (.int v2), some (.int v3)] [] (zGs Ln I A) r) : zEv 69 9 0 0 [some (.ref 1), some (.int 3), some (.int v2), some (.int v3)] [.int s0] (zGs Ln I A) r := 
  zEv.br0 (tgt := 19) rfl rfl (fun h => kt (of_decide_eq_true h)) (fun h => kf (of_decide_eq_false h))
set_option maxRecDepth 100000 in
theorem B_X7_cell_r1_c3_12 (Ln : Nat) (I A : Nat → Nat → Int32) (v2 : Int32) (v3 : Int32) {r : zRs}  {q : zRs} (hc : zEv 81 0 0 0 [some (.int v3)] [] (zGs Ln I A) q) {w : Int32} (hn : q.1 = some (.int w)) (hk : zEv 69 16 0 0 [some (.ref 1), some (.int 3), some (.int v2), some (.int v3)] (.int w :: []) q.2 r) : zEv 69 12 0 0 [some (.ref 1), some (.int 3), some (.int v2), some (.int v3)] [] (zGs Ln I A) r := 
  zEv.lift 1 (fun _ => by with_unfolding_all rfl) (show zEv 69 13 0 0 [some (.ref 1), some (.int 3), some (.int v2), some (.int v3)] [.int v3] (zGs Ln I A) r from zEv.call (as := [.int v3]) rfl (fun _ => rfl) (Nat.le_of_ble_eq_true rfl) hc (by rw [hn]; exact hk))
set_option maxRecDepth 100000 in
theorem B_X7_cell_r1_c3_16_s1 (Ln : Nat) (I A : Nat → Nat → Int32) (v2 : Int32) (v3 : Int32) (s0 : Int32) {r : zRs}  (kt : s0 ≠ 0 → zEv 69 23 0 0 [some (.ref 1), some (.int 3), some (.int v2), some (.int v3)] [] (zGs Ln I A) r) (kf : ¬ (s0 ≠ 0) → zEv 69 19 0 0 [some (.ref 1), some (.int 3), some (.int v2), some (.int v3)] [] (zGs Ln I A) r) : zEv 69 16 0 0 [some (.ref 1), some (.int 3), some (.int v2), some (.int v3)] [.int s0] (zGs Ln I A) r := 
  zEv.br0 (tgt := 23) rfl rfl (fun h => kt (of_decide_eq_true h)) (fun h => kf (of_decide_eq_false h))
set_option maxRecDepth 100000 in
theorem B_X7_cell_r1_c3_19 (Ln : Nat) (I A : Nat → Nat → Int32) (v2 : Int32) (v3 : Int32)   : zEv 69 19 0 0 [some (.ref 1), some (.int 3), some (.int v2), some (.int v3)] [] (zGs Ln I A) (some (.long ((-9223372036854775808))), zGs Ln (I) (A)) := 
  zEv.lift 1 (fun _ => by with_unfolding_all rfl) (show zEv 69 22 0 0 [some (.ref 1), some (.int 3), some (.int v2), some (.int v3)] [.long ((-9223372036854775808))] (zGs Ln I A) (some (.long ((-9223372036854775808))), zGs Ln (I) (A)) from zEv.ret rfl)
set_option maxRecDepth 100000 in
theorem B_X7_cell_r1_c3_23 (Ln : Nat) (I A : Nat → Nat → Int32) (v2 : Int32) (v3 : Int32) {r : zRs}  {q : zRs} (hc : zEv 24 0 0 0 [some (.ref 9), some (.int v3), some (.int v2), some (.int 1)] [] (zGs Ln I A) q) {w : Int32} (hn : q.1 = some (.int w)) (hk : zEv 69 36 0 0 [some (.ref 1), some (.int 3), some (.int v2), some (.int v3)] (.int w :: [.ref 1]) q.2 r) : zEv 69 23 0 0 [some (.ref 1), some (.int 3), some (.int v2), some (.int v3)] [] (zGs Ln I A) r := 
  zEv.lift 8 (fun _ => by with_unfolding_all rfl) (show zEv 69 33 0 0 [some (.ref 1), some (.int 3), some (.int v2), some (.int v3)] [.int 1, .int v2, .int v3, .ref 9, .ref 1] (zGs Ln I A) r from zEv.call (as := [.ref 9, .int v3, .int v2, .int 1]) rfl (fun _ => rfl) (Nat.le_of_ble_eq_true rfl) hc (by rw [hn]; exact hk))
set_option maxRecDepth 100000 in
theorem B_X7_cell_r1_c3_36_s2 (Ln : Nat) (I A : Nat → Nat → Int32) (v2 : Int32) (v3 : Int32) (s1 : Int32) {r : zRs}  (kt : s1 ≠ 0 → zEv 69 61 0 0 [some (.ref 1), some (.int 3), some (.int v2), some (.int v3)] [] (zGs Ln (zp I 1 11 s1) A) r) (kf : ¬ (s1 ≠ 0) → zEv 69 46 0 0 [some (.ref 1), some (.int 3), some (.int v2), some (.int v3)] [] (zGs Ln (zp I 1 11 s1) A) r) : zEv 69 36 0 0 [some (.ref 1), some (.int 3), some (.int v2), some (.int v3)] [.int s1, .ref 1] (zGs Ln I A) r := 
  zEv.lift 3 (fun _ => by with_unfolding_all rfl) (show zEv 69 43 0 0 [some (.ref 1), some (.int 3), some (.int v2), some (.int v3)] [.int s1] (zGs Ln (zp I 1 11 s1) A) r from zEv.br0 (tgt := 61) rfl rfl (fun h => kt (of_decide_eq_true h)) (fun h => kf (of_decide_eq_false h)))
set_option maxRecDepth 100000 in
theorem B_X7_cell_r1_c3_46 (Ln : Nat) (I A : Nat → Nat → Int32) (v2 : Int32) (v3 : Int32) {r : zRs} (h1 : zin v2 60 = true) (hk : zEv 69 64 0 0 [some (.ref 1), some (.int 3), some (.int v2), some (.int v3)] [.long (Int32.toInt64 (A 10 (v2).toNatClampNeg))] (zGs Ln I A) r) : zEv 69 46 0 0 [some (.ref 1), some (.int 3), some (.int v2), some (.int v3)] [] (zGs Ln I A) r := 
  zEv.lift 6 (fun _ => by with_unfolding_all rfl) (show zEv 69 56 0 0 [some (.ref 1), some (.int 3), some (.int v2), some (.int v3)] [.int v2, .ref 10] (zGs Ln I A) r from zEv.iald rfl (Or.inl rfl) h1 (show zEv 69 57 0 0 [some (.ref 1), some (.int 3), some (.int v2), some (.int v3)] [.int (A 10 (v2).toNatClampNeg)] (zGs Ln I A) r from zEv.lift 2 (fun _ => by with_unfolding_all rfl) (show zEv 69 64 0 0 [some (.ref 1), some (.int 3), some (.int v2), some (.int v3)] [.long (Int32.toInt64 (A 10 (v2).toNatClampNeg))] (zGs Ln I A) r from hk)))
set_option maxRecDepth 100000 in
theorem B_X7_cell_r1_c3_61 (Ln : Nat) (I A : Nat → Nat → Int32) (v2 : Int32) (v3 : Int32) {r : zRs}  (hk : zEv 69 64 0 0 [some (.ref 1), some (.int 3), some (.int v2), some (.int v3)] [.long ((-9223372036854775808))] (zGs Ln I A) r) : zEv 69 61 0 0 [some (.ref 1), some (.int 3), some (.int v2), some (.int v3)] [] (zGs Ln I A) r := 
  zEv.lift 1 (fun _ => by with_unfolding_all rfl) (show zEv 69 64 0 0 [some (.ref 1), some (.int 3), some (.int v2), some (.int v3)] [.long ((-9223372036854775808))] (zGs Ln I A) r from hk)
set_option maxRecDepth 100000 in
theorem B_X7_cell_r1_c3_64_s1 (Ln : Nat) (I A : Nat → Nat → Int32) (v2 : Int32) (v3 : Int32) (s0 : Int64)   : zEv 69 64 0 0 [some (.ref 1), some (.int 3), some (.int v2), some (.int v3)] [.long (s0)] (zGs Ln I A) (some (.long (s0)), zGs Ln (I) (A)) := 
  zEv.ret rfl
set_option maxRecDepth 100000 in
theorem B_X7_tell_r1_0 (Ln : Nat) (I A : Nat → Nat → Int32) (v1 : Int32) {r : zRs}  {q : zRs} (hc : zEv 78 0 0 0 [some (.ref 1), some (.int v1)] [] (zGs Ln I A) q) {w : Int32} (hn : q.1 = some (.int w)) (hk : zEv 71 5 0 0 [some (.ref 1), some (.int v1)] (.int w :: []) q.2 r) : zEv 71 0 0 0 [some (.ref 1), some (.int v1)] [] (zGs Ln I A) r := 
  zEv.lift 2 (fun _ => by with_unfolding_all rfl) (show zEv 71 2 0 0 [some (.ref 1), some (.int v1)] [.int v1, .ref 1] (zGs Ln I A) r from zEv.call (as := [.ref 1, .int v1]) rfl (fun _ => rfl) (Nat.le_of_ble_eq_true rfl) hc (by rw [hn]; exact hk))
set_option maxRecDepth 100000 in
theorem B_X7_tell_r1_5_s1 (Ln : Nat) (I A : Nat → Nat → Int32) (v1 : Int32) (s0 : Int32) {r : zRs}  (kt : s0 ≠ 0 → zEv 71 10 0 0 [some (.ref 1), some (.int v1)] [] (zGs Ln I A) r) (kf : ¬ (s0 ≠ 0) → zEv 71 8 0 0 [some (.ref 1), some (.int v1)] [] (zGs Ln I A) r) : zEv 71 5 0 0 [some (.ref 1), some (.int v1)] [.int s0] (zGs Ln I A) r := 
  zEv.br0 (tgt := 10) rfl rfl (fun h => kt (of_decide_eq_true h)) (fun h => kf (of_decide_eq_false h))
set_option maxRecDepth 100000 in
theorem B_X7_tell_r1_8 (Ln : Nat) (I A : Nat → Nat → Int32) (v1 : Int32)   : zEv 71 8 0 0 [some (.ref 1), some (.int v1)] [] (zGs Ln I A) (some (.int ((-1))), zGs Ln (I) (A)) := 
  zEv.lift 1 (fun _ => by with_unfolding_all rfl) (show zEv 71 9 0 0 [some (.ref 1), some (.int v1)] [.int ((-1))] (zGs Ln I A) (some (.int ((-1))), zGs Ln (I) (A)) from zEv.ret rfl)
set_option maxRecDepth 100000 in
theorem B_X7_tell_r1_10 (Ln : Nat) (I A : Nat → Nat → Int32) (v1 : Int32) {r : zRs} (h1 : zin v1 6 = true) (k0 : (A 12 (v1).toNatClampNeg : Int32).toInt = 1 → zEv 71 50 0 0 [some (.ref 1), some (.int v1)] [] (zGs Ln I A) r) (k1 : (A 12 (v1).toNatClampNeg : Int32).toInt = 2 → zEv 71 44 0 0 [some (.ref 1), some (.int v1)] [] (zGs Ln I A) r) (kd : ¬ (A 12 (v1).toNatClampNeg : Int32).toInt = 1 → ¬ (A 12 (v1).toNatClampNeg : Int32).toInt = 2 → zEv 71 56 0 0 [some (.ref 1), some (.int v1)] [] (zGs Ln I A) r) : zEv 71 10 0 0 [some (.ref 1), some (.int v1)] [] (zGs Ln I A) r := 
  zEv.lift 4 (fun _ => by with_unfolding_all rfl) (show zEv 71 18 0 0 [some (.ref 1), some (.int v1)] [.int v1, .ref 12] (zGs Ln I A) r from zEv.iald rfl (Or.inl rfl) h1 (show zEv 71 19 0 0 [some (.ref 1), some (.int v1)] [.int (A 12 (v1).toNatClampNeg)] (zGs Ln I A) r from (by
    by_cases c0 : (A 12 (v1).toNatClampNeg : Int32).toInt = 1
    · exact zEv.swl (off := 31) (tgt := 50) rfl (by simp [zsw, zkeys, c0]) rfl (k0 c0)
    · by_cases c1 : (A 12 (v1).toNatClampNeg : Int32).toInt = 2
      · exact zEv.swl (off := 25) (tgt := 44) rfl (by simp [zsw, zkeys, c1]) rfl (k1 c1)
      · exact zEv.swl (off := 37) (tgt := 56) rfl (by simp [zsw, zkeys, c0, c1]) rfl (kd c0 c1))))
set_option maxRecDepth 100000 in
theorem B_X7_tell_r1_44 (Ln : Nat) (I A : Nat → Nat → Int32) (v1 : Int32) {r : zRs}  {q : zRs} (hc : zEv 90 0 0 0 [some (.ref 1), some (.int v1), none] [] (zGs Ln I A) q) {w : Int32} (hn : q.1 = some (.int w)) (hk : zEv 71 49 0 0 [some (.ref 1), some (.int v1)] (.int w :: []) q.2 r) : zEv 71 44 0 0 [some (.ref 1), some (.int v1)] [] (zGs Ln I A) r := 
  zEv.lift 2 (fun _ => by with_unfolding_all rfl) (show zEv 71 46 0 0 [some (.ref 1), some (.int v1)] [.int v1, .ref 1] (zGs Ln I A) r from zEv.call (as := [.ref 1, .int v1]) rfl (fun _ => rfl) (Nat.le_of_ble_eq_true rfl) hc (by rw [hn]; exact hk))
set_option maxRecDepth 100000 in
theorem B_X7_tell_r1_49_s1 (Ln : Nat) (I A : Nat → Nat → Int32) (v1 : Int32) (s0 : Int32)   : zEv 71 49 0 0 [some (.ref 1), some (.int v1)] [.int s0] (zGs Ln I A) (some (.int s0), zGs Ln (I) (A)) := 
  zEv.ret rfl
set_option maxRecDepth 100000 in
theorem B_X7_tell_r1_50 (Ln : Nat) (I A : Nat → Nat → Int32) (v1 : Int32) {r : zRs}  {q : zRs} (hc : zEv 89 0 0 0 [some (.ref 1), some (.int v1)] [] (zGs Ln I A) q) {w : Int32} (hn : q.1 = some (.int w)) (hk : zEv 71 55 0 0 [some (.ref 1), some (.int v1)] (.int w :: []) q.2 r) : zEv 71 50 0 0 [some (.ref 1), some (.int v1)] [] (zGs Ln I A) r := 
  zEv.lift 2 (fun _ => by with_unfolding_all rfl) (show zEv 71 52 0 0 [some (.ref 1), some (.int v1)] [.int v1, .ref 1] (zGs Ln I A) r from zEv.call (as := [.ref 1, .int v1]) rfl (fun _ => rfl) (Nat.le_of_ble_eq_true rfl) hc (by rw [hn]; exact hk))
set_option maxRecDepth 100000 in
theorem B_X7_tell_r1_55_s1 (Ln : Nat) (I A : Nat → Nat → Int32) (v1 : Int32) (s0 : Int32)   : zEv 71 55 0 0 [some (.ref 1), some (.int v1)] [.int s0] (zGs Ln I A) (some (.int s0), zGs Ln (I) (A)) := 
  zEv.ret rfl
set_option maxRecDepth 100000 in
theorem B_X7_tell_r1_56 (Ln : Nat) (I A : Nat → Nat → Int32) (v1 : Int32) {r : zRs}  {q : zRs} (hc : zEv 88 0 0 0 [some (.ref 1), some (.int v1)] [] (zGs Ln I A) q) {w : Int32} (hn : q.1 = some (.int w)) (hk : zEv 71 61 0 0 [some (.ref 1), some (.int v1)] (.int w :: []) q.2 r) : zEv 71 56 0 0 [some (.ref 1), some (.int v1)] [] (zGs Ln I A) r := 
  zEv.lift 2 (fun _ => by with_unfolding_all rfl) (show zEv 71 58 0 0 [some (.ref 1), some (.int v1)] [.int v1, .ref 1] (zGs Ln I A) r from zEv.call (as := [.ref 1, .int v1]) rfl (fun _ => rfl) (Nat.le_of_ble_eq_true rfl) hc (by rw [hn]; exact hk))
set_option maxRecDepth 100000 in
theorem B_X7_tell_r1_61_s1 (Ln : Nat) (I A : Nat → Nat → Int32) (v1 : Int32) (s0 : Int32)   : zEv 71 61 0 0 [some (.ref 1), some (.int v1)] [.int s0] (zGs Ln I A) (some (.int s0), zGs Ln (I) (A)) := 
  zEv.ret rfl
set_option maxRecDepth 100000 in
theorem B_X7_hail_r1_0 (Ln : Nat) (I A : Nat → Nat → Int32) (v1 : Int32) {r : zRs}  {q : zRs} (hc : zEv 78 0 0 0 [some (.ref 1), some (.int v1)] [] (zGs Ln I A) q) {w : Int32} (hn : q.1 = some (.int w)) (hk : zEv 72 5 0 0 [some (.ref 1), some (.int v1)] (.int w :: []) q.2 r) : zEv 72 0 0 0 [some (.ref 1), some (.int v1)] [] (zGs Ln I A) r := 
  zEv.lift 2 (fun _ => by with_unfolding_all rfl) (show zEv 72 2 0 0 [some (.ref 1), some (.int v1)] [.int v1, .ref 1] (zGs Ln I A) r from zEv.call (as := [.ref 1, .int v1]) rfl (fun _ => rfl) (Nat.le_of_ble_eq_true rfl) hc (by rw [hn]; exact hk))
set_option maxRecDepth 100000 in
theorem B_X7_hail_r1_5_s1 (Ln : Nat) (I A : Nat → Nat → Int32) (v1 : Int32) (s0 : Int32) {r : zRs}  (kt : s0 ≠ 0 → zEv 72 10 0 0 [some (.ref 1), some (.int v1)] [] (zGs Ln I A) r) (kf : ¬ (s0 ≠ 0) → zEv 72 8 0 0 [some (.ref 1), some (.int v1)] [] (zGs Ln I A) r) : zEv 72 5 0 0 [some (.ref 1), some (.int v1)] [.int s0] (zGs Ln I A) r := 
  zEv.br0 (tgt := 10) rfl rfl (fun h => kt (of_decide_eq_true h)) (fun h => kf (of_decide_eq_false h))
set_option maxRecDepth 100000 in
theorem B_X7_hail_r1_8 (Ln : Nat) (I A : Nat → Nat → Int32) (v1 : Int32)   : zEv 72 8 0 0 [some (.ref 1), some (.int v1)] [] (zGs Ln I A) (some (.int ((-1))), zGs Ln (I) (A)) := 
  zEv.lift 1 (fun _ => by with_unfolding_all rfl) (show zEv 72 9 0 0 [some (.ref 1), some (.int v1)] [.int ((-1))] (zGs Ln I A) (some (.int ((-1))), zGs Ln (I) (A)) from zEv.ret rfl)
set_option maxRecDepth 100000 in
theorem B_X7_hail_r1_10 (Ln : Nat) (I A : Nat → Nat → Int32) (v1 : Int32) {r : zRs} (h1 : zin v1 6 = true) (kt : (A 12 (v1).toNatClampNeg) ≠ 2 → zEv 72 30 0 0 [some (.ref 1), some (.int v1)] [] (zGs Ln I A) r) (kf : ¬ ((A 12 (v1).toNatClampNeg) ≠ 2) → zEv 72 23 0 0 [some (.ref 1), some (.int v1)] [] (zGs Ln I A) r) : zEv 72 10 0 0 [some (.ref 1), some (.int v1)] [] (zGs Ln I A) r := 
  zEv.lift 4 (fun _ => by with_unfolding_all rfl) (show zEv 72 18 0 0 [some (.ref 1), some (.int v1)] [.int v1, .ref 12] (zGs Ln I A) r from zEv.iald rfl (Or.inl rfl) h1 (show zEv 72 19 0 0 [some (.ref 1), some (.int v1)] [.int (A 12 (v1).toNatClampNeg)] (zGs Ln I A) r from zEv.lift 1 (fun _ => by with_unfolding_all rfl) (show zEv 72 20 0 0 [some (.ref 1), some (.int v1)] [.int 2, .int (A 12 (v1).toNatClampNeg)] (zGs Ln I A) r from zEv.br (tgt := 30) rfl rfl (fun h => kt (of_decide_eq_true h)) (fun h => kf (of_decide_eq_false h)))))
set_option maxRecDepth 100000 in
theorem B_X7_hail_r1_23 (Ln : Nat) (I A : Nat → Nat → Int32) (v1 : Int32) {r : zRs}  {q : zRs} (hc : zEv 92 0 0 0 [some (.ref 1)] [] (zGs Ln I A) q) {w : Int32} (hn : q.1 = some (.int w)) (hk : zEv 72 27 0 0 [some (.ref 1), some (.int v1)] (.int w :: []) q.2 r) : zEv 72 23 0 0 [some (.ref 1), some (.int v1)] [] (zGs Ln I A) r := 
  zEv.lift 1 (fun _ => by with_unfolding_all rfl) (show zEv 72 24 0 0 [some (.ref 1), some (.int v1)] [.ref 1] (zGs Ln I A) r from zEv.call (as := [.ref 1]) rfl (fun _ => rfl) (Nat.le_of_ble_eq_true rfl) hc (by rw [hn]; exact hk))
set_option maxRecDepth 100000 in
theorem B_X7_hail_r1_27_s1 (Ln : Nat) (I A : Nat → Nat → Int32) (v1 : Int32) (s0 : Int32) {r : zRs}  (hk : zEv 72 35 0 0 [some (.ref 1), some (.int v1)] [.int s0] (zGs Ln I A) r) : zEv 72 27 0 0 [some (.ref 1), some (.int v1)] [.int s0] (zGs Ln I A) r := 
  zEv.lift 1 (fun _ => by with_unfolding_all rfl) (show zEv 72 35 0 0 [some (.ref 1), some (.int v1)] [.int s0] (zGs Ln I A) r from hk)
set_option maxRecDepth 100000 in
theorem B_X7_hail_r1_30 (Ln : Nat) (I A : Nat → Nat → Int32) (v1 : Int32) {r : zRs}  {q : zRs} (hc : zEv 91 0 0 0 [some (.ref 1), some (.int v1)] [] (zGs Ln I A) q) {w : Int32} (hn : q.1 = some (.int w)) (hk : zEv 72 35 0 0 [some (.ref 1), some (.int v1)] (.int w :: []) q.2 r) : zEv 72 30 0 0 [some (.ref 1), some (.int v1)] [] (zGs Ln I A) r := 
  zEv.lift 2 (fun _ => by with_unfolding_all rfl) (show zEv 72 32 0 0 [some (.ref 1), some (.int v1)] [.int v1, .ref 1] (zGs Ln I A) r from zEv.call (as := [.ref 1, .int v1]) rfl (fun _ => rfl) (Nat.le_of_ble_eq_true rfl) hc (by rw [hn]; exact hk))
set_option maxRecDepth 100000 in
theorem B_X7_hail_r1_35_s1 (Ln : Nat) (I A : Nat → Nat → Int32) (v1 : Int32) (s0 : Int32)   : zEv 72 35 0 0 [some (.ref 1), some (.int v1)] [.int s0] (zGs Ln I A) (some (.int s0), zGs Ln (I) (A)) := 
  zEv.ret rfl
set_option maxRecDepth 100000 in
theorem B_X7_as_r1_0 (Ln : Nat) (I A : Nat → Nat → Int32) (v1 : Int32) (v2 : Int32) {r : zRs}  {q : zRs} (hc : zEv 78 0 0 0 [some (.ref 1), some (.int v1)] [] (zGs Ln I A) q) {w : Int32} (hn : q.1 = some (.int w)) (hk : zEv 73 5 0 0 [some (.ref 1), some (.int v1), some (.int v2)] (.int w :: []) q.2 r) : zEv 73 0 0 0 [some (.ref 1), some (.int v1), some (.int v2)] [] (zGs Ln I A) r := 
  zEv.lift 2 (fun _ => by with_unfolding_all rfl) (show zEv 73 2 0 0 [some (.ref 1), some (.int v1), some (.int v2)] [.int v1, .ref 1] (zGs Ln I A) r from zEv.call (as := [.ref 1, .int v1]) rfl (fun _ => rfl) (Nat.le_of_ble_eq_true rfl) hc (by rw [hn]; exact hk))
set_option maxRecDepth 100000 in
theorem B_X7_as_r1_5_s1 (Ln : Nat) (I A : Nat → Nat → Int32) (v1 : Int32) (v2 : Int32) (s0 : Int32) {r : zRs}  (kt : s0 ≠ 0 → zEv 73 14 0 0 [some (.ref 1), some (.int v1), some (.int v2)] [] (zGs Ln I A) r) (kf : ¬ (s0 ≠ 0) → zEv 73 8 0 0 [some (.ref 1), some (.int v1), some (.int v2)] [] (zGs Ln I A) r) : zEv 73 5 0 0 [some (.ref 1), some (.int v1), some (.int v2)] [.int s0] (zGs Ln I A) r := 
  zEv.br0 (tgt := 14) rfl rfl (fun h => kt (of_decide_eq_true h)) (fun h => kf (of_decide_eq_false h))
set_option maxRecDepth 100000 in
theorem B_X7_as_r1_8 (Ln : Nat) (I A : Nat → Nat → Int32) (v1 : Int32) (v2 : Int32) {r : zRs}  {q : zRs} (hc : zEv 82 0 0 0 [some (.ref 1), some (.int ((-1)))] [] (zGs Ln I A) q) {w : Int32} (hn : q.1 = some (.int w)) (hk : zEv 73 13 0 0 [some (.ref 1), some (.int v1), some (.int v2)] (.int w :: []) q.2 r) : zEv 73 8 0 0 [some (.ref 1), some (.int v1), some (.int v2)] [] (zGs Ln I A) r := 
  zEv.lift 2 (fun _ => by with_unfolding_all rfl) (show zEv 73 10 0 0 [some (.ref 1), some (.int v1), some (.int v2)] [.int ((-1)), .ref 1] (zGs Ln I A) r from zEv.call (as := [.ref 1, .int ((-1))]) rfl (fun _ => rfl) (Nat.le_of_ble_eq_true rfl) hc (by rw [hn]; exact hk))
set_option maxRecDepth 100000 in
theorem B_X7_as_r1_13_s1 (Ln : Nat) (I A : Nat → Nat → Int32) (v1 : Int32) (v2 : Int32) (s0 : Int32)   : zEv 73 13 0 0 [some (.ref 1), some (.int v1), some (.int v2)] [.int s0] (zGs Ln I A) (some (.int s0), zGs Ln (I) (A)) := 
  zEv.ret rfl
set_option maxRecDepth 100000 in
theorem B_X7_as_r1_14 (Ln : Nat) (I A : Nat → Nat → Int32) (v1 : Int32) (v2 : Int32) {r : zRs}  (kt : v2 < 0 → zEv 73 23 0 0 [some (.ref 1), some (.int v1), some (.int v2)] [] (zGs Ln I A) r) (kf : ¬ (v2 < 0) → zEv 73 18 0 0 [some (.ref 1), some (.int v1), some (.int v2)] [] (zGs Ln I A) r) : zEv 73 14 0 0 [some (.ref 1), some (.int v1), some (.int v2)] [] (zGs Ln I A) r := 
  zEv.lift 1 (fun _ => by with_unfolding_all rfl) (show zEv 73 15 0 0 [some (.ref 1), some (.int v1), some (.int v2)] [.int v2] (zGs Ln I A) r from zEv.br0 (tgt := 23) rfl rfl (fun h => kt (of_decide_eq_true h)) (fun h => kf (of_decide_eq_false h)))
set_option maxRecDepth 100000 in
theorem B_X7_as_r1_18 (Ln : Nat) (I A : Nat → Nat → Int32) (v1 : Int32) (v2 : Int32) {r : zRs}  (kt : v2 < 3 → zEv 73 30 0 0 [some (.ref 1), some (.int v1), some (.int v2)] [] (zGs Ln I A) r) (kf : ¬ (v2 < 3) → zEv 73 23 0 0 [some (.ref 1), some (.int v1), some (.int v2)] [] (zGs Ln I A) r) : zEv 73 18 0 0 [some (.ref 1), some (.int v1), some (.int v2)] [] (zGs Ln I A) r := 
  zEv.lift 2 (fun _ => by with_unfolding_all rfl) (show zEv 73 20 0 0 [some (.ref 1), some (.int v1), some (.int v2)] [.int 3, .int v2] (zGs Ln I A) r from zEv.br (tgt := 30) rfl rfl (fun h => kt (of_decide_eq_true h)) (fun h => kf (of_decide_eq_false h)))
set_option maxRecDepth 100000 in
theorem B_X7_as_r1_23 (Ln : Nat) (I A : Nat → Nat → Int32) (v1 : Int32) (v2 : Int32) {r : zRs}  {q : zRs} (hc : zEv 82 0 0 0 [some (.ref 1), some (.int ((-2)))] [] (zGs Ln I A) q) {w : Int32} (hn : q.1 = some (.int w)) (hk : zEv 73 29 0 0 [some (.ref 1), some (.int v1), some (.int v2)] (.int w :: []) q.2 r) : zEv 73 23 0 0 [some (.ref 1), some (.int v1), some (.int v2)] [] (zGs Ln I A) r := 
  zEv.lift 2 (fun _ => by with_unfolding_all rfl) (show zEv 73 26 0 0 [some (.ref 1), some (.int v1), some (.int v2)] [.int ((-2)), .ref 1] (zGs Ln I A) r from zEv.call (as := [.ref 1, .int ((-2))]) rfl (fun _ => rfl) (Nat.le_of_ble_eq_true rfl) hc (by rw [hn]; exact hk))
set_option maxRecDepth 100000 in
theorem B_X7_as_r1_29_s1 (Ln : Nat) (I A : Nat → Nat → Int32) (v1 : Int32) (v2 : Int32) (s0 : Int32)   : zEv 73 29 0 0 [some (.ref 1), some (.int v1), some (.int v2)] [.int s0] (zGs Ln I A) (some (.int s0), zGs Ln (I) (A)) := 
  zEv.ret rfl
set_option maxRecDepth 100000 in
theorem B_X7_as_r1_30 (Ln : Nat) (I A : Nat → Nat → Int32) (v1 : Int32) (v2 : Int32) {r : zRs} (h1 : zin v1 6 = true) (kt : v2 ≤ (A 12 (v1).toNatClampNeg) → zEv 73 51 0 0 [some (.ref 1), some (.int v1), some (.int v2)] [] (zGs Ln I A) r) (kf : ¬ (v2 ≤ (A 12 (v1).toNatClampNeg)) → zEv 73 43 0 0 [some (.ref 1), some (.int v1), some (.int v2)] [] (zGs Ln I A) r) : zEv 73 30 0 0 [some (.ref 1), some (.int v1), some (.int v2)] [] (zGs Ln I A) r := 
  zEv.lift 4 (fun _ => by with_unfolding_all rfl) (show zEv 73 38 0 0 [some (.ref 1), some (.int v1), some (.int v2)] [.int v1, .ref 12] (zGs Ln I A) r from zEv.iald rfl (Or.inl rfl) h1 (show zEv 73 39 0 0 [some (.ref 1), some (.int v1), some (.int v2)] [.int (A 12 (v1).toNatClampNeg)] (zGs Ln I A) r from zEv.lift 1 (fun _ => by with_unfolding_all rfl) (show zEv 73 40 0 0 [some (.ref 1), some (.int v1), some (.int v2)] [.int v2, .int (A 12 (v1).toNatClampNeg)] (zGs Ln I A) r from zEv.br (tgt := 51) rfl rfl (fun h => kt (of_decide_eq_true h)) (fun h => kf (of_decide_eq_false h)))))
set_option maxRecDepth 100000 in
theorem B_X7_as_r1_43 (Ln : Nat) (I A : Nat → Nat → Int32) (v1 : Int32) (v2 : Int32) {r : zRs}  {q : zRs} (hc : zEv 83 0 0 0 [some (.ref 1), some (.int 2)] [] (zGs Ln I A) q) {w : Int32} (hn : q.1 = some (.int w)) (hk : zEv 73 48 0 0 [some (.ref 1), some (.int v1), some (.int v2)] (.int w :: []) q.2 r) : zEv 73 43 0 0 [some (.ref 1), some (.int v1), some (.int v2)] [] (zGs Ln I A) r := 
  zEv.lift 2 (fun _ => by with_unfolding_all rfl) (show zEv 73 45 0 0 [some (.ref 1), some (.int v1), some (.int v2)] [.int 2, .ref 1] (zGs Ln I A) r from zEv.call (as := [.ref 1, .int 2]) rfl (fun _ => rfl) (Nat.le_of_ble_eq_true rfl) hc (by rw [hn]; exact hk))
set_option maxRecDepth 100000 in
theorem B_X7_as_r1_48_s1 (Ln : Nat) (I A : Nat → Nat → Int32) (v1 : Int32) (v2 : Int32) (s0 : Int32) {r : zRs}  (hk : zEv 73 56 0 0 [some (.ref 1), some (.int v1), some (.int v2)] [.int s0] (zGs Ln I A) r) : zEv 73 48 0 0 [some (.ref 1), some (.int v1), some (.int v2)] [.int s0] (zGs Ln I A) r := 
  zEv.lift 1 (fun _ => by with_unfolding_all rfl) (show zEv 73 56 0 0 [some (.ref 1), some (.int v1), some (.int v2)] [.int s0] (zGs Ln I A) r from hk)
set_option maxRecDepth 100000 in
theorem B_X7_as_r1_51 (Ln : Nat) (I A : Nat → Nat → Int32) (v1 : Int32) (v2 : Int32) {r : zRs}  {q : zRs} (hc : zEv 82 0 0 0 [some (.ref 1), some (.int 1)] [] (zGs Ln I A) q) {w : Int32} (hn : q.1 = some (.int w)) (hk : zEv 73 56 0 0 [some (.ref 1), some (.int v1), some (.int v2)] (.int w :: []) q.2 r) : zEv 73 51 0 0 [some (.ref 1), some (.int v1), some (.int v2)] [] (zGs Ln I A) r := 
  zEv.lift 2 (fun _ => by with_unfolding_all rfl) (show zEv 73 53 0 0 [some (.ref 1), some (.int v1), some (.int v2)] [.int 1, .ref 1] (zGs Ln I A) r from zEv.call (as := [.ref 1, .int 1]) rfl (fun _ => rfl) (Nat.le_of_ble_eq_true rfl) hc (by rw [hn]; exact hk))
set_option maxRecDepth 100000 in
theorem B_X7_as_r1_56_s1 (Ln : Nat) (I A : Nat → Nat → Int32) (v1 : Int32) (v2 : Int32) (s0 : Int32)   : zEv 73 56 0 0 [some (.ref 1), some (.int v1), some (.int v2)] [.int s0] (zGs Ln I A) (some (.int s0), zGs Ln (I) (A)) := 
  zEv.ret rfl
set_option maxRecDepth 100000 in
theorem B_X7_trace_r1_0 (Ln : Nat) (I A : Nat → Nat → Int32)    : zEv 74 0 0 0 [some (.ref 1)] [] (zGs Ln I A) (some (.int (I 1 10)), zGs Ln (I) (A)) := 
  zEv.lift 2 (fun _ => by with_unfolding_all rfl) (show zEv 74 4 0 0 [some (.ref 1)] [.int (I 1 10)] (zGs Ln I A) (some (.int (I 1 10)), zGs Ln (I) (A)) from zEv.ret rfl)
set_option maxRecDepth 100000 in
theorem B_X7_fault_r1_0 (Ln : Nat) (I A : Nat → Nat → Int32)    : zEv 75 0 0 0 [some (.ref 1)] [] (zGs Ln I A) (some (.int (I 1 11)), zGs Ln (I) (A)) := 
  zEv.lift 2 (fun _ => by with_unfolding_all rfl) (show zEv 75 4 0 0 [some (.ref 1)] [.int (I 1 11)] (zGs Ln I A) (some (.int (I 1 11)), zGs Ln (I) (A)) from zEv.ret rfl)
set_option maxRecDepth 100000 in
theorem B_X7_many_r1_0 (Ln : Nat) (I A : Nat → Nat → Int32) (v1 : Int32) {r : zRs}  (k0 : (v1 : Int32).toInt = 0 → zEv 76 44 0 0 [some (.ref 1), some (.int v1)] [] (zGs Ln I A) r) (k1 : (v1 : Int32).toInt = 1 → zEv 76 52 0 0 [some (.ref 1), some (.int v1)] [] (zGs Ln I A) r) (k2 : (v1 : Int32).toInt = 2 → zEv 76 60 0 0 [some (.ref 1), some (.int v1)] [] (zGs Ln I A) r) (k3 : (v1 : Int32).toInt = 3 → zEv 76 68 0 0 [some (.ref 1), some (.int v1)] [] (zGs Ln I A) r) (k4 : (v1 : Int32).toInt = 4 → zEv 76 76 0 0 [some (.ref 1), some (.int v1)] [] (zGs Ln I A) r) (k5 : (v1 : Int32).toInt = 5 → zEv 76 84 0 0 [some (.ref 1), some (.int v1)] [] (zGs Ln I A) r) (k6 : (v1 : Int32).toInt = 6 → zEv 76 92 0 0 [some (.ref 1), some (.int v1)] [] (zGs Ln I A) r) (kd : ¬ (v1 : Int32).toInt = 0 → ¬ (v1 : Int32).toInt = 1 → ¬ (v1 : Int32).toInt = 2 → ¬ (v1 : Int32).toInt = 3 → ¬ (v1 : Int32).toInt = 4 → ¬ (v1 : Int32).toInt = 5 → ¬ (v1 : Int32).toInt = 6 → zEv 76 97 0 0 [some (.ref 1), some (.int v1)] [] (zGs Ln I A) r) : zEv 76 0 0 0 [some (.ref 1), some (.int v1)] [] (zGs Ln I A) r := 
  zEv.lift 1 (fun _ => by with_unfolding_all rfl) (show zEv 76 1 0 0 [some (.ref 1), some (.int v1)] [.int v1] (zGs Ln I A) r from (by
    by_cases c0 : (v1 : Int32).toInt = 0
    · exact zEv.swt (off := 43) (tgt := 44) rfl (by simp [zsw, zkeys, c0]) rfl (k0 c0)
    · by_cases c1 : (v1 : Int32).toInt = 1
      · exact zEv.swt (off := 51) (tgt := 52) rfl (by simp [zsw, zkeys, c1]) rfl (k1 c1)
      · by_cases c2 : (v1 : Int32).toInt = 2
        · exact zEv.swt (off := 59) (tgt := 60) rfl (by simp [zsw, zkeys, c2]) rfl (k2 c2)
        · by_cases c3 : (v1 : Int32).toInt = 3
          · exact zEv.swt (off := 67) (tgt := 68) rfl (by simp [zsw, zkeys, c3]) rfl (k3 c3)
          · by_cases c4 : (v1 : Int32).toInt = 4
            · exact zEv.swt (off := 75) (tgt := 76) rfl (by simp [zsw, zkeys, c4]) rfl (k4 c4)
            · by_cases c5 : (v1 : Int32).toInt = 5
              · exact zEv.swt (off := 83) (tgt := 84) rfl (by simp [zsw, zkeys, c5]) rfl (k5 c5)
              · by_cases c6 : (v1 : Int32).toInt = 6
                · exact zEv.swt (off := 91) (tgt := 92) rfl (by simp [zsw, zkeys, c6]) rfl (k6 c6)
                · exact zEv.swt (off := 96) (tgt := 97) rfl (by simp [zsw, zkeys, c0, c1, c2, c3, c4, c5, c6]) rfl (kd c0 c1 c2 c3 c4 c5 c6)))
set_option maxRecDepth 100000 in
theorem B_X7_many_r1_44 (Ln : Nat) (I A : Nat → Nat → Int32) (v1 : Int32)   : zEv 76 44 0 0 [some (.ref 1), some (.int v1)] [] (zGs Ln I A) (some (.int (I 11 0)), zGs Ln (I) (A)) := 
  zEv.lift 3 (fun _ => by with_unfolding_all rfl) (show zEv 76 51 0 0 [some (.ref 1), some (.int v1)] [.int (I 11 0)] (zGs Ln I A) (some (.int (I 11 0)), zGs Ln (I) (A)) from zEv.ret rfl)
set_option maxRecDepth 100000 in
theorem B_X7_many_r1_52 (Ln : Nat) (I A : Nat → Nat → Int32) (v1 : Int32)   : zEv 76 52 0 0 [some (.ref 1), some (.int v1)] [] (zGs Ln I A) (some (.int (I 11 1)), zGs Ln (I) (A)) := 
  zEv.lift 3 (fun _ => by with_unfolding_all rfl) (show zEv 76 59 0 0 [some (.ref 1), some (.int v1)] [.int (I 11 1)] (zGs Ln I A) (some (.int (I 11 1)), zGs Ln (I) (A)) from zEv.ret rfl)
set_option maxRecDepth 100000 in
theorem B_X7_many_r1_60 (Ln : Nat) (I A : Nat → Nat → Int32) (v1 : Int32)   : zEv 76 60 0 0 [some (.ref 1), some (.int v1)] [] (zGs Ln I A) (some (.int (I 11 2)), zGs Ln (I) (A)) := 
  zEv.lift 3 (fun _ => by with_unfolding_all rfl) (show zEv 76 67 0 0 [some (.ref 1), some (.int v1)] [.int (I 11 2)] (zGs Ln I A) (some (.int (I 11 2)), zGs Ln (I) (A)) from zEv.ret rfl)
set_option maxRecDepth 100000 in
theorem B_X7_many_r1_68 (Ln : Nat) (I A : Nat → Nat → Int32) (v1 : Int32)   : zEv 76 68 0 0 [some (.ref 1), some (.int v1)] [] (zGs Ln I A) (some (.int (I 11 3)), zGs Ln (I) (A)) := 
  zEv.lift 3 (fun _ => by with_unfolding_all rfl) (show zEv 76 75 0 0 [some (.ref 1), some (.int v1)] [.int (I 11 3)] (zGs Ln I A) (some (.int (I 11 3)), zGs Ln (I) (A)) from zEv.ret rfl)
set_option maxRecDepth 100000 in
theorem B_X7_many_r1_76 (Ln : Nat) (I A : Nat → Nat → Int32) (v1 : Int32)   : zEv 76 76 0 0 [some (.ref 1), some (.int v1)] [] (zGs Ln I A) (some (.int (I 18 3)), zGs Ln (I) (A)) := 
  zEv.lift 3 (fun _ => by with_unfolding_all rfl) (show zEv 76 83 0 0 [some (.ref 1), some (.int v1)] [.int (I 18 3)] (zGs Ln I A) (some (.int (I 18 3)), zGs Ln (I) (A)) from zEv.ret rfl)
set_option maxRecDepth 100000 in
theorem B_X7_many_r1_84 (Ln : Nat) (I A : Nat → Nat → Int32) (v1 : Int32)   : zEv 76 84 0 0 [some (.ref 1), some (.int v1)] [] (zGs Ln I A) (some (.int (I 22 3)), zGs Ln (I) (A)) := 
  zEv.lift 3 (fun _ => by with_unfolding_all rfl) (show zEv 76 91 0 0 [some (.ref 1), some (.int v1)] [.int (I 22 3)] (zGs Ln I A) (some (.int (I 22 3)), zGs Ln (I) (A)) from zEv.ret rfl)
set_option maxRecDepth 100000 in
theorem B_X7_many_r1_92 (Ln : Nat) (I A : Nat → Nat → Int32) (v1 : Int32)   : zEv 76 92 0 0 [some (.ref 1), some (.int v1)] [] (zGs Ln I A) (some (.int (I 1 9)), zGs Ln (I) (A)) := 
  zEv.lift 2 (fun _ => by with_unfolding_all rfl) (show zEv 76 96 0 0 [some (.ref 1), some (.int v1)] [.int (I 1 9)] (zGs Ln I A) (some (.int (I 1 9)), zGs Ln (I) (A)) from zEv.ret rfl)
set_option maxRecDepth 100000 in
theorem B_X7_many_r1_97 (Ln : Nat) (I A : Nat → Nat → Int32) (v1 : Int32)   : zEv 76 97 0 0 [some (.ref 1), some (.int v1)] [] (zGs Ln I A) (some (.int ((-2))), zGs Ln (I) (A)) := 
  zEv.lift 1 (fun _ => by with_unfolding_all rfl) (show zEv 76 99 0 0 [some (.ref 1), some (.int v1)] [.int ((-2))] (zGs Ln I A) (some (.int ((-2))), zGs Ln (I) (A)) from zEv.ret rfl)
set_option maxRecDepth 100000 in
theorem B_X7_noBank_r1_0 (Ln : Nat) (I A : Nat → Nat → Int32)  {r : zRs}  (kt : (I 11 0) ≠ 0 → zEv 77 14 0 0 [some (.ref 1)] [] (zGs Ln I A) r) (kf : ¬ ((I 11 0) ≠ 0) → zEv 77 10 0 0 [some (.ref 1)] [] (zGs Ln I A) r) : zEv 77 0 0 0 [some (.ref 1)] [] (zGs Ln I A) r := 
  zEv.lift 3 (fun _ => by with_unfolding_all rfl) (show zEv 77 7 0 0 [some (.ref 1)] [.int (I 11 0)] (zGs Ln I A) r from zEv.br0 (tgt := 14) rfl rfl (fun h => kt (of_decide_eq_true h)) (fun h => kf (of_decide_eq_false h)))
set_option maxRecDepth 100000 in
theorem B_X7_noBank_r1_10 (Ln : Nat) (I A : Nat → Nat → Int32)  {r : zRs}  (hk : zEv 77 15 0 0 [some (.ref 1)] [.int 1] (zGs Ln I A) r) : zEv 77 10 0 0 [some (.ref 1)] [] (zGs Ln I A) r := 
  zEv.lift 2 (fun _ => by with_unfolding_all rfl) (show zEv 77 15 0 0 [some (.ref 1)] [.int 1] (zGs Ln I A) r from hk)
set_option maxRecDepth 100000 in
theorem B_X7_noBank_r1_14 (Ln : Nat) (I A : Nat → Nat → Int32)  {r : zRs}  (hk : zEv 77 15 0 0 [some (.ref 1)] [.int 0] (zGs Ln I A) r) : zEv 77 14 0 0 [some (.ref 1)] [] (zGs Ln I A) r := 
  zEv.lift 1 (fun _ => by with_unfolding_all rfl) (show zEv 77 15 0 0 [some (.ref 1)] [.int 0] (zGs Ln I A) r from hk)
set_option maxRecDepth 100000 in
theorem B_X7_noBank_r1_15_s1 (Ln : Nat) (I A : Nat → Nat → Int32) (s0 : Int32) (hb : s0 = 0 ∨ s0 = 1)  : zEv 77 15 0 0 [some (.ref 1)] [.int s0] (zGs Ln I A) (some (.int s0), zGs Ln (I) (A)) := 
  (by rcases hb with hb | hb <;> rw [hb] <;> exact zEv.ret rfl)
set_option maxRecDepth 100000 in
theorem B_X7_isShade_r1_0 (Ln : Nat) (I A : Nat → Nat → Int32) (v1 : Int32) {r : zRs}  (kt : v1 < 0 → zEv 78 19 0 0 [some (.ref 1), some (.int v1)] [] (zGs Ln I A) r) (kf : ¬ (v1 < 0) → zEv 78 4 0 0 [some (.ref 1), some (.int v1)] [] (zGs Ln I A) r) : zEv 78 0 0 0 [some (.ref 1), some (.int v1)] [] (zGs Ln I A) r := 
  zEv.lift 1 (fun _ => by with_unfolding_all rfl) (show zEv 78 1 0 0 [some (.ref 1), some (.int v1)] [.int v1] (zGs Ln I A) r from zEv.br0 (tgt := 19) rfl rfl (fun h => kt (of_decide_eq_true h)) (fun h => kf (of_decide_eq_false h)))
set_option maxRecDepth 100000 in
theorem B_X7_isShade_r1_4 (Ln : Nat) (I A : Nat → Nat → Int32) (v1 : Int32) {r : zRs}  (kt : (I 11 0) ≤ v1 → zEv 78 19 0 0 [some (.ref 1), some (.int v1)] [] (zGs Ln I A) r) (kf : ¬ ((I 11 0) ≤ v1) → zEv 78 15 0 0 [some (.ref 1), some (.int v1)] [] (zGs Ln I A) r) : zEv 78 4 0 0 [some (.ref 1), some (.int v1)] [] (zGs Ln I A) r := 
  zEv.lift 4 (fun _ => by with_unfolding_all rfl) (show zEv 78 12 0 0 [some (.ref 1), some (.int v1)] [.int (I 11 0), .int v1] (zGs Ln I A) r from zEv.br (tgt := 19) rfl rfl (fun h => kt (of_decide_eq_true h)) (fun h => kf (of_decide_eq_false h)))
set_option maxRecDepth 100000 in
theorem B_X7_isShade_r1_15 (Ln : Nat) (I A : Nat → Nat → Int32) (v1 : Int32) {r : zRs}  (hk : zEv 78 20 0 0 [some (.ref 1), some (.int v1)] [.int 1] (zGs Ln I A) r) : zEv 78 15 0 0 [some (.ref 1), some (.int v1)] [] (zGs Ln I A) r := 
  zEv.lift 2 (fun _ => by with_unfolding_all rfl) (show zEv 78 20 0 0 [some (.ref 1), some (.int v1)] [.int 1] (zGs Ln I A) r from hk)
set_option maxRecDepth 100000 in
theorem B_X7_isShade_r1_19 (Ln : Nat) (I A : Nat → Nat → Int32) (v1 : Int32) {r : zRs}  (hk : zEv 78 20 0 0 [some (.ref 1), some (.int v1)] [.int 0] (zGs Ln I A) r) : zEv 78 19 0 0 [some (.ref 1), some (.int v1)] [] (zGs Ln I A) r := 
  zEv.lift 1 (fun _ => by with_unfolding_all rfl) (show zEv 78 20 0 0 [some (.ref 1), some (.int v1)] [.int 0] (zGs Ln I A) r from hk)
set_option maxRecDepth 100000 in
theorem B_X7_isShade_r1_20_s1 (Ln : Nat) (I A : Nat → Nat → Int32) (v1 : Int32) (s0 : Int32) (hb : s0 = 0 ∨ s0 = 1)  : zEv 78 20 0 0 [some (.ref 1), some (.int v1)] [.int s0] (zGs Ln I A) (some (.int s0), zGs Ln (I) (A)) := 
  (by rcases hb with hb | hb <;> rw [hb] <;> exact zEv.ret rfl)
set_option maxRecDepth 100000 in
theorem B_X7_faultless_r1_0 (Ln : Nat) (I A : Nat → Nat → Int32) (v1 : Int32)   : zEv 82 0 0 0 [some (.ref 1), some (.int v1)] [] (zGs Ln I A) (some (.int v1), zGs Ln (zp I 1 11 0) (A)) := 
  zEv.lift 4 (fun _ => by with_unfolding_all rfl) (show zEv 82 6 0 0 [some (.ref 1), some (.int v1)] [.int v1] (zGs Ln (zp I 1 11 0) A) (some (.int v1), zGs Ln (zp I 1 11 0) (A)) from zEv.ret rfl)
set_option maxRecDepth 100000 in
theorem B_X7_faulted_r1_0 (Ln : Nat) (I A : Nat → Nat → Int32) (v1 : Int32)   : zEv 83 0 0 0 [some (.ref 1), some (.int v1)] [] (zGs Ln I A) (some (.int (((-10)) - v1)), zGs Ln (zp I 1 11 v1) (A)) := 
  zEv.lift 6 (fun _ => by with_unfolding_all rfl) (show zEv 83 9 0 0 [some (.ref 1), some (.int v1)] [.int (((-10)) - v1)] (zGs Ln (zp I 1 11 v1) A) (some (.int (((-10)) - v1)), zGs Ln (zp I 1 11 v1) (A)) from zEv.ret rfl)
set_option maxRecDepth 100000 in
theorem B_X7_goThroughNights_r1_0 (Ln : Nat) (I A : Nat → Nat → Int32)  {r : zRs}  (hk : zEv 85 2 0 0 [some (.ref 1), some (.int 0)] [] (zGs Ln I A) r) : zEv 85 0 0 0 [some (.ref 1), none] [] (zGs Ln I A) r := 
  zEv.lift 2 (fun _ => by with_unfolding_all rfl) (show zEv 85 2 0 0 [some (.ref 1), some (.int 0)] [] (zGs Ln I A) r from hk)
set_option maxRecDepth 100000 in
theorem B_X7_goThroughNights_r1_2 (Ln : Nat) (I A : Nat → Nat → Int32) (v1 : Int32) {r : zRs}  (kt : (I 11 0) ≤ v1 → zEv 85 52 0 0 [some (.ref 1), some (.int v1)] [] (zGs Ln I A) r) (kf : ¬ ((I 11 0) ≤ v1) → zEv 85 13 0 0 [some (.ref 1), some (.int v1)] [] (zGs Ln I A) r) : zEv 85 2 0 0 [some (.ref 1), some (.int v1)] [] (zGs Ln I A) r := 
  zEv.lift 4 (fun _ => by with_unfolding_all rfl) (show zEv 85 10 0 0 [some (.ref 1), some (.int v1)] [.int (I 11 0), .int v1] (zGs Ln I A) r from zEv.br (tgt := 52) rfl rfl (fun h => kt (of_decide_eq_true h)) (fun h => kf (of_decide_eq_false h)))
set_option maxRecDepth 100000 in
theorem B_X7_goThroughNights_r1_13 (Ln : Nat) (I A : Nat → Nat → Int32) (v1 : Int32) {r : zRs} (h1 : zin v1 6 = true) {q : zRs} (hc : zEv 15 0 0 0 [some (.ref 18), some (.int v1)] [] (zGs Ln I A) q) {w : Int32} (hn : q.1 = some (.int w)) (hk : zEv 85 35 0 0 [some (.ref 1), some (.int v1)] (.int w :: [.int (A 13 (v1).toNatClampNeg), .int v1, .ref 42]) q.2 r) : zEv 85 13 0 0 [some (.ref 1), some (.int v1)] [] (zGs Ln I A) r := 
  zEv.lift 7 (fun _ => by with_unfolding_all rfl) (show zEv 85 26 0 0 [some (.ref 1), some (.int v1)] [.int v1, .ref 13, .int v1, .ref 42] (zGs Ln I A) r from zEv.iald rfl (Or.inl rfl) h1 (show zEv 85 27 0 0 [some (.ref 1), some (.int v1)] [.int (A 13 (v1).toNatClampNeg), .int v1, .ref 42] (zGs Ln I A) r from zEv.lift 3 (fun _ => by with_unfolding_all rfl) (show zEv 85 32 0 0 [some (.ref 1), some (.int v1)] [.int v1, .ref 18, .int (A 13 (v1).toNatClampNeg), .int v1, .ref 42] (zGs Ln I A) r from zEv.call (as := [.ref 18, .int v1]) rfl (fun _ => rfl) (Nat.le_of_ble_eq_true rfl) hc (by rw [hn]; exact hk))))
set_option maxRecDepth 100000 in
theorem B_X7_goThroughNights_r1_35_s4 (Ln : Nat) (I A : Nat → Nat → Int32) (v1 : Int32) (s1 : Int32) (s2 : Int32) (s3 : Int32) {r : zRs}  {q : zRs} (hc : zEv 16 0 0 0 [some (.ref 18), some (.int v1)] [] (zGs Ln I A) q) {w : Int32} (hn : q.1 = some (.int w)) (hk : zEv 85 44 0 0 [some (.ref 1), some (.int v1)] (.int w :: [.int (s2 - s3), .int s1, .ref 42]) q.2 r) : zEv 85 35 0 0 [some (.ref 1), some (.int v1)] [.int s3, .int s2, .int s1, .ref 42] (zGs Ln I A) r := 
  zEv.lift 4 (fun _ => by with_unfolding_all rfl) (show zEv 85 41 0 0 [some (.ref 1), some (.int v1)] [.int v1, .ref 18, .int (s2 - s3), .int s1, .ref 42] (zGs Ln I A) r from zEv.call (as := [.ref 18, .int v1]) rfl (fun _ => rfl) (Nat.le_of_ble_eq_true rfl) hc (by rw [hn]; exact hk))
set_option maxRecDepth 100000 in
theorem B_X7_goThroughNights_r1_44_s4 (Ln : Nat) (I A : Nat → Nat → Int32) (v1 : Int32) (s1 : Int32) (s2 : Int32) (s3 : Int32) {r : zRs} (h1 : zin s1 6 = true) (hk : zEv 85 2 0 0 [some (.ref 1), some (.int (v1 + 1))] [] (zGs Ln I (zw A 42 ((s1).toNatClampNeg) (s2 + s3))) r) : zEv 85 44 0 0 [some (.ref 1), some (.int v1)] [.int s3, .int s2, .int s1, .ref 42] (zGs Ln I A) r := 
  zEv.lift 1 (fun _ => by with_unfolding_all rfl) (show zEv 85 45 0 0 [some (.ref 1), some (.int v1)] [.int (s2 + s3), .int s1, .ref 42] (zGs Ln I A) r from zEv.iast rfl rfl h1 (show zEv 85 46 0 0 [some (.ref 1), some (.int v1)] [] (zGs Ln I (zw A 42 ((s1).toNatClampNeg) (s2 + s3))) r from zEv.lift 2 (fun _ => by with_unfolding_all rfl) (show zEv 85 2 0 0 [some (.ref 1), some (.int (v1 + 1))] [] (zGs Ln I (zw A 42 ((s1).toNatClampNeg) (s2 + s3))) r from hk)))
set_option maxRecDepth 100000 in
theorem B_X7_goThroughNights_r1_52 (Ln : Nat) (I A : Nat → Nat → Int32) (v1 : Int32) {r : zRs}  {q : zRs} (hc : zEv 35 0 0 0 [some (.ref 28), some (.ref 42), some (.int (I 1 9)), none, none, none, none] [] (zGs Ln I A) q) (hn : q.1 = none) (hk : zEv 85 67 0 0 [some (.ref 1), some (.int v1)] [] q.2 r) : zEv 85 52 0 0 [some (.ref 1), some (.int v1)] [] (zGs Ln I A) r := 
  zEv.lift 6 (fun _ => by with_unfolding_all rfl) (show zEv 85 64 0 0 [some (.ref 1), some (.int v1)] [.int (I 1 9), .ref 42, .ref 28] (zGs Ln I A) r from zEv.call (as := [.ref 28, .ref 42, .int (I 1 9)]) rfl (fun _ => rfl) (Nat.le_of_ble_eq_true rfl) hc (by rw [hn]; exact hk))
set_option maxRecDepth 100000 in
theorem B_X7_goThroughNights_r1_67 (Ln : Nat) (I A : Nat → Nat → Int32) (v1 : Int32)   : zEv 85 67 0 0 [some (.ref 1), some (.int v1)] [] (zGs Ln I A) (none, zGs Ln (I) (A)) := 
  zEv.ret rfl
set_option maxRecDepth 100000 in
theorem B_X7_tryLoan_r1_0 (Ln : Nat) (I A : Nat → Nat → Int32) (v1 : Int32) (v2 : Int32) {r : zRs} (h1 : zin v1 6 = true) (h2 : zin v1 6 = true) (h3 : zin v2 6 = true) (h4 : zin v2 6 = true) {q : zRs} (hc : zEv 35 0 0 0 [some (.ref 35), some (.ref 43), some (.int (I 1 9)), none, none, none, none] [] (zGs Ln I (zw (zw (zcp A 42 43 0 0 6) 43 ((v1).toNatClampNeg) ((((zcp A 42 43 0 0 6) 43) (v1).toNatClampNeg) - 1)) 43 ((v2).toNatClampNeg) ((((zw (zcp A 42 43 0 0 6) 43 ((v1).toNatClampNeg) ((((zcp A 42 43 0 0 6) 43) (v1).toNatClampNeg) - 1)) 43) (v2).toNatClampNeg) + 1))) q) (hn : q.1 = none) (hk : zEv 86 50 0 0 [some (.ref 1), some (.int v1), some (.int v2)] [] q.2 r) : zEv 86 0 0 0 [some (.ref 1), some (.int v1), some (.int v2)] [] (zGs Ln I A) r := 
  zEv.lift 12 (fun _ => by with_unfolding_all rfl) (show zEv 86 21 0 0 [some (.ref 1), some (.int v1), some (.int v2)] [.int v1, .ref 43, .int v1, .ref 43] (zGs Ln I (zcp A 42 43 0 0 6)) r from zEv.iald rfl (Or.inl rfl) h1 (show zEv 86 22 0 0 [some (.ref 1), some (.int v1), some (.int v2)] [.int (((zcp A 42 43 0 0 6) 43) (v1).toNatClampNeg), .int v1, .ref 43] (zGs Ln I (zcp A 42 43 0 0 6)) r from zEv.lift 2 (fun _ => by with_unfolding_all rfl) (show zEv 86 24 0 0 [some (.ref 1), some (.int v1), some (.int v2)] [.int ((((zcp A 42 43 0 0 6) 43) (v1).toNatClampNeg) - 1), .int v1, .ref 43] (zGs Ln I (zcp A 42 43 0 0 6)) r from zEv.iast rfl rfl h2 (show zEv 86 25 0 0 [some (.ref 1), some (.int v1), some (.int v2)] [] (zGs Ln I (zw (zcp A 42 43 0 0 6) 43 ((v1).toNatClampNeg) ((((zcp A 42 43 0 0 6) 43) (v1).toNatClampNeg) - 1))) r from zEv.lift 4 (fun _ => by with_unfolding_all rfl) (show zEv 86 31 0 0 [some (.ref 1), some (.int v1), some (.int v2)] [.int v2, .ref 43, .int v2, .ref 43] (zGs Ln I (zw (zcp A 42 43 0 0 6) 43 ((v1).toNatClampNeg) ((((zcp A 42 43 0 0 6) 43) (v1).toNatClampNeg) - 1))) r from zEv.iald rfl (Or.inl rfl) h3 (show zEv 86 32 0 0 [some (.ref 1), some (.int v1), some (.int v2)] [.int (((zw (zcp A 42 43 0 0 6) 43 ((v1).toNatClampNeg) ((((zcp A 42 43 0 0 6) 43) (v1).toNatClampNeg) - 1)) 43) (v2).toNatClampNeg), .int v2, .ref 43] (zGs Ln I (zw (zcp A 42 43 0 0 6) 43 ((v1).toNatClampNeg) ((((zcp A 42 43 0 0 6) 43) (v1).toNatClampNeg) - 1))) r from zEv.lift 2 (fun _ => by with_unfolding_all rfl) (show zEv 86 34 0 0 [some (.ref 1), some (.int v1), some (.int v2)] [.int ((((zw (zcp A 42 43 0 0 6) 43 ((v1).toNatClampNeg) ((((zcp A 42 43 0 0 6) 43) (v1).toNatClampNeg) - 1)) 43) (v2).toNatClampNeg) + 1), .int v2, .ref 43] (zGs Ln I (zw (zcp A 42 43 0 0 6) 43 ((v1).toNatClampNeg) ((((zcp A 42 43 0 0 6) 43) (v1).toNatClampNeg) - 1))) r from zEv.iast rfl rfl h4 (show zEv 86 35 0 0 [some (.ref 1), some (.int v1), some (.int v2)] [] (zGs Ln I (zw (zw (zcp A 42 43 0 0 6) 43 ((v1).toNatClampNeg) ((((zcp A 42 43 0 0 6) 43) (v1).toNatClampNeg) - 1)) 43 ((v2).toNatClampNeg) ((((zw (zcp A 42 43 0 0 6) 43 ((v1).toNatClampNeg) ((((zcp A 42 43 0 0 6) 43) (v1).toNatClampNeg) - 1)) 43) (v2).toNatClampNeg) + 1))) r from zEv.lift 6 (fun _ => by with_unfolding_all rfl) (show zEv 86 47 0 0 [some (.ref 1), some (.int v1), some (.int v2)] [.int (I 1 9), .ref 43, .ref 35] (zGs Ln I (zw (zw (zcp A 42 43 0 0 6) 43 ((v1).toNatClampNeg) ((((zcp A 42 43 0 0 6) 43) (v1).toNatClampNeg) - 1)) 43 ((v2).toNatClampNeg) ((((zw (zcp A 42 43 0 0 6) 43 ((v1).toNatClampNeg) ((((zcp A 42 43 0 0 6) 43) (v1).toNatClampNeg) - 1)) 43) (v2).toNatClampNeg) + 1))) r from zEv.call (as := [.ref 35, .ref 43, .int (I 1 9)]) rfl (fun _ => rfl) (Nat.le_of_ble_eq_true rfl) hc (by rw [hn]; exact hk))))))))))
set_option maxRecDepth 100000 in
theorem B_X7_tryLoan_r1_50 (Ln : Nat) (I A : Nat → Nat → Int32) (v1 : Int32) (v2 : Int32)   : zEv 86 50 0 0 [some (.ref 1), some (.int v1), some (.int v2)] [] (zGs Ln I A) (none, zGs Ln (I) (A)) := 
  zEv.ret rfl
set_option maxRecDepth 100000 in
theorem B_X7_leave_r1_0 (Ln : Nat) (I A : Nat → Nat → Int32) (v1 : Int32)   : zEv 87 0 0 0 [some (.ref 1), some (.int v1)] [] (zGs Ln I A) (none, zGs Ln (zp I 1 10 ((31 * (I 1 10)) + v1)) (A)) := 
  zEv.lift 8 (fun _ => by with_unfolding_all rfl) (show zEv 87 13 0 0 [some (.ref 1), some (.int v1)] [] (zGs Ln (zp I 1 10 ((31 * (I 1 10)) + v1)) A) (none, zGs Ln (zp I 1 10 ((31 * (I 1 10)) + v1)) (A)) from zEv.ret rfl)
set_option maxRecDepth 100000 in
theorem B_X7_shadeTells_r1_0 (Ln : Nat) (I A : Nat → Nat → Int32) (v1 : Int32) {r : zRs}  {q : zRs} (hc : zEv 87 0 0 0 [some (.ref 1), some (.int 1)] [] (zGs Ln I A) q) (hn : q.1 = none) (hk : zEv 88 5 0 0 [some (.ref 1), some (.int v1)] [] q.2 r) : zEv 88 0 0 0 [some (.ref 1), some (.int v1)] [] (zGs Ln I A) r := 
  zEv.lift 2 (fun _ => by with_unfolding_all rfl) (show zEv 88 2 0 0 [some (.ref 1), some (.int v1)] [.int 1, .ref 1] (zGs Ln I A) r from zEv.call (as := [.ref 1, .int 1]) rfl (fun _ => rfl) (Nat.le_of_ble_eq_true rfl) hc (by rw [hn]; exact hk))
set_option maxRecDepth 100000 in
theorem B_X7_shadeTells_r1_5 (Ln : Nat) (I A : Nat → Nat → Int32) (v1 : Int32) (h1 : zin v1 6 = true)  : zEv 88 5 0 0 [some (.ref 1), some (.int v1)] [] (zGs Ln I A) (some (.int (A 14 (v1).toNatClampNeg)), zGs Ln (I) (A)) := 
  zEv.lift 4 (fun _ => by with_unfolding_all rfl) (show zEv 88 13 0 0 [some (.ref 1), some (.int v1)] [.int v1, .ref 14] (zGs Ln I A) (some (.int (A 14 (v1).toNatClampNeg)), zGs Ln (I) (A)) from zEv.iald rfl (Or.inl rfl) h1 (show zEv 88 14 0 0 [some (.ref 1), some (.int v1)] [.int (A 14 (v1).toNatClampNeg)] (zGs Ln I A) (some (.int (A 14 (v1).toNatClampNeg)), zGs Ln (I) (A)) from zEv.ret rfl))
set_option maxRecDepth 100000 in
theorem B_X7_drownedTells_r1_0 (Ln : Nat) (I A : Nat → Nat → Int32) (v1 : Int32) {r : zRs}  {q : zRs} (hc : zEv 87 0 0 0 [some (.ref 1), some (.int 2)] [] (zGs Ln I A) q) (hn : q.1 = none) (hk : zEv 89 5 0 0 [some (.ref 1), some (.int v1)] [] q.2 r) : zEv 89 0 0 0 [some (.ref 1), some (.int v1)] [] (zGs Ln I A) r := 
  zEv.lift 2 (fun _ => by with_unfolding_all rfl) (show zEv 89 2 0 0 [some (.ref 1), some (.int v1)] [.int 2, .ref 1] (zGs Ln I A) r from zEv.call (as := [.ref 1, .int 2]) rfl (fun _ => rfl) (Nat.le_of_ble_eq_true rfl) hc (by rw [hn]; exact hk))
set_option maxRecDepth 100000 in
theorem B_X7_drownedTells_r1_5 (Ln : Nat) (I A : Nat → Nat → Int32) (v1 : Int32) {r : zRs}  {q : zRs} (hc : zEv 88 0 0 0 [some (.ref 1), some (.int v1)] [] (zGs Ln I A) q) {w : Int32} (hn : q.1 = some (.int w)) (hk : zEv 89 10 0 0 [some (.ref 1), some (.int v1)] (.int w :: []) q.2 r) : zEv 89 5 0 0 [some (.ref 1), some (.int v1)] [] (zGs Ln I A) r := 
  zEv.lift 2 (fun _ => by with_unfolding_all rfl) (show zEv 89 7 0 0 [some (.ref 1), some (.int v1)] [.int v1, .ref 1] (zGs Ln I A) r from zEv.call (as := [.ref 1, .int v1]) rfl (fun _ => rfl) (Nat.le_of_ble_eq_true rfl) hc (by rw [hn]; exact hk))
set_option maxRecDepth 100000 in
theorem B_X7_drownedTells_r1_10_s1 (Ln : Nat) (I A : Nat → Nat → Int32) (v1 : Int32) (s0 : Int32)   : zEv 89 10 0 0 [some (.ref 1), some (.int v1)] [.int s0] (zGs Ln I A) (some (.int (s0 + 100)), zGs Ln (I) (A)) := 
  zEv.lift 2 (fun _ => by with_unfolding_all rfl) (show zEv 89 13 0 0 [some (.ref 1), some (.int v1)] [.int (s0 + 100)] (zGs Ln I A) (some (.int (s0 + 100)), zGs Ln (I) (A)) from zEv.ret rfl)
set_option maxRecDepth 100000 in
theorem B_X7_livingTells_r1_0 (Ln : Nat) (I A : Nat → Nat → Int32) (v1 : Int32) {r : zRs}  {q : zRs} (hc : zEv 87 0 0 0 [some (.ref 1), some (.int 3)] [] (zGs Ln I A) q) (hn : q.1 = none) (hk : zEv 90 5 0 0 [some (.ref 1), some (.int v1), none] [] q.2 r) : zEv 90 0 0 0 [some (.ref 1), some (.int v1), none] [] (zGs Ln I A) r := 
  zEv.lift 2 (fun _ => by with_unfolding_all rfl) (show zEv 90 2 0 0 [some (.ref 1), some (.int v1), none] [.int 3, .ref 1] (zGs Ln I A) r from zEv.call (as := [.ref 1, .int 3]) rfl (fun _ => rfl) (Nat.le_of_ble_eq_true rfl) hc (by rw [hn]; exact hk))
set_option maxRecDepth 100000 in
theorem B_X7_livingTells_r1_5 (Ln : Nat) (I A : Nat → Nat → Int32) (v1 : Int32) {r : zRs}  {q : zRs} (hc : zEv 89 0 0 0 [some (.ref 1), some (.int v1)] [] (zGs Ln I A) q) {w : Int32} (hn : q.1 = some (.int w)) (hk : zEv 90 10 0 0 [some (.ref 1), some (.int v1), none] (.int w :: []) q.2 r) : zEv 90 5 0 0 [some (.ref 1), some (.int v1), none] [] (zGs Ln I A) r := 
  zEv.lift 2 (fun _ => by with_unfolding_all rfl) (show zEv 90 7 0 0 [some (.ref 1), some (.int v1), none] [.int v1, .ref 1] (zGs Ln I A) r from zEv.call (as := [.ref 1, .int v1]) rfl (fun _ => rfl) (Nat.le_of_ble_eq_true rfl) hc (by rw [hn]; exact hk))
set_option maxRecDepth 100000 in
theorem B_X7_livingTells_r1_10_s1 (Ln : Nat) (I A : Nat → Nat → Int32) (v1 : Int32) (s0 : Int32) {r : zRs}  {q : zRs} (hc : zEv 88 0 0 0 [some (.ref 1), some (.int v1)] [] (zGs Ln I A) q) {w : Int32} (hn : q.1 = some (.int w)) (hk : zEv 90 17 0 0 [some (.ref 1), some (.int v1), some (.int s0)] (.int w :: [.int s0]) q.2 r) : zEv 90 10 0 0 [some (.ref 1), some (.int v1), none] [.int s0] (zGs Ln I A) r := 
  zEv.lift 4 (fun _ => by with_unfolding_all rfl) (show zEv 90 14 0 0 [some (.ref 1), some (.int v1), some (.int s0)] [.int v1, .ref 1, .int s0] (zGs Ln I A) r from zEv.call (as := [.ref 1, .int v1]) rfl (fun _ => rfl) (Nat.le_of_ble_eq_true rfl) hc (by rw [hn]; exact hk))
set_option maxRecDepth 100000 in
theorem B_X7_livingTells_r1_17_s2 (Ln : Nat) (I A : Nat → Nat → Int32) (v1 : Int32) (v2 : Int32) (s0 : Int32) (s1 : Int32)   : zEv 90 17 0 0 [some (.ref 1), some (.int v1), some (.int v2)] [.int s1, .int s0] (zGs Ln I A) (some (.int (s0 + s1)), zGs Ln (I) (A)) := 
  zEv.lift 1 (fun _ => by with_unfolding_all rfl) (show zEv 90 18 0 0 [some (.ref 1), some (.int v1), some (.int v2)] [.int (s0 + s1)] (zGs Ln I A) (some (.int (s0 + s1)), zGs Ln (I) (A)) from zEv.ret rfl)
set_option maxRecDepth 100000 in
theorem B_X7_hailByNumber_r1_0 (Ln : Nat) (I A : Nat → Nat → Int32) (v1 : Int32) {r : zRs}  {q : zRs} (hc : zEv 87 0 0 0 [some (.ref 1), some (.int 4)] [] (zGs Ln I A) q) (hn : q.1 = none) (hk : zEv 91 5 0 0 [some (.ref 1), some (.int v1)] [] q.2 r) : zEv 91 0 0 0 [some (.ref 1), some (.int v1)] [] (zGs Ln I A) r := 
  zEv.lift 2 (fun _ => by with_unfolding_all rfl) (show zEv 91 2 0 0 [some (.ref 1), some (.int v1)] [.int 4, .ref 1] (zGs Ln I A) r from zEv.call (as := [.ref 1, .int 4]) rfl (fun _ => rfl) (Nat.le_of_ble_eq_true rfl) hc (by rw [hn]; exact hk))

/-! blocks, by program (wip/whole/gen_blk.py): 22d.front 4 -/
set_option maxRecDepth 100000 in
theorem B_X7_rules_r1_57 (Ln : Nat) (I A : Nat → Nat → Int32) (v1 : Int32) (v2 : Int32)   : zEv 65 57 0 0 [some (.ref 1), some (.int v1), some (.int v2)] [] (zGs Ln I A) (some (.int v1), zGs Ln (I) (A)) := 
  zEv.lift 1 (fun _ => by with_unfolding_all rfl) (show zEv 65 58 0 0 [some (.ref 1), some (.int v1), some (.int v2)] [.int v1] (zGs Ln I A) (some (.int v1), zGs Ln (I) (A)) from zEv.ret rfl)
set_option maxRecDepth 100000 in
theorem B_X7_sheet_r1_0 (Ln : Nat) (I A : Nat → Nat → Int32) (v1 : Int32) (v2 : Int32) (v3 : Int32) {r : zRs}  {q : zRs} (hc : zEv 80 0 0 0 [some (.int v1)] [] (zGs Ln I A) q) {w : Int32} (hn : q.1 = some (.int w)) (hk : zEv 66 4 0 0 [some (.ref 1), some (.int v1), some (.int v2), some (.int v3)] (.int w :: []) q.2 r) : zEv 66 0 0 0 [some (.ref 1), some (.int v1), some (.int v2), some (.int v3)] [] (zGs Ln I A) r := 
  zEv.lift 1 (fun _ => by with_unfolding_all rfl) (show zEv 66 1 0 0 [some (.ref 1), some (.int v1), some (.int v2), some (.int v3)] [.int v1] (zGs Ln I A) r from zEv.call (as := [.int v1]) rfl (fun _ => rfl) (Nat.le_of_ble_eq_true rfl) hc (by rw [hn]; exact hk))
set_option maxRecDepth 100000 in
theorem B_X7_sheet_r1_4_s1 (Ln : Nat) (I A : Nat → Nat → Int32) (v1 : Int32) (v2 : Int32) (v3 : Int32) (s0 : Int32) {r : zRs}  (kt : s0 ≠ 0 → zEv 66 13 0 0 [some (.ref 1), some (.int v1), some (.int v2), some (.int v3)] [] (zGs Ln I A) r) (kf : ¬ (s0 ≠ 0) → zEv 66 7 0 0 [some (.ref 1), some (.int v1), some (.int v2), some (.int v3)] [] (zGs Ln I A) r) : zEv 66 4 0 0 [some (.ref 1), some (.int v1), some (.int v2), some (.int v3)] [.int s0] (zGs Ln I A) r := 
  zEv.br0 (tgt := 13) rfl rfl (fun h => kt (of_decide_eq_true h)) (fun h => kf (of_decide_eq_false h))
set_option maxRecDepth 100000 in
theorem B_X7_sheet_r1_7 (Ln : Nat) (I A : Nat → Nat → Int32) (v1 : Int32) (v2 : Int32) (v3 : Int32) {r : zRs}  {q : zRs} (hc : zEv 82 0 0 0 [some (.ref 1), some (.int ((-1)))] [] (zGs Ln I A) q) {w : Int32} (hn : q.1 = some (.int w)) (hk : zEv 66 12 0 0 [some (.ref 1), some (.int v1), some (.int v2), some (.int v3)] (.int w :: []) q.2 r) : zEv 66 7 0 0 [some (.ref 1), some (.int v1), some (.int v2), some (.int v3)] [] (zGs Ln I A) r := 
  zEv.lift 2 (fun _ => by with_unfolding_all rfl) (show zEv 66 9 0 0 [some (.ref 1), some (.int v1), some (.int v2), some (.int v3)] [.int ((-1)), .ref 1] (zGs Ln I A) r from zEv.call (as := [.ref 1, .int ((-1))]) rfl (fun _ => rfl) (Nat.le_of_ble_eq_true rfl) hc (by rw [hn]; exact hk))
set_option maxRecDepth 100000 in
theorem B_X7_sheet_r1_12_s1 (Ln : Nat) (I A : Nat → Nat → Int32) (v1 : Int32) (v2 : Int32) (v3 : Int32) (s0 : Int32)   : zEv 66 12 0 0 [some (.ref 1), some (.int v1), some (.int v2), some (.int v3)] [.int s0] (zGs Ln I A) (some (.int s0), zGs Ln (I) (A)) := 
  zEv.ret rfl
set_option maxRecDepth 100000 in
theorem B_X7_sheet_r1_13 (Ln : Nat) (I A : Nat → Nat → Int32) (v1 : Int32) (v2 : Int32) (v3 : Int32) {r : zRs}  {q : zRs} (hc : zEv 81 0 0 0 [some (.int v2)] [] (zGs Ln I A) q) {w : Int32} (hn : q.1 = some (.int w)) (hk : zEv 66 17 0 0 [some (.ref 1), some (.int v1), some (.int v2), some (.int v3)] (.int w :: []) q.2 r) : zEv 66 13 0 0 [some (.ref 1), some (.int v1), some (.int v2), some (.int v3)] [] (zGs Ln I A) r := 
  zEv.lift 1 (fun _ => by with_unfolding_all rfl) (show zEv 66 14 0 0 [some (.ref 1), some (.int v1), some (.int v2), some (.int v3)] [.int v2] (zGs Ln I A) r from zEv.call (as := [.int v2]) rfl (fun _ => rfl) (Nat.le_of_ble_eq_true rfl) hc (by rw [hn]; exact hk))
set_option maxRecDepth 100000 in
theorem B_X7_sheet_r1_17_s1 (Ln : Nat) (I A : Nat → Nat → Int32) (v1 : Int32) (v2 : Int32) (v3 : Int32) (s0 : Int32) {r : zRs}  (kt : s0 = 0 → zEv 66 26 0 0 [some (.ref 1), some (.int v1), some (.int v2), some (.int v3)] [] (zGs Ln I A) r) (kf : ¬ (s0 = 0) → zEv 66 20 0 0 [some (.ref 1), some (.int v1), some (.int v2), some (.int v3)] [] (zGs Ln I A) r) : zEv 66 17 0 0 [some (.ref 1), some (.int v1), some (.int v2), some (.int v3)] [.int s0] (zGs Ln I A) r := 
  zEv.br0 (tgt := 26) rfl rfl (fun h => kt (of_decide_eq_true h)) (fun h => kf (of_decide_eq_false h))
set_option maxRecDepth 100000 in
theorem B_X7_sheet_r1_20 (Ln : Nat) (I A : Nat → Nat → Int32) (v1 : Int32) (v2 : Int32) (v3 : Int32) {r : zRs}  (kt : v3 ≤ 60 → zEv 66 33 0 0 [some (.ref 1), some (.int v1), some (.int v2), some (.int v3)] [] (zGs Ln I A) r) (kf : ¬ (v3 ≤ 60) → zEv 66 26 0 0 [some (.ref 1), some (.int v1), some (.int v2), some (.int v3)] [] (zGs Ln I A) r) : zEv 66 20 0 0 [some (.ref 1), some (.int v1), some (.int v2), some (.int v3)] [] (zGs Ln I A) r := 
  zEv.lift 2 (fun _ => by with_unfolding_all rfl) (show zEv 66 23 0 0 [some (.ref 1), some (.int v1), some (.int v2), some (.int v3)] [.int 60, .int v3] (zGs Ln I A) r from zEv.br (tgt := 33) rfl rfl (fun h => kt (of_decide_eq_true h)) (fun h => kf (of_decide_eq_false h)))
set_option maxRecDepth 100000 in
theorem B_X7_sheet_r1_26 (Ln : Nat) (I A : Nat → Nat → Int32) (v1 : Int32) (v2 : Int32) (v3 : Int32) {r : zRs}  {q : zRs} (hc : zEv 82 0 0 0 [some (.ref 1), some (.int ((-2)))] [] (zGs Ln I A) q) {w : Int32} (hn : q.1 = some (.int w)) (hk : zEv 66 32 0 0 [some (.ref 1), some (.int v1), some (.int v2), some (.int v3)] (.int w :: []) q.2 r) : zEv 66 26 0 0 [some (.ref 1), some (.int v1), some (.int v2), some (.int v3)] [] (zGs Ln I A) r := 
  zEv.lift 2 (fun _ => by with_unfolding_all rfl) (show zEv 66 29 0 0 [some (.ref 1), some (.int v1), some (.int v2), some (.int v3)] [.int ((-2)), .ref 1] (zGs Ln I A) r from zEv.call (as := [.ref 1, .int ((-2))]) rfl (fun _ => rfl) (Nat.le_of_ble_eq_true rfl) hc (by rw [hn]; exact hk))
set_option maxRecDepth 100000 in
theorem B_X7_sheet_r1_32_s1 (Ln : Nat) (I A : Nat → Nat → Int32) (v1 : Int32) (v2 : Int32) (v3 : Int32) (s0 : Int32)   : zEv 66 32 0 0 [some (.ref 1), some (.int v1), some (.int v2), some (.int v3)] [.int s0] (zGs Ln I A) (some (.int s0), zGs Ln (I) (A)) := 
  zEv.ret rfl
set_option maxRecDepth 100000 in
theorem B_X7_sheet_r1_33 (Ln : Nat) (I A : Nat → Nat → Int32) (v1 : Int32) (v2 : Int32) (v3 : Int32) {r : zRs}  (kt : 0 ≤ v3 → zEv 66 43 0 0 [some (.ref 1), some (.int v1), some (.int v2), some (.int v3)] [] (zGs Ln I A) r) (kf : ¬ (0 ≤ v3) → zEv 66 37 0 0 [some (.ref 1), some (.int v1), some (.int v2), some (.int v3)] [] (zGs Ln I A) r) : zEv 66 33 0 0 [some (.ref 1), some (.int v1), some (.int v2), some (.int v3)] [] (zGs Ln I A) r := 
  zEv.lift 1 (fun _ => by with_unfolding_all rfl) (show zEv 66 34 0 0 [some (.ref 1), some (.int v1), some (.int v2), some (.int v3)] [.int v3] (zGs Ln I A) r from zEv.br0 (tgt := 43) rfl rfl (fun h => kt (of_decide_eq_true h)) (fun h => kf (of_decide_eq_false h)))
set_option maxRecDepth 100000 in
theorem B_X7_sheet_r1_37 (Ln : Nat) (I A : Nat → Nat → Int32) (v1 : Int32) (v2 : Int32) (v3 : Int32) {r : zRs}  {q : zRs} (hc : zEv 83 0 0 0 [some (.ref 1), some (.int 4)] [] (zGs Ln I A) q) {w : Int32} (hn : q.1 = some (.int w)) (hk : zEv 66 42 0 0 [some (.ref 1), some (.int v1), some (.int v2), some (.int v3)] (.int w :: []) q.2 r) : zEv 66 37 0 0 [some (.ref 1), some (.int v1), some (.int v2), some (.int v3)] [] (zGs Ln I A) r := 
  zEv.lift 2 (fun _ => by with_unfolding_all rfl) (show zEv 66 39 0 0 [some (.ref 1), some (.int v1), some (.int v2), some (.int v3)] [.int 4, .ref 1] (zGs Ln I A) r from zEv.call (as := [.ref 1, .int 4]) rfl (fun _ => rfl) (Nat.le_of_ble_eq_true rfl) hc (by rw [hn]; exact hk))
set_option maxRecDepth 100000 in
theorem B_X7_sheet_r1_42_s1 (Ln : Nat) (I A : Nat → Nat → Int32) (v1 : Int32) (v2 : Int32) (v3 : Int32) (s0 : Int32)   : zEv 66 42 0 0 [some (.ref 1), some (.int v1), some (.int v2), some (.int v3)] [.int s0] (zGs Ln I A) (some (.int s0), zGs Ln (I) (A)) := 
  zEv.ret rfl
set_option maxRecDepth 100000 in
theorem B_X7_sheet_r1_c0_0 (Ln : Nat) (I A : Nat → Nat → Int32) (v2 : Int32) (v3 : Int32) {r : zRs}  {q : zRs} (hc : zEv 80 0 0 0 [some (.int 0)] [] (zGs Ln I A) q) {w : Int32} (hn : q.1 = some (.int w)) (hk : zEv 66 4 0 0 [some (.ref 1), some (.int 0), some (.int v2), some (.int v3)] (.int w :: []) q.2 r) : zEv 66 0 0 0 [some (.ref 1), some (.int 0), some (.int v2), some (.int v3)] [] (zGs Ln I A) r := 
  zEv.lift 1 (fun _ => by with_unfolding_all rfl) (show zEv 66 1 0 0 [some (.ref 1), some (.int 0), some (.int v2), some (.int v3)] [.int 0] (zGs Ln I A) r from zEv.call (as := [.int 0]) rfl (fun _ => rfl) (Nat.le_of_ble_eq_true rfl) hc (by rw [hn]; exact hk))
set_option maxRecDepth 100000 in
theorem B_X7_sheet_r1_c0_4_s1 (Ln : Nat) (I A : Nat → Nat → Int32) (v2 : Int32) (v3 : Int32) (s0 : Int32) {r : zRs}  (kt : s0 ≠ 0 → zEv 66 13 0 0 [some (.ref 1), some (.int 0), some (.int v2), some (.int v3)] [] (zGs Ln I A) r) (kf : ¬ (s0 ≠ 0) → zEv 66 7 0 0 [some (.ref 1), some (.int 0), some (.int v2), some (.int v3)] [] (zGs Ln I A) r) : zEv 66 4 0 0 [some (.ref 1), some (.int 0), some (.int v2), some (.int v3)] [.int s0] (zGs Ln I A) r := 
  zEv.br0 (tgt := 13) rfl rfl (fun h => kt (of_decide_eq_true h)) (fun h => kf (of_decide_eq_false h))
set_option maxRecDepth 100000 in
theorem B_X7_sheet_r1_c0_7 (Ln : Nat) (I A : Nat → Nat → Int32) (v2 : Int32) (v3 : Int32) {r : zRs}  {q : zRs} (hc : zEv 82 0 0 0 [some (.ref 1), some (.int ((-1)))] [] (zGs Ln I A) q) {w : Int32} (hn : q.1 = some (.int w)) (hk : zEv 66 12 0 0 [some (.ref 1), some (.int 0), some (.int v2), some (.int v3)] (.int w :: []) q.2 r) : zEv 66 7 0 0 [some (.ref 1), some (.int 0), some (.int v2), some (.int v3)] [] (zGs Ln I A) r := 
  zEv.lift 2 (fun _ => by with_unfolding_all rfl) (show zEv 66 9 0 0 [some (.ref 1), some (.int 0), some (.int v2), some (.int v3)] [.int ((-1)), .ref 1] (zGs Ln I A) r from zEv.call (as := [.ref 1, .int ((-1))]) rfl (fun _ => rfl) (Nat.le_of_ble_eq_true rfl) hc (by rw [hn]; exact hk))
set_option maxRecDepth 100000 in
theorem B_X7_sheet_r1_c0_12_s1 (Ln : Nat) (I A : Nat → Nat → Int32) (v2 : Int32) (v3 : Int32) (s0 : Int32)   : zEv 66 12 0 0 [some (.ref 1), some (.int 0), some (.int v2), some (.int v3)] [.int s0] (zGs Ln I A) (some (.int s0), zGs Ln (I) (A)) := 
  zEv.ret rfl
set_option maxRecDepth 100000 in
theorem B_X7_sheet_r1_c0_13 (Ln : Nat) (I A : Nat → Nat → Int32) (v2 : Int32) (v3 : Int32) {r : zRs}  {q : zRs} (hc : zEv 81 0 0 0 [some (.int v2)] [] (zGs Ln I A) q) {w : Int32} (hn : q.1 = some (.int w)) (hk : zEv 66 17 0 0 [some (.ref 1), some (.int 0), some (.int v2), some (.int v3)] (.int w :: []) q.2 r) : zEv 66 13 0 0 [some (.ref 1), some (.int 0), some (.int v2), some (.int v3)] [] (zGs Ln I A) r := 
  zEv.lift 1 (fun _ => by with_unfolding_all rfl) (show zEv 66 14 0 0 [some (.ref 1), some (.int 0), some (.int v2), some (.int v3)] [.int v2] (zGs Ln I A) r from zEv.call (as := [.int v2]) rfl (fun _ => rfl) (Nat.le_of_ble_eq_true rfl) hc (by rw [hn]; exact hk))
set_option maxRecDepth 100000 in
theorem B_X7_sheet_r1_c0_17_s1 (Ln : Nat) (I A : Nat → Nat → Int32) (v2 : Int32) (v3 : Int32) (s0 : Int32) {r : zRs}  (kt : s0 = 0 → zEv 66 26 0 0 [some (.ref 1), some (.int 0), some (.int v2), some (.int v3)] [] (zGs Ln I A) r) (kf : ¬ (s0 = 0) → zEv 66 20 0 0 [some (.ref 1), some (.int 0), some (.int v2), some (.int v3)] [] (zGs Ln I A) r) : zEv 66 17 0 0 [some (.ref 1), some (.int 0), some (.int v2), some (.int v3)] [.int s0] (zGs Ln I A) r := 
  zEv.br0 (tgt := 26) rfl rfl (fun h => kt (of_decide_eq_true h)) (fun h => kf (of_decide_eq_false h))
set_option maxRecDepth 100000 in
theorem B_X7_sheet_r1_c0_20 (Ln : Nat) (I A : Nat → Nat → Int32) (v2 : Int32) (v3 : Int32) {r : zRs}  (kt : v3 ≤ 60 → zEv 66 33 0 0 [some (.ref 1), some (.int 0), some (.int v2), some (.int v3)] [] (zGs Ln I A) r) (kf : ¬ (v3 ≤ 60) → zEv 66 26 0 0 [some (.ref 1), some (.int 0), some (.int v2), some (.int v3)] [] (zGs Ln I A) r) : zEv 66 20 0 0 [some (.ref 1), some (.int 0), some (.int v2), some (.int v3)] [] (zGs Ln I A) r := 
  zEv.lift 2 (fun _ => by with_unfolding_all rfl) (show zEv 66 23 0 0 [some (.ref 1), some (.int 0), some (.int v2), some (.int v3)] [.int 60, .int v3] (zGs Ln I A) r from zEv.br (tgt := 33) rfl rfl (fun h => kt (of_decide_eq_true h)) (fun h => kf (of_decide_eq_false h)))
set_option maxRecDepth 100000 in
theorem B_X7_sheet_r1_c0_26 (Ln : Nat) (I A : Nat → Nat → Int32) (v2 : Int32) (v3 : Int32) {r : zRs}  {q : zRs} (hc : zEv 82 0 0 0 [some (.ref 1), some (.int ((-2)))] [] (zGs Ln I A) q) {w : Int32} (hn : q.1 = some (.int w)) (hk : zEv 66 32 0 0 [some (.ref 1), some (.int 0), some (.int v2), some (.int v3)] (.int w :: []) q.2 r) : zEv 66 26 0 0 [some (.ref 1), some (.int 0), some (.int v2), some (.int v3)] [] (zGs Ln I A) r := 
  zEv.lift 2 (fun _ => by with_unfolding_all rfl) (show zEv 66 29 0 0 [some (.ref 1), some (.int 0), some (.int v2), some (.int v3)] [.int ((-2)), .ref 1] (zGs Ln I A) r from zEv.call (as := [.ref 1, .int ((-2))]) rfl (fun _ => rfl) (Nat.le_of_ble_eq_true rfl) hc (by rw [hn]; exact hk))
set_option maxRecDepth 100000 in
theorem B_X7_sheet_r1_c0_32_s1 (Ln : Nat) (I A : Nat → Nat → Int32) (v2 : Int32) (v3 : Int32) (s0 : Int32)   : zEv 66 32 0 0 [some (.ref 1), some (.int 0), some (.int v2), some (.int v3)] [.int s0] (zGs Ln I A) (some (.int s0), zGs Ln (I) (A)) := 
  zEv.ret rfl
set_option maxRecDepth 100000 in
theorem B_X7_sheet_r1_c0_33 (Ln : Nat) (I A : Nat → Nat → Int32) (v2 : Int32) (v3 : Int32) {r : zRs}  (kt : 0 ≤ v3 → zEv 66 43 0 0 [some (.ref 1), some (.int 0), some (.int v2), some (.int v3)] [] (zGs Ln I A) r) (kf : ¬ (0 ≤ v3) → zEv 66 37 0 0 [some (.ref 1), some (.int 0), some (.int v2), some (.int v3)] [] (zGs Ln I A) r) : zEv 66 33 0 0 [some (.ref 1), some (.int 0), some (.int v2), some (.int v3)] [] (zGs Ln I A) r := 
  zEv.lift 1 (fun _ => by with_unfolding_all rfl) (show zEv 66 34 0 0 [some (.ref 1), some (.int 0), some (.int v2), some (.int v3)] [.int v3] (zGs Ln I A) r from zEv.br0 (tgt := 43) rfl rfl (fun h => kt (of_decide_eq_true h)) (fun h => kf (of_decide_eq_false h)))
set_option maxRecDepth 100000 in
theorem B_X7_sheet_r1_c0_37 (Ln : Nat) (I A : Nat → Nat → Int32) (v2 : Int32) (v3 : Int32) {r : zRs}  {q : zRs} (hc : zEv 83 0 0 0 [some (.ref 1), some (.int 4)] [] (zGs Ln I A) q) {w : Int32} (hn : q.1 = some (.int w)) (hk : zEv 66 42 0 0 [some (.ref 1), some (.int 0), some (.int v2), some (.int v3)] (.int w :: []) q.2 r) : zEv 66 37 0 0 [some (.ref 1), some (.int 0), some (.int v2), some (.int v3)] [] (zGs Ln I A) r := 
  zEv.lift 2 (fun _ => by with_unfolding_all rfl) (show zEv 66 39 0 0 [some (.ref 1), some (.int 0), some (.int v2), some (.int v3)] [.int 4, .ref 1] (zGs Ln I A) r from zEv.call (as := [.ref 1, .int 4]) rfl (fun _ => rfl) (Nat.le_of_ble_eq_true rfl) hc (by rw [hn]; exact hk))
set_option maxRecDepth 100000 in
theorem B_X7_sheet_r1_c0_42_s1 (Ln : Nat) (I A : Nat → Nat → Int32) (v2 : Int32) (v3 : Int32) (s0 : Int32)   : zEv 66 42 0 0 [some (.ref 1), some (.int 0), some (.int v2), some (.int v3)] [.int s0] (zGs Ln I A) (some (.int s0), zGs Ln (I) (A)) := 
  zEv.ret rfl
set_option maxRecDepth 100000 in
theorem B_X7_sheet_r1_c0_43 (Ln : Nat) (I A : Nat → Nat → Int32) (v2 : Int32) (v3 : Int32) {r : zRs}  {q : zRs} (hc : zEv 22 0 0 0 [some (.ref 3), some (.int v2), some (.int v3)] [] (zGs Ln I A) q) (hn : q.1 = none) (hk : zEv 66 54 0 0 [some (.ref 1), some (.int 0), some (.int v2), some (.int v3)] [] q.2 r) : zEv 66 43 0 0 [some (.ref 1), some (.int 0), some (.int v2), some (.int v3)] [] (zGs Ln I A) r := 
  zEv.lift 6 (fun _ => by with_unfolding_all rfl) (show zEv 66 51 0 0 [some (.ref 1), some (.int 0), some (.int v2), some (.int v3)] [.int v3, .int v2, .ref 3] (zGs Ln I A) r from zEv.call (as := [.ref 3, .int v2, .int v3]) rfl (fun _ => rfl) (Nat.le_of_ble_eq_true rfl) hc (by rw [hn]; exact hk))
set_option maxRecDepth 100000 in
theorem B_X7_sheet_r1_c0_54 (Ln : Nat) (I A : Nat → Nat → Int32) (v2 : Int32) (v3 : Int32) {r : zRs}  {q : zRs} (hc : zEv 82 0 0 0 [some (.ref 1), some (.int 1)] [] (zGs Ln I A) q) {w : Int32} (hn : q.1 = some (.int w)) (hk : zEv 66 59 0 0 [some (.ref 1), some (.int 0), some (.int v2), some (.int v3)] (.int w :: []) q.2 r) : zEv 66 54 0 0 [some (.ref 1), some (.int 0), some (.int v2), some (.int v3)] [] (zGs Ln I A) r := 
  zEv.lift 2 (fun _ => by with_unfolding_all rfl) (show zEv 66 56 0 0 [some (.ref 1), some (.int 0), some (.int v2), some (.int v3)] [.int 1, .ref 1] (zGs Ln I A) r from zEv.call (as := [.ref 1, .int 1]) rfl (fun _ => rfl) (Nat.le_of_ble_eq_true rfl) hc (by rw [hn]; exact hk))
set_option maxRecDepth 100000 in
theorem B_X7_sheet_r1_c0_59_s1 (Ln : Nat) (I A : Nat → Nat → Int32) (v2 : Int32) (v3 : Int32) (s0 : Int32)   : zEv 66 59 0 0 [some (.ref 1), some (.int 0), some (.int v2), some (.int v3)] [.int s0] (zGs Ln I A) (some (.int s0), zGs Ln (I) (A)) := 
  zEv.ret rfl
set_option maxRecDepth 100000 in
theorem B_X7_sheet_r1_c1_0 (Ln : Nat) (I A : Nat → Nat → Int32) (v2 : Int32) (v3 : Int32) {r : zRs}  {q : zRs} (hc : zEv 80 0 0 0 [some (.int 1)] [] (zGs Ln I A) q) {w : Int32} (hn : q.1 = some (.int w)) (hk : zEv 66 4 0 0 [some (.ref 1), some (.int 1), some (.int v2), some (.int v3)] (.int w :: []) q.2 r) : zEv 66 0 0 0 [some (.ref 1), some (.int 1), some (.int v2), some (.int v3)] [] (zGs Ln I A) r := 
  zEv.lift 1 (fun _ => by with_unfolding_all rfl) (show zEv 66 1 0 0 [some (.ref 1), some (.int 1), some (.int v2), some (.int v3)] [.int 1] (zGs Ln I A) r from zEv.call (as := [.int 1]) rfl (fun _ => rfl) (Nat.le_of_ble_eq_true rfl) hc (by rw [hn]; exact hk))
set_option maxRecDepth 100000 in
theorem B_X7_sheet_r1_c1_4_s1 (Ln : Nat) (I A : Nat → Nat → Int32) (v2 : Int32) (v3 : Int32) (s0 : Int32) {r : zRs}  (kt : s0 ≠ 0 → zEv 66 13 0 0 [some (.ref 1), some (.int 1), some (.int v2), some (.int v3)] [] (zGs Ln I A) r) (kf : ¬ (s0 ≠ 0) → zEv 66 7 0 0 [some (.ref 1), some (.int 1), some (.int v2), some (.int v3)] [] (zGs Ln I A) r) : zEv 66 4 0 0 [some (.ref 1), some (.int 1), some (.int v2), some (.int v3)] [.int s0] (zGs Ln I A) r := 
  zEv.br0 (tgt := 13) rfl rfl (fun h => kt (of_decide_eq_true h)) (fun h => kf (of_decide_eq_false h))
set_option maxRecDepth 100000 in
theorem B_X7_sheet_r1_c1_7 (Ln : Nat) (I A : Nat → Nat → Int32) (v2 : Int32) (v3 : Int32) {r : zRs}  {q : zRs} (hc : zEv 82 0 0 0 [some (.ref 1), some (.int ((-1)))] [] (zGs Ln I A) q) {w : Int32} (hn : q.1 = some (.int w)) (hk : zEv 66 12 0 0 [some (.ref 1), some (.int 1), some (.int v2), some (.int v3)] (.int w :: []) q.2 r) : zEv 66 7 0 0 [some (.ref 1), some (.int 1), some (.int v2), some (.int v3)] [] (zGs Ln I A) r := 
  zEv.lift 2 (fun _ => by with_unfolding_all rfl) (show zEv 66 9 0 0 [some (.ref 1), some (.int 1), some (.int v2), some (.int v3)] [.int ((-1)), .ref 1] (zGs Ln I A) r from zEv.call (as := [.ref 1, .int ((-1))]) rfl (fun _ => rfl) (Nat.le_of_ble_eq_true rfl) hc (by rw [hn]; exact hk))
set_option maxRecDepth 100000 in
theorem B_X7_sheet_r1_c1_12_s1 (Ln : Nat) (I A : Nat → Nat → Int32) (v2 : Int32) (v3 : Int32) (s0 : Int32)   : zEv 66 12 0 0 [some (.ref 1), some (.int 1), some (.int v2), some (.int v3)] [.int s0] (zGs Ln I A) (some (.int s0), zGs Ln (I) (A)) := 
  zEv.ret rfl
set_option maxRecDepth 100000 in
theorem B_X7_sheet_r1_c1_13 (Ln : Nat) (I A : Nat → Nat → Int32) (v2 : Int32) (v3 : Int32) {r : zRs}  {q : zRs} (hc : zEv 81 0 0 0 [some (.int v2)] [] (zGs Ln I A) q) {w : Int32} (hn : q.1 = some (.int w)) (hk : zEv 66 17 0 0 [some (.ref 1), some (.int 1), some (.int v2), some (.int v3)] (.int w :: []) q.2 r) : zEv 66 13 0 0 [some (.ref 1), some (.int 1), some (.int v2), some (.int v3)] [] (zGs Ln I A) r := 
  zEv.lift 1 (fun _ => by with_unfolding_all rfl) (show zEv 66 14 0 0 [some (.ref 1), some (.int 1), some (.int v2), some (.int v3)] [.int v2] (zGs Ln I A) r from zEv.call (as := [.int v2]) rfl (fun _ => rfl) (Nat.le_of_ble_eq_true rfl) hc (by rw [hn]; exact hk))
set_option maxRecDepth 100000 in
theorem B_X7_sheet_r1_c1_17_s1 (Ln : Nat) (I A : Nat → Nat → Int32) (v2 : Int32) (v3 : Int32) (s0 : Int32) {r : zRs}  (kt : s0 = 0 → zEv 66 26 0 0 [some (.ref 1), some (.int 1), some (.int v2), some (.int v3)] [] (zGs Ln I A) r) (kf : ¬ (s0 = 0) → zEv 66 20 0 0 [some (.ref 1), some (.int 1), some (.int v2), some (.int v3)] [] (zGs Ln I A) r) : zEv 66 17 0 0 [some (.ref 1), some (.int 1), some (.int v2), some (.int v3)] [.int s0] (zGs Ln I A) r := 
  zEv.br0 (tgt := 26) rfl rfl (fun h => kt (of_decide_eq_true h)) (fun h => kf (of_decide_eq_false h))
set_option maxRecDepth 100000 in
theorem B_X7_sheet_r1_c1_20 (Ln : Nat) (I A : Nat → Nat → Int32) (v2 : Int32) (v3 : Int32) {r : zRs}  (kt : v3 ≤ 60 → zEv 66 33 0 0 [some (.ref 1), some (.int 1), some (.int v2), some (.int v3)] [] (zGs Ln I A) r) (kf : ¬ (v3 ≤ 60) → zEv 66 26 0 0 [some (.ref 1), some (.int 1), some (.int v2), some (.int v3)] [] (zGs Ln I A) r) : zEv 66 20 0 0 [some (.ref 1), some (.int 1), some (.int v2), some (.int v3)] [] (zGs Ln I A) r := 
  zEv.lift 2 (fun _ => by with_unfolding_all rfl) (show zEv 66 23 0 0 [some (.ref 1), some (.int 1), some (.int v2), some (.int v3)] [.int 60, .int v3] (zGs Ln I A) r from zEv.br (tgt := 33) rfl rfl (fun h => kt (of_decide_eq_true h)) (fun h => kf (of_decide_eq_false h)))
set_option maxRecDepth 100000 in
theorem B_X7_sheet_r1_c1_26 (Ln : Nat) (I A : Nat → Nat → Int32) (v2 : Int32) (v3 : Int32) {r : zRs}  {q : zRs} (hc : zEv 82 0 0 0 [some (.ref 1), some (.int ((-2)))] [] (zGs Ln I A) q) {w : Int32} (hn : q.1 = some (.int w)) (hk : zEv 66 32 0 0 [some (.ref 1), some (.int 1), some (.int v2), some (.int v3)] (.int w :: []) q.2 r) : zEv 66 26 0 0 [some (.ref 1), some (.int 1), some (.int v2), some (.int v3)] [] (zGs Ln I A) r := 
  zEv.lift 2 (fun _ => by with_unfolding_all rfl) (show zEv 66 29 0 0 [some (.ref 1), some (.int 1), some (.int v2), some (.int v3)] [.int ((-2)), .ref 1] (zGs Ln I A) r from zEv.call (as := [.ref 1, .int ((-2))]) rfl (fun _ => rfl) (Nat.le_of_ble_eq_true rfl) hc (by rw [hn]; exact hk))
set_option maxRecDepth 100000 in
theorem B_X7_sheet_r1_c1_32_s1 (Ln : Nat) (I A : Nat → Nat → Int32) (v2 : Int32) (v3 : Int32) (s0 : Int32)   : zEv 66 32 0 0 [some (.ref 1), some (.int 1), some (.int v2), some (.int v3)] [.int s0] (zGs Ln I A) (some (.int s0), zGs Ln (I) (A)) := 
  zEv.ret rfl
set_option maxRecDepth 100000 in
theorem B_X7_sheet_r1_c1_33 (Ln : Nat) (I A : Nat → Nat → Int32) (v2 : Int32) (v3 : Int32) {r : zRs}  (kt : 0 ≤ v3 → zEv 66 43 0 0 [some (.ref 1), some (.int 1), some (.int v2), some (.int v3)] [] (zGs Ln I A) r) (kf : ¬ (0 ≤ v3) → zEv 66 37 0 0 [some (.ref 1), some (.int 1), some (.int v2), some (.int v3)] [] (zGs Ln I A) r) : zEv 66 33 0 0 [some (.ref 1), some (.int 1), some (.int v2), some (.int v3)] [] (zGs Ln I A) r := 
  zEv.lift 1 (fun _ => by with_unfolding_all rfl) (show zEv 66 34 0 0 [some (.ref 1), some (.int 1), some (.int v2), some (.int v3)] [.int v3] (zGs Ln I A) r from zEv.br0 (tgt := 43) rfl rfl (fun h => kt (of_decide_eq_true h)) (fun h => kf (of_decide_eq_false h)))
set_option maxRecDepth 100000 in
theorem B_X7_sheet_r1_c1_37 (Ln : Nat) (I A : Nat → Nat → Int32) (v2 : Int32) (v3 : Int32) {r : zRs}  {q : zRs} (hc : zEv 83 0 0 0 [some (.ref 1), some (.int 4)] [] (zGs Ln I A) q) {w : Int32} (hn : q.1 = some (.int w)) (hk : zEv 66 42 0 0 [some (.ref 1), some (.int 1), some (.int v2), some (.int v3)] (.int w :: []) q.2 r) : zEv 66 37 0 0 [some (.ref 1), some (.int 1), some (.int v2), some (.int v3)] [] (zGs Ln I A) r := 
  zEv.lift 2 (fun _ => by with_unfolding_all rfl) (show zEv 66 39 0 0 [some (.ref 1), some (.int 1), some (.int v2), some (.int v3)] [.int 4, .ref 1] (zGs Ln I A) r from zEv.call (as := [.ref 1, .int 4]) rfl (fun _ => rfl) (Nat.le_of_ble_eq_true rfl) hc (by rw [hn]; exact hk))
set_option maxRecDepth 100000 in
theorem B_X7_sheet_r1_c1_42_s1 (Ln : Nat) (I A : Nat → Nat → Int32) (v2 : Int32) (v3 : Int32) (s0 : Int32)   : zEv 66 42 0 0 [some (.ref 1), some (.int 1), some (.int v2), some (.int v3)] [.int s0] (zGs Ln I A) (some (.int s0), zGs Ln (I) (A)) := 
  zEv.ret rfl
set_option maxRecDepth 100000 in
theorem B_X7_sheet_r1_c1_43 (Ln : Nat) (I A : Nat → Nat → Int32) (v2 : Int32) (v3 : Int32) {r : zRs}  {q : zRs} (hc : zEv 22 0 0 0 [some (.ref 5), some (.int v2), some (.int v3)] [] (zGs Ln I A) q) (hn : q.1 = none) (hk : zEv 66 54 0 0 [some (.ref 1), some (.int 1), some (.int v2), some (.int v3)] [] q.2 r) : zEv 66 43 0 0 [some (.ref 1), some (.int 1), some (.int v2), some (.int v3)] [] (zGs Ln I A) r := 
  zEv.lift 6 (fun _ => by with_unfolding_all rfl) (show zEv 66 51 0 0 [some (.ref 1), some (.int 1), some (.int v2), some (.int v3)] [.int v3, .int v2, .ref 5] (zGs Ln I A) r from zEv.call (as := [.ref 5, .int v2, .int v3]) rfl (fun _ => rfl) (Nat.le_of_ble_eq_true rfl) hc (by rw [hn]; exact hk))
set_option maxRecDepth 100000 in
theorem B_X7_sheet_r1_c1_54 (Ln : Nat) (I A : Nat → Nat → Int32) (v2 : Int32) (v3 : Int32) {r : zRs}  {q : zRs} (hc : zEv 82 0 0 0 [some (.ref 1), some (.int 1)] [] (zGs Ln I A) q) {w : Int32} (hn : q.1 = some (.int w)) (hk : zEv 66 59 0 0 [some (.ref 1), some (.int 1), some (.int v2), some (.int v3)] (.int w :: []) q.2 r) : zEv 66 54 0 0 [some (.ref 1), some (.int 1), some (.int v2), some (.int v3)] [] (zGs Ln I A) r := 
  zEv.lift 2 (fun _ => by with_unfolding_all rfl) (show zEv 66 56 0 0 [some (.ref 1), some (.int 1), some (.int v2), some (.int v3)] [.int 1, .ref 1] (zGs Ln I A) r from zEv.call (as := [.ref 1, .int 1]) rfl (fun _ => rfl) (Nat.le_of_ble_eq_true rfl) hc (by rw [hn]; exact hk))
set_option maxRecDepth 100000 in
theorem B_X7_sheet_r1_c1_59_s1 (Ln : Nat) (I A : Nat → Nat → Int32) (v2 : Int32) (v3 : Int32) (s0 : Int32)   : zEv 66 59 0 0 [some (.ref 1), some (.int 1), some (.int v2), some (.int v3)] [.int s0] (zGs Ln I A) (some (.int s0), zGs Ln (I) (A)) := 
  zEv.ret rfl
set_option maxRecDepth 100000 in
theorem B_X7_sheet_r1_c2_0 (Ln : Nat) (I A : Nat → Nat → Int32) (v2 : Int32) (v3 : Int32) {r : zRs}  {q : zRs} (hc : zEv 80 0 0 0 [some (.int 2)] [] (zGs Ln I A) q) {w : Int32} (hn : q.1 = some (.int w)) (hk : zEv 66 4 0 0 [some (.ref 1), some (.int 2), some (.int v2), some (.int v3)] (.int w :: []) q.2 r) : zEv 66 0 0 0 [some (.ref 1), some (.int 2), some (.int v2), some (.int v3)] [] (zGs Ln I A) r := 
  zEv.lift 1 (fun _ => by with_unfolding_all rfl) (show zEv 66 1 0 0 [some (.ref 1), some (.int 2), some (.int v2), some (.int v3)] [.int 2] (zGs Ln I A) r from zEv.call (as := [.int 2]) rfl (fun _ => rfl) (Nat.le_of_ble_eq_true rfl) hc (by rw [hn]; exact hk))
set_option maxRecDepth 100000 in
theorem B_X7_sheet_r1_c2_4_s1 (Ln : Nat) (I A : Nat → Nat → Int32) (v2 : Int32) (v3 : Int32) (s0 : Int32) {r : zRs}  (kt : s0 ≠ 0 → zEv 66 13 0 0 [some (.ref 1), some (.int 2), some (.int v2), some (.int v3)] [] (zGs Ln I A) r) (kf : ¬ (s0 ≠ 0) → zEv 66 7 0 0 [some (.ref 1), some (.int 2), some (.int v2), some (.int v3)] [] (zGs Ln I A) r) : zEv 66 4 0 0 [some (.ref 1), some (.int 2), some (.int v2), some (.int v3)] [.int s0] (zGs Ln I A) r := 
  zEv.br0 (tgt := 13) rfl rfl (fun h => kt (of_decide_eq_true h)) (fun h => kf (of_decide_eq_false h))
set_option maxRecDepth 100000 in
theorem B_X7_sheet_r1_c2_7 (Ln : Nat) (I A : Nat → Nat → Int32) (v2 : Int32) (v3 : Int32) {r : zRs}  {q : zRs} (hc : zEv 82 0 0 0 [some (.ref 1), some (.int ((-1)))] [] (zGs Ln I A) q) {w : Int32} (hn : q.1 = some (.int w)) (hk : zEv 66 12 0 0 [some (.ref 1), some (.int 2), some (.int v2), some (.int v3)] (.int w :: []) q.2 r) : zEv 66 7 0 0 [some (.ref 1), some (.int 2), some (.int v2), some (.int v3)] [] (zGs Ln I A) r := 
  zEv.lift 2 (fun _ => by with_unfolding_all rfl) (show zEv 66 9 0 0 [some (.ref 1), some (.int 2), some (.int v2), some (.int v3)] [.int ((-1)), .ref 1] (zGs Ln I A) r from zEv.call (as := [.ref 1, .int ((-1))]) rfl (fun _ => rfl) (Nat.le_of_ble_eq_true rfl) hc (by rw [hn]; exact hk))
set_option maxRecDepth 100000 in
theorem B_X7_sheet_r1_c2_12_s1 (Ln : Nat) (I A : Nat → Nat → Int32) (v2 : Int32) (v3 : Int32) (s0 : Int32)   : zEv 66 12 0 0 [some (.ref 1), some (.int 2), some (.int v2), some (.int v3)] [.int s0] (zGs Ln I A) (some (.int s0), zGs Ln (I) (A)) := 
  zEv.ret rfl
set_option maxRecDepth 100000 in
theorem B_X7_sheet_r1_c2_13 (Ln : Nat) (I A : Nat → Nat → Int32) (v2 : Int32) (v3 : Int32) {r : zRs}  {q : zRs} (hc : zEv 81 0 0 0 [some (.int v2)] [] (zGs Ln I A) q) {w : Int32} (hn : q.1 = some (.int w)) (hk : zEv 66 17 0 0 [some (.ref 1), some (.int 2), some (.int v2), some (.int v3)] (.int w :: []) q.2 r) : zEv 66 13 0 0 [some (.ref 1), some (.int 2), some (.int v2), some (.int v3)] [] (zGs Ln I A) r := 
  zEv.lift 1 (fun _ => by with_unfolding_all rfl) (show zEv 66 14 0 0 [some (.ref 1), some (.int 2), some (.int v2), some (.int v3)] [.int v2] (zGs Ln I A) r from zEv.call (as := [.int v2]) rfl (fun _ => rfl) (Nat.le_of_ble_eq_true rfl) hc (by rw [hn]; exact hk))
set_option maxRecDepth 100000 in
theorem B_X7_sheet_r1_c2_17_s1 (Ln : Nat) (I A : Nat → Nat → Int32) (v2 : Int32) (v3 : Int32) (s0 : Int32) {r : zRs}  (kt : s0 = 0 → zEv 66 26 0 0 [some (.ref 1), some (.int 2), some (.int v2), some (.int v3)] [] (zGs Ln I A) r) (kf : ¬ (s0 = 0) → zEv 66 20 0 0 [some (.ref 1), some (.int 2), some (.int v2), some (.int v3)] [] (zGs Ln I A) r) : zEv 66 17 0 0 [some (.ref 1), some (.int 2), some (.int v2), some (.int v3)] [.int s0] (zGs Ln I A) r := 
  zEv.br0 (tgt := 26) rfl rfl (fun h => kt (of_decide_eq_true h)) (fun h => kf (of_decide_eq_false h))
set_option maxRecDepth 100000 in
theorem B_X7_sheet_r1_c2_20 (Ln : Nat) (I A : Nat → Nat → Int32) (v2 : Int32) (v3 : Int32) {r : zRs}  (kt : v3 ≤ 60 → zEv 66 33 0 0 [some (.ref 1), some (.int 2), some (.int v2), some (.int v3)] [] (zGs Ln I A) r) (kf : ¬ (v3 ≤ 60) → zEv 66 26 0 0 [some (.ref 1), some (.int 2), some (.int v2), some (.int v3)] [] (zGs Ln I A) r) : zEv 66 20 0 0 [some (.ref 1), some (.int 2), some (.int v2), some (.int v3)] [] (zGs Ln I A) r := 
  zEv.lift 2 (fun _ => by with_unfolding_all rfl) (show zEv 66 23 0 0 [some (.ref 1), some (.int 2), some (.int v2), some (.int v3)] [.int 60, .int v3] (zGs Ln I A) r from zEv.br (tgt := 33) rfl rfl (fun h => kt (of_decide_eq_true h)) (fun h => kf (of_decide_eq_false h)))
set_option maxRecDepth 100000 in
theorem B_X7_sheet_r1_c2_26 (Ln : Nat) (I A : Nat → Nat → Int32) (v2 : Int32) (v3 : Int32) {r : zRs}  {q : zRs} (hc : zEv 82 0 0 0 [some (.ref 1), some (.int ((-2)))] [] (zGs Ln I A) q) {w : Int32} (hn : q.1 = some (.int w)) (hk : zEv 66 32 0 0 [some (.ref 1), some (.int 2), some (.int v2), some (.int v3)] (.int w :: []) q.2 r) : zEv 66 26 0 0 [some (.ref 1), some (.int 2), some (.int v2), some (.int v3)] [] (zGs Ln I A) r := 
  zEv.lift 2 (fun _ => by with_unfolding_all rfl) (show zEv 66 29 0 0 [some (.ref 1), some (.int 2), some (.int v2), some (.int v3)] [.int ((-2)), .ref 1] (zGs Ln I A) r from zEv.call (as := [.ref 1, .int ((-2))]) rfl (fun _ => rfl) (Nat.le_of_ble_eq_true rfl) hc (by rw [hn]; exact hk))
set_option maxRecDepth 100000 in
theorem B_X7_sheet_r1_c2_32_s1 (Ln : Nat) (I A : Nat → Nat → Int32) (v2 : Int32) (v3 : Int32) (s0 : Int32)   : zEv 66 32 0 0 [some (.ref 1), some (.int 2), some (.int v2), some (.int v3)] [.int s0] (zGs Ln I A) (some (.int s0), zGs Ln (I) (A)) := 
  zEv.ret rfl
set_option maxRecDepth 100000 in
theorem B_X7_sheet_r1_c2_33 (Ln : Nat) (I A : Nat → Nat → Int32) (v2 : Int32) (v3 : Int32) {r : zRs}  (kt : 0 ≤ v3 → zEv 66 43 0 0 [some (.ref 1), some (.int 2), some (.int v2), some (.int v3)] [] (zGs Ln I A) r) (kf : ¬ (0 ≤ v3) → zEv 66 37 0 0 [some (.ref 1), some (.int 2), some (.int v2), some (.int v3)] [] (zGs Ln I A) r) : zEv 66 33 0 0 [some (.ref 1), some (.int 2), some (.int v2), some (.int v3)] [] (zGs Ln I A) r := 
  zEv.lift 1 (fun _ => by with_unfolding_all rfl) (show zEv 66 34 0 0 [some (.ref 1), some (.int 2), some (.int v2), some (.int v3)] [.int v3] (zGs Ln I A) r from zEv.br0 (tgt := 43) rfl rfl (fun h => kt (of_decide_eq_true h)) (fun h => kf (of_decide_eq_false h)))
set_option maxRecDepth 100000 in
theorem B_X7_sheet_r1_c2_37 (Ln : Nat) (I A : Nat → Nat → Int32) (v2 : Int32) (v3 : Int32) {r : zRs}  {q : zRs} (hc : zEv 83 0 0 0 [some (.ref 1), some (.int 4)] [] (zGs Ln I A) q) {w : Int32} (hn : q.1 = some (.int w)) (hk : zEv 66 42 0 0 [some (.ref 1), some (.int 2), some (.int v2), some (.int v3)] (.int w :: []) q.2 r) : zEv 66 37 0 0 [some (.ref 1), some (.int 2), some (.int v2), some (.int v3)] [] (zGs Ln I A) r := 
  zEv.lift 2 (fun _ => by with_unfolding_all rfl) (show zEv 66 39 0 0 [some (.ref 1), some (.int 2), some (.int v2), some (.int v3)] [.int 4, .ref 1] (zGs Ln I A) r from zEv.call (as := [.ref 1, .int 4]) rfl (fun _ => rfl) (Nat.le_of_ble_eq_true rfl) hc (by rw [hn]; exact hk))
set_option maxRecDepth 100000 in
theorem B_X7_sheet_r1_c2_42_s1 (Ln : Nat) (I A : Nat → Nat → Int32) (v2 : Int32) (v3 : Int32) (s0 : Int32)   : zEv 66 42 0 0 [some (.ref 1), some (.int 2), some (.int v2), some (.int v3)] [.int s0] (zGs Ln I A) (some (.int s0), zGs Ln (I) (A)) := 
  zEv.ret rfl
set_option maxRecDepth 100000 in
theorem B_X7_sheet_r1_c2_43 (Ln : Nat) (I A : Nat → Nat → Int32) (v2 : Int32) (v3 : Int32) {r : zRs}  {q : zRs} (hc : zEv 22 0 0 0 [some (.ref 7), some (.int v2), some (.int v3)] [] (zGs Ln I A) q) (hn : q.1 = none) (hk : zEv 66 54 0 0 [some (.ref 1), some (.int 2), some (.int v2), some (.int v3)] [] q.2 r) : zEv 66 43 0 0 [some (.ref 1), some (.int 2), some (.int v2), some (.int v3)] [] (zGs Ln I A) r := 
  zEv.lift 6 (fun _ => by with_unfolding_all rfl) (show zEv 66 51 0 0 [some (.ref 1), some (.int 2), some (.int v2), some (.int v3)] [.int v3, .int v2, .ref 7] (zGs Ln I A) r from zEv.call (as := [.ref 7, .int v2, .int v3]) rfl (fun _ => rfl) (Nat.le_of_ble_eq_true rfl) hc (by rw [hn]; exact hk))
set_option maxRecDepth 100000 in
theorem B_X7_sheet_r1_c2_54 (Ln : Nat) (I A : Nat → Nat → Int32) (v2 : Int32) (v3 : Int32) {r : zRs}  {q : zRs} (hc : zEv 82 0 0 0 [some (.ref 1), some (.int 1)] [] (zGs Ln I A) q) {w : Int32} (hn : q.1 = some (.int w)) (hk : zEv 66 59 0 0 [some (.ref 1), some (.int 2), some (.int v2), some (.int v3)] (.int w :: []) q.2 r) : zEv 66 54 0 0 [some (.ref 1), some (.int 2), some (.int v2), some (.int v3)] [] (zGs Ln I A) r := 
  zEv.lift 2 (fun _ => by with_unfolding_all rfl) (show zEv 66 56 0 0 [some (.ref 1), some (.int 2), some (.int v2), some (.int v3)] [.int 1, .ref 1] (zGs Ln I A) r from zEv.call (as := [.ref 1, .int 1]) rfl (fun _ => rfl) (Nat.le_of_ble_eq_true rfl) hc (by rw [hn]; exact hk))
set_option maxRecDepth 100000 in
theorem B_X7_sheet_r1_c2_59_s1 (Ln : Nat) (I A : Nat → Nat → Int32) (v2 : Int32) (v3 : Int32) (s0 : Int32)   : zEv 66 59 0 0 [some (.ref 1), some (.int 2), some (.int v2), some (.int v3)] [.int s0] (zGs Ln I A) (some (.int s0), zGs Ln (I) (A)) := 
  zEv.ret rfl
set_option maxRecDepth 100000 in
theorem B_X7_sheet_r1_c3_0 (Ln : Nat) (I A : Nat → Nat → Int32) (v2 : Int32) (v3 : Int32) {r : zRs}  {q : zRs} (hc : zEv 80 0 0 0 [some (.int 3)] [] (zGs Ln I A) q) {w : Int32} (hn : q.1 = some (.int w)) (hk : zEv 66 4 0 0 [some (.ref 1), some (.int 3), some (.int v2), some (.int v3)] (.int w :: []) q.2 r) : zEv 66 0 0 0 [some (.ref 1), some (.int 3), some (.int v2), some (.int v3)] [] (zGs Ln I A) r := 
  zEv.lift 1 (fun _ => by with_unfolding_all rfl) (show zEv 66 1 0 0 [some (.ref 1), some (.int 3), some (.int v2), some (.int v3)] [.int 3] (zGs Ln I A) r from zEv.call (as := [.int 3]) rfl (fun _ => rfl) (Nat.le_of_ble_eq_true rfl) hc (by rw [hn]; exact hk))
set_option maxRecDepth 100000 in
theorem B_X7_sheet_r1_c3_4_s1 (Ln : Nat) (I A : Nat → Nat → Int32) (v2 : Int32) (v3 : Int32) (s0 : Int32) {r : zRs}  (kt : s0 ≠ 0 → zEv 66 13 0 0 [some (.ref 1), some (.int 3), some (.int v2), some (.int v3)] [] (zGs Ln I A) r) (kf : ¬ (s0 ≠ 0) → zEv 66 7 0 0 [some (.ref 1), some (.int 3), some (.int v2), some (.int v3)] [] (zGs Ln I A) r) : zEv 66 4 0 0 [some (.ref 1), some (.int 3), some (.int v2), some (.int v3)] [.int s0] (zGs Ln I A) r := 
  zEv.br0 (tgt := 13) rfl rfl (fun h => kt (of_decide_eq_true h)) (fun h => kf (of_decide_eq_false h))
set_option maxRecDepth 100000 in
theorem B_X7_sheet_r1_c3_7 (Ln : Nat) (I A : Nat → Nat → Int32) (v2 : Int32) (v3 : Int32) {r : zRs}  {q : zRs} (hc : zEv 82 0 0 0 [some (.ref 1), some (.int ((-1)))] [] (zGs Ln I A) q) {w : Int32} (hn : q.1 = some (.int w)) (hk : zEv 66 12 0 0 [some (.ref 1), some (.int 3), some (.int v2), some (.int v3)] (.int w :: []) q.2 r) : zEv 66 7 0 0 [some (.ref 1), some (.int 3), some (.int v2), some (.int v3)] [] (zGs Ln I A) r := 
  zEv.lift 2 (fun _ => by with_unfolding_all rfl) (show zEv 66 9 0 0 [some (.ref 1), some (.int 3), some (.int v2), some (.int v3)] [.int ((-1)), .ref 1] (zGs Ln I A) r from zEv.call (as := [.ref 1, .int ((-1))]) rfl (fun _ => rfl) (Nat.le_of_ble_eq_true rfl) hc (by rw [hn]; exact hk))
set_option maxRecDepth 100000 in
theorem B_X7_sheet_r1_c3_12_s1 (Ln : Nat) (I A : Nat → Nat → Int32) (v2 : Int32) (v3 : Int32) (s0 : Int32)   : zEv 66 12 0 0 [some (.ref 1), some (.int 3), some (.int v2), some (.int v3)] [.int s0] (zGs Ln I A) (some (.int s0), zGs Ln (I) (A)) := 
  zEv.ret rfl
set_option maxRecDepth 100000 in
theorem B_X7_sheet_r1_c3_13 (Ln : Nat) (I A : Nat → Nat → Int32) (v2 : Int32) (v3 : Int32) {r : zRs}  {q : zRs} (hc : zEv 81 0 0 0 [some (.int v2)] [] (zGs Ln I A) q) {w : Int32} (hn : q.1 = some (.int w)) (hk : zEv 66 17 0 0 [some (.ref 1), some (.int 3), some (.int v2), some (.int v3)] (.int w :: []) q.2 r) : zEv 66 13 0 0 [some (.ref 1), some (.int 3), some (.int v2), some (.int v3)] [] (zGs Ln I A) r := 
  zEv.lift 1 (fun _ => by with_unfolding_all rfl) (show zEv 66 14 0 0 [some (.ref 1), some (.int 3), some (.int v2), some (.int v3)] [.int v2] (zGs Ln I A) r from zEv.call (as := [.int v2]) rfl (fun _ => rfl) (Nat.le_of_ble_eq_true rfl) hc (by rw [hn]; exact hk))
set_option maxRecDepth 100000 in
theorem B_X7_sheet_r1_c3_17_s1 (Ln : Nat) (I A : Nat → Nat → Int32) (v2 : Int32) (v3 : Int32) (s0 : Int32) {r : zRs}  (kt : s0 = 0 → zEv 66 26 0 0 [some (.ref 1), some (.int 3), some (.int v2), some (.int v3)] [] (zGs Ln I A) r) (kf : ¬ (s0 = 0) → zEv 66 20 0 0 [some (.ref 1), some (.int 3), some (.int v2), some (.int v3)] [] (zGs Ln I A) r) : zEv 66 17 0 0 [some (.ref 1), some (.int 3), some (.int v2), some (.int v3)] [.int s0] (zGs Ln I A) r := 
  zEv.br0 (tgt := 26) rfl rfl (fun h => kt (of_decide_eq_true h)) (fun h => kf (of_decide_eq_false h))
set_option maxRecDepth 100000 in
theorem B_X7_sheet_r1_c3_20 (Ln : Nat) (I A : Nat → Nat → Int32) (v2 : Int32) (v3 : Int32) {r : zRs}  (kt : v3 ≤ 60 → zEv 66 33 0 0 [some (.ref 1), some (.int 3), some (.int v2), some (.int v3)] [] (zGs Ln I A) r) (kf : ¬ (v3 ≤ 60) → zEv 66 26 0 0 [some (.ref 1), some (.int 3), some (.int v2), some (.int v3)] [] (zGs Ln I A) r) : zEv 66 20 0 0 [some (.ref 1), some (.int 3), some (.int v2), some (.int v3)] [] (zGs Ln I A) r := 
  zEv.lift 2 (fun _ => by with_unfolding_all rfl) (show zEv 66 23 0 0 [some (.ref 1), some (.int 3), some (.int v2), some (.int v3)] [.int 60, .int v3] (zGs Ln I A) r from zEv.br (tgt := 33) rfl rfl (fun h => kt (of_decide_eq_true h)) (fun h => kf (of_decide_eq_false h)))
set_option maxRecDepth 100000 in
theorem B_X7_sheet_r1_c3_26 (Ln : Nat) (I A : Nat → Nat → Int32) (v2 : Int32) (v3 : Int32) {r : zRs}  {q : zRs} (hc : zEv 82 0 0 0 [some (.ref 1), some (.int ((-2)))] [] (zGs Ln I A) q) {w : Int32} (hn : q.1 = some (.int w)) (hk : zEv 66 32 0 0 [some (.ref 1), some (.int 3), some (.int v2), some (.int v3)] (.int w :: []) q.2 r) : zEv 66 26 0 0 [some (.ref 1), some (.int 3), some (.int v2), some (.int v3)] [] (zGs Ln I A) r := 
  zEv.lift 2 (fun _ => by with_unfolding_all rfl) (show zEv 66 29 0 0 [some (.ref 1), some (.int 3), some (.int v2), some (.int v3)] [.int ((-2)), .ref 1] (zGs Ln I A) r from zEv.call (as := [.ref 1, .int ((-2))]) rfl (fun _ => rfl) (Nat.le_of_ble_eq_true rfl) hc (by rw [hn]; exact hk))
set_option maxRecDepth 100000 in
theorem B_X7_sheet_r1_c3_32_s1 (Ln : Nat) (I A : Nat → Nat → Int32) (v2 : Int32) (v3 : Int32) (s0 : Int32)   : zEv 66 32 0 0 [some (.ref 1), some (.int 3), some (.int v2), some (.int v3)] [.int s0] (zGs Ln I A) (some (.int s0), zGs Ln (I) (A)) := 
  zEv.ret rfl
set_option maxRecDepth 100000 in
theorem B_X7_sheet_r1_c3_33 (Ln : Nat) (I A : Nat → Nat → Int32) (v2 : Int32) (v3 : Int32) {r : zRs}  (kt : 0 ≤ v3 → zEv 66 43 0 0 [some (.ref 1), some (.int 3), some (.int v2), some (.int v3)] [] (zGs Ln I A) r) (kf : ¬ (0 ≤ v3) → zEv 66 37 0 0 [some (.ref 1), some (.int 3), some (.int v2), some (.int v3)] [] (zGs Ln I A) r) : zEv 66 33 0 0 [some (.ref 1), some (.int 3), some (.int v2), some (.int v3)] [] (zGs Ln I A) r := 
  zEv.lift 1 (fun _ => by with_unfolding_all rfl) (show zEv 66 34 0 0 [some (.ref 1), some (.int 3), some (.int v2), some (.int v3)] [.int v3] (zGs Ln I A) r from zEv.br0 (tgt := 43) rfl rfl (fun h => kt (of_decide_eq_true h)) (fun h => kf (of_decide_eq_false h)))
set_option maxRecDepth 100000 in
theorem B_X7_sheet_r1_c3_37 (Ln : Nat) (I A : Nat → Nat → Int32) (v2 : Int32) (v3 : Int32) {r : zRs}  {q : zRs} (hc : zEv 83 0 0 0 [some (.ref 1), some (.int 4)] [] (zGs Ln I A) q) {w : Int32} (hn : q.1 = some (.int w)) (hk : zEv 66 42 0 0 [some (.ref 1), some (.int 3), some (.int v2), some (.int v3)] (.int w :: []) q.2 r) : zEv 66 37 0 0 [some (.ref 1), some (.int 3), some (.int v2), some (.int v3)] [] (zGs Ln I A) r := 
  zEv.lift 2 (fun _ => by with_unfolding_all rfl) (show zEv 66 39 0 0 [some (.ref 1), some (.int 3), some (.int v2), some (.int v3)] [.int 4, .ref 1] (zGs Ln I A) r from zEv.call (as := [.ref 1, .int 4]) rfl (fun _ => rfl) (Nat.le_of_ble_eq_true rfl) hc (by rw [hn]; exact hk))
set_option maxRecDepth 100000 in
theorem B_X7_sheet_r1_c3_42_s1 (Ln : Nat) (I A : Nat → Nat → Int32) (v2 : Int32) (v3 : Int32) (s0 : Int32)   : zEv 66 42 0 0 [some (.ref 1), some (.int 3), some (.int v2), some (.int v3)] [.int s0] (zGs Ln I A) (some (.int s0), zGs Ln (I) (A)) := 
  zEv.ret rfl
set_option maxRecDepth 100000 in
theorem B_X7_sheet_r1_c3_43 (Ln : Nat) (I A : Nat → Nat → Int32) (v2 : Int32) (v3 : Int32) {r : zRs}  {q : zRs} (hc : zEv 22 0 0 0 [some (.ref 9), some (.int v2), some (.int v3)] [] (zGs Ln I A) q) (hn : q.1 = none) (hk : zEv 66 54 0 0 [some (.ref 1), some (.int 3), some (.int v2), some (.int v3)] [] q.2 r) : zEv 66 43 0 0 [some (.ref 1), some (.int 3), some (.int v2), some (.int v3)] [] (zGs Ln I A) r := 
  zEv.lift 6 (fun _ => by with_unfolding_all rfl) (show zEv 66 51 0 0 [some (.ref 1), some (.int 3), some (.int v2), some (.int v3)] [.int v3, .int v2, .ref 9] (zGs Ln I A) r from zEv.call (as := [.ref 9, .int v2, .int v3]) rfl (fun _ => rfl) (Nat.le_of_ble_eq_true rfl) hc (by rw [hn]; exact hk))
set_option maxRecDepth 100000 in
theorem B_X7_sheet_r1_c3_54 (Ln : Nat) (I A : Nat → Nat → Int32) (v2 : Int32) (v3 : Int32) {r : zRs}  {q : zRs} (hc : zEv 82 0 0 0 [some (.ref 1), some (.int 1)] [] (zGs Ln I A) q) {w : Int32} (hn : q.1 = some (.int w)) (hk : zEv 66 59 0 0 [some (.ref 1), some (.int 3), some (.int v2), some (.int v3)] (.int w :: []) q.2 r) : zEv 66 54 0 0 [some (.ref 1), some (.int 3), some (.int v2), some (.int v3)] [] (zGs Ln I A) r := 
  zEv.lift 2 (fun _ => by with_unfolding_all rfl) (show zEv 66 56 0 0 [some (.ref 1), some (.int 3), some (.int v2), some (.int v3)] [.int 1, .ref 1] (zGs Ln I A) r from zEv.call (as := [.ref 1, .int 1]) rfl (fun _ => rfl) (Nat.le_of_ble_eq_true rfl) hc (by rw [hn]; exact hk))
set_option maxRecDepth 100000 in
theorem B_X7_sheet_r1_c3_59_s1 (Ln : Nat) (I A : Nat → Nat → Int32) (v2 : Int32) (v3 : Int32) (s0 : Int32)   : zEv 66 59 0 0 [some (.ref 1), some (.int 3), some (.int v2), some (.int v3)] [.int s0] (zGs Ln I A) (some (.int s0), zGs Ln (I) (A)) := 
  zEv.ret rfl
set_option maxRecDepth 100000 in
theorem B_X7_lose_r1_0 (Ln : Nat) (I A : Nat → Nat → Int32) (v1 : Int32) {r : zRs}  {q : zRs} (hc : zEv 80 0 0 0 [some (.int v1)] [] (zGs Ln I A) q) {w : Int32} (hn : q.1 = some (.int w)) (hk : zEv 67 4 0 0 [some (.ref 1), some (.int v1), none] (.int w :: []) q.2 r) : zEv 67 0 0 0 [some (.ref 1), some (.int v1), none] [] (zGs Ln I A) r := 
  zEv.lift 1 (fun _ => by with_unfolding_all rfl) (show zEv 67 1 0 0 [some (.ref 1), some (.int v1), none] [.int v1] (zGs Ln I A) r from zEv.call (as := [.int v1]) rfl (fun _ => rfl) (Nat.le_of_ble_eq_true rfl) hc (by rw [hn]; exact hk))
set_option maxRecDepth 100000 in
theorem B_X7_lose_r1_4_s1 (Ln : Nat) (I A : Nat → Nat → Int32) (v1 : Int32) (s0 : Int32) {r : zRs}  (kt : s0 ≠ 0 → zEv 67 9 0 0 [some (.ref 1), some (.int v1), none] [] (zGs Ln I A) r) (kf : ¬ (s0 ≠ 0) → zEv 67 7 0 0 [some (.ref 1), some (.int v1), none] [] (zGs Ln I A) r) : zEv 67 4 0 0 [some (.ref 1), some (.int v1), none] [.int s0] (zGs Ln I A) r := 
  zEv.br0 (tgt := 9) rfl rfl (fun h => kt (of_decide_eq_true h)) (fun h => kf (of_decide_eq_false h))
set_option maxRecDepth 100000 in
theorem B_X7_lose_r1_7 (Ln : Nat) (I A : Nat → Nat → Int32) (v1 : Int32)   : zEv 67 7 0 0 [some (.ref 1), some (.int v1), none] [] (zGs Ln I A) (some (.int ((-1))), zGs Ln (I) (A)) := 
  zEv.lift 1 (fun _ => by with_unfolding_all rfl) (show zEv 67 8 0 0 [some (.ref 1), some (.int v1), none] [.int ((-1))] (zGs Ln I A) (some (.int ((-1))), zGs Ln (I) (A)) from zEv.ret rfl)
set_option maxRecDepth 100000 in
theorem B_X7_lose_r1_c0_0 (Ln : Nat) (I A : Nat → Nat → Int32)  {r : zRs}  {q : zRs} (hc : zEv 80 0 0 0 [some (.int 0)] [] (zGs Ln I A) q) {w : Int32} (hn : q.1 = some (.int w)) (hk : zEv 67 4 0 0 [some (.ref 1), some (.int 0), none] (.int w :: []) q.2 r) : zEv 67 0 0 0 [some (.ref 1), some (.int 0), none] [] (zGs Ln I A) r := 
  zEv.lift 1 (fun _ => by with_unfolding_all rfl) (show zEv 67 1 0 0 [some (.ref 1), some (.int 0), none] [.int 0] (zGs Ln I A) r from zEv.call (as := [.int 0]) rfl (fun _ => rfl) (Nat.le_of_ble_eq_true rfl) hc (by rw [hn]; exact hk))
set_option maxRecDepth 100000 in
theorem B_X7_lose_r1_c0_4_s1 (Ln : Nat) (I A : Nat → Nat → Int32) (s0 : Int32) {r : zRs}  (kt : s0 ≠ 0 → zEv 67 9 0 0 [some (.ref 1), some (.int 0), none] [] (zGs Ln I A) r) (kf : ¬ (s0 ≠ 0) → zEv 67 7 0 0 [some (.ref 1), some (.int 0), none] [] (zGs Ln I A) r) : zEv 67 4 0 0 [some (.ref 1), some (.int 0), none] [.int s0] (zGs Ln I A) r := 
  zEv.br0 (tgt := 9) rfl rfl (fun h => kt (of_decide_eq_true h)) (fun h => kf (of_decide_eq_false h))
set_option maxRecDepth 100000 in
theorem B_X7_lose_r1_c0_7 (Ln : Nat) (I A : Nat → Nat → Int32)    : zEv 67 7 0 0 [some (.ref 1), some (.int 0), none] [] (zGs Ln I A) (some (.int ((-1))), zGs Ln (I) (A)) := 
  zEv.lift 1 (fun _ => by with_unfolding_all rfl) (show zEv 67 8 0 0 [some (.ref 1), some (.int 0), none] [.int ((-1))] (zGs Ln I A) (some (.int ((-1))), zGs Ln (I) (A)) from zEv.ret rfl)
set_option maxRecDepth 100000 in
theorem B_X7_lose_r1_c0_9 (Ln : Nat) (I A : Nat → Nat → Int32)  {r : zRs}  (kt : (I 3 1) = 0 → zEv 67 25 0 0 [some (.ref 1), some (.int 0), none] [] (zGs Ln I A) r) (kf : ¬ ((I 3 1) = 0) → zEv 67 21 0 0 [some (.ref 1), some (.int 0), none] [] (zGs Ln I A) r) : zEv 67 9 0 0 [some (.ref 1), some (.int 0), none] [] (zGs Ln I A) r := 
  zEv.lift 5 (fun _ => by with_unfolding_all rfl) (show zEv 67 18 0 0 [some (.ref 1), some (.int 0), none] [.int (I 3 1)] (zGs Ln I A) r from zEv.br0 (tgt := 25) rfl rfl (fun h => kt (of_decide_eq_true h)) (fun h => kf (of_decide_eq_false h)))
set_option maxRecDepth 100000 in
theorem B_X7_lose_r1_c0_21 (Ln : Nat) (I A : Nat → Nat → Int32)  {r : zRs}  (hk : zEv 67 26 0 0 [some (.ref 1), some (.int 0), none] [.int 1] (zGs Ln I A) r) : zEv 67 21 0 0 [some (.ref 1), some (.int 0), none] [] (zGs Ln I A) r := 
  zEv.lift 2 (fun _ => by with_unfolding_all rfl) (show zEv 67 26 0 0 [some (.ref 1), some (.int 0), none] [.int 1] (zGs Ln I A) r from hk)
set_option maxRecDepth 100000 in
theorem B_X7_lose_r1_c0_25 (Ln : Nat) (I A : Nat → Nat → Int32)  {r : zRs}  (hk : zEv 67 26 0 0 [some (.ref 1), some (.int 0), none] [.int 0] (zGs Ln I A) r) : zEv 67 25 0 0 [some (.ref 1), some (.int 0), none] [] (zGs Ln I A) r := 
  zEv.lift 1 (fun _ => by with_unfolding_all rfl) (show zEv 67 26 0 0 [some (.ref 1), some (.int 0), none] [.int 0] (zGs Ln I A) r from hk)
set_option maxRecDepth 100000 in
theorem B_X7_lose_r1_c0_26_s1 (Ln : Nat) (I A : Nat → Nat → Int32) (s0 : Int32)   : zEv 67 26 0 0 [some (.ref 1), some (.int 0), none] [.int s0] (zGs Ln I A) (some (.int s0), zGs Ln (zp I 3 1 0) (A)) := 
  zEv.lift 8 (fun _ => by with_unfolding_all rfl) (show zEv 67 38 0 0 [some (.ref 1), some (.int 0), some (.int s0)] [.int s0] (zGs Ln (zp I 3 1 0) A) (some (.int s0), zGs Ln (zp I 3 1 0) (A)) from zEv.ret rfl)
set_option maxRecDepth 100000 in
theorem B_X7_lose_r1_c1_0 (Ln : Nat) (I A : Nat → Nat → Int32)  {r : zRs}  {q : zRs} (hc : zEv 80 0 0 0 [some (.int 1)] [] (zGs Ln I A) q) {w : Int32} (hn : q.1 = some (.int w)) (hk : zEv 67 4 0 0 [some (.ref 1), some (.int 1), none] (.int w :: []) q.2 r) : zEv 67 0 0 0 [some (.ref 1), some (.int 1), none] [] (zGs Ln I A) r := 
  zEv.lift 1 (fun _ => by with_unfolding_all rfl) (show zEv 67 1 0 0 [some (.ref 1), some (.int 1), none] [.int 1] (zGs Ln I A) r from zEv.call (as := [.int 1]) rfl (fun _ => rfl) (Nat.le_of_ble_eq_true rfl) hc (by rw [hn]; exact hk))
set_option maxRecDepth 100000 in
theorem B_X7_lose_r1_c1_4_s1 (Ln : Nat) (I A : Nat → Nat → Int32) (s0 : Int32) {r : zRs}  (kt : s0 ≠ 0 → zEv 67 9 0 0 [some (.ref 1), some (.int 1), none] [] (zGs Ln I A) r) (kf : ¬ (s0 ≠ 0) → zEv 67 7 0 0 [some (.ref 1), some (.int 1), none] [] (zGs Ln I A) r) : zEv 67 4 0 0 [some (.ref 1), some (.int 1), none] [.int s0] (zGs Ln I A) r := 
  zEv.br0 (tgt := 9) rfl rfl (fun h => kt (of_decide_eq_true h)) (fun h => kf (of_decide_eq_false h))
set_option maxRecDepth 100000 in
theorem B_X7_lose_r1_c1_7 (Ln : Nat) (I A : Nat → Nat → Int32)    : zEv 67 7 0 0 [some (.ref 1), some (.int 1), none] [] (zGs Ln I A) (some (.int ((-1))), zGs Ln (I) (A)) := 
  zEv.lift 1 (fun _ => by with_unfolding_all rfl) (show zEv 67 8 0 0 [some (.ref 1), some (.int 1), none] [.int ((-1))] (zGs Ln I A) (some (.int ((-1))), zGs Ln (I) (A)) from zEv.ret rfl)
set_option maxRecDepth 100000 in
theorem B_X7_lose_r1_c1_9 (Ln : Nat) (I A : Nat → Nat → Int32)  {r : zRs}  (kt : (I 5 1) = 0 → zEv 67 25 0 0 [some (.ref 1), some (.int 1), none] [] (zGs Ln I A) r) (kf : ¬ ((I 5 1) = 0) → zEv 67 21 0 0 [some (.ref 1), some (.int 1), none] [] (zGs Ln I A) r) : zEv 67 9 0 0 [some (.ref 1), some (.int 1), none] [] (zGs Ln I A) r := 
  zEv.lift 5 (fun _ => by with_unfolding_all rfl) (show zEv 67 18 0 0 [some (.ref 1), some (.int 1), none] [.int (I 5 1)] (zGs Ln I A) r from zEv.br0 (tgt := 25) rfl rfl (fun h => kt (of_decide_eq_true h)) (fun h => kf (of_decide_eq_false h)))
set_option maxRecDepth 100000 in
theorem B_X7_lose_r1_c1_21 (Ln : Nat) (I A : Nat → Nat → Int32)  {r : zRs}  (hk : zEv 67 26 0 0 [some (.ref 1), some (.int 1), none] [.int 1] (zGs Ln I A) r) : zEv 67 21 0 0 [some (.ref 1), some (.int 1), none] [] (zGs Ln I A) r := 
  zEv.lift 2 (fun _ => by with_unfolding_all rfl) (show zEv 67 26 0 0 [some (.ref 1), some (.int 1), none] [.int 1] (zGs Ln I A) r from hk)
set_option maxRecDepth 100000 in
theorem B_X7_lose_r1_c1_25 (Ln : Nat) (I A : Nat → Nat → Int32)  {r : zRs}  (hk : zEv 67 26 0 0 [some (.ref 1), some (.int 1), none] [.int 0] (zGs Ln I A) r) : zEv 67 25 0 0 [some (.ref 1), some (.int 1), none] [] (zGs Ln I A) r := 
  zEv.lift 1 (fun _ => by with_unfolding_all rfl) (show zEv 67 26 0 0 [some (.ref 1), some (.int 1), none] [.int 0] (zGs Ln I A) r from hk)
set_option maxRecDepth 100000 in
theorem B_X7_lose_r1_c1_26_s1 (Ln : Nat) (I A : Nat → Nat → Int32) (s0 : Int32)   : zEv 67 26 0 0 [some (.ref 1), some (.int 1), none] [.int s0] (zGs Ln I A) (some (.int s0), zGs Ln (zp I 5 1 0) (A)) := 
  zEv.lift 8 (fun _ => by with_unfolding_all rfl) (show zEv 67 38 0 0 [some (.ref 1), some (.int 1), some (.int s0)] [.int s0] (zGs Ln (zp I 5 1 0) A) (some (.int s0), zGs Ln (zp I 5 1 0) (A)) from zEv.ret rfl)

/-! blocks, by program (wip/whole/gen_blk.py): 22d.front 7 -/
set_option maxRecDepth 100000 in
theorem B_X7_hailByNumber_r1_5 (Ln : Nat) (I A : Nat → Nat → Int32) (v1 : Int32)   : zEv 91 5 0 0 [some (.ref 1), some (.int v1)] [] (zGs Ln I A) (some (.int v1), zGs Ln (I) (A)) := 
  zEv.lift 1 (fun _ => by with_unfolding_all rfl) (show zEv 91 6 0 0 [some (.ref 1), some (.int v1)] [.int v1] (zGs Ln I A) (some (.int v1), zGs Ln (I) (A)) from zEv.ret rfl)
set_option maxRecDepth 100000 in
theorem B_X7_hailLiving_r1_0 (Ln : Nat) (I A : Nat → Nat → Int32)  {r : zRs}  {q : zRs} (hc : zEv 87 0 0 0 [some (.ref 1), some (.int 5)] [] (zGs Ln I A) q) (hn : q.1 = none) (hk : zEv 92 5 0 0 [some (.ref 1)] [] q.2 r) : zEv 92 0 0 0 [some (.ref 1)] [] (zGs Ln I A) r := 
  zEv.lift 2 (fun _ => by with_unfolding_all rfl) (show zEv 92 2 0 0 [some (.ref 1)] [.int 5, .ref 1] (zGs Ln I A) r from zEv.call (as := [.ref 1, .int 5]) rfl (fun _ => rfl) (Nat.le_of_ble_eq_true rfl) hc (by rw [hn]; exact hk))
set_option maxRecDepth 100000 in
theorem B_X7_hailLiving_r1_5 (Ln : Nat) (I A : Nat → Nat → Int32)    : zEv 92 5 0 0 [some (.ref 1)] [] (zGs Ln I A) (some (.int 60), zGs Ln (I) (A)) := 
  zEv.lift 1 (fun _ => by with_unfolding_all rfl) (show zEv 92 7 0 0 [some (.ref 1)] [.int 60] (zGs Ln I A) (some (.int 60), zGs Ln (I) (A)) from zEv.ret rfl)
set_option maxRecDepth 100000 in
theorem B_X7_isSheet_0 (Ln : Nat) (I A : Nat → Nat → Int32) (v0 : Int32) {r : zRs}  (kt : v0 < 0 → zEv 80 13 0 0 [some (.int v0)] [] (zGs Ln I A) r) (kf : ¬ (v0 < 0) → zEv 80 4 0 0 [some (.int v0)] [] (zGs Ln I A) r) : zEv 80 0 0 0 [some (.int v0)] [] (zGs Ln I A) r := 
  zEv.lift 1 (fun _ => by with_unfolding_all rfl) (show zEv 80 1 0 0 [some (.int v0)] [.int v0] (zGs Ln I A) r from zEv.br0 (tgt := 13) rfl rfl (fun h => kt (of_decide_eq_true h)) (fun h => kf (of_decide_eq_false h)))
set_option maxRecDepth 100000 in
theorem B_X7_isSheet_4 (Ln : Nat) (I A : Nat → Nat → Int32) (v0 : Int32) {r : zRs}  (kt : 4 ≤ v0 → zEv 80 13 0 0 [some (.int v0)] [] (zGs Ln I A) r) (kf : ¬ (4 ≤ v0) → zEv 80 9 0 0 [some (.int v0)] [] (zGs Ln I A) r) : zEv 80 4 0 0 [some (.int v0)] [] (zGs Ln I A) r := 
  zEv.lift 2 (fun _ => by with_unfolding_all rfl) (show zEv 80 6 0 0 [some (.int v0)] [.int 4, .int v0] (zGs Ln I A) r from zEv.br (tgt := 13) rfl rfl (fun h => kt (of_decide_eq_true h)) (fun h => kf (of_decide_eq_false h)))
set_option maxRecDepth 100000 in
theorem B_X7_isSheet_9 (Ln : Nat) (I A : Nat → Nat → Int32) (v0 : Int32) {r : zRs}  (hk : zEv 80 14 0 0 [some (.int v0)] [.int 1] (zGs Ln I A) r) : zEv 80 9 0 0 [some (.int v0)] [] (zGs Ln I A) r := 
  zEv.lift 2 (fun _ => by with_unfolding_all rfl) (show zEv 80 14 0 0 [some (.int v0)] [.int 1] (zGs Ln I A) r from hk)
set_option maxRecDepth 100000 in
theorem B_X7_isSheet_13 (Ln : Nat) (I A : Nat → Nat → Int32) (v0 : Int32) {r : zRs}  (hk : zEv 80 14 0 0 [some (.int v0)] [.int 0] (zGs Ln I A) r) : zEv 80 13 0 0 [some (.int v0)] [] (zGs Ln I A) r := 
  zEv.lift 1 (fun _ => by with_unfolding_all rfl) (show zEv 80 14 0 0 [some (.int v0)] [.int 0] (zGs Ln I A) r from hk)
set_option maxRecDepth 100000 in
theorem B_X7_isSheet_14_s1 (Ln : Nat) (I A : Nat → Nat → Int32) (v0 : Int32) (s0 : Int32) (hb : s0 = 0 ∨ s0 = 1)  : zEv 80 14 0 0 [some (.int v0)] [.int s0] (zGs Ln I A) (some (.int s0), zGs Ln (I) (A)) := 
  (by rcases hb with hb | hb <;> rw [hb] <;> exact zEv.ret rfl)
set_option maxRecDepth 100000 in
theorem B_X7_isLane_0 (Ln : Nat) (I A : Nat → Nat → Int32) (v0 : Int32) {r : zRs}  (kt : v0 < 0 → zEv 81 13 0 0 [some (.int v0)] [] (zGs Ln I A) r) (kf : ¬ (v0 < 0) → zEv 81 4 0 0 [some (.int v0)] [] (zGs Ln I A) r) : zEv 81 0 0 0 [some (.int v0)] [] (zGs Ln I A) r := 
  zEv.lift 1 (fun _ => by with_unfolding_all rfl) (show zEv 81 1 0 0 [some (.int v0)] [.int v0] (zGs Ln I A) r from zEv.br0 (tgt := 13) rfl rfl (fun h => kt (of_decide_eq_true h)) (fun h => kf (of_decide_eq_false h)))
set_option maxRecDepth 100000 in
theorem B_X7_isLane_4 (Ln : Nat) (I A : Nat → Nat → Int32) (v0 : Int32) {r : zRs}  (kt : 3 ≤ v0 → zEv 81 13 0 0 [some (.int v0)] [] (zGs Ln I A) r) (kf : ¬ (3 ≤ v0) → zEv 81 9 0 0 [some (.int v0)] [] (zGs Ln I A) r) : zEv 81 4 0 0 [some (.int v0)] [] (zGs Ln I A) r := 
  zEv.lift 2 (fun _ => by with_unfolding_all rfl) (show zEv 81 6 0 0 [some (.int v0)] [.int 3, .int v0] (zGs Ln I A) r from zEv.br (tgt := 13) rfl rfl (fun h => kt (of_decide_eq_true h)) (fun h => kf (of_decide_eq_false h)))
set_option maxRecDepth 100000 in
theorem B_X7_isLane_9 (Ln : Nat) (I A : Nat → Nat → Int32) (v0 : Int32) {r : zRs}  (hk : zEv 81 14 0 0 [some (.int v0)] [.int 1] (zGs Ln I A) r) : zEv 81 9 0 0 [some (.int v0)] [] (zGs Ln I A) r := 
  zEv.lift 2 (fun _ => by with_unfolding_all rfl) (show zEv 81 14 0 0 [some (.int v0)] [.int 1] (zGs Ln I A) r from hk)
set_option maxRecDepth 100000 in
theorem B_X7_isLane_13 (Ln : Nat) (I A : Nat → Nat → Int32) (v0 : Int32) {r : zRs}  (hk : zEv 81 14 0 0 [some (.int v0)] [.int 0] (zGs Ln I A) r) : zEv 81 13 0 0 [some (.int v0)] [] (zGs Ln I A) r := 
  zEv.lift 1 (fun _ => by with_unfolding_all rfl) (show zEv 81 14 0 0 [some (.int v0)] [.int 0] (zGs Ln I A) r from hk)
set_option maxRecDepth 100000 in
theorem B_X7_isLane_14_s1 (Ln : Nat) (I A : Nat → Nat → Int32) (v0 : Int32) (s0 : Int32) (hb : s0 = 0 ∨ s0 = 1)  : zEv 81 14 0 0 [some (.int v0)] [.int s0] (zGs Ln I A) (some (.int s0), zGs Ln (I) (A)) := 
  (by rcases hb with hb | hb <;> rw [hb] <;> exact zEv.ret rfl)
set_option maxRecDepth 100000 in
theorem B_X7_ofNight_r1_r32_0 (Ln : Nat) (I A : Nat → Nat → Int32) (v2 : Int32) {r : zRs}  {q : zRs} (hc : zEv 79 0 0 0 [some (.int v2)] [] (zGs Ln I A) q) {w : Int32} (hn : q.1 = some (.int w)) (hk : zEv 84 4 0 0 [some (.ref 1), some (.ref 32), some (.int v2)] (.int w :: []) q.2 r) : zEv 84 0 0 0 [some (.ref 1), some (.ref 32), some (.int v2)] [] (zGs Ln I A) r := 
  zEv.lift 1 (fun _ => by with_unfolding_all rfl) (show zEv 84 1 0 0 [some (.ref 1), some (.ref 32), some (.int v2)] [.int v2] (zGs Ln I A) r from zEv.call (as := [.int v2]) rfl (fun _ => rfl) (Nat.le_of_ble_eq_true rfl) hc (by rw [hn]; exact hk))
set_option maxRecDepth 100000 in
theorem B_X7_ofNight_r1_r32_4_s1 (Ln : Nat) (I A : Nat → Nat → Int32) (v2 : Int32) (s0 : Int32) {r : zRs}  (kt : s0 ≠ 0 → zEv 84 9 0 0 [some (.ref 1), some (.ref 32), some (.int v2)] [] (zGs Ln I A) r) (kf : ¬ (s0 ≠ 0) → zEv 84 7 0 0 [some (.ref 1), some (.ref 32), some (.int v2)] [] (zGs Ln I A) r) : zEv 84 4 0 0 [some (.ref 1), some (.ref 32), some (.int v2)] [.int s0] (zGs Ln I A) r := 
  zEv.br0 (tgt := 9) rfl rfl (fun h => kt (of_decide_eq_true h)) (fun h => kf (of_decide_eq_false h))
set_option maxRecDepth 100000 in
theorem B_X7_ofNight_r1_r32_7 (Ln : Nat) (I A : Nat → Nat → Int32) (v2 : Int32)   : zEv 84 7 0 0 [some (.ref 1), some (.ref 32), some (.int v2)] [] (zGs Ln I A) (some (.int ((-1))), zGs Ln (I) (A)) := 
  zEv.lift 1 (fun _ => by with_unfolding_all rfl) (show zEv 84 8 0 0 [some (.ref 1), some (.ref 32), some (.int v2)] [.int ((-1))] (zGs Ln I A) (some (.int ((-1))), zGs Ln (I) (A)) from zEv.ret rfl)
set_option maxRecDepth 100000 in
theorem B_X7_ofNight_r1_r32_9 (Ln : Nat) (I A : Nat → Nat → Int32) (v2 : Int32) {r : zRs}  {q : zRs} (hc : zEv 77 0 0 0 [some (.ref 1)] [] (zGs Ln I A) q) {w : Int32} (hn : q.1 = some (.int w)) (hk : zEv 84 13 0 0 [some (.ref 1), some (.ref 32), some (.int v2)] (.int w :: []) q.2 r) : zEv 84 9 0 0 [some (.ref 1), some (.ref 32), some (.int v2)] [] (zGs Ln I A) r := 
  zEv.lift 1 (fun _ => by with_unfolding_all rfl) (show zEv 84 10 0 0 [some (.ref 1), some (.ref 32), some (.int v2)] [.ref 1] (zGs Ln I A) r from zEv.call (as := [.ref 1]) rfl (fun _ => rfl) (Nat.le_of_ble_eq_true rfl) hc (by rw [hn]; exact hk))
set_option maxRecDepth 100000 in
theorem B_X7_ofNight_r1_r32_13_s1 (Ln : Nat) (I A : Nat → Nat → Int32) (v2 : Int32) (s0 : Int32) {r : zRs}  (kt : s0 = 0 → zEv 84 21 0 0 [some (.ref 1), some (.ref 32), some (.int v2)] [] (zGs Ln I A) r) (kf : ¬ (s0 = 0) → zEv 84 16 0 0 [some (.ref 1), some (.ref 32), some (.int v2)] [] (zGs Ln I A) r) : zEv 84 13 0 0 [some (.ref 1), some (.ref 32), some (.int v2)] [.int s0] (zGs Ln I A) r := 
  zEv.br0 (tgt := 21) rfl rfl (fun h => kt (of_decide_eq_true h)) (fun h => kf (of_decide_eq_false h))
set_option maxRecDepth 100000 in
theorem B_X7_ofNight_r1_r32_16 (Ln : Nat) (I A : Nat → Nat → Int32) (v2 : Int32) {r : zRs}  (hk : zEv 84 24 0 0 [some (.ref 1), some (.ref 32), some (.int v2)] [.int ((-3))] (zGs Ln I A) r) : zEv 84 16 0 0 [some (.ref 1), some (.ref 32), some (.int v2)] [] (zGs Ln I A) r := 
  zEv.lift 2 (fun _ => by with_unfolding_all rfl) (show zEv 84 24 0 0 [some (.ref 1), some (.ref 32), some (.int v2)] [.int ((-3))] (zGs Ln I A) r from hk)
set_option maxRecDepth 100000 in
theorem B_X7_ofNight_r1_r32_21 (Ln : Nat) (I A : Nat → Nat → Int32) (v2 : Int32) {r : zRs} (h1 : zin v2 60 = true) (hk : zEv 84 24 0 0 [some (.ref 1), some (.ref 32), some (.int v2)] [.int (A 32 (v2).toNatClampNeg)] (zGs Ln I A) r) : zEv 84 21 0 0 [some (.ref 1), some (.ref 32), some (.int v2)] [] (zGs Ln I A) r := 
  zEv.lift 2 (fun _ => by with_unfolding_all rfl) (show zEv 84 23 0 0 [some (.ref 1), some (.ref 32), some (.int v2)] [.int v2, .ref 32] (zGs Ln I A) r from zEv.iald rfl (Or.inl rfl) h1 (show zEv 84 24 0 0 [some (.ref 1), some (.ref 32), some (.int v2)] [.int (A 32 (v2).toNatClampNeg)] (zGs Ln I A) r from hk))
set_option maxRecDepth 100000 in
theorem B_X7_ofNight_r1_r32_24_s1 (Ln : Nat) (I A : Nat → Nat → Int32) (v2 : Int32) (s0 : Int32)   : zEv 84 24 0 0 [some (.ref 1), some (.ref 32), some (.int v2)] [.int s0] (zGs Ln I A) (some (.int s0), zGs Ln (I) (A)) := 
  zEv.ret rfl
set_option maxRecDepth 100000 in
theorem B_X7_ofNight_r1_r30_0 (Ln : Nat) (I A : Nat → Nat → Int32) (v2 : Int32) {r : zRs}  {q : zRs} (hc : zEv 79 0 0 0 [some (.int v2)] [] (zGs Ln I A) q) {w : Int32} (hn : q.1 = some (.int w)) (hk : zEv 84 4 0 0 [some (.ref 1), some (.ref 30), some (.int v2)] (.int w :: []) q.2 r) : zEv 84 0 0 0 [some (.ref 1), some (.ref 30), some (.int v2)] [] (zGs Ln I A) r := 
  zEv.lift 1 (fun _ => by with_unfolding_all rfl) (show zEv 84 1 0 0 [some (.ref 1), some (.ref 30), some (.int v2)] [.int v2] (zGs Ln I A) r from zEv.call (as := [.int v2]) rfl (fun _ => rfl) (Nat.le_of_ble_eq_true rfl) hc (by rw [hn]; exact hk))
set_option maxRecDepth 100000 in
theorem B_X7_ofNight_r1_r30_4_s1 (Ln : Nat) (I A : Nat → Nat → Int32) (v2 : Int32) (s0 : Int32) {r : zRs}  (kt : s0 ≠ 0 → zEv 84 9 0 0 [some (.ref 1), some (.ref 30), some (.int v2)] [] (zGs Ln I A) r) (kf : ¬ (s0 ≠ 0) → zEv 84 7 0 0 [some (.ref 1), some (.ref 30), some (.int v2)] [] (zGs Ln I A) r) : zEv 84 4 0 0 [some (.ref 1), some (.ref 30), some (.int v2)] [.int s0] (zGs Ln I A) r := 
  zEv.br0 (tgt := 9) rfl rfl (fun h => kt (of_decide_eq_true h)) (fun h => kf (of_decide_eq_false h))
set_option maxRecDepth 100000 in
theorem B_X7_ofNight_r1_r30_7 (Ln : Nat) (I A : Nat → Nat → Int32) (v2 : Int32)   : zEv 84 7 0 0 [some (.ref 1), some (.ref 30), some (.int v2)] [] (zGs Ln I A) (some (.int ((-1))), zGs Ln (I) (A)) := 
  zEv.lift 1 (fun _ => by with_unfolding_all rfl) (show zEv 84 8 0 0 [some (.ref 1), some (.ref 30), some (.int v2)] [.int ((-1))] (zGs Ln I A) (some (.int ((-1))), zGs Ln (I) (A)) from zEv.ret rfl)
set_option maxRecDepth 100000 in
theorem B_X7_ofNight_r1_r30_9 (Ln : Nat) (I A : Nat → Nat → Int32) (v2 : Int32) {r : zRs}  {q : zRs} (hc : zEv 77 0 0 0 [some (.ref 1)] [] (zGs Ln I A) q) {w : Int32} (hn : q.1 = some (.int w)) (hk : zEv 84 13 0 0 [some (.ref 1), some (.ref 30), some (.int v2)] (.int w :: []) q.2 r) : zEv 84 9 0 0 [some (.ref 1), some (.ref 30), some (.int v2)] [] (zGs Ln I A) r := 
  zEv.lift 1 (fun _ => by with_unfolding_all rfl) (show zEv 84 10 0 0 [some (.ref 1), some (.ref 30), some (.int v2)] [.ref 1] (zGs Ln I A) r from zEv.call (as := [.ref 1]) rfl (fun _ => rfl) (Nat.le_of_ble_eq_true rfl) hc (by rw [hn]; exact hk))
set_option maxRecDepth 100000 in
theorem B_X7_ofNight_r1_r30_13_s1 (Ln : Nat) (I A : Nat → Nat → Int32) (v2 : Int32) (s0 : Int32) {r : zRs}  (kt : s0 = 0 → zEv 84 21 0 0 [some (.ref 1), some (.ref 30), some (.int v2)] [] (zGs Ln I A) r) (kf : ¬ (s0 = 0) → zEv 84 16 0 0 [some (.ref 1), some (.ref 30), some (.int v2)] [] (zGs Ln I A) r) : zEv 84 13 0 0 [some (.ref 1), some (.ref 30), some (.int v2)] [.int s0] (zGs Ln I A) r := 
  zEv.br0 (tgt := 21) rfl rfl (fun h => kt (of_decide_eq_true h)) (fun h => kf (of_decide_eq_false h))
set_option maxRecDepth 100000 in
theorem B_X7_ofNight_r1_r30_16 (Ln : Nat) (I A : Nat → Nat → Int32) (v2 : Int32) {r : zRs}  (hk : zEv 84 24 0 0 [some (.ref 1), some (.ref 30), some (.int v2)] [.int ((-3))] (zGs Ln I A) r) : zEv 84 16 0 0 [some (.ref 1), some (.ref 30), some (.int v2)] [] (zGs Ln I A) r := 
  zEv.lift 2 (fun _ => by with_unfolding_all rfl) (show zEv 84 24 0 0 [some (.ref 1), some (.ref 30), some (.int v2)] [.int ((-3))] (zGs Ln I A) r from hk)
set_option maxRecDepth 100000 in
theorem B_X7_ofNight_r1_r30_21 (Ln : Nat) (I A : Nat → Nat → Int32) (v2 : Int32) {r : zRs} (h1 : zin v2 60 = true) (hk : zEv 84 24 0 0 [some (.ref 1), some (.ref 30), some (.int v2)] [.int (A 30 (v2).toNatClampNeg)] (zGs Ln I A) r) : zEv 84 21 0 0 [some (.ref 1), some (.ref 30), some (.int v2)] [] (zGs Ln I A) r := 
  zEv.lift 2 (fun _ => by with_unfolding_all rfl) (show zEv 84 23 0 0 [some (.ref 1), some (.ref 30), some (.int v2)] [.int v2, .ref 30] (zGs Ln I A) r from zEv.iald rfl (Or.inl rfl) h1 (show zEv 84 24 0 0 [some (.ref 1), some (.ref 30), some (.int v2)] [.int (A 30 (v2).toNatClampNeg)] (zGs Ln I A) r from hk))
set_option maxRecDepth 100000 in
theorem B_X7_ofNight_r1_r30_24_s1 (Ln : Nat) (I A : Nat → Nat → Int32) (v2 : Int32) (s0 : Int32)   : zEv 84 24 0 0 [some (.ref 1), some (.ref 30), some (.int v2)] [.int s0] (zGs Ln I A) (some (.int s0), zGs Ln (I) (A)) := 
  zEv.ret rfl
set_option maxRecDepth 100000 in
theorem B_X7_ofNight_r1_r31_0 (Ln : Nat) (I A : Nat → Nat → Int32) (v2 : Int32) {r : zRs}  {q : zRs} (hc : zEv 79 0 0 0 [some (.int v2)] [] (zGs Ln I A) q) {w : Int32} (hn : q.1 = some (.int w)) (hk : zEv 84 4 0 0 [some (.ref 1), some (.ref 31), some (.int v2)] (.int w :: []) q.2 r) : zEv 84 0 0 0 [some (.ref 1), some (.ref 31), some (.int v2)] [] (zGs Ln I A) r := 
  zEv.lift 1 (fun _ => by with_unfolding_all rfl) (show zEv 84 1 0 0 [some (.ref 1), some (.ref 31), some (.int v2)] [.int v2] (zGs Ln I A) r from zEv.call (as := [.int v2]) rfl (fun _ => rfl) (Nat.le_of_ble_eq_true rfl) hc (by rw [hn]; exact hk))
set_option maxRecDepth 100000 in
theorem B_X7_ofNight_r1_r31_4_s1 (Ln : Nat) (I A : Nat → Nat → Int32) (v2 : Int32) (s0 : Int32) {r : zRs}  (kt : s0 ≠ 0 → zEv 84 9 0 0 [some (.ref 1), some (.ref 31), some (.int v2)] [] (zGs Ln I A) r) (kf : ¬ (s0 ≠ 0) → zEv 84 7 0 0 [some (.ref 1), some (.ref 31), some (.int v2)] [] (zGs Ln I A) r) : zEv 84 4 0 0 [some (.ref 1), some (.ref 31), some (.int v2)] [.int s0] (zGs Ln I A) r := 
  zEv.br0 (tgt := 9) rfl rfl (fun h => kt (of_decide_eq_true h)) (fun h => kf (of_decide_eq_false h))
set_option maxRecDepth 100000 in
theorem B_X7_ofNight_r1_r31_7 (Ln : Nat) (I A : Nat → Nat → Int32) (v2 : Int32)   : zEv 84 7 0 0 [some (.ref 1), some (.ref 31), some (.int v2)] [] (zGs Ln I A) (some (.int ((-1))), zGs Ln (I) (A)) := 
  zEv.lift 1 (fun _ => by with_unfolding_all rfl) (show zEv 84 8 0 0 [some (.ref 1), some (.ref 31), some (.int v2)] [.int ((-1))] (zGs Ln I A) (some (.int ((-1))), zGs Ln (I) (A)) from zEv.ret rfl)
set_option maxRecDepth 100000 in
theorem B_X7_ofNight_r1_r31_9 (Ln : Nat) (I A : Nat → Nat → Int32) (v2 : Int32) {r : zRs}  {q : zRs} (hc : zEv 77 0 0 0 [some (.ref 1)] [] (zGs Ln I A) q) {w : Int32} (hn : q.1 = some (.int w)) (hk : zEv 84 13 0 0 [some (.ref 1), some (.ref 31), some (.int v2)] (.int w :: []) q.2 r) : zEv 84 9 0 0 [some (.ref 1), some (.ref 31), some (.int v2)] [] (zGs Ln I A) r := 
  zEv.lift 1 (fun _ => by with_unfolding_all rfl) (show zEv 84 10 0 0 [some (.ref 1), some (.ref 31), some (.int v2)] [.ref 1] (zGs Ln I A) r from zEv.call (as := [.ref 1]) rfl (fun _ => rfl) (Nat.le_of_ble_eq_true rfl) hc (by rw [hn]; exact hk))
set_option maxRecDepth 100000 in
theorem B_X7_ofNight_r1_r31_13_s1 (Ln : Nat) (I A : Nat → Nat → Int32) (v2 : Int32) (s0 : Int32) {r : zRs}  (kt : s0 = 0 → zEv 84 21 0 0 [some (.ref 1), some (.ref 31), some (.int v2)] [] (zGs Ln I A) r) (kf : ¬ (s0 = 0) → zEv 84 16 0 0 [some (.ref 1), some (.ref 31), some (.int v2)] [] (zGs Ln I A) r) : zEv 84 13 0 0 [some (.ref 1), some (.ref 31), some (.int v2)] [.int s0] (zGs Ln I A) r := 
  zEv.br0 (tgt := 21) rfl rfl (fun h => kt (of_decide_eq_true h)) (fun h => kf (of_decide_eq_false h))
set_option maxRecDepth 100000 in
theorem B_X7_ofNight_r1_r31_16 (Ln : Nat) (I A : Nat → Nat → Int32) (v2 : Int32) {r : zRs}  (hk : zEv 84 24 0 0 [some (.ref 1), some (.ref 31), some (.int v2)] [.int ((-3))] (zGs Ln I A) r) : zEv 84 16 0 0 [some (.ref 1), some (.ref 31), some (.int v2)] [] (zGs Ln I A) r := 
  zEv.lift 2 (fun _ => by with_unfolding_all rfl) (show zEv 84 24 0 0 [some (.ref 1), some (.ref 31), some (.int v2)] [.int ((-3))] (zGs Ln I A) r from hk)
set_option maxRecDepth 100000 in
theorem B_X7_ofNight_r1_r31_21 (Ln : Nat) (I A : Nat → Nat → Int32) (v2 : Int32) {r : zRs} (h1 : zin v2 60 = true) (hk : zEv 84 24 0 0 [some (.ref 1), some (.ref 31), some (.int v2)] [.int (A 31 (v2).toNatClampNeg)] (zGs Ln I A) r) : zEv 84 21 0 0 [some (.ref 1), some (.ref 31), some (.int v2)] [] (zGs Ln I A) r := 
  zEv.lift 2 (fun _ => by with_unfolding_all rfl) (show zEv 84 23 0 0 [some (.ref 1), some (.ref 31), some (.int v2)] [.int v2, .ref 31] (zGs Ln I A) r from zEv.iald rfl (Or.inl rfl) h1 (show zEv 84 24 0 0 [some (.ref 1), some (.ref 31), some (.int v2)] [.int (A 31 (v2).toNatClampNeg)] (zGs Ln I A) r from hk))
set_option maxRecDepth 100000 in
theorem B_X7_ofNight_r1_r31_24_s1 (Ln : Nat) (I A : Nat → Nat → Int32) (v2 : Int32) (s0 : Int32)   : zEv 84 24 0 0 [some (.ref 1), some (.ref 31), some (.int v2)] [.int s0] (zGs Ln I A) (some (.int s0), zGs Ln (I) (A)) := 
  zEv.ret rfl
set_option maxRecDepth 100000 in
theorem B_X7_isNight_0 (Ln : Nat) (I A : Nat → Nat → Int32) (v0 : Int32) {r : zRs}  (kt : v0 < 0 → zEv 79 14 0 0 [some (.int v0)] [] (zGs Ln I A) r) (kf : ¬ (v0 < 0) → zEv 79 4 0 0 [some (.int v0)] [] (zGs Ln I A) r) : zEv 79 0 0 0 [some (.int v0)] [] (zGs Ln I A) r := 
  zEv.lift 1 (fun _ => by with_unfolding_all rfl) (show zEv 79 1 0 0 [some (.int v0)] [.int v0] (zGs Ln I A) r from zEv.br0 (tgt := 14) rfl rfl (fun h => kt (of_decide_eq_true h)) (fun h => kf (of_decide_eq_false h)))
set_option maxRecDepth 100000 in
theorem B_X7_isNight_4 (Ln : Nat) (I A : Nat → Nat → Int32) (v0 : Int32) {r : zRs}  (kt : 60 ≤ v0 → zEv 79 14 0 0 [some (.int v0)] [] (zGs Ln I A) r) (kf : ¬ (60 ≤ v0) → zEv 79 10 0 0 [some (.int v0)] [] (zGs Ln I A) r) : zEv 79 4 0 0 [some (.int v0)] [] (zGs Ln I A) r := 
  zEv.lift 2 (fun _ => by with_unfolding_all rfl) (show zEv 79 7 0 0 [some (.int v0)] [.int 60, .int v0] (zGs Ln I A) r from zEv.br (tgt := 14) rfl rfl (fun h => kt (of_decide_eq_true h)) (fun h => kf (of_decide_eq_false h)))
set_option maxRecDepth 100000 in
theorem B_X7_isNight_10 (Ln : Nat) (I A : Nat → Nat → Int32) (v0 : Int32) {r : zRs}  (hk : zEv 79 15 0 0 [some (.int v0)] [.int 1] (zGs Ln I A) r) : zEv 79 10 0 0 [some (.int v0)] [] (zGs Ln I A) r := 
  zEv.lift 2 (fun _ => by with_unfolding_all rfl) (show zEv 79 15 0 0 [some (.int v0)] [.int 1] (zGs Ln I A) r from hk)
set_option maxRecDepth 100000 in
theorem B_X7_isNight_14 (Ln : Nat) (I A : Nat → Nat → Int32) (v0 : Int32) {r : zRs}  (hk : zEv 79 15 0 0 [some (.int v0)] [.int 0] (zGs Ln I A) r) : zEv 79 14 0 0 [some (.int v0)] [] (zGs Ln I A) r := 
  zEv.lift 1 (fun _ => by with_unfolding_all rfl) (show zEv 79 15 0 0 [some (.int v0)] [.int 0] (zGs Ln I A) r from hk)
set_option maxRecDepth 100000 in
theorem B_X7_isNight_15_s1 (Ln : Nat) (I A : Nat → Nat → Int32) (v0 : Int32) (s0 : Int32) (hb : s0 = 0 ∨ s0 = 1)  : zEv 79 15 0 0 [some (.int v0)] [.int s0] (zGs Ln I A) (some (.int s0), zGs Ln (I) (A)) := 
  (by rcases hb with hb | hb <;> rw [hb] <;> exact zEv.ret rfl)

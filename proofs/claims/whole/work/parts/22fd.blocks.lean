/-! blocks, by program (wip/whole/gen_blk.py): 22f.model1 3 -/
set_option maxRecDepth 100000 in
theorem B_X8_sits_r44_0 (Ln : Nat) (I A : Nat → Nat → Int32) (v1 : Int32) {r : zRs}  {q : zRs} (hc : zEv 128 0 0 0 [some (.ref 44), some (.int v1)] [] (zGs Ln I A) q) {w : Int32} (hn : q.1 = some (.int w)) (hk : zEv 131 5 0 0 [some (.ref 44), some (.int v1), none] (.int w :: []) q.2 r) : zEv 131 0 0 0 [some (.ref 44), some (.int v1), none] [] (zGs Ln I A) r := 
  zEv.lift 2 (fun _ => by with_unfolding_all rfl) (show zEv 131 2 0 0 [some (.ref 44), some (.int v1), none] [.int v1, .ref 44] (zGs Ln I A) r from zEv.call (as := [.ref 44, .int v1]) rfl (fun _ => rfl) (Nat.le_of_ble_eq_true rfl) hc (by rw [hn]; exact hk))
set_option maxRecDepth 100000 in
theorem B_X8_sits_r44_5_s1 (Ln : Nat) (I A : Nat → Nat → Int32) (v1 : Int32) (s0 : Int32) {r : zRs}  (kt : 0 ≤ s0 → zEv 131 12 0 0 [some (.ref 44), some (.int v1), some (.int s0)] [] (zGs Ln I A) r) (kf : ¬ (0 ≤ s0) → zEv 131 10 0 0 [some (.ref 44), some (.int v1), some (.int s0)] [] (zGs Ln I A) r) : zEv 131 5 0 0 [some (.ref 44), some (.int v1), none] [.int s0] (zGs Ln I A) r := 
  zEv.lift 2 (fun _ => by with_unfolding_all rfl) (show zEv 131 7 0 0 [some (.ref 44), some (.int v1), some (.int s0)] [.int s0] (zGs Ln I A) r from zEv.br0 (tgt := 12) rfl rfl (fun h => kt (of_decide_eq_true h)) (fun h => kf (of_decide_eq_false h)))
set_option maxRecDepth 100000 in
theorem B_X8_sits_r44_10 (Ln : Nat) (I A : Nat → Nat → Int32) (v1 : Int32) (v2 : Int32)   : zEv 131 10 0 0 [some (.ref 44), some (.int v1), some (.int v2)] [] (zGs Ln I A) (some (.int v2), zGs Ln (I) (A)) := 
  zEv.lift 1 (fun _ => by with_unfolding_all rfl) (show zEv 131 11 0 0 [some (.ref 44), some (.int v1), some (.int v2)] [.int v2] (zGs Ln I A) (some (.int v2), zGs Ln (I) (A)) from zEv.ret rfl)
set_option maxRecDepth 100000 in
theorem B_X8_sits_r44_12 (Ln : Nat) (I A : Nat → Nat → Int32) (v1 : Int32) (v2 : Int32) {r : zRs}  {q : zRs} (hc : zEv 125 0 0 0 [some (.ref 44), some (.int v1), none] [] (zGs Ln I A) q) (hn : q.1 = none) (hk : zEv 131 17 0 0 [some (.ref 44), some (.int v1), some (.int v2)] [] q.2 r) : zEv 131 12 0 0 [some (.ref 44), some (.int v1), some (.int v2)] [] (zGs Ln I A) r := 
  zEv.lift 2 (fun _ => by with_unfolding_all rfl) (show zEv 131 14 0 0 [some (.ref 44), some (.int v1), some (.int v2)] [.int v1, .ref 44] (zGs Ln I A) r from zEv.call (as := [.ref 44, .int v1]) rfl (fun _ => rfl) (Nat.le_of_ble_eq_true rfl) hc (by rw [hn]; exact hk))
set_option maxRecDepth 100000 in
theorem B_X8_sits_r44_17 (Ln : Nat) (I A : Nat → Nat → Int32) (v1 : Int32) (v2 : Int32)   : zEv 131 17 0 0 [some (.ref 44), some (.int v1), some (.int v2)] [] (zGs Ln I A) (some (.int (I 44 27)), zGs Ln (I) (A)) := 
  zEv.lift 2 (fun _ => by with_unfolding_all rfl) (show zEv 131 21 0 0 [some (.ref 44), some (.int v1), some (.int v2)] [.int (I 44 27)] (zGs Ln I A) (some (.int (I 44 27)), zGs Ln (I) (A)) from zEv.ret rfl)
set_option maxRecDepth 100000 in
theorem B_X8_waitOf_r44_0 (Ln : Nat) (I A : Nat → Nat → Int32) (v1 : Int32) {r : zRs} (h1 : zin v1 6 = true) (kt : (A 57 (v1).toNatClampNeg) ≠ 99 → zEv 132 16 0 0 [some (.ref 44), some (.int v1)] [] (zGs Ln I A) r) (kf : ¬ ((A 57 (v1).toNatClampNeg) ≠ 99) → zEv 132 11 0 0 [some (.ref 44), some (.int v1)] [] (zGs Ln I A) r) : zEv 132 0 0 0 [some (.ref 44), some (.int v1)] [] (zGs Ln I A) r := 
  zEv.lift 3 (fun _ => by with_unfolding_all rfl) (show zEv 132 5 0 0 [some (.ref 44), some (.int v1)] [.int v1, .ref 57] (zGs Ln I A) r from zEv.iald rfl (Or.inl rfl) h1 (show zEv 132 6 0 0 [some (.ref 44), some (.int v1)] [.int (A 57 (v1).toNatClampNeg)] (zGs Ln I A) r from zEv.lift 1 (fun _ => by with_unfolding_all rfl) (show zEv 132 8 0 0 [some (.ref 44), some (.int v1)] [.int 99, .int (A 57 (v1).toNatClampNeg)] (zGs Ln I A) r from zEv.br (tgt := 16) rfl rfl (fun h => kt (of_decide_eq_true h)) (fun h => kf (of_decide_eq_false h)))))
set_option maxRecDepth 100000 in
theorem B_X8_waitOf_r44_11 (Ln : Nat) (I A : Nat → Nat → Int32) (v1 : Int32) {r : zRs}  (hk : zEv 132 22 0 0 [some (.ref 44), some (.int v1)] [.int 60] (zGs Ln I A) r) : zEv 132 11 0 0 [some (.ref 44), some (.int v1)] [] (zGs Ln I A) r := 
  zEv.lift 2 (fun _ => by with_unfolding_all rfl) (show zEv 132 22 0 0 [some (.ref 44), some (.int v1)] [.int 60] (zGs Ln I A) r from hk)
set_option maxRecDepth 100000 in
theorem B_X8_waitOf_r44_16 (Ln : Nat) (I A : Nat → Nat → Int32) (v1 : Int32) {r : zRs} (h1 : zin v1 6 = true) (hk : zEv 132 22 0 0 [some (.ref 44), some (.int v1)] [.int (A 57 (v1).toNatClampNeg)] (zGs Ln I A) r) : zEv 132 16 0 0 [some (.ref 44), some (.int v1)] [] (zGs Ln I A) r := 
  zEv.lift 3 (fun _ => by with_unfolding_all rfl) (show zEv 132 21 0 0 [some (.ref 44), some (.int v1)] [.int v1, .ref 57] (zGs Ln I A) r from zEv.iald rfl (Or.inl rfl) h1 (show zEv 132 22 0 0 [some (.ref 44), some (.int v1)] [.int (A 57 (v1).toNatClampNeg)] (zGs Ln I A) r from hk))
set_option maxRecDepth 100000 in
theorem B_X8_waitOf_r44_22_s1 (Ln : Nat) (I A : Nat → Nat → Int32) (v1 : Int32) (s0 : Int32) (h1 : zin v1 6 = true)  : zEv 132 22 0 0 [some (.ref 44), some (.int v1)] [.int s0] (zGs Ln I A) (some (.int (s0 - (A 48 (v1).toNatClampNeg))), zGs Ln (I) (A)) := 
  zEv.lift 3 (fun _ => by with_unfolding_all rfl) (show zEv 132 27 0 0 [some (.ref 44), some (.int v1)] [.int v1, .ref 48, .int s0] (zGs Ln I A) (some (.int (s0 - (A 48 (v1).toNatClampNeg))), zGs Ln (I) (A)) from zEv.iald rfl (Or.inl rfl) h1 (show zEv 132 28 0 0 [some (.ref 44), some (.int v1)] [.int (A 48 (v1).toNatClampNeg), .int s0] (zGs Ln I A) (some (.int (s0 - (A 48 (v1).toNatClampNeg))), zGs Ln (I) (A)) from zEv.lift 1 (fun _ => by with_unfolding_all rfl) (show zEv 132 29 0 0 [some (.ref 44), some (.int v1)] [.int (s0 - (A 48 (v1).toNatClampNeg))] (zGs Ln I A) (some (.int (s0 - (A 48 (v1).toNatClampNeg))), zGs Ln (I) (A)) from zEv.ret rfl)))
set_option maxRecDepth 100000 in
theorem B_X8_waits_r44_0 (Ln : Nat) (I A : Nat → Nat → Int32) (v1 : Int32) {r : zRs}  {q : zRs} (hc : zEv 101 0 0 0 [some (.ref 44), some (.int v1)] [] (zGs Ln I A) q) {w : Int32} (hn : q.1 = some (.int w)) (hk : zEv 133 5 0 0 [some (.ref 44), some (.int v1)] (.int w :: []) q.2 r) : zEv 133 0 0 0 [some (.ref 44), some (.int v1)] [] (zGs Ln I A) r := 
  zEv.lift 2 (fun _ => by with_unfolding_all rfl) (show zEv 133 2 0 0 [some (.ref 44), some (.int v1)] [.int v1, .ref 44] (zGs Ln I A) r from zEv.call (as := [.ref 44, .int v1]) rfl (fun _ => rfl) (Nat.le_of_ble_eq_true rfl) hc (by rw [hn]; exact hk))
set_option maxRecDepth 100000 in
theorem B_X8_waits_r44_5_s1 (Ln : Nat) (I A : Nat → Nat → Int32) (v1 : Int32) (s0 : Int32) {r : zRs}  (kt : s0 = 0 → zEv 133 10 0 0 [some (.ref 44), some (.int v1)] [] (zGs Ln I A) r) (kf : ¬ (s0 = 0) → zEv 133 8 0 0 [some (.ref 44), some (.int v1)] [] (zGs Ln I A) r) : zEv 133 5 0 0 [some (.ref 44), some (.int v1)] [.int s0] (zGs Ln I A) r := 
  zEv.br0 (tgt := 10) rfl rfl (fun h => kt (of_decide_eq_true h)) (fun h => kf (of_decide_eq_false h))
set_option maxRecDepth 100000 in
theorem B_X8_waits_r44_8 (Ln : Nat) (I A : Nat → Nat → Int32) (v1 : Int32)   : zEv 133 8 0 0 [some (.ref 44), some (.int v1)] [] (zGs Ln I A) (some (.int ((-1))), zGs Ln (I) (A)) := 
  zEv.lift 1 (fun _ => by with_unfolding_all rfl) (show zEv 133 9 0 0 [some (.ref 44), some (.int v1)] [.int ((-1))] (zGs Ln I A) (some (.int ((-1))), zGs Ln (I) (A)) from zEv.ret rfl)
set_option maxRecDepth 100000 in
theorem B_X8_waits_r44_10 (Ln : Nat) (I A : Nat → Nat → Int32) (v1 : Int32) {r : zRs}  {q : zRs} (hc : zEv 126 0 0 0 [some (.ref 44)] [] (zGs Ln I A) q) (hn : q.1 = none) (hk : zEv 133 14 0 0 [some (.ref 44), some (.int v1)] [] q.2 r) : zEv 133 10 0 0 [some (.ref 44), some (.int v1)] [] (zGs Ln I A) r := 
  zEv.lift 1 (fun _ => by with_unfolding_all rfl) (show zEv 133 11 0 0 [some (.ref 44), some (.int v1)] [.ref 44] (zGs Ln I A) r from zEv.call (as := [.ref 44]) rfl (fun _ => rfl) (Nat.le_of_ble_eq_true rfl) hc (by rw [hn]; exact hk))
set_option maxRecDepth 100000 in
theorem B_X8_waits_r44_14 (Ln : Nat) (I A : Nat → Nat → Int32) (v1 : Int32) {r : zRs}  {q : zRs} (hc : zEv 132 0 0 0 [some (.ref 44), some (.int v1)] [] (zGs Ln I A) q) {w : Int32} (hn : q.1 = some (.int w)) (hk : zEv 133 19 0 0 [some (.ref 44), some (.int v1)] (.int w :: []) q.2 r) : zEv 133 14 0 0 [some (.ref 44), some (.int v1)] [] (zGs Ln I A) r := 
  zEv.lift 2 (fun _ => by with_unfolding_all rfl) (show zEv 133 16 0 0 [some (.ref 44), some (.int v1)] [.int v1, .ref 44] (zGs Ln I A) r from zEv.call (as := [.ref 44, .int v1]) rfl (fun _ => rfl) (Nat.le_of_ble_eq_true rfl) hc (by rw [hn]; exact hk))
set_option maxRecDepth 100000 in
theorem B_X8_waits_r44_19_s1 (Ln : Nat) (I A : Nat → Nat → Int32) (v1 : Int32) (s0 : Int32)   : zEv 133 19 0 0 [some (.ref 44), some (.int v1)] [.int s0] (zGs Ln I A) (some (.int s0), zGs Ln (I) (A)) := 
  zEv.ret rfl

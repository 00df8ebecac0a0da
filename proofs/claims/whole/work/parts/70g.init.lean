/-! the law up to its loop, by program (wip/whole/gen_init.py) -/
set_option maxRecDepth 100000 in
theorem zin_10_X6_init_p12 (Ln : Nat) (xs : Nat → Int32) {r : zRs} (hk : zEv 34 57 6 198 [some (.ref 35), some (.ref 11)] [] (42, ziC41, (ziL30 Ln), ziF54, ziI29, (ziA29 xs)) r) : zEv 34 52 6 198 [some (.ref 35), some (.ref 11)] [] (42, ziC41, (ziL30 Ln), ziF53, ziI29, (ziA29 xs)) r :=
  zEv.lift 3 (fun _ => by with_unfolding_all rfl) hk
set_option maxRecDepth 100000 in
theorem zin_10_X6_init_e (Ln : Nat) (xs : Nat → Int32) : zEv 34 57 6 198 [some (.ref 35), some (.ref 11)] [] (42, ziC41, (ziL30 Ln), ziF54, ziI29, (ziA29 xs)) (none, (42, ziC41, (ziL30 Ln), ziF54, ziI29, (ziA29 xs))) := zEv.ret rfl
theorem zin_10_X6_init_g1 (Ln : Nat) (xs : Nat → Int32) {r : zRs} (hk : zEv 34 36 4 186 [some (.ref 35), some (.ref 11)] [] (40, ziC39, (ziL28 Ln), ziF51, ziI29, (ziA27 xs)) r) : zEv 34 0 0 0 [some (.ref 35), some (.ref 11)] [] (36, ziC35, (ziL24 Ln), ziF47, ziI29, (ziA23 xs)) r := (zin_10_X6_init_p0 Ln xs (zin_10_X6_init_p1 Ln xs (zin_10_X6_init_p2 Ln xs (zin_10_X6_init_p3 Ln xs (zin_10_X6_init_p4 Ln xs (zin_10_X6_init_p5 Ln xs (zin_10_X6_init_p6 Ln xs (zin_10_X6_init_p7 Ln xs hk))))))))
theorem zin_10_X6_init_g2 (Ln : Nat) (xs : Nat → Int32) {r : zRs} (hk : zEv 34 57 6 198 [some (.ref 35), some (.ref 11)] [] (42, ziC41, (ziL30 Ln), ziF54, ziI29, (ziA29 xs)) r) : zEv 34 36 4 186 [some (.ref 35), some (.ref 11)] [] (40, ziC39, (ziL28 Ln), ziF51, ziI29, (ziA27 xs)) r := (zin_10_X6_init_p8 Ln xs (zin_10_X6_init_p9 Ln xs (zin_10_X6_init_p10 Ln xs (zin_10_X6_init_p11 Ln xs (zin_10_X6_init_p12 Ln xs hk)))))
theorem zin_10_X6_init (Ln : Nat) (xs : Nat → Int32) : zEv 34 0 0 0 [some (.ref 35), some (.ref 11)] [] (36, ziC35, (ziL24 Ln), ziF47, ziI29, (ziA23 xs)) (none, (42, ziC41, (ziL30 Ln), ziF54, ziI29, (ziA29 xs))) := (zin_10_X6_init_g1 Ln xs (zin_10_X6_init_g2 Ln xs (zin_10_X6_init_e Ln xs)))
set_option maxRecDepth 100000 in
theorem zin_11_X7_init_p0 (Ln : Nat) (xs : Nat → Int32) {r : zRs} (hk : zEv 45 8 1 4 [some (.ref 1), none, none] [.ref 2] (3, ziC2, (ziL1 Ln), ziF2, ziI1, (ziA0 xs)) r) : zEv 45 0 0 0 [some (.ref 1), none, none] [] (2, ziC1, (ziL0 Ln), ziF1, ziI1, (ziA0 xs)) r :=
  zEv.lift 4 (fun _ => by with_unfolding_all rfl) hk
set_option maxRecDepth 100000 in
theorem zin_11_X7_init_p1 (Ln : Nat) (xs : Nat → Int32) {r : zRs} (hk : zEv 45 21 2 8 [some (.ref 1), some (.ref 2), some (.int 0)] [.ref 3, .int 0, .ref 2] (4, ziC3, (ziL1 Ln), ziF3, ziI2, (ziA0 xs)) r) : zEv 45 8 1 4 [some (.ref 1), none, none] [.ref 2] (3, ziC2, (ziL1 Ln), ziF2, ziI1, (ziA0 xs)) r :=
  zEv.lift 9 (fun _ => by with_unfolding_all rfl) hk
set_option maxRecDepth 100000 in
theorem zin_11_X7_init_p2 (Ln : Nat) (xs : Nat → Int32) {r : zRs} (hk : zEv 45 22 2 8 [some (.ref 1), some (.ref 2), some (.int 0)] [.ref 3, .ref 3, .int 0, .ref 2] (4, ziC3, (ziL1 Ln), ziF3, ziI2, (ziA0 xs)) r) : zEv 45 21 2 8 [some (.ref 1), some (.ref 2), some (.int 0)] [.ref 3, .int 0, .ref 2] (4, ziC3, (ziL1 Ln), ziF3, ziI2, (ziA0 xs)) r :=
  zEv.lift 1 (fun _ => by with_unfolding_all rfl) hk
set_option maxRecDepth 100000 in
theorem zin_11_X7_init_p3 (Ln : Nat) (xs : Nat → Int32) {r : zRs} (hk : zEv 45 25 3 68 [some (.ref 1), some (.ref 2), some (.int 0)] [.ref 3, .int 0, .ref 2] (5, ziC4, (ziL2 Ln), ziF4, ziI5, (ziA1 xs)) r) : zEv 45 22 2 8 [some (.ref 1), some (.ref 2), some (.int 0)] [.ref 3, .ref 3, .int 0, .ref 2] (4, ziC3, (ziL1 Ln), ziF3, ziI2, (ziA0 xs)) r :=
  zEv.call (as := [.ref 3]) (q := (none, (5, ziC4, (ziL2 Ln), ziF4, ziI5, (ziA1 xs)))) rfl (fun _ => rfl) (Nat.le_of_ble_eq_true rfl) (zin_1_X4_init Ln xs) hk
set_option maxRecDepth 100000 in
theorem zin_11_X7_init_p4 (Ln : Nat) (xs : Nat → Int32) {r : zRs} (hk : zEv 45 26 3 68 [some (.ref 1), some (.ref 2), some (.int 0)] [] (5, ziC4, (ziL2 Ln), ziF5, ziI5, (ziA1 xs)) r) : zEv 45 25 3 68 [some (.ref 1), some (.ref 2), some (.int 0)] [.ref 3, .int 0, .ref 2] (5, ziC4, (ziL2 Ln), ziF4, ziI5, (ziA1 xs)) r :=
  zEv.lift 1 (fun _ => by with_unfolding_all rfl) hk
set_option maxRecDepth 100000 in
theorem zin_11_X7_init_p5 (Ln : Nat) (xs : Nat → Int32) {r : zRs} (hk : zEv 45 21 4 72 [some (.ref 1), some (.ref 2), some (.int 1)] [.ref 5, .int 1, .ref 2] (6, ziC5, (ziL2 Ln), ziF6, ziI6, (ziA1 xs)) r) : zEv 45 26 3 68 [some (.ref 1), some (.ref 2), some (.int 0)] [] (5, ziC4, (ziL2 Ln), ziF5, ziI5, (ziA1 xs)) r :=
  zEv.lift 8 (fun _ => by with_unfolding_all rfl) hk
set_option maxRecDepth 100000 in
theorem zin_11_X7_init_p6 (Ln : Nat) (xs : Nat → Int32) {r : zRs} (hk : zEv 45 22 4 72 [some (.ref 1), some (.ref 2), some (.int 1)] [.ref 5, .ref 5, .int 1, .ref 2] (6, ziC5, (ziL2 Ln), ziF6, ziI6, (ziA1 xs)) r) : zEv 45 21 4 72 [some (.ref 1), some (.ref 2), some (.int 1)] [.ref 5, .int 1, .ref 2] (6, ziC5, (ziL2 Ln), ziF6, ziI6, (ziA1 xs)) r :=
  zEv.lift 1 (fun _ => by with_unfolding_all rfl) hk
set_option maxRecDepth 100000 in
theorem zin_11_X7_init_p7 (Ln : Nat) (xs : Nat → Int32) {r : zRs} (hk : zEv 45 25 5 132 [some (.ref 1), some (.ref 2), some (.int 1)] [.ref 5, .int 1, .ref 2] (7, ziC6, (ziL3 Ln), ziF7, ziI9, (ziA2 xs)) r) : zEv 45 22 4 72 [some (.ref 1), some (.ref 2), some (.int 1)] [.ref 5, .ref 5, .int 1, .ref 2] (6, ziC5, (ziL2 Ln), ziF6, ziI6, (ziA1 xs)) r :=
  zEv.call (as := [.ref 5]) (q := (none, (7, ziC6, (ziL3 Ln), ziF7, ziI9, (ziA2 xs)))) rfl (fun _ => rfl) (Nat.le_of_ble_eq_true rfl) (zin_2_X4_init Ln xs) hk
set_option maxRecDepth 100000 in
theorem zin_11_X7_init_p8 (Ln : Nat) (xs : Nat → Int32) {r : zRs} (hk : zEv 45 26 5 132 [some (.ref 1), some (.ref 2), some (.int 1)] [] (7, ziC6, (ziL3 Ln), ziF8, ziI9, (ziA2 xs)) r) : zEv 45 25 5 132 [some (.ref 1), some (.ref 2), some (.int 1)] [.ref 5, .int 1, .ref 2] (7, ziC6, (ziL3 Ln), ziF7, ziI9, (ziA2 xs)) r :=
  zEv.lift 1 (fun _ => by with_unfolding_all rfl) hk
set_option maxRecDepth 100000 in
theorem zin_11_X7_init_p9 (Ln : Nat) (xs : Nat → Int32) {r : zRs} (hk : zEv 45 21 6 136 [some (.ref 1), some (.ref 2), some (.int 2)] [.ref 7, .int 2, .ref 2] (8, ziC7, (ziL3 Ln), ziF9, ziI10, (ziA2 xs)) r) : zEv 45 26 5 132 [some (.ref 1), some (.ref 2), some (.int 1)] [] (7, ziC6, (ziL3 Ln), ziF8, ziI9, (ziA2 xs)) r :=
  zEv.lift 8 (fun _ => by with_unfolding_all rfl) hk
set_option maxRecDepth 100000 in
theorem zin_11_X7_init_p10 (Ln : Nat) (xs : Nat → Int32) {r : zRs} (hk : zEv 45 22 6 136 [some (.ref 1), some (.ref 2), some (.int 2)] [.ref 7, .ref 7, .int 2, .ref 2] (8, ziC7, (ziL3 Ln), ziF9, ziI10, (ziA2 xs)) r) : zEv 45 21 6 136 [some (.ref 1), some (.ref 2), some (.int 2)] [.ref 7, .int 2, .ref 2] (8, ziC7, (ziL3 Ln), ziF9, ziI10, (ziA2 xs)) r :=
  zEv.lift 1 (fun _ => by with_unfolding_all rfl) hk
set_option maxRecDepth 100000 in
theorem zin_11_X7_init_p11 (Ln : Nat) (xs : Nat → Int32) {r : zRs} (hk : zEv 45 25 7 196 [some (.ref 1), some (.ref 2), some (.int 2)] [.ref 7, .int 2, .ref 2] (9, ziC8, (ziL4 Ln), ziF10, ziI13, (ziA3 xs)) r) : zEv 45 22 6 136 [some (.ref 1), some (.ref 2), some (.int 2)] [.ref 7, .ref 7, .int 2, .ref 2] (8, ziC7, (ziL3 Ln), ziF9, ziI10, (ziA2 xs)) r :=
  zEv.call (as := [.ref 7]) (q := (none, (9, ziC8, (ziL4 Ln), ziF10, ziI13, (ziA3 xs)))) rfl (fun _ => rfl) (Nat.le_of_ble_eq_true rfl) (zin_3_X4_init Ln xs) hk
set_option maxRecDepth 100000 in
theorem zin_11_X7_init_p12 (Ln : Nat) (xs : Nat → Int32) {r : zRs} (hk : zEv 45 26 7 196 [some (.ref 1), some (.ref 2), some (.int 2)] [] (9, ziC8, (ziL4 Ln), ziF11, ziI13, (ziA3 xs)) r) : zEv 45 25 7 196 [some (.ref 1), some (.ref 2), some (.int 2)] [.ref 7, .int 2, .ref 2] (9, ziC8, (ziL4 Ln), ziF10, ziI13, (ziA3 xs)) r :=
  zEv.lift 1 (fun _ => by with_unfolding_all rfl) hk
set_option maxRecDepth 100000 in
theorem zin_11_X7_init_p13 (Ln : Nat) (xs : Nat → Int32) {r : zRs} (hk : zEv 45 21 8 200 [some (.ref 1), some (.ref 2), some (.int 3)] [.ref 9, .int 3, .ref 2] (10, ziC9, (ziL4 Ln), ziF12, ziI14, (ziA3 xs)) r) : zEv 45 26 7 196 [some (.ref 1), some (.ref 2), some (.int 2)] [] (9, ziC8, (ziL4 Ln), ziF11, ziI13, (ziA3 xs)) r :=
  zEv.lift 8 (fun _ => by with_unfolding_all rfl) hk
set_option maxRecDepth 100000 in
theorem zin_11_X7_init_p14 (Ln : Nat) (xs : Nat → Int32) {r : zRs} (hk : zEv 45 22 8 200 [some (.ref 1), some (.ref 2), some (.int 3)] [.ref 9, .ref 9, .int 3, .ref 2] (10, ziC9, (ziL4 Ln), ziF12, ziI14, (ziA3 xs)) r) : zEv 45 21 8 200 [some (.ref 1), some (.ref 2), some (.int 3)] [.ref 9, .int 3, .ref 2] (10, ziC9, (ziL4 Ln), ziF12, ziI14, (ziA3 xs)) r :=
  zEv.lift 1 (fun _ => by with_unfolding_all rfl) hk

/-! the law up to its loop, by program (wip/whole/gen_init.py) -/
set_option maxRecDepth 100000 in
theorem zin_1_X4_init_p0 (Ln : Nat) (xs : Nat → Int32) {r : zRs} (hk : zEv 21 9 1 60 [some (.ref 3)] [.ref 4, .ref 3] (5, ziC4, (ziL2 Ln), ziF3, ziI2, (ziA1 xs)) r) : zEv 21 0 0 0 [some (.ref 3)] [] (4, ziC3, (ziL1 Ln), ziF3, ziI2, (ziA0 xs)) r :=
  zEv.lift 5 (fun _ => by with_unfolding_all rfl) hk
set_option maxRecDepth 100000 in
theorem zin_1_X4_init_p1 (Ln : Nat) (xs : Nat → Int32) {r : zRs} (hk : zEv 21 12 1 60 [some (.ref 3)] [] (5, ziC4, (ziL2 Ln), ziF4, ziI2, (ziA1 xs)) r) : zEv 21 9 1 60 [some (.ref 3)] [.ref 4, .ref 3] (5, ziC4, (ziL2 Ln), ziF3, ziI2, (ziA1 xs)) r :=
  zEv.lift 1 (fun _ => by with_unfolding_all rfl) hk
set_option maxRecDepth 100000 in
theorem zin_1_X4_init_p2 (Ln : Nat) (xs : Nat → Int32) {r : zRs} (hk : zEv 21 17 1 60 [some (.ref 3)] [] (5, ziC4, (ziL2 Ln), ziF4, ziI3, (ziA1 xs)) r) : zEv 21 12 1 60 [some (.ref 3)] [] (5, ziC4, (ziL2 Ln), ziF4, ziI2, (ziA1 xs)) r :=
  zEv.lift 3 (fun _ => by with_unfolding_all rfl) hk
set_option maxRecDepth 100000 in
theorem zin_1_X4_init_p3 (Ln : Nat) (xs : Nat → Int32) {r : zRs} (hk : zEv 21 22 1 60 [some (.ref 3)] [] (5, ziC4, (ziL2 Ln), ziF4, ziI4, (ziA1 xs)) r) : zEv 21 17 1 60 [some (.ref 3)] [] (5, ziC4, (ziL2 Ln), ziF4, ziI3, (ziA1 xs)) r :=
  zEv.lift 3 (fun _ => by with_unfolding_all rfl) hk
set_option maxRecDepth 100000 in
theorem zin_1_X4_init_p4 (Ln : Nat) (xs : Nat → Int32) {r : zRs} (hk : zEv 21 27 1 60 [some (.ref 3)] [] (5, ziC4, (ziL2 Ln), ziF4, ziI5, (ziA1 xs)) r) : zEv 21 22 1 60 [some (.ref 3)] [] (5, ziC4, (ziL2 Ln), ziF4, ziI4, (ziA1 xs)) r :=
  zEv.lift 3 (fun _ => by with_unfolding_all rfl) hk
set_option maxRecDepth 100000 in
theorem zin_1_X4_init_e (Ln : Nat) (xs : Nat → Int32) : zEv 21 27 1 60 [some (.ref 3)] [] (5, ziC4, (ziL2 Ln), ziF4, ziI5, (ziA1 xs)) (none, (5, ziC4, (ziL2 Ln), ziF4, ziI5, (ziA1 xs))) := zEv.ret rfl
theorem zin_1_X4_init (Ln : Nat) (xs : Nat → Int32) : zEv 21 0 0 0 [some (.ref 3)] [] (4, ziC3, (ziL1 Ln), ziF3, ziI2, (ziA0 xs)) (none, (5, ziC4, (ziL2 Ln), ziF4, ziI5, (ziA1 xs))) := (zin_1_X4_init_p0 Ln xs (zin_1_X4_init_p1 Ln xs (zin_1_X4_init_p2 Ln xs (zin_1_X4_init_p3 Ln xs (zin_1_X4_init_p4 Ln xs (zin_1_X4_init_e Ln xs))))))
set_option maxRecDepth 100000 in
theorem zin_2_X4_init_p0 (Ln : Nat) (xs : Nat → Int32) {r : zRs} (hk : zEv 21 9 1 60 [some (.ref 5)] [.ref 6, .ref 5] (7, ziC6, (ziL3 Ln), ziF6, ziI6, (ziA2 xs)) r) : zEv 21 0 0 0 [some (.ref 5)] [] (6, ziC5, (ziL2 Ln), ziF6, ziI6, (ziA1 xs)) r :=
  zEv.lift 5 (fun _ => by with_unfolding_all rfl) hk
set_option maxRecDepth 100000 in
theorem zin_2_X4_init_p1 (Ln : Nat) (xs : Nat → Int32) {r : zRs} (hk : zEv 21 12 1 60 [some (.ref 5)] [] (7, ziC6, (ziL3 Ln), ziF7, ziI6, (ziA2 xs)) r) : zEv 21 9 1 60 [some (.ref 5)] [.ref 6, .ref 5] (7, ziC6, (ziL3 Ln), ziF6, ziI6, (ziA2 xs)) r :=
  zEv.lift 1 (fun _ => by with_unfolding_all rfl) hk
set_option maxRecDepth 100000 in
theorem zin_2_X4_init_p2 (Ln : Nat) (xs : Nat → Int32) {r : zRs} (hk : zEv 21 17 1 60 [some (.ref 5)] [] (7, ziC6, (ziL3 Ln), ziF7, ziI7, (ziA2 xs)) r) : zEv 21 12 1 60 [some (.ref 5)] [] (7, ziC6, (ziL3 Ln), ziF7, ziI6, (ziA2 xs)) r :=
  zEv.lift 3 (fun _ => by with_unfolding_all rfl) hk
set_option maxRecDepth 100000 in
theorem zin_2_X4_init_p3 (Ln : Nat) (xs : Nat → Int32) {r : zRs} (hk : zEv 21 22 1 60 [some (.ref 5)] [] (7, ziC6, (ziL3 Ln), ziF7, ziI8, (ziA2 xs)) r) : zEv 21 17 1 60 [some (.ref 5)] [] (7, ziC6, (ziL3 Ln), ziF7, ziI7, (ziA2 xs)) r :=
  zEv.lift 3 (fun _ => by with_unfolding_all rfl) hk
set_option maxRecDepth 100000 in
theorem zin_2_X4_init_p4 (Ln : Nat) (xs : Nat → Int32) {r : zRs} (hk : zEv 21 27 1 60 [some (.ref 5)] [] (7, ziC6, (ziL3 Ln), ziF7, ziI9, (ziA2 xs)) r) : zEv 21 22 1 60 [some (.ref 5)] [] (7, ziC6, (ziL3 Ln), ziF7, ziI8, (ziA2 xs)) r :=
  zEv.lift 3 (fun _ => by with_unfolding_all rfl) hk
set_option maxRecDepth 100000 in
theorem zin_2_X4_init_e (Ln : Nat) (xs : Nat → Int32) : zEv 21 27 1 60 [some (.ref 5)] [] (7, ziC6, (ziL3 Ln), ziF7, ziI9, (ziA2 xs)) (none, (7, ziC6, (ziL3 Ln), ziF7, ziI9, (ziA2 xs))) := zEv.ret rfl
theorem zin_2_X4_init (Ln : Nat) (xs : Nat → Int32) : zEv 21 0 0 0 [some (.ref 5)] [] (6, ziC5, (ziL2 Ln), ziF6, ziI6, (ziA1 xs)) (none, (7, ziC6, (ziL3 Ln), ziF7, ziI9, (ziA2 xs))) := (zin_2_X4_init_p0 Ln xs (zin_2_X4_init_p1 Ln xs (zin_2_X4_init_p2 Ln xs (zin_2_X4_init_p3 Ln xs (zin_2_X4_init_p4 Ln xs (zin_2_X4_init_e Ln xs))))))
set_option maxRecDepth 100000 in
theorem zin_3_X4_init_p0 (Ln : Nat) (xs : Nat → Int32) {r : zRs} (hk : zEv 21 9 1 60 [some (.ref 7)] [.ref 8, .ref 7] (9, ziC8, (ziL4 Ln), ziF9, ziI10, (ziA3 xs)) r) : zEv 21 0 0 0 [some (.ref 7)] [] (8, ziC7, (ziL3 Ln), ziF9, ziI10, (ziA2 xs)) r :=
  zEv.lift 5 (fun _ => by with_unfolding_all rfl) hk
set_option maxRecDepth 100000 in
theorem zin_3_X4_init_p1 (Ln : Nat) (xs : Nat → Int32) {r : zRs} (hk : zEv 21 12 1 60 [some (.ref 7)] [] (9, ziC8, (ziL4 Ln), ziF10, ziI10, (ziA3 xs)) r) : zEv 21 9 1 60 [some (.ref 7)] [.ref 8, .ref 7] (9, ziC8, (ziL4 Ln), ziF9, ziI10, (ziA3 xs)) r :=
  zEv.lift 1 (fun _ => by with_unfolding_all rfl) hk
set_option maxRecDepth 100000 in
theorem zin_3_X4_init_p2 (Ln : Nat) (xs : Nat → Int32) {r : zRs} (hk : zEv 21 17 1 60 [some (.ref 7)] [] (9, ziC8, (ziL4 Ln), ziF10, ziI11, (ziA3 xs)) r) : zEv 21 12 1 60 [some (.ref 7)] [] (9, ziC8, (ziL4 Ln), ziF10, ziI10, (ziA3 xs)) r :=
  zEv.lift 3 (fun _ => by with_unfolding_all rfl) hk
set_option maxRecDepth 100000 in
theorem zin_3_X4_init_p3 (Ln : Nat) (xs : Nat → Int32) {r : zRs} (hk : zEv 21 22 1 60 [some (.ref 7)] [] (9, ziC8, (ziL4 Ln), ziF10, ziI12, (ziA3 xs)) r) : zEv 21 17 1 60 [some (.ref 7)] [] (9, ziC8, (ziL4 Ln), ziF10, ziI11, (ziA3 xs)) r :=
  zEv.lift 3 (fun _ => by with_unfolding_all rfl) hk
set_option maxRecDepth 100000 in
theorem zin_3_X4_init_p4 (Ln : Nat) (xs : Nat → Int32) {r : zRs} (hk : zEv 21 27 1 60 [some (.ref 7)] [] (9, ziC8, (ziL4 Ln), ziF10, ziI13, (ziA3 xs)) r) : zEv 21 22 1 60 [some (.ref 7)] [] (9, ziC8, (ziL4 Ln), ziF10, ziI12, (ziA3 xs)) r :=
  zEv.lift 3 (fun _ => by with_unfolding_all rfl) hk
set_option maxRecDepth 100000 in
theorem zin_3_X4_init_e (Ln : Nat) (xs : Nat → Int32) : zEv 21 27 1 60 [some (.ref 7)] [] (9, ziC8, (ziL4 Ln), ziF10, ziI13, (ziA3 xs)) (none, (9, ziC8, (ziL4 Ln), ziF10, ziI13, (ziA3 xs))) := zEv.ret rfl

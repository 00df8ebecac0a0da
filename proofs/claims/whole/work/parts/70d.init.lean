/-! the law up to its loop, by program (wip/whole/gen_init.py) -/
set_option maxRecDepth 100000 in
theorem zin_5_X0_init_p12 (Ln : Nat) (xs : Nat → Int32) {r : zRs} (hk : zEv 0 61 5 84 [some (.ref 11)] [.ref 16, .ref 11] (17, ziC16, (ziL10 Ln), ziF19, ziI22, (ziA9 xs)) r) : zEv 0 56 4 24 [some (.ref 11)] [] (16, ziC15, (ziL9 Ln), ziF19, ziI22, (ziA8 xs)) r :=
  zEv.lift 3 (fun _ => by with_unfolding_all rfl) hk
set_option maxRecDepth 100000 in
theorem zin_5_X0_init_p13 (Ln : Nat) (xs : Nat → Int32) {r : zRs} (hk : zEv 0 64 5 84 [some (.ref 11)] [] (17, ziC16, (ziL10 Ln), ziF20, ziI22, (ziA9 xs)) r) : zEv 0 61 5 84 [some (.ref 11)] [.ref 16, .ref 11] (17, ziC16, (ziL10 Ln), ziF19, ziI22, (ziA9 xs)) r :=
  zEv.lift 1 (fun _ => by with_unfolding_all rfl) hk
set_option maxRecDepth 100000 in
theorem zin_5_X0_init_p14 (Ln : Nat) (xs : Nat → Int32) {r : zRs} (hk : zEv 0 69 6 148 [some (.ref 11)] [.ref 17, .ref 11] (18, ziC17, (ziL11 Ln), ziF20, ziI22, (ziA10 xs)) r) : zEv 0 64 5 84 [some (.ref 11)] [] (17, ziC16, (ziL10 Ln), ziF20, ziI22, (ziA9 xs)) r :=
  zEv.lift 3 (fun _ => by with_unfolding_all rfl) hk
set_option maxRecDepth 100000 in
theorem zin_5_X0_init_p15 (Ln : Nat) (xs : Nat → Int32) {r : zRs} (hk : zEv 0 72 6 148 [some (.ref 11)] [] (18, ziC17, (ziL11 Ln), ziF21, ziI22, (ziA10 xs)) r) : zEv 0 69 6 148 [some (.ref 11)] [.ref 17, .ref 11] (18, ziC17, (ziL11 Ln), ziF20, ziI22, (ziA10 xs)) r :=
  zEv.lift 1 (fun _ => by with_unfolding_all rfl) hk
set_option maxRecDepth 100000 in
theorem zin_5_X0_init_e (Ln : Nat) (xs : Nat → Int32) : zEv 0 72 6 148 [some (.ref 11)] [] (18, ziC17, (ziL11 Ln), ziF21, ziI22, (ziA10 xs)) (none, (18, ziC17, (ziL11 Ln), ziF21, ziI22, (ziA10 xs))) := zEv.ret rfl
theorem zin_5_X0_init_g1 (Ln : Nat) (xs : Nat → Int32) {r : zRs} (hk : zEv 0 40 2 12 [some (.ref 11)] [] (14, ziC13, (ziL7 Ln), ziF17, ziI22, (ziA6 xs)) r) : zEv 0 0 0 0 [some (.ref 11)] [] (12, ziC11, (ziL5 Ln), ziF15, ziI18, (ziA4 xs)) r := (zin_5_X0_init_p0 Ln xs (zin_5_X0_init_p1 Ln xs (zin_5_X0_init_p2 Ln xs (zin_5_X0_init_p3 Ln xs (zin_5_X0_init_p4 Ln xs (zin_5_X0_init_p5 Ln xs (zin_5_X0_init_p6 Ln xs (zin_5_X0_init_p7 Ln xs hk))))))))
theorem zin_5_X0_init_g2 (Ln : Nat) (xs : Nat → Int32) {r : zRs} (hk : zEv 0 72 6 148 [some (.ref 11)] [] (18, ziC17, (ziL11 Ln), ziF21, ziI22, (ziA10 xs)) r) : zEv 0 40 2 12 [some (.ref 11)] [] (14, ziC13, (ziL7 Ln), ziF17, ziI22, (ziA6 xs)) r := (zin_5_X0_init_p8 Ln xs (zin_5_X0_init_p9 Ln xs (zin_5_X0_init_p10 Ln xs (zin_5_X0_init_p11 Ln xs (zin_5_X0_init_p12 Ln xs (zin_5_X0_init_p13 Ln xs (zin_5_X0_init_p14 Ln xs (zin_5_X0_init_p15 Ln xs hk))))))))
theorem zin_5_X0_init (Ln : Nat) (xs : Nat → Int32) : zEv 0 0 0 0 [some (.ref 11)] [] (12, ziC11, (ziL5 Ln), ziF15, ziI18, (ziA4 xs)) (none, (18, ziC17, (ziL11 Ln), ziF21, ziI22, (ziA10 xs))) := (zin_5_X0_init_g1 Ln xs (zin_5_X0_init_g2 Ln xs (zin_5_X0_init_e Ln xs)))
set_option maxRecDepth 100000 in
theorem zin_6_X2_init_p0 (Ln : Nat) (xs : Nat → Int32) {r : zRs} (hk : zEv 13 9 1 6 [some (.ref 18)] [.ref 19, .ref 18] (20, ziC19, (ziL12 Ln), ziF24, ziI23, (ziA11 xs)) r) : zEv 13 0 0 0 [some (.ref 18)] [] (19, ziC18, (ziL11 Ln), ziF24, ziI23, (ziA10 xs)) r :=
  zEv.lift 5 (fun _ => by with_unfolding_all rfl) hk
set_option maxRecDepth 100000 in
theorem zin_6_X2_init_p1 (Ln : Nat) (xs : Nat → Int32) {r : zRs} (hk : zEv 13 12 1 6 [some (.ref 18)] [] (20, ziC19, (ziL12 Ln), ziF25, ziI23, (ziA11 xs)) r) : zEv 13 9 1 6 [some (.ref 18)] [.ref 19, .ref 18] (20, ziC19, (ziL12 Ln), ziF24, ziI23, (ziA11 xs)) r :=
  zEv.lift 1 (fun _ => by with_unfolding_all rfl) hk
set_option maxRecDepth 100000 in
theorem zin_6_X2_init_p2 (Ln : Nat) (xs : Nat → Int32) {r : zRs} (hk : zEv 13 17 2 12 [some (.ref 18)] [.ref 20, .ref 18] (21, ziC20, (ziL13 Ln), ziF25, ziI23, (ziA12 xs)) r) : zEv 13 12 1 6 [some (.ref 18)] [] (20, ziC19, (ziL12 Ln), ziF25, ziI23, (ziA11 xs)) r :=
  zEv.lift 3 (fun _ => by with_unfolding_all rfl) hk
set_option maxRecDepth 100000 in
theorem zin_6_X2_init_p3 (Ln : Nat) (xs : Nat → Int32) {r : zRs} (hk : zEv 13 20 2 12 [some (.ref 18)] [] (21, ziC20, (ziL13 Ln), ziF26, ziI23, (ziA12 xs)) r) : zEv 13 17 2 12 [some (.ref 18)] [.ref 20, .ref 18] (21, ziC20, (ziL13 Ln), ziF25, ziI23, (ziA12 xs)) r :=
  zEv.lift 1 (fun _ => by with_unfolding_all rfl) hk
set_option maxRecDepth 100000 in
theorem zin_6_X2_init_p4 (Ln : Nat) (xs : Nat → Int32) {r : zRs} (hk : zEv 13 25 3 18 [some (.ref 18)] [.ref 21, .ref 18] (22, ziC21, (ziL14 Ln), ziF26, ziI23, (ziA13 xs)) r) : zEv 13 20 2 12 [some (.ref 18)] [] (21, ziC20, (ziL13 Ln), ziF26, ziI23, (ziA12 xs)) r :=
  zEv.lift 3 (fun _ => by with_unfolding_all rfl) hk
set_option maxRecDepth 100000 in
theorem zin_6_X2_init_p5 (Ln : Nat) (xs : Nat → Int32) {r : zRs} (hk : zEv 13 28 3 18 [some (.ref 18)] [] (22, ziC21, (ziL14 Ln), ziF27, ziI23, (ziA13 xs)) r) : zEv 13 25 3 18 [some (.ref 18)] [.ref 21, .ref 18] (22, ziC21, (ziL14 Ln), ziF26, ziI23, (ziA13 xs)) r :=
  zEv.lift 1 (fun _ => by with_unfolding_all rfl) hk
set_option maxRecDepth 100000 in
theorem zin_6_X2_init_p6 (Ln : Nat) (xs : Nat → Int32) {r : zRs} (hk : zEv 13 33 3 18 [some (.ref 18)] [] (22, ziC21, (ziL14 Ln), ziF27, ziI24, (ziA13 xs)) r) : zEv 13 28 3 18 [some (.ref 18)] [] (22, ziC21, (ziL14 Ln), ziF27, ziI23, (ziA13 xs)) r :=
  zEv.lift 3 (fun _ => by with_unfolding_all rfl) hk
set_option maxRecDepth 100000 in
theorem zin_6_X2_init_e (Ln : Nat) (xs : Nat → Int32) : zEv 13 33 3 18 [some (.ref 18)] [] (22, ziC21, (ziL14 Ln), ziF27, ziI24, (ziA13 xs)) (none, (22, ziC21, (ziL14 Ln), ziF27, ziI24, (ziA13 xs))) := zEv.ret rfl
theorem zin_6_X2_init (Ln : Nat) (xs : Nat → Int32) : zEv 13 0 0 0 [some (.ref 18)] [] (19, ziC18, (ziL11 Ln), ziF24, ziI23, (ziA10 xs)) (none, (22, ziC21, (ziL14 Ln), ziF27, ziI24, (ziA13 xs))) := (zin_6_X2_init_p0 Ln xs (zin_6_X2_init_p1 Ln xs (zin_6_X2_init_p2 Ln xs (zin_6_X2_init_p3 Ln xs (zin_6_X2_init_p4 Ln xs (zin_6_X2_init_p5 Ln xs (zin_6_X2_init_p6 Ln xs (zin_6_X2_init_e Ln xs))))))))
set_option maxRecDepth 100000 in
theorem zin_7_X3_init_p0 (Ln : Nat) (xs : Nat → Int32) {r : zRs} (hk : zEv 18 9 1 6 [some (.ref 22)] [.ref 23, .ref 22] (24, ziC23, (ziL15 Ln), ziF29, ziI25, (ziA14 xs)) r) : zEv 18 0 0 0 [some (.ref 22)] [] (23, ziC22, (ziL14 Ln), ziF29, ziI25, (ziA13 xs)) r :=
  zEv.lift 5 (fun _ => by with_unfolding_all rfl) hk
set_option maxRecDepth 100000 in
theorem zin_7_X3_init_p1 (Ln : Nat) (xs : Nat → Int32) {r : zRs} (hk : zEv 18 12 1 6 [some (.ref 22)] [] (24, ziC23, (ziL15 Ln), ziF30, ziI25, (ziA14 xs)) r) : zEv 18 9 1 6 [some (.ref 22)] [.ref 23, .ref 22] (24, ziC23, (ziL15 Ln), ziF29, ziI25, (ziA14 xs)) r :=
  zEv.lift 1 (fun _ => by with_unfolding_all rfl) hk
set_option maxRecDepth 100000 in
theorem zin_7_X3_init_p2 (Ln : Nat) (xs : Nat → Int32) {r : zRs} (hk : zEv 18 17 2 12 [some (.ref 22)] [.ref 24, .ref 22] (25, ziC24, (ziL16 Ln), ziF30, ziI25, (ziA15 xs)) r) : zEv 18 12 1 6 [some (.ref 22)] [] (24, ziC23, (ziL15 Ln), ziF30, ziI25, (ziA14 xs)) r :=
  zEv.lift 3 (fun _ => by with_unfolding_all rfl) hk

/-! the law up to its loop, by program (wip/whole/gen_init.py) -/
theorem zin_3_X4_init (Ln : Nat) (xs : Nat → Int32) : zEv 21 0 0 0 [some (.ref 7)] [] (8, ziC7, (ziL3 Ln), ziF9, ziI10, (ziA2 xs)) (none, (9, ziC8, (ziL4 Ln), ziF10, ziI13, (ziA3 xs))) := (zin_3_X4_init_p0 Ln xs (zin_3_X4_init_p1 Ln xs (zin_3_X4_init_p2 Ln xs (zin_3_X4_init_p3 Ln xs (zin_3_X4_init_p4 Ln xs (zin_3_X4_init_e Ln xs))))))
set_option maxRecDepth 100000 in
theorem zin_4_X4_init_p0 (Ln : Nat) (xs : Nat → Int32) {r : zRs} (hk : zEv 21 9 1 60 [some (.ref 9)] [.ref 10, .ref 9] (11, ziC10, (ziL5 Ln), ziF12, ziI14, (ziA4 xs)) r) : zEv 21 0 0 0 [some (.ref 9)] [] (10, ziC9, (ziL4 Ln), ziF12, ziI14, (ziA3 xs)) r :=
  zEv.lift 5 (fun _ => by with_unfolding_all rfl) hk
set_option maxRecDepth 100000 in
theorem zin_4_X4_init_p1 (Ln : Nat) (xs : Nat → Int32) {r : zRs} (hk : zEv 21 12 1 60 [some (.ref 9)] [] (11, ziC10, (ziL5 Ln), ziF13, ziI14, (ziA4 xs)) r) : zEv 21 9 1 60 [some (.ref 9)] [.ref 10, .ref 9] (11, ziC10, (ziL5 Ln), ziF12, ziI14, (ziA4 xs)) r :=
  zEv.lift 1 (fun _ => by with_unfolding_all rfl) hk
set_option maxRecDepth 100000 in
theorem zin_4_X4_init_p2 (Ln : Nat) (xs : Nat → Int32) {r : zRs} (hk : zEv 21 17 1 60 [some (.ref 9)] [] (11, ziC10, (ziL5 Ln), ziF13, ziI15, (ziA4 xs)) r) : zEv 21 12 1 60 [some (.ref 9)] [] (11, ziC10, (ziL5 Ln), ziF13, ziI14, (ziA4 xs)) r :=
  zEv.lift 3 (fun _ => by with_unfolding_all rfl) hk
set_option maxRecDepth 100000 in
theorem zin_4_X4_init_p3 (Ln : Nat) (xs : Nat → Int32) {r : zRs} (hk : zEv 21 22 1 60 [some (.ref 9)] [] (11, ziC10, (ziL5 Ln), ziF13, ziI16, (ziA4 xs)) r) : zEv 21 17 1 60 [some (.ref 9)] [] (11, ziC10, (ziL5 Ln), ziF13, ziI15, (ziA4 xs)) r :=
  zEv.lift 3 (fun _ => by with_unfolding_all rfl) hk
set_option maxRecDepth 100000 in
theorem zin_4_X4_init_p4 (Ln : Nat) (xs : Nat → Int32) {r : zRs} (hk : zEv 21 27 1 60 [some (.ref 9)] [] (11, ziC10, (ziL5 Ln), ziF13, ziI17, (ziA4 xs)) r) : zEv 21 22 1 60 [some (.ref 9)] [] (11, ziC10, (ziL5 Ln), ziF13, ziI16, (ziA4 xs)) r :=
  zEv.lift 3 (fun _ => by with_unfolding_all rfl) hk
set_option maxRecDepth 100000 in
theorem zin_4_X4_init_e (Ln : Nat) (xs : Nat → Int32) : zEv 21 27 1 60 [some (.ref 9)] [] (11, ziC10, (ziL5 Ln), ziF13, ziI17, (ziA4 xs)) (none, (11, ziC10, (ziL5 Ln), ziF13, ziI17, (ziA4 xs))) := zEv.ret rfl
theorem zin_4_X4_init (Ln : Nat) (xs : Nat → Int32) : zEv 21 0 0 0 [some (.ref 9)] [] (10, ziC9, (ziL4 Ln), ziF12, ziI14, (ziA3 xs)) (none, (11, ziC10, (ziL5 Ln), ziF13, ziI17, (ziA4 xs))) := (zin_4_X4_init_p0 Ln xs (zin_4_X4_init_p1 Ln xs (zin_4_X4_init_p2 Ln xs (zin_4_X4_init_p3 Ln xs (zin_4_X4_init_p4 Ln xs (zin_4_X4_init_e Ln xs))))))
set_option maxRecDepth 100000 in
theorem zin_5_X0_init_p0 (Ln : Nat) (xs : Nat → Int32) {r : zRs} (hk : zEv 0 9 0 0 [some (.ref 11)] [] (12, ziC11, (ziL5 Ln), ziF15, ziI19, (ziA4 xs)) r) : zEv 0 0 0 0 [some (.ref 11)] [] (12, ziC11, (ziL5 Ln), ziF15, ziI18, (ziA4 xs)) r :=
  zEv.lift 5 (fun _ => by with_unfolding_all rfl) hk
set_option maxRecDepth 100000 in
theorem zin_5_X0_init_p1 (Ln : Nat) (xs : Nat → Int32) {r : zRs} (hk : zEv 0 14 0 0 [some (.ref 11)] [] (12, ziC11, (ziL5 Ln), ziF15, ziI20, (ziA4 xs)) r) : zEv 0 9 0 0 [some (.ref 11)] [] (12, ziC11, (ziL5 Ln), ziF15, ziI19, (ziA4 xs)) r :=
  zEv.lift 3 (fun _ => by with_unfolding_all rfl) hk
set_option maxRecDepth 100000 in
theorem zin_5_X0_init_p2 (Ln : Nat) (xs : Nat → Int32) {r : zRs} (hk : zEv 0 19 0 0 [some (.ref 11)] [] (12, ziC11, (ziL5 Ln), ziF15, ziI21, (ziA4 xs)) r) : zEv 0 14 0 0 [some (.ref 11)] [] (12, ziC11, (ziL5 Ln), ziF15, ziI20, (ziA4 xs)) r :=
  zEv.lift 3 (fun _ => by with_unfolding_all rfl) hk
set_option maxRecDepth 100000 in
theorem zin_5_X0_init_p3 (Ln : Nat) (xs : Nat → Int32) {r : zRs} (hk : zEv 0 24 0 0 [some (.ref 11)] [] (12, ziC11, (ziL5 Ln), ziF15, ziI22, (ziA4 xs)) r) : zEv 0 19 0 0 [some (.ref 11)] [] (12, ziC11, (ziL5 Ln), ziF15, ziI21, (ziA4 xs)) r :=
  zEv.lift 3 (fun _ => by with_unfolding_all rfl) hk
set_option maxRecDepth 100000 in
theorem zin_5_X0_init_p4 (Ln : Nat) (xs : Nat → Int32) {r : zRs} (hk : zEv 0 29 1 6 [some (.ref 11)] [.ref 12, .ref 11] (13, ziC12, (ziL6 Ln), ziF15, ziI22, (ziA5 xs)) r) : zEv 0 24 0 0 [some (.ref 11)] [] (12, ziC11, (ziL5 Ln), ziF15, ziI22, (ziA4 xs)) r :=
  zEv.lift 3 (fun _ => by with_unfolding_all rfl) hk
set_option maxRecDepth 100000 in
theorem zin_5_X0_init_p5 (Ln : Nat) (xs : Nat → Int32) {r : zRs} (hk : zEv 0 32 1 6 [some (.ref 11)] [] (13, ziC12, (ziL6 Ln), ziF16, ziI22, (ziA5 xs)) r) : zEv 0 29 1 6 [some (.ref 11)] [.ref 12, .ref 11] (13, ziC12, (ziL6 Ln), ziF15, ziI22, (ziA5 xs)) r :=
  zEv.lift 1 (fun _ => by with_unfolding_all rfl) hk
set_option maxRecDepth 100000 in
theorem zin_5_X0_init_p6 (Ln : Nat) (xs : Nat → Int32) {r : zRs} (hk : zEv 0 37 2 12 [some (.ref 11)] [.ref 13, .ref 11] (14, ziC13, (ziL7 Ln), ziF16, ziI22, (ziA6 xs)) r) : zEv 0 32 1 6 [some (.ref 11)] [] (13, ziC12, (ziL6 Ln), ziF16, ziI22, (ziA5 xs)) r :=
  zEv.lift 3 (fun _ => by with_unfolding_all rfl) hk
set_option maxRecDepth 100000 in
theorem zin_5_X0_init_p7 (Ln : Nat) (xs : Nat → Int32) {r : zRs} (hk : zEv 0 40 2 12 [some (.ref 11)] [] (14, ziC13, (ziL7 Ln), ziF17, ziI22, (ziA6 xs)) r) : zEv 0 37 2 12 [some (.ref 11)] [.ref 13, .ref 11] (14, ziC13, (ziL7 Ln), ziF16, ziI22, (ziA6 xs)) r :=
  zEv.lift 1 (fun _ => by with_unfolding_all rfl) hk
set_option maxRecDepth 100000 in
theorem zin_5_X0_init_p8 (Ln : Nat) (xs : Nat → Int32) {r : zRs} (hk : zEv 0 45 3 18 [some (.ref 11)] [.ref 14, .ref 11] (15, ziC14, (ziL8 Ln), ziF17, ziI22, (ziA7 xs)) r) : zEv 0 40 2 12 [some (.ref 11)] [] (14, ziC13, (ziL7 Ln), ziF17, ziI22, (ziA6 xs)) r :=
  zEv.lift 3 (fun _ => by with_unfolding_all rfl) hk
set_option maxRecDepth 100000 in
theorem zin_5_X0_init_p9 (Ln : Nat) (xs : Nat → Int32) {r : zRs} (hk : zEv 0 48 3 18 [some (.ref 11)] [] (15, ziC14, (ziL8 Ln), ziF18, ziI22, (ziA7 xs)) r) : zEv 0 45 3 18 [some (.ref 11)] [.ref 14, .ref 11] (15, ziC14, (ziL8 Ln), ziF17, ziI22, (ziA7 xs)) r :=
  zEv.lift 1 (fun _ => by with_unfolding_all rfl) hk
set_option maxRecDepth 100000 in
theorem zin_5_X0_init_p10 (Ln : Nat) (xs : Nat → Int32) {r : zRs} (hk : zEv 0 53 4 24 [some (.ref 11)] [.ref 15, .ref 11] (16, ziC15, (ziL9 Ln), ziF18, ziI22, (ziA8 xs)) r) : zEv 0 48 3 18 [some (.ref 11)] [] (15, ziC14, (ziL8 Ln), ziF18, ziI22, (ziA7 xs)) r :=
  zEv.lift 3 (fun _ => by with_unfolding_all rfl) hk
set_option maxRecDepth 100000 in
theorem zin_5_X0_init_p11 (Ln : Nat) (xs : Nat → Int32) {r : zRs} (hk : zEv 0 56 4 24 [some (.ref 11)] [] (16, ziC15, (ziL9 Ln), ziF19, ziI22, (ziA8 xs)) r) : zEv 0 53 4 24 [some (.ref 11)] [.ref 15, .ref 11] (16, ziC15, (ziL9 Ln), ziF18, ziI22, (ziA8 xs)) r :=
  zEv.lift 1 (fun _ => by with_unfolding_all rfl) hk

/-! the law up to its loop, by program (wip/whole/gen_init.py) -/
theorem zin_11_X7_init_g6 (Ln : Nat) (xs : Nat → Int32) {r : zRs} (hk : zEv 45 134 42 950 [some (.ref 1), some (.ref 2), some (.ref 11)] [] (44, ziC43, (ziL32 Ln), ziF57, ziI31, (ziA31 xs)) r) : zEv 45 102 34 740 [some (.ref 1), some (.ref 2), some (.ref 11)] [.ref 11, .ref 35, .ref 35, .ref 1] (36, ziC35, (ziL24 Ln), ziF47, ziI29, (ziA23 xs)) r := (zin_11_X7_init_p40 Ln xs (zin_11_X7_init_p41 Ln xs (zin_11_X7_init_p42 Ln xs (zin_11_X7_init_p43 Ln xs (zin_11_X7_init_p44 Ln xs (zin_11_X7_init_p45 Ln xs (zin_11_X7_init_p46 Ln xs (zin_11_X7_init_p47 Ln xs hk))))))))
theorem zin_11_X7_init (Ln : Nat) (xs : Nat → Int32) : zEv 45 0 0 0 [some (.ref 1), none, none] [] (2, ziC1, (ziL0 Ln), ziF1, ziI1, (ziA0 xs)) (none, (44, ziC43, (ziL32 Ln), ziF57, ziI32, (ziA31 xs))) := (zin_11_X7_init_g1 Ln xs (zin_11_X7_init_g2 Ln xs (zin_11_X7_init_g3 Ln xs (zin_11_X7_init_g4 Ln xs (zin_11_X7_init_g5 Ln xs (zin_11_X7_init_g6 Ln xs (zin_11_X7_init_p48 Ln xs (zin_11_X7_init_e Ln xs))))))))
set_option maxRecDepth 100000 in
theorem zin_12_X8_init_p0 (Ln : Nat) (xs : Nat → Int32) {r : zRs} (hk : zEv 93 9 1 6 [some (.ref 44), none] [.ref 45, .ref 44] (46, ziC45, (ziL33 Ln), ziF58, ziI33, (ziA32 xs)) r) : zEv 93 0 0 0 [some (.ref 44), none] [] (45, ziC44, (ziL32 Ln), ziF58, ziI33, (ziA31 xs)) r :=
  zEv.lift 5 (fun _ => by with_unfolding_all rfl) hk
set_option maxRecDepth 100000 in
theorem zin_12_X8_init_p1 (Ln : Nat) (xs : Nat → Int32) {r : zRs} (hk : zEv 93 12 1 6 [some (.ref 44), none] [] (46, ziC45, (ziL33 Ln), ziF59, ziI33, (ziA32 xs)) r) : zEv 93 9 1 6 [some (.ref 44), none] [.ref 45, .ref 44] (46, ziC45, (ziL33 Ln), ziF58, ziI33, (ziA32 xs)) r :=
  zEv.pfr (c := 7) rfl (by decide +kernel) (by decide) hk
set_option maxRecDepth 100000 in
theorem zin_12_X8_init_p2 (Ln : Nat) (xs : Nat → Int32) {r : zRs} (hk : zEv 93 17 2 12 [some (.ref 44), none] [.ref 46, .ref 44] (47, ziC46, (ziL34 Ln), ziF59, ziI33, (ziA33 xs)) r) : zEv 93 12 1 6 [some (.ref 44), none] [] (46, ziC45, (ziL33 Ln), ziF59, ziI33, (ziA32 xs)) r :=
  zEv.lift 3 (fun _ => by with_unfolding_all rfl) hk
set_option maxRecDepth 100000 in
theorem zin_12_X8_init_p3 (Ln : Nat) (xs : Nat → Int32) {r : zRs} (hk : zEv 93 20 2 12 [some (.ref 44), none] [] (47, ziC46, (ziL34 Ln), ziF60, ziI33, (ziA33 xs)) r) : zEv 93 17 2 12 [some (.ref 44), none] [.ref 46, .ref 44] (47, ziC46, (ziL34 Ln), ziF59, ziI33, (ziA33 xs)) r :=
  zEv.pfr (c := 7) rfl (by decide +kernel) (by decide) hk
set_option maxRecDepth 100000 in
theorem zin_12_X8_init_p4 (Ln : Nat) (xs : Nat → Int32) {r : zRs} (hk : zEv 93 25 3 18 [some (.ref 44), none] [.ref 47, .ref 44] (48, ziC47, (ziL35 Ln), ziF60, ziI33, (ziA34 xs)) r) : zEv 93 20 2 12 [some (.ref 44), none] [] (47, ziC46, (ziL34 Ln), ziF60, ziI33, (ziA33 xs)) r :=
  zEv.lift 3 (fun _ => by with_unfolding_all rfl) hk
set_option maxRecDepth 100000 in
theorem zin_12_X8_init_p5 (Ln : Nat) (xs : Nat → Int32) {r : zRs} (hk : zEv 93 28 3 18 [some (.ref 44), none] [] (48, ziC47, (ziL35 Ln), ziF61, ziI33, (ziA34 xs)) r) : zEv 93 25 3 18 [some (.ref 44), none] [.ref 47, .ref 44] (48, ziC47, (ziL35 Ln), ziF60, ziI33, (ziA34 xs)) r :=
  zEv.pfr (c := 7) rfl (by decide +kernel) (by decide) hk
set_option maxRecDepth 100000 in
theorem zin_12_X8_init_p6 (Ln : Nat) (xs : Nat → Int32) {r : zRs} (hk : zEv 93 33 4 24 [some (.ref 44), none] [.ref 48, .ref 44] (49, ziC48, (ziL36 Ln), ziF61, ziI33, (ziA35 xs)) r) : zEv 93 28 3 18 [some (.ref 44), none] [] (48, ziC47, (ziL35 Ln), ziF61, ziI33, (ziA34 xs)) r :=
  zEv.lift 3 (fun _ => by with_unfolding_all rfl) hk
set_option maxRecDepth 100000 in
theorem zin_12_X8_init_p7 (Ln : Nat) (xs : Nat → Int32) {r : zRs} (hk : zEv 93 36 4 24 [some (.ref 44), none] [] (49, ziC48, (ziL36 Ln), ziF62, ziI33, (ziA35 xs)) r) : zEv 93 33 4 24 [some (.ref 44), none] [.ref 48, .ref 44] (49, ziC48, (ziL36 Ln), ziF61, ziI33, (ziA35 xs)) r :=
  zEv.pfr (c := 7) rfl (by decide +kernel) (by decide) hk
set_option maxRecDepth 100000 in
theorem zin_12_X8_init_p8 (Ln : Nat) (xs : Nat → Int32) {r : zRs} (hk : zEv 93 41 5 30 [some (.ref 44), none] [.ref 49, .ref 44] (50, ziC49, (ziL37 Ln), ziF62, ziI33, (ziA36 xs)) r) : zEv 93 36 4 24 [some (.ref 44), none] [] (49, ziC48, (ziL36 Ln), ziF62, ziI33, (ziA35 xs)) r :=
  zEv.lift 3 (fun _ => by with_unfolding_all rfl) hk
set_option maxRecDepth 100000 in
theorem zin_12_X8_init_p9 (Ln : Nat) (xs : Nat → Int32) {r : zRs} (hk : zEv 93 44 5 30 [some (.ref 44), none] [] (50, ziC49, (ziL37 Ln), ziF63, ziI33, (ziA36 xs)) r) : zEv 93 41 5 30 [some (.ref 44), none] [.ref 49, .ref 44] (50, ziC49, (ziL37 Ln), ziF62, ziI33, (ziA36 xs)) r :=
  zEv.pfr (c := 7) rfl (by decide +kernel) (by decide) hk
set_option maxRecDepth 100000 in
theorem zin_12_X8_init_p10 (Ln : Nat) (xs : Nat → Int32) {r : zRs} (hk : zEv 93 49 6 36 [some (.ref 44), none] [.ref 50, .ref 44] (51, ziC50, (ziL38 Ln), ziF63, ziI33, (ziA37 xs)) r) : zEv 93 44 5 30 [some (.ref 44), none] [] (50, ziC49, (ziL37 Ln), ziF63, ziI33, (ziA36 xs)) r :=
  zEv.lift 3 (fun _ => by with_unfolding_all rfl) hk
set_option maxRecDepth 100000 in
theorem zin_12_X8_init_p11 (Ln : Nat) (xs : Nat → Int32) {r : zRs} (hk : zEv 93 52 6 36 [some (.ref 44), none] [] (51, ziC50, (ziL38 Ln), ziF64, ziI33, (ziA37 xs)) r) : zEv 93 49 6 36 [some (.ref 44), none] [.ref 50, .ref 44] (51, ziC50, (ziL38 Ln), ziF63, ziI33, (ziA37 xs)) r :=
  zEv.pfr (c := 7) rfl (by decide +kernel) (by decide) hk
set_option maxRecDepth 100000 in
theorem zin_12_X8_init_p12 (Ln : Nat) (xs : Nat → Int32) {r : zRs} (hk : zEv 93 57 7 42 [some (.ref 44), none] [.ref 51, .ref 44] (52, ziC51, (ziL39 Ln), ziF64, ziI33, (ziA38 xs)) r) : zEv 93 52 6 36 [some (.ref 44), none] [] (51, ziC50, (ziL38 Ln), ziF64, ziI33, (ziA37 xs)) r :=
  zEv.lift 3 (fun _ => by with_unfolding_all rfl) hk
set_option maxRecDepth 100000 in
theorem zin_12_X8_init_p13 (Ln : Nat) (xs : Nat → Int32) {r : zRs} (hk : zEv 93 60 7 42 [some (.ref 44), none] [] (52, ziC51, (ziL39 Ln), ziF65, ziI33, (ziA38 xs)) r) : zEv 93 57 7 42 [some (.ref 44), none] [.ref 51, .ref 44] (52, ziC51, (ziL39 Ln), ziF64, ziI33, (ziA38 xs)) r :=
  zEv.pfr (c := 7) rfl (by decide +kernel) (by decide) hk
set_option maxRecDepth 100000 in
theorem zin_12_X8_init_p14 (Ln : Nat) (xs : Nat → Int32) {r : zRs} (hk : zEv 93 65 8 48 [some (.ref 44), none] [.ref 52, .ref 44] (53, ziC52, (ziL40 Ln), ziF65, ziI33, (ziA39 xs)) r) : zEv 93 60 7 42 [some (.ref 44), none] [] (52, ziC51, (ziL39 Ln), ziF65, ziI33, (ziA38 xs)) r :=
  zEv.lift 3 (fun _ => by with_unfolding_all rfl) hk
set_option maxRecDepth 100000 in
theorem zin_12_X8_init_p15 (Ln : Nat) (xs : Nat → Int32) {r : zRs} (hk : zEv 93 68 8 48 [some (.ref 44), none] [] (53, ziC52, (ziL40 Ln), ziF66, ziI33, (ziA39 xs)) r) : zEv 93 65 8 48 [some (.ref 44), none] [.ref 52, .ref 44] (53, ziC52, (ziL40 Ln), ziF65, ziI33, (ziA39 xs)) r :=
  zEv.pfr (c := 7) rfl (by decide +kernel) (by decide) hk
set_option maxRecDepth 100000 in
theorem zin_12_X8_init_p16 (Ln : Nat) (xs : Nat → Int32) {r : zRs} (hk : zEv 93 73 9 54 [some (.ref 44), none] [.ref 53, .ref 44] (54, ziC53, (ziL41 Ln), ziF66, ziI33, (ziA40 xs)) r) : zEv 93 68 8 48 [some (.ref 44), none] [] (53, ziC52, (ziL40 Ln), ziF66, ziI33, (ziA39 xs)) r :=
  zEv.lift 3 (fun _ => by with_unfolding_all rfl) hk
set_option maxRecDepth 100000 in
theorem zin_12_X8_init_p17 (Ln : Nat) (xs : Nat → Int32) {r : zRs} (hk : zEv 93 76 9 54 [some (.ref 44), none] [] (54, ziC53, (ziL41 Ln), ziF67, ziI33, (ziA40 xs)) r) : zEv 93 73 9 54 [some (.ref 44), none] [.ref 53, .ref 44] (54, ziC53, (ziL41 Ln), ziF66, ziI33, (ziA40 xs)) r :=
  zEv.pfr (c := 7) rfl (by decide +kernel) (by decide) hk

/-! the law up to its loop, by program (wip/whole/gen_init.py) -/
theorem zin_12_X8_init_g5 (Ln : Nat) (xs : Nat → Int32) {r : zRs} (hk : zEv 93 164 20 294 [some (.ref 44), none] [] (65, ziC64, (ziL52 Ln), ziF78, ziI33, (ziA51 xs)) r) : zEv 93 132 16 212 [some (.ref 44), none] [] (61, ziC60, (ziL48 Ln), ziF74, ziI33, (ziA47 xs)) r := (zin_12_X8_init_p32 Ln xs (zin_12_X8_init_p33 Ln xs (zin_12_X8_init_p34 Ln xs (zin_12_X8_init_p35 Ln xs (zin_12_X8_init_p36 Ln xs (zin_12_X8_init_p37 Ln xs (zin_12_X8_init_p38 Ln xs (zin_12_X8_init_p39 Ln xs hk))))))))
theorem zin_12_X8_init_g6 (Ln : Nat) (xs : Nat → Int32) {r : zRs} (hk : zEv 93 195 24 602 [some (.ref 44), none] [] (69, ziC68, (ziL56 Ln), ziF82, ziI33, (ziA55 xs)) r) : zEv 93 164 20 294 [some (.ref 44), none] [] (65, ziC64, (ziL52 Ln), ziF78, ziI33, (ziA51 xs)) r := (zin_12_X8_init_p40 Ln xs (zin_12_X8_init_p41 Ln xs (zin_12_X8_init_p42 Ln xs (zin_12_X8_init_p43 Ln xs (zin_12_X8_init_p44 Ln xs (zin_12_X8_init_p45 Ln xs (zin_12_X8_init_p46 Ln xs (zin_12_X8_init_p47 Ln xs hk))))))))
theorem zin_12_X8_init_g7 (Ln : Nat) (xs : Nat → Int32) {r : zRs} (hk : zEv 93 215 24 602 [some (.ref 44), some (.int 4)] [] (69, ziC68, (ziL56 Ln), ziF82, ziI33, (ziA59 xs)) r) : zEv 93 195 24 602 [some (.ref 44), none] [] (69, ziC68, (ziL56 Ln), ziF82, ziI33, (ziA55 xs)) r := (zin_12_X8_init_p48 Ln xs (zin_12_X8_init_p49 Ln xs (zin_12_X8_init_p50 Ln xs (zin_12_X8_init_p51 Ln xs (zin_12_X8_init_p52 Ln xs hk)))))
theorem zin_12_X8_init (Ln : Nat) (xs : Nat → Int32) : zEv 93 0 0 0 [some (.ref 44), none] [] (45, ziC44, (ziL32 Ln), ziF58, ziI33, (ziA31 xs)) (none, (69, ziC68, (ziL56 Ln), ziF82, ziI33, (ziA59 xs))) := (zin_12_X8_init_g1 Ln xs (zin_12_X8_init_g2 Ln xs (zin_12_X8_init_g3 Ln xs (zin_12_X8_init_g4 Ln xs (zin_12_X8_init_g5 Ln xs (zin_12_X8_init_g6 Ln xs (zin_12_X8_init_g7 Ln xs (zin_12_X8_init_e Ln xs))))))))
set_option maxRecDepth 100000 in
theorem zin_13_L_law_p0 (Ln : Nat) (xs : Nat → Int32) {r : zRs} (hk : zEv 164 3 1 12 [some (.ref 0), none, none, none] [.ref 1] (2, ziC1, (ziL0 Ln), ziF1, ziI1, (ziA0 xs)) r) : zEv 164 0 0 0 [some (.ref 0), none, none, none] [] (1, ziC0, (ziL0 Ln), ziF0, ziI0, (ziA0 xs)) r :=
  zEv.lift 1 (fun _ => by with_unfolding_all rfl) hk
set_option maxRecDepth 100000 in
theorem zin_13_L_law_p1 (Ln : Nat) (xs : Nat → Int32) {r : zRs} (hk : zEv 164 4 1 12 [some (.ref 0), none, none, none] [.ref 1, .ref 1] (2, ziC1, (ziL0 Ln), ziF1, ziI1, (ziA0 xs)) r) : zEv 164 3 1 12 [some (.ref 0), none, none, none] [.ref 1] (2, ziC1, (ziL0 Ln), ziF1, ziI1, (ziA0 xs)) r :=
  zEv.lift 1 (fun _ => by with_unfolding_all rfl) hk
set_option maxRecDepth 100000 in
theorem zin_13_L_law_p2 (Ln : Nat) (xs : Nat → Int32) {r : zRs} (hk : zEv 164 7 43 962 [some (.ref 0), none, none, none] [.ref 1] (44, ziC43, (ziL32 Ln), ziF57, ziI32, (ziA31 xs)) r) : zEv 164 4 1 12 [some (.ref 0), none, none, none] [.ref 1, .ref 1] (2, ziC1, (ziL0 Ln), ziF1, ziI1, (ziA0 xs)) r :=
  zEv.call (as := [.ref 1]) (q := (none, (44, ziC43, (ziL32 Ln), ziF57, ziI32, (ziA31 xs)))) rfl (fun _ => rfl) (Nat.le_of_ble_eq_true rfl) (zin_11_X7_init Ln xs) hk
set_option maxRecDepth 100000 in
theorem zin_13_L_law_p3 (Ln : Nat) (xs : Nat → Int32) {r : zRs} (hk : zEv 164 11 44 1002 [some (.ref 0), some (.ref 1), none, none] [.ref 44] (45, ziC44, (ziL32 Ln), ziF58, ziI33, (ziA31 xs)) r) : zEv 164 7 43 962 [some (.ref 0), none, none, none] [.ref 1] (44, ziC43, (ziL32 Ln), ziF57, ziI32, (ziA31 xs)) r :=
  zEv.lift 2 (fun _ => by with_unfolding_all rfl) hk
set_option maxRecDepth 100000 in
theorem zin_13_L_law_p4 (Ln : Nat) (xs : Nat → Int32) {r : zRs} (hk : zEv 164 12 44 1002 [some (.ref 0), some (.ref 1), none, none] [.ref 44, .ref 44] (45, ziC44, (ziL32 Ln), ziF58, ziI33, (ziA31 xs)) r) : zEv 164 11 44 1002 [some (.ref 0), some (.ref 1), none, none] [.ref 44] (45, ziC44, (ziL32 Ln), ziF58, ziI33, (ziA31 xs)) r :=
  zEv.lift 1 (fun _ => by with_unfolding_all rfl) hk
set_option maxRecDepth 100000 in
theorem zin_13_L_law_p5 (Ln : Nat) (xs : Nat → Int32) {r : zRs} (hk : zEv 164 15 68 1604 [some (.ref 0), some (.ref 1), none, none] [.ref 44] (69, ziC68, (ziL56 Ln), ziF82, ziI33, (ziA59 xs)) r) : zEv 164 12 44 1002 [some (.ref 0), some (.ref 1), none, none] [.ref 44, .ref 44] (45, ziC44, (ziL32 Ln), ziF58, ziI33, (ziA31 xs)) r :=
  zEv.call (as := [.ref 44]) (q := (none, (69, ziC68, (ziL56 Ln), ziF82, ziI33, (ziA59 xs)))) rfl (fun _ => rfl) (Nat.le_of_ble_eq_true rfl) (zin_12_X8_init Ln xs) hk
set_option maxRecDepth 100000 in
theorem zin_13_L_law_p6 (Ln : Nat) (xs : Nat → Int32) {r : zRs} (hk : zEv 164 18 68 1604 [some (.ref 0), some (.ref 1), some (.ref 44), some (.int 0)] [] (69, ziC68, (ziL56 Ln), ziF82, ziI33, (ziA59 xs)) r) : zEv 164 15 68 1604 [some (.ref 0), some (.ref 1), none, none] [.ref 44] (69, ziC68, (ziL56 Ln), ziF82, ziI33, (ziA59 xs)) r :=
  zEv.lift 3 (fun _ => by with_unfolding_all rfl) hk
theorem zin_13_L_law (Ln : Nat) (xs : Nat → Int32) {r : zRs} (hk : zEv 164 18 68 1604 [some (.ref 0), some (.ref 1), some (.ref 44), some (.int 0)] [] (69, ziC68, (ziL56 Ln), ziF82, ziI33, (ziA59 xs)) r) : zEv 164 0 0 0 [some (.ref 0), none, none, none] [] (1, ziC0, (ziL0 Ln), ziF0, ziI0, (ziA0 xs)) r := (zin_13_L_law_p0 Ln xs (zin_13_L_law_p1 Ln xs (zin_13_L_law_p2 Ln xs (zin_13_L_law_p3 Ln xs (zin_13_L_law_p4 Ln xs (zin_13_L_law_p5 Ln xs (zin_13_L_law_p6 Ln xs hk)))))))

/-! the law up to its loop, by program (wip/whole/gen_init.py) -/
set_option maxRecDepth 100000 in
theorem zin_12_X8_init_p38 (Ln : Nat) (xs : Nat → Int32) {r : zRs} (hk : zEv 93 161 20 294 [some (.ref 44), none] [.ref 64, .ref 44] (65, ziC64, (ziL52 Ln), ziF77, ziI33, (ziA51 xs)) r) : zEv 93 156 19 288 [some (.ref 44), none] [] (64, ziC63, (ziL51 Ln), ziF77, ziI33, (ziA50 xs)) r :=
  zEv.lift 3 (fun _ => by with_unfolding_all rfl) hk
set_option maxRecDepth 100000 in
theorem zin_12_X8_init_p39 (Ln : Nat) (xs : Nat → Int32) {r : zRs} (hk : zEv 93 164 20 294 [some (.ref 44), none] [] (65, ziC64, (ziL52 Ln), ziF78, ziI33, (ziA51 xs)) r) : zEv 93 161 20 294 [some (.ref 44), none] [.ref 64, .ref 44] (65, ziC64, (ziL52 Ln), ziF77, ziI33, (ziA51 xs)) r :=
  zEv.pfr (c := 7) rfl (by decide +kernel) (by decide) hk
set_option maxRecDepth 100000 in
theorem zin_12_X8_init_p40 (Ln : Nat) (xs : Nat → Int32) {r : zRs} (hk : zEv 93 168 21 298 [some (.ref 44), none] [.ref 65, .ref 44] (66, ziC65, (ziL53 Ln), ziF78, ziI33, (ziA52 xs)) r) : zEv 93 164 20 294 [some (.ref 44), none] [] (65, ziC64, (ziL52 Ln), ziF78, ziI33, (ziA51 xs)) r :=
  zEv.lift 3 (fun _ => by with_unfolding_all rfl) hk
set_option maxRecDepth 100000 in
theorem zin_12_X8_init_p41 (Ln : Nat) (xs : Nat → Int32) {r : zRs} (hk : zEv 93 171 21 298 [some (.ref 44), none] [] (66, ziC65, (ziL53 Ln), ziF79, ziI33, (ziA52 xs)) r) : zEv 93 168 21 298 [some (.ref 44), none] [.ref 65, .ref 44] (66, ziC65, (ziL53 Ln), ziF78, ziI33, (ziA52 xs)) r :=
  zEv.pfr (c := 7) rfl (by decide +kernel) (by decide) hk
set_option maxRecDepth 100000 in
theorem zin_12_X8_init_p42 (Ln : Nat) (xs : Nat → Int32) {r : zRs} (hk : zEv 93 175 22 302 [some (.ref 44), none] [.ref 66, .ref 44] (67, ziC66, (ziL54 Ln), ziF79, ziI33, (ziA53 xs)) r) : zEv 93 171 21 298 [some (.ref 44), none] [] (66, ziC65, (ziL53 Ln), ziF79, ziI33, (ziA52 xs)) r :=
  zEv.lift 3 (fun _ => by with_unfolding_all rfl) hk
set_option maxRecDepth 100000 in
theorem zin_12_X8_init_p43 (Ln : Nat) (xs : Nat → Int32) {r : zRs} (hk : zEv 93 178 22 302 [some (.ref 44), none] [] (67, ziC66, (ziL54 Ln), ziF80, ziI33, (ziA53 xs)) r) : zEv 93 175 22 302 [some (.ref 44), none] [.ref 66, .ref 44] (67, ziC66, (ziL54 Ln), ziF79, ziI33, (ziA53 xs)) r :=
  zEv.pfr (c := 7) rfl (by decide +kernel) (by decide) hk
set_option maxRecDepth 100000 in
theorem zin_12_X8_init_p44 (Ln : Nat) (xs : Nat → Int32) {r : zRs} (hk : zEv 93 184 23 542 [some (.ref 44), none] [.ref 67, .ref 44] (68, ziC67, (ziL55 Ln), ziF80, ziI33, (ziA54 xs)) r) : zEv 93 178 22 302 [some (.ref 44), none] [] (67, ziC66, (ziL54 Ln), ziF80, ziI33, (ziA53 xs)) r :=
  zEv.lift 3 (fun _ => by with_unfolding_all rfl) hk
set_option maxRecDepth 100000 in
theorem zin_12_X8_init_p45 (Ln : Nat) (xs : Nat → Int32) {r : zRs} (hk : zEv 93 187 23 542 [some (.ref 44), none] [] (68, ziC67, (ziL55 Ln), ziF81, ziI33, (ziA54 xs)) r) : zEv 93 184 23 542 [some (.ref 44), none] [.ref 67, .ref 44] (68, ziC67, (ziL55 Ln), ziF80, ziI33, (ziA54 xs)) r :=
  zEv.pfr (c := 7) rfl (by decide +kernel) (by decide) hk
set_option maxRecDepth 100000 in
theorem zin_12_X8_init_p46 (Ln : Nat) (xs : Nat → Int32) {r : zRs} (hk : zEv 93 192 24 602 [some (.ref 44), none] [.ref 68, .ref 44] (69, ziC68, (ziL56 Ln), ziF81, ziI33, (ziA55 xs)) r) : zEv 93 187 23 542 [some (.ref 44), none] [] (68, ziC67, (ziL55 Ln), ziF81, ziI33, (ziA54 xs)) r :=
  zEv.lift 3 (fun _ => by with_unfolding_all rfl) hk
set_option maxRecDepth 100000 in
theorem zin_12_X8_init_p47 (Ln : Nat) (xs : Nat → Int32) {r : zRs} (hk : zEv 93 195 24 602 [some (.ref 44), none] [] (69, ziC68, (ziL56 Ln), ziF82, ziI33, (ziA55 xs)) r) : zEv 93 192 24 602 [some (.ref 44), none] [.ref 68, .ref 44] (69, ziC68, (ziL56 Ln), ziF81, ziI33, (ziA55 xs)) r :=
  zEv.pfr (c := 7) rfl (by decide +kernel) (by decide) hk
set_option maxRecDepth 100000 in
theorem zin_st_first (Ln : Nat) (I A : Nat → Nat → Int32) {r : zRs} (hk : zEv 93 209 24 602 [some (.ref 44), some (.int 0)] [] (zGs Ln I (zw A 65 0 (-1))) r) : zEv 93 195 24 602 [some (.ref 44), none] [] (zGs Ln I A) r :=
  zEv.lift 10 (fun _ => by with_unfolding_all rfl) hk
set_option maxRecDepth 100000 in
theorem zin_st_1 (Ln : Nat) (I A : Nat → Nat → Int32) {r : zRs} (hk : zEv 93 209 24 602 [some (.ref 44), some (.int 1)] [] (zGs Ln I (zw A 65 1 (-1))) r) : zEv 93 209 24 602 [some (.ref 44), some (.int 0)] [] (zGs Ln I A) r :=
  zEv.lift 10 (fun _ => by with_unfolding_all rfl) hk
set_option maxRecDepth 100000 in
theorem zin_st_2 (Ln : Nat) (I A : Nat → Nat → Int32) {r : zRs} (hk : zEv 93 209 24 602 [some (.ref 44), some (.int 2)] [] (zGs Ln I (zw A 65 2 (-1))) r) : zEv 93 209 24 602 [some (.ref 44), some (.int 1)] [] (zGs Ln I A) r :=
  zEv.lift 10 (fun _ => by with_unfolding_all rfl) hk
set_option maxRecDepth 100000 in
theorem zin_st_3 (Ln : Nat) (I A : Nat → Nat → Int32) {r : zRs} (hk : zEv 93 209 24 602 [some (.ref 44), some (.int 3)] [] (zGs Ln I (zw A 65 3 (-1))) r) : zEv 93 209 24 602 [some (.ref 44), some (.int 2)] [] (zGs Ln I A) r :=
  zEv.lift 10 (fun _ => by with_unfolding_all rfl) hk
set_option maxRecDepth 100000 in
theorem zin_st_4 (Ln : Nat) (I A : Nat → Nat → Int32) {r : zRs} (hk : zEv 93 215 24 602 [some (.ref 44), some (.int 4)] [] (zGs Ln I A) r) : zEv 93 209 24 602 [some (.ref 44), some (.int 3)] [] (zGs Ln I A) r :=
  zEv.lift 5 (fun _ => by with_unfolding_all rfl) hk
set_option maxRecDepth 100000 in
theorem zin_12_X8_init_p48 (Ln : Nat) (xs : Nat → Int32) {r : zRs} (hk : zEv 93 209 24 602 [some (.ref 44), some (.int 0)] [] (69, ziC68, (ziL56 Ln), ziF82, ziI33, (ziA56 xs)) r) : zEv 93 195 24 602 [some (.ref 44), none] [] (69, ziC68, (ziL56 Ln), ziF82, ziI33, (ziA55 xs)) r := by
  rw [ziC_eq, ziL_eq, ziF_eq] at hk ⊢
  exact zin_st_first Ln _ _ hk
set_option maxRecDepth 100000 in
theorem zin_12_X8_init_p49 (Ln : Nat) (xs : Nat → Int32) {r : zRs} (hk : zEv 93 209 24 602 [some (.ref 44), some (.int 1)] [] (69, ziC68, (ziL56 Ln), ziF82, ziI33, (ziA57 xs)) r) : zEv 93 209 24 602 [some (.ref 44), some (.int 0)] [] (69, ziC68, (ziL56 Ln), ziF82, ziI33, (ziA56 xs)) r := by
  rw [ziC_eq, ziL_eq, ziF_eq] at hk ⊢
  exact zin_st_1 Ln _ _ hk
set_option maxRecDepth 100000 in
theorem zin_12_X8_init_p50 (Ln : Nat) (xs : Nat → Int32) {r : zRs} (hk : zEv 93 209 24 602 [some (.ref 44), some (.int 2)] [] (69, ziC68, (ziL56 Ln), ziF82, ziI33, (ziA58 xs)) r) : zEv 93 209 24 602 [some (.ref 44), some (.int 1)] [] (69, ziC68, (ziL56 Ln), ziF82, ziI33, (ziA57 xs)) r := by
  rw [ziC_eq, ziL_eq, ziF_eq] at hk ⊢
  exact zin_st_2 Ln _ _ hk
set_option maxRecDepth 100000 in
theorem zin_12_X8_init_p51 (Ln : Nat) (xs : Nat → Int32) {r : zRs} (hk : zEv 93 209 24 602 [some (.ref 44), some (.int 3)] [] (69, ziC68, (ziL56 Ln), ziF82, ziI33, (ziA59 xs)) r) : zEv 93 209 24 602 [some (.ref 44), some (.int 2)] [] (69, ziC68, (ziL56 Ln), ziF82, ziI33, (ziA58 xs)) r := by
  rw [ziC_eq, ziL_eq, ziF_eq] at hk ⊢
  exact zin_st_3 Ln _ _ hk
set_option maxRecDepth 100000 in
theorem zin_12_X8_init_p52 (Ln : Nat) (xs : Nat → Int32) {r : zRs} (hk : zEv 93 215 24 602 [some (.ref 44), some (.int 4)] [] (69, ziC68, (ziL56 Ln), ziF82, ziI33, (ziA59 xs)) r) : zEv 93 209 24 602 [some (.ref 44), some (.int 3)] [] (69, ziC68, (ziL56 Ln), ziF82, ziI33, (ziA59 xs)) r := by
  rw [ziC_eq, ziL_eq, ziF_eq] at hk ⊢
  exact zin_st_4 Ln _ _ hk
set_option maxRecDepth 100000 in
theorem zin_12_X8_init_e (Ln : Nat) (xs : Nat → Int32) : zEv 93 215 24 602 [some (.ref 44), some (.int 4)] [] (69, ziC68, (ziL56 Ln), ziF82, ziI33, (ziA59 xs)) (none, (69, ziC68, (ziL56 Ln), ziF82, ziI33, (ziA59 xs))) := zEv.ret rfl
theorem zin_12_X8_init_g1 (Ln : Nat) (xs : Nat → Int32) {r : zRs} (hk : zEv 93 36 4 24 [some (.ref 44), none] [] (49, ziC48, (ziL36 Ln), ziF62, ziI33, (ziA35 xs)) r) : zEv 93 0 0 0 [some (.ref 44), none] [] (45, ziC44, (ziL32 Ln), ziF58, ziI33, (ziA31 xs)) r := (zin_12_X8_init_p0 Ln xs (zin_12_X8_init_p1 Ln xs (zin_12_X8_init_p2 Ln xs (zin_12_X8_init_p3 Ln xs (zin_12_X8_init_p4 Ln xs (zin_12_X8_init_p5 Ln xs (zin_12_X8_init_p6 Ln xs (zin_12_X8_init_p7 Ln xs hk))))))))
theorem zin_12_X8_init_g2 (Ln : Nat) (xs : Nat → Int32) {r : zRs} (hk : zEv 93 68 8 48 [some (.ref 44), none] [] (53, ziC52, (ziL40 Ln), ziF66, ziI33, (ziA39 xs)) r) : zEv 93 36 4 24 [some (.ref 44), none] [] (49, ziC48, (ziL36 Ln), ziF62, ziI33, (ziA35 xs)) r := (zin_12_X8_init_p8 Ln xs (zin_12_X8_init_p9 Ln xs (zin_12_X8_init_p10 Ln xs (zin_12_X8_init_p11 Ln xs (zin_12_X8_init_p12 Ln xs (zin_12_X8_init_p13 Ln xs (zin_12_X8_init_p14 Ln xs (zin_12_X8_init_p15 Ln xs hk))))))))
theorem zin_12_X8_init_g3 (Ln : Nat) (xs : Nat → Int32) {r : zRs} (hk : zEv 93 100 12 72 [some (.ref 44), none] [] (57, ziC56, (ziL44 Ln), ziF70, ziI33, (ziA43 xs)) r) : zEv 93 68 8 48 [some (.ref 44), none] [] (53, ziC52, (ziL40 Ln), ziF66, ziI33, (ziA39 xs)) r := (zin_12_X8_init_p16 Ln xs (zin_12_X8_init_p17 Ln xs (zin_12_X8_init_p18 Ln xs (zin_12_X8_init_p19 Ln xs (zin_12_X8_init_p20 Ln xs (zin_12_X8_init_p21 Ln xs (zin_12_X8_init_p22 Ln xs (zin_12_X8_init_p23 Ln xs hk))))))))
theorem zin_12_X8_init_g4 (Ln : Nat) (xs : Nat → Int32) {r : zRs} (hk : zEv 93 132 16 212 [some (.ref 44), none] [] (61, ziC60, (ziL48 Ln), ziF74, ziI33, (ziA47 xs)) r) : zEv 93 100 12 72 [some (.ref 44), none] [] (57, ziC56, (ziL44 Ln), ziF70, ziI33, (ziA43 xs)) r := (zin_12_X8_init_p24 Ln xs (zin_12_X8_init_p25 Ln xs (zin_12_X8_init_p26 Ln xs (zin_12_X8_init_p27 Ln xs (zin_12_X8_init_p28 Ln xs (zin_12_X8_init_p29 Ln xs (zin_12_X8_init_p30 Ln xs (zin_12_X8_init_p31 Ln xs hk))))))))

/-! the rows of the law -/
theorem zall_cut {α : Type} {f : α → Bool} (n : Nat) {l : List α} (h1 : (l.take n).all f = true) (h2 : (l.drop n).all f = true) : l.all f = true := by
  rw [← List.take_append_drop n l, List.all_append, h1, h2]
  rfl
set_option maxRecDepth 40000 in
theorem zrl_0 : ((zc_L_law).take 5).all (fun ch => ch.all (zrowok 164 cL_law)) = true := by decide +kernel
set_option maxRecDepth 40000 in
theorem zrl_1 : (((zc_L_law).drop 5).take 5).all (fun ch => ch.all (zrowok 164 cL_law)) = true := by decide +kernel
set_option maxRecDepth 40000 in
theorem zrl_2 : ((((zc_L_law).drop 5).drop 5).take 5).all (fun ch => ch.all (zrowok 164 cL_law)) = true := by decide +kernel
set_option maxRecDepth 40000 in
theorem zrl_3 : (((((zc_L_law).drop 5).drop 5).drop 5).take 5).all (fun ch => ch.all (zrowok 164 cL_law)) = true := by decide +kernel
set_option maxRecDepth 40000 in
theorem zrl_4 : ((((((zc_L_law).drop 5).drop 5).drop 5).drop 5).take 5).all (fun ch => ch.all (zrowok 164 cL_law)) = true := by decide +kernel
set_option maxRecDepth 40000 in
theorem zrl_5 : (((((((zc_L_law).drop 5).drop 5).drop 5).drop 5).drop 5).take 5).all (fun ch => ch.all (zrowok 164 cL_law)) = true := by decide +kernel
set_option maxRecDepth 40000 in
theorem zrl_6 : ((((((((zc_L_law).drop 5).drop 5).drop 5).drop 5).drop 5).drop 5).take 5).all (fun ch => ch.all (zrowok 164 cL_law)) = true := by decide +kernel
set_option maxRecDepth 40000 in
theorem zrl_7 : (((((((((zc_L_law).drop 5).drop 5).drop 5).drop 5).drop 5).drop 5).drop 5).take 5).all (fun ch => ch.all (zrowok 164 cL_law)) = true := by decide +kernel
set_option maxRecDepth 40000 in
theorem zrl_8 : ((((((((((zc_L_law).drop 5).drop 5).drop 5).drop 5).drop 5).drop 5).drop 5).drop 5).take 5).all (fun ch => ch.all (zrowok 164 cL_law)) = true := by decide +kernel
set_option maxRecDepth 40000 in
theorem zrl_9 : (((((((((((zc_L_law).drop 5).drop 5).drop 5).drop 5).drop 5).drop 5).drop 5).drop 5).drop 5).take 5).all (fun ch => ch.all (zrowok 164 cL_law)) = true := by decide +kernel
set_option maxRecDepth 40000 in
theorem zrl_10 : ((((((((((((zc_L_law).drop 5).drop 5).drop 5).drop 5).drop 5).drop 5).drop 5).drop 5).drop 5).drop 5).take 5).all (fun ch => ch.all (zrowok 164 cL_law)) = true := by decide +kernel
set_option maxRecDepth 40000 in
theorem zrl_11 : (((((((((((((zc_L_law).drop 5).drop 5).drop 5).drop 5).drop 5).drop 5).drop 5).drop 5).drop 5).drop 5).drop 5).take 5).all (fun ch => ch.all (zrowok 164 cL_law)) = true := by decide +kernel
set_option maxRecDepth 40000 in
theorem zrl_12 : ((((((((((((((zc_L_law).drop 5).drop 5).drop 5).drop 5).drop 5).drop 5).drop 5).drop 5).drop 5).drop 5).drop 5).drop 5).take 5).all (fun ch => ch.all (zrowok 164 cL_law)) = true := by decide +kernel
set_option maxRecDepth 40000 in
theorem zrl_13 : ((((((((((((((zc_L_law).drop 5).drop 5).drop 5).drop 5).drop 5).drop 5).drop 5).drop 5).drop 5).drop 5).drop 5).drop 5).drop 5).all (fun ch => ch.all (zrowok 164 cL_law)) = true := by decide +kernel
theorem zr_164 : ((zcode.getD 164 []).all fun ch => ch.all (zrowok 164 (zby 164))) = true := (zall_cut 5 zrl_0 (zall_cut 5 zrl_1 (zall_cut 5 zrl_2 (zall_cut 5 zrl_3 (zall_cut 5 zrl_4 (zall_cut 5 zrl_5 (zall_cut 5 zrl_6 (zall_cut 5 zrl_7 (zall_cut 5 zrl_8 (zall_cut 5 zrl_9 (zall_cut 5 zrl_10 (zall_cut 5 zrl_11 (zall_cut 5 zrl_12 zrl_13)))))))))))))

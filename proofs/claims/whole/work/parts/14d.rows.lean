/-! every row of the code is as the bytes have it, and is checked: methods 93 to 109 -/
set_option maxRecDepth 40000 in
theorem zr_93 : ((zcode.getD 93 []).all fun ch => ch.all (zrowok 93 (zby 93))) = true := by decide +kernel
set_option maxRecDepth 40000 in
theorem zr_94 : ((zcode.getD 94 []).all fun ch => ch.all (zrowok 94 (zby 94))) = true := by decide +kernel
set_option maxRecDepth 40000 in
theorem zr_95 : ((zcode.getD 95 []).all fun ch => ch.all (zrowok 95 (zby 95))) = true := by decide +kernel
set_option maxRecDepth 40000 in
theorem zr_96 : ((zcode.getD 96 []).all fun ch => ch.all (zrowok 96 (zby 96))) = true := by decide +kernel
set_option maxRecDepth 40000 in
theorem zr_97 : ((zcode.getD 97 []).all fun ch => ch.all (zrowok 97 (zby 97))) = true := by decide +kernel
set_option maxRecDepth 40000 in
theorem zr_98 : ((zcode.getD 98 []).all fun ch => ch.all (zrowok 98 (zby 98))) = true := by decide +kernel
set_option maxRecDepth 40000 in
theorem zr_99 : ((zcode.getD 99 []).all fun ch => ch.all (zrowok 99 (zby 99))) = true := by decide +kernel
set_option maxRecDepth 40000 in
theorem zr_100 : ((zcode.getD 100 []).all fun ch => ch.all (zrowok 100 (zby 100))) = true := by decide +kernel
set_option maxRecDepth 40000 in
theorem zr_101 : ((zcode.getD 101 []).all fun ch => ch.all (zrowok 101 (zby 101))) = true := by decide +kernel
set_option maxRecDepth 40000 in
theorem zr_102 : ((zcode.getD 102 []).all fun ch => ch.all (zrowok 102 (zby 102))) = true := by decide +kernel
set_option maxRecDepth 40000 in
theorem zr_103 : ((zcode.getD 103 []).all fun ch => ch.all (zrowok 103 (zby 103))) = true := by decide +kernel
set_option maxRecDepth 40000 in
theorem zr_104 : ((zcode.getD 104 []).all fun ch => ch.all (zrowok 104 (zby 104))) = true := by decide +kernel
set_option maxRecDepth 40000 in
theorem zr_105 : ((zcode.getD 105 []).all fun ch => ch.all (zrowok 105 (zby 105))) = true := by decide +kernel
set_option maxRecDepth 40000 in
theorem zr_106 : ((zcode.getD 106 []).all fun ch => ch.all (zrowok 106 (zby 106))) = true := by decide +kernel
set_option maxRecDepth 40000 in
theorem zr_107 : ((zcode.getD 107 []).all fun ch => ch.all (zrowok 107 (zby 107))) = true := by decide +kernel
set_option maxRecDepth 40000 in
theorem zr_108 : ((zcode.getD 108 []).all fun ch => ch.all (zrowok 108 (zby 108))) = true := by decide +kernel
set_option maxRecDepth 40000 in
theorem zr_109 : ((zcode.getD 109 []).all fun ch => ch.all (zrowok 109 (zby 109))) = true := by decide +kernel

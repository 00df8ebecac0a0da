/-! every row of the code is as the bytes have it, and is checked: methods 110 to 134 -/
set_option maxRecDepth 40000 in
theorem zr_110 : ((zcode.getD 110 []).all fun ch => ch.all (zrowok 110 (zby 110))) = true := by decide +kernel
set_option maxRecDepth 40000 in
theorem zr_111 : ((zcode.getD 111 []).all fun ch => ch.all (zrowok 111 (zby 111))) = true := by decide +kernel
set_option maxRecDepth 40000 in
theorem zr_112 : ((zcode.getD 112 []).all fun ch => ch.all (zrowok 112 (zby 112))) = true := by decide +kernel
set_option maxRecDepth 40000 in
theorem zr_113 : ((zcode.getD 113 []).all fun ch => ch.all (zrowok 113 (zby 113))) = true := by decide +kernel
set_option maxRecDepth 40000 in
theorem zr_114 : ((zcode.getD 114 []).all fun ch => ch.all (zrowok 114 (zby 114))) = true := by decide +kernel
set_option maxRecDepth 40000 in
theorem zr_115 : ((zcode.getD 115 []).all fun ch => ch.all (zrowok 115 (zby 115))) = true := by decide +kernel
set_option maxRecDepth 40000 in
theorem zr_116 : ((zcode.getD 116 []).all fun ch => ch.all (zrowok 116 (zby 116))) = true := by decide +kernel
set_option maxRecDepth 40000 in
theorem zr_117 : ((zcode.getD 117 []).all fun ch => ch.all (zrowok 117 (zby 117))) = true := by decide +kernel
set_option maxRecDepth 40000 in
theorem zr_118 : ((zcode.getD 118 []).all fun ch => ch.all (zrowok 118 (zby 118))) = true := by decide +kernel
set_option maxRecDepth 40000 in
theorem zr_119 : ((zcode.getD 119 []).all fun ch => ch.all (zrowok 119 (zby 119))) = true := by decide +kernel
set_option maxRecDepth 40000 in
theorem zr_120 : ((zcode.getD 120 []).all fun ch => ch.all (zrowok 120 (zby 120))) = true := by decide +kernel
set_option maxRecDepth 40000 in
theorem zr_121 : ((zcode.getD 121 []).all fun ch => ch.all (zrowok 121 (zby 121))) = true := by decide +kernel
set_option maxRecDepth 40000 in
theorem zr_122 : ((zcode.getD 122 []).all fun ch => ch.all (zrowok 122 (zby 122))) = true := by decide +kernel
set_option maxRecDepth 40000 in
theorem zr_123 : ((zcode.getD 123 []).all fun ch => ch.all (zrowok 123 (zby 123))) = true := by decide +kernel
set_option maxRecDepth 40000 in
theorem zr_124 : ((zcode.getD 124 []).all fun ch => ch.all (zrowok 124 (zby 124))) = true := by decide +kernel
set_option maxRecDepth 40000 in
theorem zr_125 : ((zcode.getD 125 []).all fun ch => ch.all (zrowok 125 (zby 125))) = true := by decide +kernel
set_option maxRecDepth 40000 in
theorem zr_126 : ((zcode.getD 126 []).all fun ch => ch.all (zrowok 126 (zby 126))) = true := by decide +kernel
set_option maxRecDepth 40000 in
theorem zr_127 : ((zcode.getD 127 []).all fun ch => ch.all (zrowok 127 (zby 127))) = true := by decide +kernel
set_option maxRecDepth 40000 in
theorem zr_128 : ((zcode.getD 128 []).all fun ch => ch.all (zrowok 128 (zby 128))) = true := by decide +kernel
set_option maxRecDepth 40000 in
theorem zr_129 : ((zcode.getD 129 []).all fun ch => ch.all (zrowok 129 (zby 129))) = true := by decide +kernel
set_option maxRecDepth 40000 in
theorem zr_130 : ((zcode.getD 130 []).all fun ch => ch.all (zrowok 130 (zby 130))) = true := by decide +kernel
set_option maxRecDepth 40000 in
theorem zr_131 : ((zcode.getD 131 []).all fun ch => ch.all (zrowok 131 (zby 131))) = true := by decide +kernel
set_option maxRecDepth 40000 in
theorem zr_132 : ((zcode.getD 132 []).all fun ch => ch.all (zrowok 132 (zby 132))) = true := by decide +kernel
set_option maxRecDepth 40000 in
theorem zr_133 : ((zcode.getD 133 []).all fun ch => ch.all (zrowok 133 (zby 133))) = true := by decide +kernel
set_option maxRecDepth 40000 in
theorem zr_134 : ((zcode.getD 134 []).all fun ch => ch.all (zrowok 134 (zby 134))) = true := by decide +kernel

/-! every row of the code is as the bytes have it, and is checked -/
set_option maxRecDepth 40000 in
theorem zr_0 : ((zcode.getD 0 []).all fun ch => ch.all (zrowok 0 (zby 0))) = true := by decide +kernel
set_option maxRecDepth 40000 in
theorem zr_1 : ((zcode.getD 1 []).all fun ch => ch.all (zrowok 1 (zby 1))) = true := by decide +kernel
set_option maxRecDepth 40000 in
theorem zr_2 : ((zcode.getD 2 []).all fun ch => ch.all (zrowok 2 (zby 2))) = true := by decide +kernel
set_option maxRecDepth 40000 in
theorem zr_3 : ((zcode.getD 3 []).all fun ch => ch.all (zrowok 3 (zby 3))) = true := by decide +kernel
set_option maxRecDepth 40000 in
theorem zr_4 : ((zcode.getD 4 []).all fun ch => ch.all (zrowok 4 (zby 4))) = true := by decide +kernel
set_option maxRecDepth 40000 in
theorem zr_5 : ((zcode.getD 5 []).all fun ch => ch.all (zrowok 5 (zby 5))) = true := by decide +kernel
set_option maxRecDepth 40000 in
theorem zr_6 : ((zcode.getD 6 []).all fun ch => ch.all (zrowok 6 (zby 6))) = true := by decide +kernel
set_option maxRecDepth 40000 in
theorem zr_7 : ((zcode.getD 7 []).all fun ch => ch.all (zrowok 7 (zby 7))) = true := by decide +kernel
set_option maxRecDepth 40000 in
theorem zr_8 : ((zcode.getD 8 []).all fun ch => ch.all (zrowok 8 (zby 8))) = true := by decide +kernel
set_option maxRecDepth 40000 in
theorem zr_9 : ((zcode.getD 9 []).all fun ch => ch.all (zrowok 9 (zby 9))) = true := by decide +kernel
set_option maxRecDepth 40000 in
theorem zr_10 : ((zcode.getD 10 []).all fun ch => ch.all (zrowok 10 (zby 10))) = true := by decide +kernel
set_option maxRecDepth 40000 in
theorem zr_11 : ((zcode.getD 11 []).all fun ch => ch.all (zrowok 11 (zby 11))) = true := by decide +kernel
set_option maxRecDepth 40000 in
theorem zr_12 : ((zcode.getD 12 []).all fun ch => ch.all (zrowok 12 (zby 12))) = true := by decide +kernel
set_option maxRecDepth 40000 in
theorem zr_13 : ((zcode.getD 13 []).all fun ch => ch.all (zrowok 13 (zby 13))) = true := by decide +kernel
set_option maxRecDepth 40000 in
theorem zr_14 : ((zcode.getD 14 []).all fun ch => ch.all (zrowok 14 (zby 14))) = true := by decide +kernel
set_option maxRecDepth 40000 in
theorem zr_15 : ((zcode.getD 15 []).all fun ch => ch.all (zrowok 15 (zby 15))) = true := by decide +kernel
set_option maxRecDepth 40000 in
theorem zr_16 : ((zcode.getD 16 []).all fun ch => ch.all (zrowok 16 (zby 16))) = true := by decide +kernel
set_option maxRecDepth 40000 in
theorem zr_17 : ((zcode.getD 17 []).all fun ch => ch.all (zrowok 17 (zby 17))) = true := by decide +kernel
set_option maxRecDepth 40000 in
theorem zr_18 : ((zcode.getD 18 []).all fun ch => ch.all (zrowok 18 (zby 18))) = true := by decide +kernel
set_option maxRecDepth 40000 in
theorem zr_19 : ((zcode.getD 19 []).all fun ch => ch.all (zrowok 19 (zby 19))) = true := by decide +kernel
set_option maxRecDepth 40000 in
theorem zr_20 : ((zcode.getD 20 []).all fun ch => ch.all (zrowok 20 (zby 20))) = true := by decide +kernel
set_option maxRecDepth 40000 in
theorem zr_21 : ((zcode.getD 21 []).all fun ch => ch.all (zrowok 21 (zby 21))) = true := by decide +kernel
set_option maxRecDepth 40000 in
theorem zr_22 : ((zcode.getD 22 []).all fun ch => ch.all (zrowok 22 (zby 22))) = true := by decide +kernel
set_option maxRecDepth 40000 in
theorem zr_23 : ((zcode.getD 23 []).all fun ch => ch.all (zrowok 23 (zby 23))) = true := by decide +kernel
set_option maxRecDepth 40000 in
theorem zr_24 : ((zcode.getD 24 []).all fun ch => ch.all (zrowok 24 (zby 24))) = true := by decide +kernel
set_option maxRecDepth 40000 in
theorem zr_25 : ((zcode.getD 25 []).all fun ch => ch.all (zrowok 25 (zby 25))) = true := by decide +kernel
set_option maxRecDepth 40000 in
theorem zr_26 : ((zcode.getD 26 []).all fun ch => ch.all (zrowok 26 (zby 26))) = true := by decide +kernel
set_option maxRecDepth 40000 in
theorem zr_27 : ((zcode.getD 27 []).all fun ch => ch.all (zrowok 27 (zby 27))) = true := by decide +kernel
set_option maxRecDepth 40000 in
theorem zr_28 : ((zcode.getD 28 []).all fun ch => ch.all (zrowok 28 (zby 28))) = true := by decide +kernel
set_option maxRecDepth 40000 in
theorem zr_29 : ((zcode.getD 29 []).all fun ch => ch.all (zrowok 29 (zby 29))) = true := by decide +kernel
set_option maxRecDepth 40000 in
theorem zr_30 : ((zcode.getD 30 []).all fun ch => ch.all (zrowok 30 (zby 30))) = true := by decide +kernel
set_option maxRecDepth 40000 in
theorem zr_31 : ((zcode.getD 31 []).all fun ch => ch.all (zrowok 31 (zby 31))) = true := by decide +kernel
set_option maxRecDepth 40000 in
theorem zr_32 : ((zcode.getD 32 []).all fun ch => ch.all (zrowok 32 (zby 32))) = true := by decide +kernel
set_option maxRecDepth 40000 in
theorem zr_33 : ((zcode.getD 33 []).all fun ch => ch.all (zrowok 33 (zby 33))) = true := by decide +kernel
set_option maxRecDepth 40000 in
theorem zr_34 : ((zcode.getD 34 []).all fun ch => ch.all (zrowok 34 (zby 34))) = true := by decide +kernel
set_option maxRecDepth 40000 in
theorem zr_35 : ((zcode.getD 35 []).all fun ch => ch.all (zrowok 35 (zby 35))) = true := by decide +kernel
set_option maxRecDepth 40000 in
theorem zr_36 : ((zcode.getD 36 []).all fun ch => ch.all (zrowok 36 (zby 36))) = true := by decide +kernel
set_option maxRecDepth 40000 in
theorem zr_37 : ((zcode.getD 37 []).all fun ch => ch.all (zrowok 37 (zby 37))) = true := by decide +kernel
set_option maxRecDepth 40000 in
theorem zr_38 : ((zcode.getD 38 []).all fun ch => ch.all (zrowok 38 (zby 38))) = true := by decide +kernel
set_option maxRecDepth 40000 in
theorem zr_39 : ((zcode.getD 39 []).all fun ch => ch.all (zrowok 39 (zby 39))) = true := by decide +kernel
set_option maxRecDepth 40000 in
theorem zr_40 : ((zcode.getD 40 []).all fun ch => ch.all (zrowok 40 (zby 40))) = true := by decide +kernel
set_option maxRecDepth 40000 in
theorem zr_41 : ((zcode.getD 41 []).all fun ch => ch.all (zrowok 41 (zby 41))) = true := by decide +kernel
set_option maxRecDepth 40000 in
theorem zr_42 : ((zcode.getD 42 []).all fun ch => ch.all (zrowok 42 (zby 42))) = true := by decide +kernel
set_option maxRecDepth 40000 in
theorem zr_43 : ((zcode.getD 43 []).all fun ch => ch.all (zrowok 43 (zby 43))) = true := by decide +kernel
set_option maxRecDepth 40000 in
theorem zr_44 : ((zcode.getD 44 []).all fun ch => ch.all (zrowok 44 (zby 44))) = true := by decide +kernel
set_option maxRecDepth 40000 in
theorem zr_45 : ((zcode.getD 45 []).all fun ch => ch.all (zrowok 45 (zby 45))) = true := by decide +kernel
set_option maxRecDepth 40000 in
theorem zr_46 : ((zcode.getD 46 []).all fun ch => ch.all (zrowok 46 (zby 46))) = true := by decide +kernel
set_option maxRecDepth 40000 in
theorem zr_47 : ((zcode.getD 47 []).all fun ch => ch.all (zrowok 47 (zby 47))) = true := by decide +kernel
set_option maxRecDepth 40000 in
theorem zr_48 : ((zcode.getD 48 []).all fun ch => ch.all (zrowok 48 (zby 48))) = true := by decide +kernel
set_option maxRecDepth 40000 in
theorem zr_49 : ((zcode.getD 49 []).all fun ch => ch.all (zrowok 49 (zby 49))) = true := by decide +kernel
set_option maxRecDepth 40000 in
theorem zr_50 : ((zcode.getD 50 []).all fun ch => ch.all (zrowok 50 (zby 50))) = true := by decide +kernel
set_option maxRecDepth 40000 in
theorem zr_51 : ((zcode.getD 51 []).all fun ch => ch.all (zrowok 51 (zby 51))) = true := by decide +kernel
set_option maxRecDepth 40000 in
theorem zr_52 : ((zcode.getD 52 []).all fun ch => ch.all (zrowok 52 (zby 52))) = true := by decide +kernel
set_option maxRecDepth 40000 in
theorem zr_53 : ((zcode.getD 53 []).all fun ch => ch.all (zrowok 53 (zby 53))) = true := by decide +kernel
set_option maxRecDepth 40000 in
theorem zr_54 : ((zcode.getD 54 []).all fun ch => ch.all (zrowok 54 (zby 54))) = true := by decide +kernel
set_option maxRecDepth 40000 in
theorem zr_55 : ((zcode.getD 55 []).all fun ch => ch.all (zrowok 55 (zby 55))) = true := by decide +kernel
set_option maxRecDepth 40000 in
theorem zr_56 : ((zcode.getD 56 []).all fun ch => ch.all (zrowok 56 (zby 56))) = true := by decide +kernel
set_option maxRecDepth 40000 in
theorem zr_57 : ((zcode.getD 57 []).all fun ch => ch.all (zrowok 57 (zby 57))) = true := by decide +kernel
set_option maxRecDepth 40000 in
theorem zr_58 : ((zcode.getD 58 []).all fun ch => ch.all (zrowok 58 (zby 58))) = true := by decide +kernel
set_option maxRecDepth 40000 in
theorem zr_59 : ((zcode.getD 59 []).all fun ch => ch.all (zrowok 59 (zby 59))) = true := by decide +kernel
set_option maxRecDepth 40000 in
theorem zr_60 : ((zcode.getD 60 []).all fun ch => ch.all (zrowok 60 (zby 60))) = true := by decide +kernel
set_option maxRecDepth 40000 in
theorem zr_61 : ((zcode.getD 61 []).all fun ch => ch.all (zrowok 61 (zby 61))) = true := by decide +kernel
set_option maxRecDepth 40000 in
theorem zr_62 : ((zcode.getD 62 []).all fun ch => ch.all (zrowok 62 (zby 62))) = true := by decide +kernel
set_option maxRecDepth 40000 in
theorem zr_63 : ((zcode.getD 63 []).all fun ch => ch.all (zrowok 63 (zby 63))) = true := by decide +kernel
set_option maxRecDepth 40000 in
theorem zr_64 : ((zcode.getD 64 []).all fun ch => ch.all (zrowok 64 (zby 64))) = true := by decide +kernel
set_option maxRecDepth 40000 in
theorem zr_65 : ((zcode.getD 65 []).all fun ch => ch.all (zrowok 65 (zby 65))) = true := by decide +kernel
set_option maxRecDepth 40000 in
theorem zr_66 : ((zcode.getD 66 []).all fun ch => ch.all (zrowok 66 (zby 66))) = true := by decide +kernel
set_option maxRecDepth 40000 in
theorem zr_67 : ((zcode.getD 67 []).all fun ch => ch.all (zrowok 67 (zby 67))) = true := by decide +kernel
set_option maxRecDepth 40000 in
theorem zr_68 : ((zcode.getD 68 []).all fun ch => ch.all (zrowok 68 (zby 68))) = true := by decide +kernel
set_option maxRecDepth 40000 in
theorem zr_69 : ((zcode.getD 69 []).all fun ch => ch.all (zrowok 69 (zby 69))) = true := by decide +kernel
set_option maxRecDepth 40000 in
theorem zr_70 : ((zcode.getD 70 []).all fun ch => ch.all (zrowok 70 (zby 70))) = true := by decide +kernel
set_option maxRecDepth 40000 in
theorem zr_71 : ((zcode.getD 71 []).all fun ch => ch.all (zrowok 71 (zby 71))) = true := by decide +kernel
set_option maxRecDepth 40000 in
theorem zr_72 : ((zcode.getD 72 []).all fun ch => ch.all (zrowok 72 (zby 72))) = true := by decide +kernel
set_option maxRecDepth 40000 in
theorem zr_73 : ((zcode.getD 73 []).all fun ch => ch.all (zrowok 73 (zby 73))) = true := by decide +kernel
set_option maxRecDepth 40000 in
theorem zr_74 : ((zcode.getD 74 []).all fun ch => ch.all (zrowok 74 (zby 74))) = true := by decide +kernel
set_option maxRecDepth 40000 in
theorem zr_75 : ((zcode.getD 75 []).all fun ch => ch.all (zrowok 75 (zby 75))) = true := by decide +kernel
set_option maxRecDepth 40000 in
theorem zr_76 : ((zcode.getD 76 []).all fun ch => ch.all (zrowok 76 (zby 76))) = true := by decide +kernel
set_option maxRecDepth 40000 in
theorem zr_77 : ((zcode.getD 77 []).all fun ch => ch.all (zrowok 77 (zby 77))) = true := by decide +kernel
set_option maxRecDepth 40000 in
theorem zr_78 : ((zcode.getD 78 []).all fun ch => ch.all (zrowok 78 (zby 78))) = true := by decide +kernel
set_option maxRecDepth 40000 in
theorem zr_79 : ((zcode.getD 79 []).all fun ch => ch.all (zrowok 79 (zby 79))) = true := by decide +kernel
set_option maxRecDepth 40000 in
theorem zr_80 : ((zcode.getD 80 []).all fun ch => ch.all (zrowok 80 (zby 80))) = true := by decide +kernel
set_option maxRecDepth 40000 in
theorem zr_81 : ((zcode.getD 81 []).all fun ch => ch.all (zrowok 81 (zby 81))) = true := by decide +kernel
set_option maxRecDepth 40000 in
theorem zr_82 : ((zcode.getD 82 []).all fun ch => ch.all (zrowok 82 (zby 82))) = true := by decide +kernel
set_option maxRecDepth 40000 in
theorem zr_83 : ((zcode.getD 83 []).all fun ch => ch.all (zrowok 83 (zby 83))) = true := by decide +kernel
set_option maxRecDepth 40000 in
theorem zr_84 : ((zcode.getD 84 []).all fun ch => ch.all (zrowok 84 (zby 84))) = true := by decide +kernel
set_option maxRecDepth 40000 in
theorem zr_85 : ((zcode.getD 85 []).all fun ch => ch.all (zrowok 85 (zby 85))) = true := by decide +kernel
set_option maxRecDepth 40000 in
theorem zr_86 : ((zcode.getD 86 []).all fun ch => ch.all (zrowok 86 (zby 86))) = true := by decide +kernel
set_option maxRecDepth 40000 in
theorem zr_87 : ((zcode.getD 87 []).all fun ch => ch.all (zrowok 87 (zby 87))) = true := by decide +kernel
set_option maxRecDepth 40000 in
theorem zr_88 : ((zcode.getD 88 []).all fun ch => ch.all (zrowok 88 (zby 88))) = true := by decide +kernel
set_option maxRecDepth 40000 in
theorem zr_89 : ((zcode.getD 89 []).all fun ch => ch.all (zrowok 89 (zby 89))) = true := by decide +kernel
set_option maxRecDepth 40000 in
theorem zr_90 : ((zcode.getD 90 []).all fun ch => ch.all (zrowok 90 (zby 90))) = true := by decide +kernel
set_option maxRecDepth 40000 in
theorem zr_91 : ((zcode.getD 91 []).all fun ch => ch.all (zrowok 91 (zby 91))) = true := by decide +kernel
set_option maxRecDepth 40000 in
theorem zr_92 : ((zcode.getD 92 []).all fun ch => ch.all (zrowok 92 (zby 92))) = true := by decide +kernel
set_option maxRecDepth 40000 in
theorem zr_93 : ((zcode.getD 93 []).all fun ch => ch.all (zrowok 93 (zby 93))) = true := by decide +kernel
set_option maxRecDepth 40000 in
theorem zr_94 : ((zcode.getD 94 []).all fun ch => ch.all (zrowok 94 (zby 94))) = true := by decide +kernel
set_option maxRecDepth 40000 in
theorem zr_95 : ((zcode.getD 95 []).all fun ch => ch.all (zrowok 95 (zby 95))) = true := by decide +kernel
set_option maxRecDepth 40000 in
theorem zr_96 : ((zcode.getD 96 []).all fun ch => ch.all (zrowok 96 (zby 96))) = true := by decide +kernel
set_option maxRecDepth 40000 in
theorem zr_97 : ((zcode.getD 97 []).all fun ch => ch.all (zrowok 97 (zby 97))) = true := by decide +kernel
set_option maxRecDepth 40000 in
theorem zr_98 : ((zcode.getD 98 []).all fun ch => ch.all (zrowok 98 (zby 98))) = true := by decide +kernel
set_option maxRecDepth 40000 in
theorem zr_99 : ((zcode.getD 99 []).all fun ch => ch.all (zrowok 99 (zby 99))) = true := by decide +kernel
set_option maxRecDepth 40000 in
theorem zr_100 : ((zcode.getD 100 []).all fun ch => ch.all (zrowok 100 (zby 100))) = true := by decide +kernel
set_option maxRecDepth 40000 in
theorem zr_101 : ((zcode.getD 101 []).all fun ch => ch.all (zrowok 101 (zby 101))) = true := by decide +kernel
set_option maxRecDepth 40000 in
theorem zr_102 : ((zcode.getD 102 []).all fun ch => ch.all (zrowok 102 (zby 102))) = true := by decide +kernel
set_option maxRecDepth 40000 in
theorem zr_103 : ((zcode.getD 103 []).all fun ch => ch.all (zrowok 103 (zby 103))) = true := by decide +kernel
set_option maxRecDepth 40000 in
theorem zr_104 : ((zcode.getD 104 []).all fun ch => ch.all (zrowok 104 (zby 104))) = true := by decide +kernel
set_option maxRecDepth 40000 in
theorem zr_105 : ((zcode.getD 105 []).all fun ch => ch.all (zrowok 105 (zby 105))) = true := by decide +kernel
set_option maxRecDepth 40000 in
theorem zr_106 : ((zcode.getD 106 []).all fun ch => ch.all (zrowok 106 (zby 106))) = true := by decide +kernel
set_option maxRecDepth 40000 in
theorem zr_107 : ((zcode.getD 107 []).all fun ch => ch.all (zrowok 107 (zby 107))) = true := by decide +kernel
set_option maxRecDepth 40000 in
theorem zr_108 : ((zcode.getD 108 []).all fun ch => ch.all (zrowok 108 (zby 108))) = true := by decide +kernel
set_option maxRecDepth 40000 in
theorem zr_109 : ((zcode.getD 109 []).all fun ch => ch.all (zrowok 109 (zby 109))) = true := by decide +kernel
set_option maxRecDepth 40000 in
theorem zr_110 : ((zcode.getD 110 []).all fun ch => ch.all (zrowok 110 (zby 110))) = true := by decide +kernel
set_option maxRecDepth 40000 in
theorem zr_111 : ((zcode.getD 111 []).all fun ch => ch.all (zrowok 111 (zby 111))) = true := by decide +kernel
set_option maxRecDepth 40000 in
theorem zr_112 : ((zcode.getD 112 []).all fun ch => ch.all (zrowok 112 (zby 112))) = true := by decide +kernel
set_option maxRecDepth 40000 in
theorem zr_113 : ((zcode.getD 113 []).all fun ch => ch.all (zrowok 113 (zby 113))) = true := by decide +kernel
set_option maxRecDepth 40000 in
theorem zr_114 : ((zcode.getD 114 []).all fun ch => ch.all (zrowok 114 (zby 114))) = true := by decide +kernel
set_option maxRecDepth 40000 in
theorem zr_115 : ((zcode.getD 115 []).all fun ch => ch.all (zrowok 115 (zby 115))) = true := by decide +kernel
set_option maxRecDepth 40000 in
theorem zr_116 : ((zcode.getD 116 []).all fun ch => ch.all (zrowok 116 (zby 116))) = true := by decide +kernel
set_option maxRecDepth 40000 in
theorem zr_117 : ((zcode.getD 117 []).all fun ch => ch.all (zrowok 117 (zby 117))) = true := by decide +kernel
set_option maxRecDepth 40000 in
theorem zr_118 : ((zcode.getD 118 []).all fun ch => ch.all (zrowok 118 (zby 118))) = true := by decide +kernel
set_option maxRecDepth 40000 in
theorem zr_119 : ((zcode.getD 119 []).all fun ch => ch.all (zrowok 119 (zby 119))) = true := by decide +kernel
set_option maxRecDepth 40000 in
theorem zr_120 : ((zcode.getD 120 []).all fun ch => ch.all (zrowok 120 (zby 120))) = true := by decide +kernel
set_option maxRecDepth 40000 in
theorem zr_121 : ((zcode.getD 121 []).all fun ch => ch.all (zrowok 121 (zby 121))) = true := by decide +kernel
set_option maxRecDepth 40000 in
theorem zr_122 : ((zcode.getD 122 []).all fun ch => ch.all (zrowok 122 (zby 122))) = true := by decide +kernel
set_option maxRecDepth 40000 in
theorem zr_123 : ((zcode.getD 123 []).all fun ch => ch.all (zrowok 123 (zby 123))) = true := by decide +kernel
set_option maxRecDepth 40000 in
theorem zr_124 : ((zcode.getD 124 []).all fun ch => ch.all (zrowok 124 (zby 124))) = true := by decide +kernel
set_option maxRecDepth 40000 in
theorem zr_125 : ((zcode.getD 125 []).all fun ch => ch.all (zrowok 125 (zby 125))) = true := by decide +kernel
set_option maxRecDepth 40000 in
theorem zr_126 : ((zcode.getD 126 []).all fun ch => ch.all (zrowok 126 (zby 126))) = true := by decide +kernel
set_option maxRecDepth 40000 in
theorem zr_127 : ((zcode.getD 127 []).all fun ch => ch.all (zrowok 127 (zby 127))) = true := by decide +kernel
set_option maxRecDepth 40000 in
theorem zr_128 : ((zcode.getD 128 []).all fun ch => ch.all (zrowok 128 (zby 128))) = true := by decide +kernel
set_option maxRecDepth 40000 in
theorem zr_129 : ((zcode.getD 129 []).all fun ch => ch.all (zrowok 129 (zby 129))) = true := by decide +kernel
set_option maxRecDepth 40000 in
theorem zr_130 : ((zcode.getD 130 []).all fun ch => ch.all (zrowok 130 (zby 130))) = true := by decide +kernel
set_option maxRecDepth 40000 in
theorem zr_131 : ((zcode.getD 131 []).all fun ch => ch.all (zrowok 131 (zby 131))) = true := by decide +kernel
set_option maxRecDepth 40000 in
theorem zr_132 : ((zcode.getD 132 []).all fun ch => ch.all (zrowok 132 (zby 132))) = true := by decide +kernel
set_option maxRecDepth 40000 in
theorem zr_133 : ((zcode.getD 133 []).all fun ch => ch.all (zrowok 133 (zby 133))) = true := by decide +kernel
set_option maxRecDepth 40000 in
theorem zr_134 : ((zcode.getD 134 []).all fun ch => ch.all (zrowok 134 (zby 134))) = true := by decide +kernel
set_option maxRecDepth 40000 in
theorem zr_135 : ((zcode.getD 135 []).all fun ch => ch.all (zrowok 135 (zby 135))) = true := by decide +kernel
set_option maxRecDepth 40000 in
theorem zr_136 : ((zcode.getD 136 []).all fun ch => ch.all (zrowok 136 (zby 136))) = true := by decide +kernel
set_option maxRecDepth 40000 in
theorem zr_137 : ((zcode.getD 137 []).all fun ch => ch.all (zrowok 137 (zby 137))) = true := by decide +kernel
set_option maxRecDepth 40000 in
theorem zr_138 : ((zcode.getD 138 []).all fun ch => ch.all (zrowok 138 (zby 138))) = true := by decide +kernel
set_option maxRecDepth 40000 in
theorem zr_139 : ((zcode.getD 139 []).all fun ch => ch.all (zrowok 139 (zby 139))) = true := by decide +kernel
set_option maxRecDepth 40000 in
theorem zr_140 : ((zcode.getD 140 []).all fun ch => ch.all (zrowok 140 (zby 140))) = true := by decide +kernel
set_option maxRecDepth 40000 in
theorem zr_141 : ((zcode.getD 141 []).all fun ch => ch.all (zrowok 141 (zby 141))) = true := by decide +kernel
set_option maxRecDepth 40000 in
theorem zr_142 : ((zcode.getD 142 []).all fun ch => ch.all (zrowok 142 (zby 142))) = true := by decide +kernel
set_option maxRecDepth 40000 in
theorem zr_143 : ((zcode.getD 143 []).all fun ch => ch.all (zrowok 143 (zby 143))) = true := by decide +kernel
set_option maxRecDepth 40000 in
theorem zr_144 : ((zcode.getD 144 []).all fun ch => ch.all (zrowok 144 (zby 144))) = true := by decide +kernel
set_option maxRecDepth 40000 in
theorem zr_145 : ((zcode.getD 145 []).all fun ch => ch.all (zrowok 145 (zby 145))) = true := by decide +kernel
set_option maxRecDepth 40000 in
theorem zr_146 : ((zcode.getD 146 []).all fun ch => ch.all (zrowok 146 (zby 146))) = true := by decide +kernel
set_option maxRecDepth 40000 in
theorem zr_147 : ((zcode.getD 147 []).all fun ch => ch.all (zrowok 147 (zby 147))) = true := by decide +kernel
set_option maxRecDepth 40000 in
theorem zr_148 : ((zcode.getD 148 []).all fun ch => ch.all (zrowok 148 (zby 148))) = true := by decide +kernel
set_option maxRecDepth 40000 in
theorem zr_149 : ((zcode.getD 149 []).all fun ch => ch.all (zrowok 149 (zby 149))) = true := by decide +kernel
set_option maxRecDepth 40000 in
theorem zr_150 : ((zcode.getD 150 []).all fun ch => ch.all (zrowok 150 (zby 150))) = true := by decide +kernel
set_option maxRecDepth 40000 in
theorem zr_151 : ((zcode.getD 151 []).all fun ch => ch.all (zrowok 151 (zby 151))) = true := by decide +kernel
set_option maxRecDepth 40000 in
theorem zr_152 : ((zcode.getD 152 []).all fun ch => ch.all (zrowok 152 (zby 152))) = true := by decide +kernel
set_option maxRecDepth 40000 in
theorem zr_153 : ((zcode.getD 153 []).all fun ch => ch.all (zrowok 153 (zby 153))) = true := by decide +kernel
set_option maxRecDepth 40000 in
theorem zr_154 : ((zcode.getD 154 []).all fun ch => ch.all (zrowok 154 (zby 154))) = true := by decide +kernel
set_option maxRecDepth 40000 in
theorem zr_155 : ((zcode.getD 155 []).all fun ch => ch.all (zrowok 155 (zby 155))) = true := by decide +kernel
set_option maxRecDepth 40000 in
theorem zr_156 : ((zcode.getD 156 []).all fun ch => ch.all (zrowok 156 (zby 156))) = true := by decide +kernel
set_option maxRecDepth 40000 in
theorem zr_157 : ((zcode.getD 157 []).all fun ch => ch.all (zrowok 157 (zby 157))) = true := by decide +kernel
set_option maxRecDepth 40000 in
theorem zr_158 : ((zcode.getD 158 []).all fun ch => ch.all (zrowok 158 (zby 158))) = true := by decide +kernel
set_option maxRecDepth 40000 in
theorem zr_159 : ((zcode.getD 159 []).all fun ch => ch.all (zrowok 159 (zby 159))) = true := by decide +kernel
set_option maxRecDepth 40000 in
theorem zr_160 : ((zcode.getD 160 []).all fun ch => ch.all (zrowok 160 (zby 160))) = true := by decide +kernel
set_option maxRecDepth 40000 in
theorem zr_161 : ((zcode.getD 161 []).all fun ch => ch.all (zrowok 161 (zby 161))) = true := by decide +kernel
set_option maxRecDepth 40000 in
theorem zr_162 : ((zcode.getD 162 []).all fun ch => ch.all (zrowok 162 (zby 162))) = true := by decide +kernel
set_option maxRecDepth 40000 in
theorem zr_163 : ((zcode.getD 163 []).all fun ch => ch.all (zrowok 163 (zby 163))) = true := by decide +kernel
set_option maxRecDepth 40000 in
theorem zr_164 : ((zcode.getD 164 []).all fun ch => ch.all (zrowok 164 (zby 164))) = true := by decide +kernel
theorem zr_all : ∀ y, y < 165 → ((zcode.getD y []).all fun ch => ch.all (zrowok y (zby y))) = true := by
  intro y h
  match y, h with
  | 0, _ => exact zr_0
  | 1, _ => exact zr_1
  | 2, _ => exact zr_2
  | 3, _ => exact zr_3
  | 4, _ => exact zr_4
  | 5, _ => exact zr_5
  | 6, _ => exact zr_6
  | 7, _ => exact zr_7
  | 8, _ => exact zr_8
  | 9, _ => exact zr_9
  | 10, _ => exact zr_10
  | 11, _ => exact zr_11
  | 12, _ => exact zr_12
  | 13, _ => exact zr_13
  | 14, _ => exact zr_14
  | 15, _ => exact zr_15
  | 16, _ => exact zr_16
  | 17, _ => exact zr_17
  | 18, _ => exact zr_18
  | 19, _ => exact zr_19
  | 20, _ => exact zr_20
  | 21, _ => exact zr_21
  | 22, _ => exact zr_22
  | 23, _ => exact zr_23
  | 24, _ => exact zr_24
  | 25, _ => exact zr_25
  | 26, _ => exact zr_26
  | 27, _ => exact zr_27
  | 28, _ => exact zr_28
  | 29, _ => exact zr_29
  | 30, _ => exact zr_30
  | 31, _ => exact zr_31
  | 32, _ => exact zr_32
  | 33, _ => exact zr_33
  | 34, _ => exact zr_34
  | 35, _ => exact zr_35
  | 36, _ => exact zr_36
  | 37, _ => exact zr_37
  | 38, _ => exact zr_38
  | 39, _ => exact zr_39
  | 40, _ => exact zr_40
  | 41, _ => exact zr_41
  | 42, _ => exact zr_42
  | 43, _ => exact zr_43
  | 44, _ => exact zr_44
  | 45, _ => exact zr_45
  | 46, _ => exact zr_46
  | 47, _ => exact zr_47
  | 48, _ => exact zr_48
  | 49, _ => exact zr_49
  | 50, _ => exact zr_50
  | 51, _ => exact zr_51
  | 52, _ => exact zr_52
  | 53, _ => exact zr_53
  | 54, _ => exact zr_54
  | 55, _ => exact zr_55
  | 56, _ => exact zr_56
  | 57, _ => exact zr_57
  | 58, _ => exact zr_58
  | 59, _ => exact zr_59
  | 60, _ => exact zr_60
  | 61, _ => exact zr_61
  | 62, _ => exact zr_62
  | 63, _ => exact zr_63
  | 64, _ => exact zr_64
  | 65, _ => exact zr_65
  | 66, _ => exact zr_66
  | 67, _ => exact zr_67
  | 68, _ => exact zr_68
  | 69, _ => exact zr_69
  | 70, _ => exact zr_70
  | 71, _ => exact zr_71
  | 72, _ => exact zr_72
  | 73, _ => exact zr_73
  | 74, _ => exact zr_74
  | 75, _ => exact zr_75
  | 76, _ => exact zr_76
  | 77, _ => exact zr_77
  | 78, _ => exact zr_78
  | 79, _ => exact zr_79
  | 80, _ => exact zr_80
  | 81, _ => exact zr_81
  | 82, _ => exact zr_82
  | 83, _ => exact zr_83
  | 84, _ => exact zr_84
  | 85, _ => exact zr_85
  | 86, _ => exact zr_86
  | 87, _ => exact zr_87
  | 88, _ => exact zr_88
  | 89, _ => exact zr_89
  | 90, _ => exact zr_90
  | 91, _ => exact zr_91
  | 92, _ => exact zr_92
  | 93, _ => exact zr_93
  | 94, _ => exact zr_94
  | 95, _ => exact zr_95
  | 96, _ => exact zr_96
  | 97, _ => exact zr_97
  | 98, _ => exact zr_98
  | 99, _ => exact zr_99
  | 100, _ => exact zr_100
  | 101, _ => exact zr_101
  | 102, _ => exact zr_102
  | 103, _ => exact zr_103
  | 104, _ => exact zr_104
  | 105, _ => exact zr_105
  | 106, _ => exact zr_106
  | 107, _ => exact zr_107
  | 108, _ => exact zr_108
  | 109, _ => exact zr_109
  | 110, _ => exact zr_110
  | 111, _ => exact zr_111
  | 112, _ => exact zr_112
  | 113, _ => exact zr_113
  | 114, _ => exact zr_114
  | 115, _ => exact zr_115
  | 116, _ => exact zr_116
  | 117, _ => exact zr_117
  | 118, _ => exact zr_118
  | 119, _ => exact zr_119
  | 120, _ => exact zr_120
  | 121, _ => exact zr_121
  | 122, _ => exact zr_122
  | 123, _ => exact zr_123
  | 124, _ => exact zr_124
  | 125, _ => exact zr_125
  | 126, _ => exact zr_126
  | 127, _ => exact zr_127
  | 128, _ => exact zr_128
  | 129, _ => exact zr_129
  | 130, _ => exact zr_130
  | 131, _ => exact zr_131
  | 132, _ => exact zr_132
  | 133, _ => exact zr_133
  | 134, _ => exact zr_134
  | 135, _ => exact zr_135
  | 136, _ => exact zr_136
  | 137, _ => exact zr_137
  | 138, _ => exact zr_138
  | 139, _ => exact zr_139
  | 140, _ => exact zr_140
  | 141, _ => exact zr_141
  | 142, _ => exact zr_142
  | 143, _ => exact zr_143
  | 144, _ => exact zr_144
  | 145, _ => exact zr_145
  | 146, _ => exact zr_146
  | 147, _ => exact zr_147
  | 148, _ => exact zr_148
  | 149, _ => exact zr_149
  | 150, _ => exact zr_150
  | 151, _ => exact zr_151
  | 152, _ => exact zr_152
  | 153, _ => exact zr_153
  | 154, _ => exact zr_154
  | 155, _ => exact zr_155
  | 156, _ => exact zr_156
  | 157, _ => exact zr_157
  | 158, _ => exact zr_158
  | 159, _ => exact zr_159
  | 160, _ => exact zr_160
  | 161, _ => exact zr_161
  | 162, _ => exact zr_162
  | 163, _ => exact zr_163
  | 164, _ => exact zr_164
  | n + 165, h => exact absurd h (by omega)
theorem zfind_ok : ∀ (l : List zEn) (pc : Nat) (e : zEn), zfind l pc = some e → e ∈ l ∧ e.1 = pc
  | [], _, _, h => by simp [zfind] at h
  | a :: t, pc, e, h => by
    unfold zfind at h
    split at h
    · next q => cases h; exact ⟨List.mem_cons_self, q⟩
    · obtain ⟨h1, h2⟩ := zfind_ok t pc e h
      exact ⟨List.mem_cons_of_mem _ h1, h2⟩
theorem zgetD_mem {α : Type} {l : List (List α)} {i : Nat} {x : α} (h : x ∈ l.getD i []) : ∃ c ∈ l, x ∈ c := by
  rw [List.getD_eq_getElem?_getD] at h
  cases hl : l[i]? with
  | none => rw [hl] at h; simp at h
  | some c => rw [hl] at h; exact ⟨c, List.mem_of_getElem? hl, h⟩
theorem zat_ok {y pc : Nat} {e : zEn} (h : zat y pc = some e) : y < 165 ∧ e.1 = pc ∧ decode (zby y) pc = .ok (e.2.1, e.2.2.1) ∧ zchk y e = true ∧ zlenok e = true := by
  obtain ⟨h1, h2⟩ := zfind_ok _ _ _ h
  have hy : y < 165 := by
    rcases Nat.lt_or_ge y 165 with q | q
    · exact q
    · exfalso
      have : zcode.getD y [] = [] := by rw [List.getD_eq_getElem?_getD, List.getElem?_eq_none (by show zcode.length ≤ y; exact Nat.le_trans (by decide) q)]; rfl
      rw [this] at h1
      simp at h1
  obtain ⟨ch, hc, he⟩ := zgetD_mem h1
  have h3 := List.all_eq_true.mp (List.all_eq_true.mp (zr_all y hy) ch hc) e he
  simp only [zrowok, Bool.and_eq_true, decide_eq_true_eq] at h3
  exact ⟨hy, h2, h2 ▸ h3.1.1, h3.1.2, h3.2⟩

/-! all rows -/
theorem zr_all : ∀ y, y < 165 → ((zcode.getD y []).all fun ch => ch.all (zrowok y (zby y))) = true := by
  intro y h
  match y, h with
  | 0, _ => exact zr_0
  | 1, _ => exact zr_1
  | 2, _ => exact zr_2
  | 3, _ => exact zr_3
  | 4, _ => exact zr_4
  | 5, _ => exact zr_5
  | 6, _ => exact zr_6
  | 7, _ => exact zr_7
  | 8, _ => exact zr_8
  | 9, _ => exact zr_9
  | 10, _ => exact zr_10
  | 11, _ => exact zr_11
  | 12, _ => exact zr_12
  | 13, _ => exact zr_13
  | 14, _ => exact zr_14
  | 15, _ => exact zr_15
  | 16, _ => exact zr_16
  | 17, _ => exact zr_17
  | 18, _ => exact zr_18
  | 19, _ => exact zr_19
  | 20, _ => exact zr_20
  | 21, _ => exact zr_21
  | 22, _ => exact zr_22
  | 23, _ => exact zr_23
  | 24, _ => exact zr_24
  | 25, _ => exact zr_25
  | 26, _ => exact zr_26
  | 27, _ => exact zr_27
  | 28, _ => exact zr_28
  | 29, _ => exact zr_29
  | 30, _ => exact zr_30
  | 31, _ => exact zr_31
  | 32, _ => exact zr_32
  | 33, _ => exact zr_33
  | 34, _ => exact zr_34
  | 35, _ => exact zr_35
  | 36, _ => exact zr_36
  | 37, _ => exact zr_37
  | 38, _ => exact zr_38
  | 39, _ => exact zr_39
  | 40, _ => exact zr_40
  | 41, _ => exact zr_41
  | 42, _ => exact zr_42
  | 43, _ => exact zr_43
  | 44, _ => exact zr_44
  | 45, _ => exact zr_45
  | 46, _ => exact zr_46
  | 47, _ => exact zr_47
  | 48, _ => exact zr_48
  | 49, _ => exact zr_49
  | 50, _ => exact zr_50
  | 51, _ => exact zr_51
  | 52, _ => exact zr_52
  | 53, _ => exact zr_53
  | 54, _ => exact zr_54
  | 55, _ => exact zr_55
  | 56, _ => exact zr_56
  | 57, _ => exact zr_57
  | 58, _ => exact zr_58
  | 59, _ => exact zr_59
  | 60, _ => exact zr_60
  | 61, _ => exact zr_61
  | 62, _ => exact zr_62
  | 63, _ => exact zr_63
  | 64, _ => exact zr_64
  | 65, _ => exact zr_65
  | 66, _ => exact zr_66
  | 67, _ => exact zr_67
  | 68, _ => exact zr_68
  | 69, _ => exact zr_69
  | 70, _ => exact zr_70
  | 71, _ => exact zr_71
  | 72, _ => exact zr_72
  | 73, _ => exact zr_73
  | 74, _ => exact zr_74
  | 75, _ => exact zr_75
  | 76, _ => exact zr_76
  | 77, _ => exact zr_77
  | 78, _ => exact zr_78
  | 79, _ => exact zr_79
  | 80, _ => exact zr_80
  | 81, _ => exact zr_81
  | 82, _ => exact zr_82
  | 83, _ => exact zr_83
  | 84, _ => exact zr_84
  | 85, _ => exact zr_85
  | 86, _ => exact zr_86
  | 87, _ => exact zr_87
  | 88, _ => exact zr_88
  | 89, _ => exact zr_89
  | 90, _ => exact zr_90
  | 91, _ => exact zr_91
  | 92, _ => exact zr_92
  | 93, _ => exact zr_93
  | 94, _ => exact zr_94
  | 95, _ => exact zr_95
  | 96, _ => exact zr_96
  | 97, _ => exact zr_97
  | 98, _ => exact zr_98
  | 99, _ => exact zr_99
  | 100, _ => exact zr_100
  | 101, _ => exact zr_101
  | 102, _ => exact zr_102
  | 103, _ => exact zr_103
  | 104, _ => exact zr_104
  | 105, _ => exact zr_105
  | 106, _ => exact zr_106
  | 107, _ => exact zr_107
  | 108, _ => exact zr_108
  | 109, _ => exact zr_109
  | 110, _ => exact zr_110
  | 111, _ => exact zr_111
  | 112, _ => exact zr_112
  | 113, _ => exact zr_113
  | 114, _ => exact zr_114
  | 115, _ => exact zr_115
  | 116, _ => exact zr_116
  | 117, _ => exact zr_117
  | 118, _ => exact zr_118
  | 119, _ => exact zr_119
  | 120, _ => exact zr_120
  | 121, _ => exact zr_121
  | 122, _ => exact zr_122
  | 123, _ => exact zr_123
  | 124, _ => exact zr_124
  | 125, _ => exact zr_125
  | 126, _ => exact zr_126
  | 127, _ => exact zr_127
  | 128, _ => exact zr_128
  | 129, _ => exact zr_129
  | 130, _ => exact zr_130
  | 131, _ => exact zr_131
  | 132, _ => exact zr_132
  | 133, _ => exact zr_133
  | 134, _ => exact zr_134
  | 135, _ => exact zr_135
  | 136, _ => exact zr_136
  | 137, _ => exact zr_137
  | 138, _ => exact zr_138
  | 139, _ => exact zr_139
  | 140, _ => exact zr_140
  | 141, _ => exact zr_141
  | 142, _ => exact zr_142
  | 143, _ => exact zr_143
  | 144, _ => exact zr_144
  | 145, _ => exact zr_145
  | 146, _ => exact zr_146
  | 147, _ => exact zr_147
  | 148, _ => exact zr_148
  | 149, _ => exact zr_149
  | 150, _ => exact zr_150
  | 151, _ => exact zr_151
  | 152, _ => exact zr_152
  | 153, _ => exact zr_153
  | 154, _ => exact zr_154
  | 155, _ => exact zr_155
  | 156, _ => exact zr_156
  | 157, _ => exact zr_157
  | 158, _ => exact zr_158
  | 159, _ => exact zr_159
  | 160, _ => exact zr_160
  | 161, _ => exact zr_161
  | 162, _ => exact zr_162
  | 163, _ => exact zr_163
  | 164, _ => exact zr_164
  | n + 165, h => exact absurd h (by omega)
theorem zfind_ok : ∀ (l : List zEn) (pc : Nat) (e : zEn), zfind l pc = some e → e ∈ l ∧ e.1 = pc
  | [], _, _, h => by simp [zfind] at h
  | a :: t, pc, e, h => by
    unfold zfind at h
    split at h
    · next q => cases h; exact ⟨List.mem_cons_self, q⟩
    · obtain ⟨h1, h2⟩ := zfind_ok t pc e h
      exact ⟨List.mem_cons_of_mem _ h1, h2⟩
theorem zgetD_mem {α : Type} {l : List (List α)} {i : Nat} {x : α} (h : x ∈ l.getD i []) : ∃ c ∈ l, x ∈ c := by
  rw [List.getD_eq_getElem?_getD] at h
  cases hl : l[i]? with
  | none => rw [hl] at h; simp at h
  | some c => rw [hl] at h; exact ⟨c, List.mem_of_getElem? hl, h⟩
theorem zat_ok {y pc : Nat} {e : zEn} (h : zat y pc = some e) : y < 165 ∧ e.1 = pc ∧ decode (zby y) pc = .ok (e.2.1, e.2.2.1) ∧ zchk y e = true ∧ zlenok e = true := by
  obtain ⟨h1, h2⟩ := zfind_ok _ _ _ h
  have hy : y < 165 := by
    rcases Nat.lt_or_ge y 165 with q | q
    · exact q
    · exfalso
      have : zcode.getD y [] = [] := by rw [List.getD_eq_getElem?_getD, List.getElem?_eq_none (by show zcode.length ≤ y; exact Nat.le_trans (show zcode.length ≤ 165 by decide +kernel) q)]; rfl
      rw [this] at h1
      simp at h1
  obtain ⟨ch, hc, he⟩ := zgetD_mem h1
  have h3 := List.all_eq_true.mp (List.all_eq_true.mp (zr_all y hy) ch hc) e he
  simp only [zrowok, Bool.and_eq_true, decide_eq_true_eq] at h3
  exact ⟨hy, h2, h2 ▸ h3.1.1, h3.1.2, h3.2⟩


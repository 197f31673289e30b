set_option maxRecDepth 100000 in
theorem zh_198 : zk_chs 198 (z_B 198) 0 zp_198 = true := by
  show zk_chs 198 code 0 zp_198 = true
  unfold zp_198
  refine zk_chs_c zh_198_0 ?_
  refine zk_chs_c zh_198_1 ?_
  refine zk_chs_c zh_198_2 ?_
  refine zk_chs_c zh_198_3 ?_
  refine zk_chs_c zh_198_4 ?_
  refine zk_chs_c zh_198_5 ?_
  refine zk_chs_c zh_198_6 ?_
  refine zk_chs_c zh_198_7 ?_
  refine zk_chs_c zh_198_8 ?_
  refine zk_chs_c zh_198_9 ?_
  refine zk_chs_c zh_198_10 ?_
  refine zk_chs_c zh_198_11 ?_
  refine zk_chs_c zh_198_12 ?_
  refine zk_chs_c zh_198_13 ?_
  refine zk_chs_c zh_198_14 ?_
  refine zk_chs_c zh_198_15 ?_
  refine zk_chs_c zh_198_16 ?_
  refine zk_chs_c zh_198_17 ?_
  refine zk_chs_c zh_198_18 ?_
  refine zk_chs_c zh_198_19 ?_
  refine zk_chs_c zh_198_20 ?_
  refine zk_chs_c zh_198_21 ?_
  refine zk_chs_c zh_198_22 ?_
  refine zk_chs_c zh_198_23 ?_
  refine zk_chs_c zh_198_24 ?_
  refine zk_chs_c zh_198_25 ?_
  refine zk_chs_c zh_198_26 ?_
  refine zk_chs_c zh_198_27 ?_
  refine zk_chs_c zh_198_28 ?_
  refine zk_chs_c zh_198_29 ?_
  refine zk_chs_c zh_198_30 ?_
  refine zk_chs_c zh_198_31 ?_
  refine zk_chs_c zh_198_32 ?_
  refine zk_chs_c zh_198_33 ?_
  refine zk_chs_c zh_198_34 ?_
  refine zk_chs_c zh_198_35 ?_
  refine zk_chs_c zh_198_36 ?_
  refine zk_chs_c zh_198_37 ?_
  refine zk_chs_c zh_198_38 ?_
  refine zk_chs_c zh_198_39 ?_
  refine zk_chs_c zh_198_40 ?_
  refine zk_chs_c zh_198_41 ?_
  refine zk_chs_c zh_198_42 ?_
  rfl
set_option maxRecDepth 100000 in
theorem zk_h : ∀ {j : Nat} {l : List (List (Option XI))}, z_P[j]? = some l → zk_chs j (z_B j) 0 l = true := by
  intro j l h
  match j, h with
  | 0, h => cases h; exact zh_0
  | 1, h => cases h; exact zh_1
  | 2, h => cases h; exact zh_2
  | 3, h => cases h; exact zh_3
  | 4, h => cases h; exact zh_4
  | 5, h => cases h; exact zh_5
  | 6, h => cases h; exact zh_6
  | 7, h => cases h; exact zh_7
  | 8, h => cases h; exact zh_8
  | 9, h => cases h; exact zh_9
  | 10, h => cases h; exact zh_10
  | 11, h => cases h; exact zh_11
  | 12, h => cases h; exact zh_12
  | 13, h => cases h; exact zh_13
  | 14, h => cases h; exact zh_14
  | 15, h => cases h; exact zh_15
  | 16, h => cases h; exact zh_16
  | 17, h => cases h; exact zh_17
  | 18, h => cases h; exact zh_18
  | 19, h => cases h; exact zh_19
  | 20, h => cases h; exact zh_20
  | 21, h => cases h; exact zh_21
  | 22, h => cases h; exact zh_22
  | 23, h => cases h; exact zh_23
  | 24, h => cases h; exact zh_24
  | 25, h => cases h; exact zh_25
  | 26, h => cases h; exact zh_26
  | 27, h => cases h; exact zh_27
  | 28, h => cases h; exact zh_28
  | 29, h => cases h; exact zh_29
  | 30, h => cases h; exact zh_30
  | 31, h => cases h; exact zh_31
  | 32, h => cases h; exact zh_32
  | 33, h => cases h; exact zh_33
  | 34, h => cases h; exact zh_34
  | 35, h => cases h; exact zh_35
  | 36, h => cases h; exact zh_36
  | 37, h => cases h; exact zh_37
  | 38, h => cases h; exact zh_38
  | 39, h => cases h; exact zh_39
  | 40, h => cases h; exact zh_40
  | 41, h => cases h; exact zh_41
  | 42, h => cases h; exact zh_42
  | 43, h => cases h; exact zh_43
  | 44, h => cases h; exact zh_44
  | 45, h => cases h; exact zh_45
  | 46, h => cases h; exact zh_46
  | 47, h => cases h; exact zh_47
  | 48, h => cases h; exact zh_48
  | 49, h => cases h; exact zh_49
  | 50, h => cases h; exact zh_50
  | 51, h => cases h; exact zh_51
  | 52, h => cases h; exact zh_52
  | 53, h => cases h; exact zh_53
  | 54, h => cases h; exact zh_54
  | 55, h => cases h; exact zh_55
  | 56, h => cases h; exact zh_56
  | 57, h => cases h; exact zh_57
  | 58, h => cases h; exact zh_58
  | 59, h => cases h; exact zh_59
  | 60, h => cases h; exact zh_60
  | 61, h => cases h; exact zh_61
  | 62, h => cases h; exact zh_62
  | 63, h => cases h; exact zh_63
  | 64, h => cases h; exact zh_64
  | 65, h => cases h; exact zh_65
  | 66, h => cases h; exact zh_66
  | 67, h => cases h; exact zh_67
  | 68, h => cases h; exact zh_68
  | 69, h => cases h; exact zh_69
  | 70, h => cases h; exact zh_70
  | 71, h => cases h; exact zh_71
  | 72, h => cases h; exact zh_72
  | 73, h => cases h; exact zh_73
  | 74, h => cases h; exact zh_74
  | 75, h => cases h; exact zh_75
  | 76, h => cases h; exact zh_76
  | 77, h => cases h; exact zh_77
  | 78, h => cases h; exact zh_78
  | 79, h => cases h; exact zh_79
  | 80, h => cases h; exact zh_80
  | 81, h => cases h; exact zh_81
  | 82, h => cases h; exact zh_82
  | 83, h => cases h; exact zh_83
  | 84, h => cases h; exact zh_84
  | 85, h => cases h; exact zh_85
  | 86, h => cases h; exact zh_86
  | 87, h => cases h; exact zh_87
  | 88, h => cases h; exact zh_88
  | 89, h => cases h; exact zh_89
  | 90, h => cases h; exact zh_90
  | 91, h => cases h; exact zh_91
  | 92, h => cases h; exact zh_92
  | 93, h => cases h; exact zh_93
  | 94, h => cases h; exact zh_94
  | 95, h => cases h; exact zh_95
  | 96, h => cases h; exact zh_96
  | 97, h => cases h; exact zh_97
  | 98, h => cases h; exact zh_98
  | 99, h => cases h; exact zh_99
  | 100, h => cases h; exact zh_100
  | 101, h => cases h; exact zh_101
  | 102, h => cases h; exact zh_102
  | 103, h => cases h; exact zh_103
  | 104, h => cases h; exact zh_104
  | 105, h => cases h; exact zh_105
  | 106, h => cases h; exact zh_106
  | 107, h => cases h; exact zh_107
  | 108, h => cases h; exact zh_108
  | 109, h => cases h; exact zh_109
  | 110, h => cases h; exact zh_110
  | 111, h => cases h; exact zh_111
  | 112, h => cases h; exact zh_112
  | 113, h => cases h; exact zh_113
  | 114, h => cases h; exact zh_114
  | 115, h => cases h; exact zh_115
  | 116, h => cases h; exact zh_116
  | 117, h => cases h; exact zh_117
  | 118, h => cases h; exact zh_118
  | 119, h => cases h; exact zh_119
  | 120, h => cases h; exact zh_120
  | 121, h => cases h; exact zh_121
  | 122, h => cases h; exact zh_122
  | 123, h => cases h; exact zh_123
  | 124, h => cases h; exact zh_124
  | 125, h => cases h; exact zh_125
  | 126, h => cases h; exact zh_126
  | 127, h => cases h; exact zh_127
  | 128, h => cases h; exact zh_128
  | 129, h => cases h; exact zh_129
  | 130, h => cases h; exact zh_130
  | 131, h => cases h; exact zh_131
  | 132, h => cases h; exact zh_132
  | 133, h => cases h; exact zh_133
  | 134, h => cases h; exact zh_134
  | 135, h => cases h; exact zh_135
  | 136, h => cases h; exact zh_136
  | 137, h => cases h; exact zh_137
  | 138, h => cases h; exact zh_138
  | 139, h => cases h; exact zh_139
  | 140, h => cases h; exact zh_140
  | 141, h => cases h; exact zh_141
  | 142, h => cases h; exact zh_142
  | 143, h => cases h; exact zh_143
  | 144, h => cases h; exact zh_144
  | 145, h => cases h; exact zh_145
  | 146, h => cases h; exact zh_146
  | 147, h => cases h; exact zh_147
  | 148, h => cases h; exact zh_148
  | 149, h => cases h; exact zh_149
  | 150, h => cases h; exact zh_150
  | 151, h => cases h; exact zh_151
  | 152, h => cases h; exact zh_152
  | 153, h => cases h; exact zh_153
  | 154, h => cases h; exact zh_154
  | 155, h => cases h; exact zh_155
  | 156, h => cases h; exact zh_156
  | 157, h => cases h; exact zh_157
  | 158, h => cases h; exact zh_158
  | 159, h => cases h; exact zh_159
  | 160, h => cases h; exact zh_160
  | 161, h => cases h; exact zh_161
  | 162, h => cases h; exact zh_162
  | 163, h => cases h; exact zh_163
  | 164, h => cases h; exact zh_164
  | 165, h => cases h; exact zh_165
  | 166, h => cases h; exact zh_166
  | 167, h => cases h; exact zh_167
  | 168, h => cases h; exact zh_168
  | 169, h => cases h; exact zh_169
  | 170, h => cases h; exact zh_170
  | 171, h => cases h; exact zh_171
  | 172, h => cases h; exact zh_172
  | 173, h => cases h; exact zh_173
  | 174, h => cases h; exact zh_174
  | 175, h => cases h; exact zh_175
  | 176, h => cases h; exact zh_176
  | 177, h => cases h; exact zh_177
  | 178, h => cases h; exact zh_178
  | 179, h => cases h; exact zh_179
  | 180, h => cases h; exact zh_180
  | 181, h => cases h; exact zh_181
  | 182, h => cases h; exact zh_182
  | 183, h => cases h; exact zh_183
  | 184, h => cases h; exact zh_184
  | 185, h => cases h; exact zh_185
  | 186, h => cases h; exact zh_186
  | 187, h => cases h; exact zh_187
  | 188, h => cases h; exact zh_188
  | 189, h => cases h; exact zh_189
  | 190, h => cases h; exact zh_190
  | 191, h => cases h; exact zh_191
  | 192, h => cases h; exact zh_192
  | 193, h => cases h; exact zh_193
  | 194, h => cases h; exact zh_194
  | 195, h => cases h; exact zh_195
  | 196, h => cases h; exact zh_196
  | 197, h => cases h; exact zh_197
  | 198, h => cases h; exact zh_198
  | k + 199, h =>
    have h1 : k + 199 < z_P.length := (List.getElem?_eq_some_iff.mp h).1
    have h2 : z_P.length = 199 := rfl
    omega

-- (Jvm.Cond.code ({ cls := "java/lang/Object", name := "<init>", desc := "()V" } : Jvm.MethodName) object_method_1_code (1 : Nat) (Option.none : Option Jvm.ClassFile.FieldType))
set_option maxRecDepth 20000 in
theorem wc_obj : Cond.code Lib.objectInit ⟨#[0xb1]⟩ 1 none ∈ lw_g := wd_c1 28 rfl rfl
set_option maxRecDepth 20000 in
theorem wa_byte : Cond.arrayClass .byte ∈ lw_g := wd_c1 44 rfl rfl
set_option maxRecDepth 20000 in
theorem wa_int : Cond.arrayClass .int ∈ lw_g := wd_c1 138 rfl rfl
set_option maxRecDepth 20000 in
theorem wa_long : Cond.arrayClass .long ∈ lw_g := wd_c1 139 rfl rfl
set_option maxRecDepth 20000 in
theorem wa_boolean : Cond.arrayClass .boolean ∈ lw_g := wd_c2 82 rfl rfl
theorem tt_0 : dk_tot 0 = 0 := by decide +kernel
theorem tt_1 : dk_tot 1 = 15 := by decide +kernel
theorem tt_2 : dk_tot 2 = 17 := by decide +kernel
theorem tt_3 : dk_tot 3 = 1417 := by decide +kernel
theorem tt_4 : dk_tot 4 = 1419 := by decide +kernel
theorem tt_5 : dk_tot 5 = 1427 := by decide +kernel
theorem tt_6 : dk_tot 6 = 1435 := by decide +kernel
theorem tt_7 : dk_tot 7 = 1443 := by decide +kernel
theorem tt_8 : dk_tot 8 = 1464 := by decide +kernel
theorem tt_9 : dk_tot 9 = 1471 := by decide +kernel
theorem tt_10 : dk_tot 10 = 1487 := by decide +kernel
theorem tt_11 : dk_tot 11 = 1495 := by decide +kernel
theorem tt_12 : dk_tot 12 = 1543 := by decide +kernel
theorem tt_13 : dk_tot 13 = 1549 := by decide +kernel
theorem tt_14 : dk_tot 14 = 1554 := by decide +kernel
theorem tt_15 : dk_tot 15 = 1874 := by decide +kernel
theorem tt_16 : dk_tot 16 = 1877 := by decide +kernel
theorem tt_17 : dk_tot 17 = 1880 := by decide +kernel
theorem tt_18 : dk_tot 18 = 1885 := by decide +kernel
theorem tt_19 : dk_tot 19 = 2205 := by decide +kernel
theorem tt_20 : dk_tot 20 = 2208 := by decide +kernel
theorem tt_21 : dk_tot 21 = 2211 := by decide +kernel
theorem tt_22 : dk_tot 22 = 2216 := by decide +kernel
theorem tt_23 : dk_tot 23 = 2536 := by decide +kernel
theorem tt_24 : dk_tot 24 = 2539 := by decide +kernel
theorem tt_25 : dk_tot 25 = 2542 := by decide +kernel
theorem tt_26 : dk_tot 26 = 2547 := by decide +kernel
theorem tt_27 : dk_tot 27 = 2867 := by decide +kernel
theorem tt_28 : dk_tot 28 = 2870 := by decide +kernel
theorem tt_29 : dk_tot 29 = 2873 := by decide +kernel
theorem tt_30 : dk_tot 30 = 2878 := by decide +kernel
theorem tt_31 : dk_tot 31 = 3198 := by decide +kernel
theorem tt_32 : dk_tot 32 = 3201 := by decide +kernel
theorem tt_33 : dk_tot 33 = 3204 := by decide +kernel
theorem tt_34 : dk_tot 34 = 3209 := by decide +kernel
theorem tt_35 : dk_tot 35 = 3529 := by decide +kernel
theorem tt_36 : dk_tot 36 = 3532 := by decide +kernel
theorem tt_37 : dk_tot 37 = 3535 := by decide +kernel
theorem tt_38 : dk_tot 38 = 3544 := by decide +kernel
theorem tt_39 : dk_tot 39 = 3744 := by decide +kernel
theorem tt_40 : dk_tot 40 = 3944 := by decide +kernel
theorem tt_41 : dk_tot 41 = 4144 := by decide +kernel
theorem tt_42 : dk_tot 42 = 4344 := by decide +kernel
theorem tt_43 : dk_tot 43 = 4544 := by decide +kernel
theorem tt_44 : dk_tot 44 = 4744 := by decide +kernel
theorem tt_45 : dk_tot 45 = 4944 := by decide +kernel
theorem tt_46 : dk_tot 46 = 4957 := by decide +kernel
theorem tt_47 : dk_tot 47 = 4967 := by decide +kernel
theorem tt_48 : dk_tot 48 = 4979 := by decide +kernel
theorem tt_49 : dk_tot 49 = 4991 := by decide +kernel
theorem tt_50 : dk_tot 50 = 5003 := by decide +kernel
theorem tt_51 : dk_tot 51 = 5015 := by decide +kernel
theorem tt_52 : dk_tot 52 = 5027 := by decide +kernel
theorem tt_53 : dk_tot 53 = 5039 := by decide +kernel
theorem tt_54 : dk_tot 54 = 5051 := by decide +kernel
theorem tt_55 : dk_tot 55 = 5063 := by decide +kernel
theorem tt_56 : dk_tot 56 = 5075 := by decide +kernel
theorem tt_57 : dk_tot 57 = 5087 := by decide +kernel
theorem tt_58 : dk_tot 58 = 5097 := by decide +kernel
theorem tt_59 : dk_tot 59 = 5109 := by decide +kernel
theorem tt_60 : dk_tot 60 = 5121 := by decide +kernel
theorem tt_61 : dk_tot 61 = 5133 := by decide +kernel
theorem tt_62 : dk_tot 62 = 5145 := by decide +kernel
theorem tt_63 : dk_tot 63 = 5157 := by decide +kernel
theorem tt_64 : dk_tot 64 = 5169 := by decide +kernel
theorem tt_65 : dk_tot 65 = 5181 := by decide +kernel
theorem tt_66 : dk_tot 66 = 5193 := by decide +kernel
theorem tt_67 : dk_tot 67 = 5205 := by decide +kernel
theorem tt_68 : dk_tot 68 = 5217 := by decide +kernel
theorem tt_69 : dk_tot 69 = 5227 := by decide +kernel
theorem tt_70 : dk_tot 70 = 5237 := by decide +kernel
theorem tt_71 : dk_tot 71 = 5247 := by decide +kernel
theorem tt_72 : dk_tot 72 = 5259 := by decide +kernel
theorem tt_73 : dk_tot 73 = 5269 := by decide +kernel
theorem tt_74 : dk_tot 74 = 5329 := by decide +kernel
theorem tt_75 : dk_tot 75 = 5339 := by decide +kernel
theorem tt_76 : dk_tot 76 = 5347 := by decide +kernel
theorem tt_77 : dk_tot 77 = 5355 := by decide +kernel
theorem tt_78 : dk_tot 78 = 5365 := by decide +kernel
theorem tt_79 : dk_tot 79 = 5375 := by decide +kernel
theorem tt_80 : dk_tot 80 = 5385 := by decide +kernel
theorem tt_81 : dk_tot 81 = 5395 := by decide +kernel
theorem tt_82 : dk_tot 82 = 5405 := by decide +kernel
theorem tt_83 : dk_tot 83 = 5415 := by decide +kernel
theorem tt_84 : dk_tot 84 = 5425 := by decide +kernel
theorem tt_85 : dk_tot 85 = 5435 := by decide +kernel
theorem tt_86 : dk_tot 86 = 6459 := by decide +kernel
theorem tt_87 : dk_tot 87 = 6467 := by decide +kernel
theorem tt_88 : dk_tot 88 = 6475 := by decide +kernel
theorem tt_89 : dk_tot 89 = 6483 := by decide +kernel
theorem tt_90 : dk_tot 90 = 6492 := by decide +kernel
theorem tt_91 : dk_tot 91 = 6501 := by decide +kernel
theorem tt_92 : dk_tot 92 = 6510 := by decide +kernel
theorem tt_93 : dk_tot 93 = 6519 := by decide +kernel
theorem tt_94 : dk_tot 94 = 6528 := by decide +kernel
theorem tt_95 : dk_tot 95 = 6537 := by decide +kernel
theorem tt_96 : dk_tot 96 = 6554 := by decide +kernel
theorem tt_97 : dk_tot 97 = 6562 := by decide +kernel
theorem tt_98 : dk_tot 98 = 6570 := by decide +kernel
theorem tt_99 : dk_tot 99 = 6582 := by decide +kernel
theorem tt_100 : dk_tot 100 = 6614 := by decide +kernel
theorem tt_101 : dk_tot 101 = 6646 := by decide +kernel
theorem tt_102 : dk_tot 102 = 6678 := by decide +kernel
theorem tt_103 : dk_tot 103 = 6710 := by decide +kernel
theorem tt_104 : dk_tot 104 = 6742 := by decide +kernel
theorem tt_105 : dk_tot 105 = 6774 := by decide +kernel
theorem tt_106 : dk_tot 106 = 6806 := by decide +kernel
theorem tt_107 : dk_tot 107 = 6838 := by decide +kernel
theorem tt_108 : dk_tot 108 = 6870 := by decide +kernel
theorem tt_109 : dk_tot 109 = 6902 := by decide +kernel
theorem tt_110 : dk_tot 110 = 6934 := by decide +kernel
theorem tt_111 : dk_tot 111 = 6966 := by decide +kernel
theorem tt_112 : dk_tot 112 = 6978 := by decide +kernel
theorem tt_113 : dk_tot 113 = 6990 := by decide +kernel
theorem tt_114 : dk_tot 114 = 7002 := by decide +kernel
theorem tt_115 : dk_tot 115 = 7014 := by decide +kernel
theorem tt_116 : dk_tot 116 = 7026 := by decide +kernel
theorem tt_117 : dk_tot 117 = 7030 := by decide +kernel
theorem tt_118 : dk_tot 118 = 7034 := by decide +kernel
theorem tt_119 : dk_tot 119 = 7051 := by decide +kernel
theorem tt_120 : dk_tot 120 = 7059 := by decide +kernel
theorem tt_121 : dk_tot 121 = 7067 := by decide +kernel
theorem tt_122 : dk_tot 122 = 7079 := by decide +kernel
theorem tt_123 : dk_tot 123 = 7111 := by decide +kernel
theorem tt_124 : dk_tot 124 = 7143 := by decide +kernel
theorem tt_125 : dk_tot 125 = 7175 := by decide +kernel
theorem tt_126 : dk_tot 126 = 7207 := by decide +kernel
theorem tt_127 : dk_tot 127 = 7239 := by decide +kernel
theorem tt_128 : dk_tot 128 = 7271 := by decide +kernel
theorem tt_129 : dk_tot 129 = 7303 := by decide +kernel
theorem tt_130 : dk_tot 130 = 7335 := by decide +kernel
theorem tt_131 : dk_tot 131 = 7367 := by decide +kernel
theorem tt_132 : dk_tot 132 = 7399 := by decide +kernel
theorem tt_133 : dk_tot 133 = 7431 := by decide +kernel
theorem tt_134 : dk_tot 134 = 7463 := by decide +kernel
theorem tt_135 : dk_tot 135 = 7475 := by decide +kernel
theorem tt_136 : dk_tot 136 = 7487 := by decide +kernel
theorem tt_137 : dk_tot 137 = 7499 := by decide +kernel
theorem tt_138 : dk_tot 138 = 7511 := by decide +kernel
theorem tt_139 : dk_tot 139 = 7523 := by decide +kernel
theorem tt_140 : dk_tot 140 = 7527 := by decide +kernel
theorem tt_141 : dk_tot 141 = 7531 := by decide +kernel
theorem tt_142 : dk_tot 142 = 7613 := by decide +kernel
theorem tt_143 : dk_tot 143 = 9033 := by decide +kernel
theorem tt_144 : dk_tot 144 = 10433 := by decide +kernel
theorem tt_145 : dk_tot 145 = 10435 := by decide +kernel
theorem tt_146 : dk_tot 146 = 10437 := by decide +kernel
theorem tt_147 : dk_tot 147 = 10439 := by decide +kernel
theorem tt_148 : dk_tot 148 = 10441 := by decide +kernel
theorem tt_149 : dk_tot 149 = 10443 := by decide +kernel
theorem tt_150 : dk_tot 150 = 10445 := by decide +kernel
theorem tt_151 : dk_tot 151 = 10447 := by decide +kernel
theorem tt_152 : dk_tot 152 = 10471 := by decide +kernel
theorem tt_153 : dk_tot 153 = 10495 := by decide +kernel
theorem tt_154 : dk_tot 154 = 10519 := by decide +kernel
theorem tt_155 : dk_tot 155 = 10543 := by decide +kernel
theorem tt_156 : dk_tot 156 = 11311 := by decide +kernel
theorem tt_157 : dk_tot 157 = 11319 := by decide +kernel
theorem tt_158 : dk_tot 158 = 11343 := by decide +kernel
theorem tt_159 : dk_tot 159 = 11345 := by decide +kernel
theorem tt_160 : dk_tot 160 = 11377 := by decide +kernel
theorem tt_161 : dk_tot 161 = 11393 := by decide +kernel
theorem tt_162 : dk_tot 162 = 11400 := by decide +kernel
theorem tt_163 : dk_tot 163 = 11421 := by decide +kernel
theorem tt_164 : dk_tot 164 = 11442 := by decide +kernel
theorem tt_165 : dk_tot 165 = 15642 := by decide +kernel
theorem tt_166 : dk_tot 166 = 19842 := by decide +kernel
theorem tt_167 : dk_tot 167 = 19922 := by decide +kernel
theorem tt_168 : dk_tot 168 = 20002 := by decide +kernel
theorem tt_169 : dk_tot 169 = 20092 := by decide +kernel
theorem tt_170 : dk_tot 170 = 20113 := by decide +kernel
theorem tt_171 : dk_tot 171 = 20313 := by decide +kernel
theorem tt_172 : dk_tot 172 = 20513 := by decide +kernel
theorem tt_173 : dk_tot 173 = 20713 := by decide +kernel
theorem tt_174 : dk_tot 174 = 20913 := by decide +kernel
theorem tt_175 : dk_tot 175 = 21113 := by decide +kernel
theorem tt_176 : dk_tot 176 = 21313 := by decide +kernel
theorem tt_177 : dk_tot 177 = 21433 := by decide +kernel
theorem tt_178 : dk_tot 178 = 21553 := by decide +kernel
theorem tt_179 : dk_tot 179 = 21565 := by decide +kernel
theorem tt_180 : dk_tot 180 = 21577 := by decide +kernel
theorem tt_181 : dk_tot 181 = 21585 := by decide +kernel
theorem tt_182 : dk_tot 182 = 29777 := by decide +kernel
theorem tt_183 : dk_tot 183 = 38993 := by decide +kernel
theorem tt_184 : dk_tot 184 = 48209 := by decide +kernel
theorem tt_185 : dk_tot 185 = 48218 := by decide +kernel
theorem tt_186 : dk_tot 186 = 48227 := by decide +kernel
theorem tt_187 : dk_tot 187 = 48236 := by decide +kernel
theorem tt_188 : dk_tot 188 = 48245 := by decide +kernel
theorem tt_189 : dk_tot 189 = 48254 := by decide +kernel
theorem tt_190 : dk_tot 190 = 48263 := by decide +kernel
theorem dv_0 : ∀ j, j < 8 → defaultValue (tyX0 j) = dk_dv (dk_fty 0 j) := fun j hj => by
  rcases (show j = 0 ∨ j = 1 ∨ j = 2 ∨ j = 3 ∨ j = 4 ∨ j = 5 ∨ j = 6 ∨ j = 7 by omega) with rfl | rfl | rfl | rfl | rfl | rfl | rfl | rfl <;> rfl
theorem dv_1 : ∀ j, j < 9 → defaultValue (tyX1 j) = dk_dv (dk_fty 1 j) := fun j hj => by
  rcases (show j = 0 ∨ j = 1 ∨ j = 2 ∨ j = 3 ∨ j = 4 ∨ j = 5 ∨ j = 6 ∨ j = 7 ∨ j = 8 by omega) with rfl | rfl | rfl | rfl | rfl | rfl | rfl | rfl | rfl <;> rfl
theorem dv_2 : ∀ j, j < 8 → defaultValue (tyX2 j) = dk_dv (dk_fty 2 j) := fun j hj => by
  rcases (show j = 0 ∨ j = 1 ∨ j = 2 ∨ j = 3 ∨ j = 4 ∨ j = 5 ∨ j = 6 ∨ j = 7 by omega) with rfl | rfl | rfl | rfl | rfl | rfl | rfl | rfl <;> rfl
theorem dv_3 : ∀ j, j < 5 → defaultValue (tyX3 j) = dk_dv (dk_fty 3 j) := fun j hj => by
  rcases (show j = 0 ∨ j = 1 ∨ j = 2 ∨ j = 3 ∨ j = 4 by omega) with rfl | rfl | rfl | rfl | rfl <;> rfl
theorem dv_4 : ∀ j, j < 17 → defaultValue (tyX4 j) = dk_dv (dk_fty 4 j) := fun j hj => by
  rcases (show j = 0 ∨ j = 1 ∨ j = 2 ∨ j = 3 ∨ j = 4 ∨ j = 5 ∨ j = 6 ∨ j = 7 ∨ j = 8 ∨ j = 9 ∨ j = 10 ∨ j = 11 ∨ j = 12 ∨ j = 13 ∨ j = 14 ∨ j = 15 ∨ j = 16 by omega) with rfl | rfl | rfl | rfl | rfl | rfl | rfl | rfl | rfl | rfl | rfl | rfl | rfl | rfl | rfl | rfl | rfl <;> rfl
theorem dv_5 : ∀ j, j < 7 → defaultValue (tyX5 j) = dk_dv (dk_fty 5 j) := fun j hj => by
  rcases (show j = 0 ∨ j = 1 ∨ j = 2 ∨ j = 3 ∨ j = 4 ∨ j = 5 ∨ j = 6 by omega) with rfl | rfl | rfl | rfl | rfl | rfl | rfl <;> rfl
theorem dv_6 : ∀ j, j < 13 → defaultValue (tyX6 j) = dk_dv (dk_fty 6 j) := fun j hj => by
  rcases (show j = 0 ∨ j = 1 ∨ j = 2 ∨ j = 3 ∨ j = 4 ∨ j = 5 ∨ j = 6 ∨ j = 7 ∨ j = 8 ∨ j = 9 ∨ j = 10 ∨ j = 11 ∨ j = 12 by omega) with rfl | rfl | rfl | rfl | rfl | rfl | rfl | rfl | rfl | rfl | rfl | rfl | rfl <;> rfl
theorem dv_7 : ∀ j, j < 2 → defaultValue (tyX7 j) = dk_dv (dk_fty 7 j) := fun j hj => by
  rcases (show j = 0 ∨ j = 1 by omega) with rfl | rfl <;> rfl
theorem dv_8 : ∀ j, j < 8 → defaultValue (tyX8 j) = dk_dv (dk_fty 8 j) := fun j hj => by
  rcases (show j = 0 ∨ j = 1 ∨ j = 2 ∨ j = 3 ∨ j = 4 ∨ j = 5 ∨ j = 6 ∨ j = 7 by omega) with rfl | rfl | rfl | rfl | rfl | rfl | rfl | rfl <;> rfl
theorem dv_9 : ∀ j, j < 8 → defaultValue (tyX9 j) = dk_dv (dk_fty 9 j) := fun j hj => by
  rcases (show j = 0 ∨ j = 1 ∨ j = 2 ∨ j = 3 ∨ j = 4 ∨ j = 5 ∨ j = 6 ∨ j = 7 by omega) with rfl | rfl | rfl | rfl | rfl | rfl | rfl | rfl <;> rfl
theorem dv_10 : ∀ j, j < 15 → defaultValue (tyX10 j) = dk_dv (dk_fty 10 j) := fun j hj => by
  rcases (show j = 0 ∨ j = 1 ∨ j = 2 ∨ j = 3 ∨ j = 4 ∨ j = 5 ∨ j = 6 ∨ j = 7 ∨ j = 8 ∨ j = 9 ∨ j = 10 ∨ j = 11 ∨ j = 12 ∨ j = 13 ∨ j = 14 by omega) with rfl | rfl | rfl | rfl | rfl | rfl | rfl | rfl | rfl | rfl | rfl | rfl | rfl | rfl | rfl <;> rfl
theorem dv_11 : ∀ j, j < 82 → defaultValue (tyX11 j) = dk_dv (dk_fty 11 j) := fun j hj => by
  rcases (show j = 0 ∨ j = 1 ∨ j = 2 ∨ j = 3 ∨ j = 4 ∨ j = 5 ∨ j = 6 ∨ j = 7 ∨ j = 8 ∨ j = 9 ∨ j = 10 ∨ j = 11 ∨ j = 12 ∨ j = 13 ∨ j = 14 ∨ j = 15 ∨ j = 16 ∨ j = 17 ∨ j = 18 ∨ j = 19 ∨ j = 20 ∨ j = 21 ∨ j = 22 ∨ j = 23 ∨ j = 24 ∨ j = 25 ∨ j = 26 ∨ j = 27 ∨ j = 28 ∨ j = 29 ∨ j = 30 ∨ j = 31 ∨ j = 32 ∨ j = 33 ∨ j = 34 ∨ j = 35 ∨ j = 36 ∨ j = 37 ∨ j = 38 ∨ j = 39 ∨ j = 40 ∨ j = 41 ∨ j = 42 ∨ j = 43 ∨ j = 44 ∨ j = 45 ∨ j = 46 ∨ j = 47 ∨ j = 48 ∨ j = 49 ∨ j = 50 ∨ j = 51 ∨ j = 52 ∨ j = 53 ∨ j = 54 ∨ j = 55 ∨ j = 56 ∨ j = 57 ∨ j = 58 ∨ j = 59 ∨ j = 60 ∨ j = 61 ∨ j = 62 ∨ j = 63 ∨ j = 64 ∨ j = 65 ∨ j = 66 ∨ j = 67 ∨ j = 68 ∨ j = 69 ∨ j = 70 ∨ j = 71 ∨ j = 72 ∨ j = 73 ∨ j = 74 ∨ j = 75 ∨ j = 76 ∨ j = 77 ∨ j = 78 ∨ j = 79 ∨ j = 80 ∨ j = 81 by omega) with rfl | rfl | rfl | rfl | rfl | rfl | rfl | rfl | rfl | rfl | rfl | rfl | rfl | rfl | rfl | rfl | rfl | rfl | rfl | rfl | rfl | rfl | rfl | rfl | rfl | rfl | rfl | rfl | rfl | rfl | rfl | rfl | rfl | rfl | rfl | rfl | rfl | rfl | rfl | rfl | rfl | rfl | rfl | rfl | rfl | rfl | rfl | rfl | rfl | rfl | rfl | rfl | rfl | rfl | rfl | rfl | rfl | rfl | rfl | rfl | rfl | rfl | rfl | rfl | rfl | rfl | rfl | rfl | rfl | rfl | rfl | rfl | rfl | rfl | rfl | rfl | rfl | rfl | rfl | rfl | rfl | rfl <;> rfl
theorem mw_X7_init : dk_MW yX7_init cX7_init 1 (none) 0 := ⟨wd_134, wd_103, ⟨by decide, by decide, by decide +kernel⟩, by decide⟩
theorem ln_9 : dk_LN RX10 9 yX7_init "DanceCompany" cX7_init 1 0 := ⟨mw_X7_init, ⟨rfl, rfl, by decide⟩, wd_133, rfl⟩
theorem mw_X3_init : dk_MW yX3_init cX3_init 1 (none) 0 := ⟨wd_309, wd_111, ⟨by decide, by decide, by decide +kernel⟩, by decide⟩
theorem ln_50 : dk_LN RX10 50 yX3_init "DanceCompany" cX3_init 1 0 := ⟨mw_X3_init, ⟨rfl, rfl, by decide⟩, wd_308, rfl⟩
theorem mw_X1_init : dk_MW yX1_init cX1_init 1 (none) 0 := ⟨wd_331, wd_112, ⟨by decide, by decide, by decide +kernel⟩, by decide⟩
theorem ln_53 : dk_LN RX10 53 yX1_init "DanceCompany" cX1_init 1 0 := ⟨mw_X1_init, ⟨rfl, rfl, by decide⟩, wd_330, rfl⟩
theorem mw_X6_init : dk_MW yX6_init cX6_init 1 (none) 0 := ⟨wd_377, wd_113, ⟨by decide, by decide, by decide +kernel⟩, by decide⟩
theorem ln_60 : dk_LN RX10 60 yX6_init "DanceCompany" cX6_init 1 0 := ⟨mw_X6_init, ⟨rfl, rfl, by decide⟩, wd_376, rfl⟩
theorem mw_X0_init : dk_MW yX0_init cX0_init 1 (none) 0 := ⟨wd_428, wd_114, ⟨by decide, by decide, by decide +kernel⟩, by decide⟩
theorem ln_67 : dk_LN RX10 67 yX0_init "DanceCompany" cX0_init 1 0 := ⟨mw_X0_init, ⟨rfl, rfl, by decide⟩, wd_427, rfl⟩
theorem mw_X8_init : dk_MW yX8_init cX8_init 1 (none) 0 := ⟨wd_462, wd_115, ⟨by decide, by decide, by decide +kernel⟩, by decide⟩
theorem ln_74 : dk_LN RX10 74 yX8_init "DanceCompany" cX8_init 1 0 := ⟨mw_X8_init, ⟨rfl, rfl, by decide⟩, wd_461, rfl⟩
def dk_fsh (σ : dkS) (k : Int) : Prop := ∀ j : Int, σ k j = dk_dz (dk_stc (dk_site k) j.toNat)
/-- a constructor has made the cells n .. n' - 1 and filled k: all of them as their types say -/
def dk_cp (k n n' : Int) (σ σ' : dkS) : Prop := (∀ a j : Int, a ≠ k → ¬ (n ≤ a ∧ a < n') → σ' a j = σ a j) ∧ ∀ a : Int, (a = k ∨ (n ≤ a ∧ a < n')) → ∀ j : Nat, j < dk_len (dk_site a) → dk_Ty a j (σ' a j)
theorem sOk_in {σ σ' : dkS} {s : Int} (h : sOk σ s) (f : ∀ k j : Int, s ≤ k → k ≤ s + 22 → σ' k j = σ k j) : sOk σ' s := by
  obtain ⟨h1, h2, h3, h4⟩ := h
  refine ⟨fun p p0 p1 => ?_, fun w w0 w1 => ?_, fun w => ?_, fun p c p0 p1 c0 c1 n0 => ?_⟩
  · rw [f s 12 (by omega) (by omega)] at p1
    rw [f (s + 16) _ (by omega) (by omega), f s 11 (by omega) (by omega), f (s + 21) _ (by omega) (by omega)]
    exact h1 p p0 p1
  · rw [f (s + 21) _ (by omega) (by omega), f (s + 22) _ (by omega) (by omega)]
    exact h2 w w0 w1
  · rw [f s 11 (by omega) (by omega)] at w
    rw [f s 11 (by omega) (by omega), f s 12 (by omega) (by omega), f (s + 21) _ (by omega) (by omega), f (s + 22) _ (by omega) (by omega)]
    exact h3 w
  · rw [f (s + 17) _ (by omega) (by omega)] at c1
    rw [f (s + 20) _ (by omega) (by omega)] at n0
    rw [f (s + 4 + p) _ (by omega) (by omega)]
    exact h4 p c p0 p1 c0 c1 n0
theorem dk_cc16 {x z : Int} (h : 0 ≤ x ∧ x ≤ 255) (e : z = dk_c x) : 0 ≤ z ∧ z ≤ 65535 := by
  have : ∀ n : Fin 256, 0 ≤ dk_c (n.val : Int) ∧ dk_c (n.val : Int) ≤ 65535 := by decide +kernel
  obtain ⟨m, rfl⟩ : ∃ m : Nat, x = m := ⟨x.toNat, by omega⟩
  rw [e]
  exact this ⟨m, by omega⟩

theorem d_M_init_0 : decode prog_9_method_1_code 0 = .ok (.aload_n 0, 1) := by decide +kernel
theorem d_M_init_1 : decode prog_9_method_1_code 1 = .ok (.invokespecial 1, 3) := by decide +kernel
theorem d_M_init_4 : decode prog_9_method_1_code 4 = .ok (.aload_n 0, 1) := by decide +kernel
theorem d_M_init_5 : decode prog_9_method_1_code 5 = .ok (.bipush 84, 2) := by decide +kernel
theorem d_M_init_7 : decode prog_9_method_1_code 7 = .ok (.newarray .int, 2) := by decide +kernel
theorem d_M_init_9 : decode prog_9_method_1_code 9 = .ok (.putfield 7, 3) := by decide +kernel
theorem d_M_init_12 : decode prog_9_method_1_code 12 = .ok (.aload_n 0, 1) := by decide +kernel
theorem d_M_init_13 : decode prog_9_method_1_code 13 = .ok (.bipush 84, 2) := by decide +kernel
theorem d_M_init_15 : decode prog_9_method_1_code 15 = .ok (.newarray .int, 2) := by decide +kernel
theorem d_M_init_17 : decode prog_9_method_1_code 17 = .ok (.putfield 13, 3) := by decide +kernel
theorem d_M_init_20 : decode prog_9_method_1_code 20 = .ok (.aload_n 0, 1) := by decide +kernel
theorem d_M_init_21 : decode prog_9_method_1_code 21 = .ok (.bipush 7, 2) := by decide +kernel
theorem d_M_init_23 : decode prog_9_method_1_code 23 = .ok (.newarray .int, 2) := by decide +kernel
theorem d_M_init_25 : decode prog_9_method_1_code 25 = .ok (.putfield 16, 3) := by decide +kernel
theorem d_M_init_28 : decode prog_9_method_1_code 28 = .ok (.aload_n 0, 1) := by decide +kernel
theorem d_M_init_29 : decode prog_9_method_1_code 29 = .ok (.bipush 12, 2) := by decide +kernel
theorem d_M_init_31 : decode prog_9_method_1_code 31 = .ok (.newarray .int, 2) := by decide +kernel
theorem d_M_init_33 : decode prog_9_method_1_code 33 = .ok (.putfield 19, 3) := by decide +kernel
theorem d_M_init_36 : decode prog_9_method_1_code 36 = .ok (.aload_n 0, 1) := by decide +kernel
theorem d_M_init_37 : decode prog_9_method_1_code 37 = .ok (.bipush 12, 2) := by decide +kernel
theorem d_M_init_39 : decode prog_9_method_1_code 39 = .ok (.newarray .int, 2) := by decide +kernel
theorem d_M_init_41 : decode prog_9_method_1_code 41 = .ok (.putfield 22, 3) := by decide +kernel
theorem d_M_init_44 : decode prog_9_method_1_code 44 = .ok (.aload_n 0, 1) := by decide +kernel
theorem d_M_init_45 : decode prog_9_method_1_code 45 = .ok (.bipush 12, 2) := by decide +kernel
theorem d_M_init_47 : decode prog_9_method_1_code 47 = .ok (.newarray .int, 2) := by decide +kernel
theorem d_M_init_49 : decode prog_9_method_1_code 49 = .ok (.putfield 25, 3) := by decide +kernel
theorem d_M_init_52 : decode prog_9_method_1_code 52 = .ok (.aload_n 0, 1) := by decide +kernel
theorem d_M_init_53 : decode prog_9_method_1_code 53 = .ok (.bipush 12, 2) := by decide +kernel
theorem d_M_init_55 : decode prog_9_method_1_code 55 = .ok (.newarray .int, 2) := by decide +kernel
theorem d_M_init_57 : decode prog_9_method_1_code 57 = .ok (.putfield 28, 3) := by decide +kernel
theorem d_M_init_60 : decode prog_9_method_1_code 60 = .ok (.aload_n 0, 1) := by decide +kernel
theorem d_M_init_61 : decode prog_9_method_1_code 61 = .ok (.bipush 12, 2) := by decide +kernel
theorem d_M_init_63 : decode prog_9_method_1_code 63 = .ok (.newarray .int, 2) := by decide +kernel
theorem d_M_init_65 : decode prog_9_method_1_code 65 = .ok (.putfield 31, 3) := by decide +kernel
theorem d_M_init_68 : decode prog_9_method_1_code 68 = .ok (.aload_n 0, 1) := by decide +kernel
theorem d_M_init_69 : decode prog_9_method_1_code 69 = .ok (.bipush 12, 2) := by decide +kernel
theorem d_M_init_71 : decode prog_9_method_1_code 71 = .ok (.newarray .int, 2) := by decide +kernel
theorem d_M_init_73 : decode prog_9_method_1_code 73 = .ok (.putfield 34, 3) := by decide +kernel
theorem d_M_init_76 : decode prog_9_method_1_code 76 = .ok (.aload_n 0, 1) := by decide +kernel
theorem d_M_init_77 : decode prog_9_method_1_code 77 = .ok (.bipush 12, 2) := by decide +kernel
theorem d_M_init_79 : decode prog_9_method_1_code 79 = .ok (.newarray .boolean, 2) := by decide +kernel
theorem d_M_init_81 : decode prog_9_method_1_code 81 = .ok (.putfield 37, 3) := by decide +kernel
theorem d_M_init_84 : decode prog_9_method_1_code 84 = .ok (.aload_n 0, 1) := by decide +kernel
theorem d_M_init_85 : decode prog_9_method_1_code 85 = .ok (.sipush 144, 3) := by decide +kernel
theorem d_M_init_88 : decode prog_9_method_1_code 88 = .ok (.newarray .int, 2) := by decide +kernel
theorem d_M_init_90 : decode prog_9_method_1_code 90 = .ok (.putfield 41, 3) := by decide +kernel
theorem d_M_init_93 : decode prog_9_method_1_code 93 = .ok (.aload_n 0, 1) := by decide +kernel
theorem d_M_init_94 : decode prog_9_method_1_code 94 = .ok (.sipush 144, 3) := by decide +kernel
theorem d_M_init_97 : decode prog_9_method_1_code 97 = .ok (.newarray .int, 2) := by decide +kernel
theorem d_M_init_99 : decode prog_9_method_1_code 99 = .ok (.putfield 44, 3) := by decide +kernel
theorem d_M_init_102 : decode prog_9_method_1_code 102 = .ok (.aload_n 0, 1) := by decide +kernel
theorem d_M_init_103 : decode prog_9_method_1_code 103 = .ok (.sipush 144, 3) := by decide +kernel
theorem d_M_init_106 : decode prog_9_method_1_code 106 = .ok (.newarray .int, 2) := by decide +kernel
theorem d_M_init_108 : decode prog_9_method_1_code 108 = .ok (.putfield 47, 3) := by decide +kernel
theorem d_M_init_111 : decode prog_9_method_1_code 111 = .ok (.aload_n 0, 1) := by decide +kernel
theorem d_M_init_112 : decode prog_9_method_1_code 112 = .ok (.sipush 144, 3) := by decide +kernel
theorem d_M_init_115 : decode prog_9_method_1_code 115 = .ok (.newarray .int, 2) := by decide +kernel
theorem d_M_init_117 : decode prog_9_method_1_code 117 = .ok (.putfield 50, 3) := by decide +kernel
theorem d_M_init_120 : decode prog_9_method_1_code 120 = .ok (.aload_n 0, 1) := by decide +kernel
theorem d_M_init_121 : decode prog_9_method_1_code 121 = .ok (.sipush 144, 3) := by decide +kernel
theorem d_M_init_124 : decode prog_9_method_1_code 124 = .ok (.newarray .boolean, 2) := by decide +kernel
theorem d_M_init_126 : decode prog_9_method_1_code 126 = .ok (.putfield 53, 3) := by decide +kernel
theorem d_M_init_129 : decode prog_9_method_1_code 129 = .ok (.aload_n 0, 1) := by decide +kernel
theorem d_M_init_130 : decode prog_9_method_1_code 130 = .ok (.sipush 144, 3) := by decide +kernel
theorem d_M_init_133 : decode prog_9_method_1_code 133 = .ok (.newarray .boolean, 2) := by decide +kernel
theorem d_M_init_135 : decode prog_9_method_1_code 135 = .ok (.putfield 56, 3) := by decide +kernel
theorem d_M_init_138 : decode prog_9_method_1_code 138 = .ok (.aload_n 0, 1) := by decide +kernel
theorem d_M_init_139 : decode prog_9_method_1_code 139 = .ok (.bipush 13, 2) := by decide +kernel
theorem d_M_init_141 : decode prog_9_method_1_code 141 = .ok (.newarray .int, 2) := by decide +kernel
theorem d_M_init_143 : decode prog_9_method_1_code 143 = .ok (.putfield 59, 3) := by decide +kernel
theorem d_M_init_146 : decode prog_9_method_1_code 146 = .ok (.aload_n 0, 1) := by decide +kernel
theorem d_M_init_147 : decode prog_9_method_1_code 147 = .ok (.bipush 13, 2) := by decide +kernel
theorem d_M_init_149 : decode prog_9_method_1_code 149 = .ok (.newarray .int, 2) := by decide +kernel
theorem d_M_init_151 : decode prog_9_method_1_code 151 = .ok (.putfield 62, 3) := by decide +kernel
theorem d_M_init_154 : decode prog_9_method_1_code 154 = .ok (.aload_n 0, 1) := by decide +kernel
theorem d_M_init_155 : decode prog_9_method_1_code 155 = .ok (.iconst 3, 1) := by decide +kernel
theorem d_M_init_156 : decode prog_9_method_1_code 156 = .ok (.newarray .int, 2) := by decide +kernel
theorem d_M_init_158 : decode prog_9_method_1_code 158 = .ok (.dup, 1) := by decide +kernel
theorem d_M_init_159 : decode prog_9_method_1_code 159 = .ok (.iconst 0, 1) := by decide +kernel
theorem d_M_init_160 : decode prog_9_method_1_code 160 = .ok (.iconst (-1), 1) := by decide +kernel
theorem d_M_init_161 : decode prog_9_method_1_code 161 = .ok (.iastore, 1) := by decide +kernel
theorem d_M_init_162 : decode prog_9_method_1_code 162 = .ok (.dup, 1) := by decide +kernel
theorem d_M_init_163 : decode prog_9_method_1_code 163 = .ok (.iconst 1, 1) := by decide +kernel
theorem d_M_init_164 : decode prog_9_method_1_code 164 = .ok (.iconst (-1), 1) := by decide +kernel
theorem d_M_init_165 : decode prog_9_method_1_code 165 = .ok (.iastore, 1) := by decide +kernel
theorem d_M_init_166 : decode prog_9_method_1_code 166 = .ok (.dup, 1) := by decide +kernel
theorem d_M_init_167 : decode prog_9_method_1_code 167 = .ok (.iconst 2, 1) := by decide +kernel
theorem d_M_init_168 : decode prog_9_method_1_code 168 = .ok (.iconst (-1), 1) := by decide +kernel
theorem d_M_init_169 : decode prog_9_method_1_code 169 = .ok (.iastore, 1) := by decide +kernel
theorem d_M_init_170 : decode prog_9_method_1_code 170 = .ok (.putfield 65, 3) := by decide +kernel
theorem d_M_init_173 : decode prog_9_method_1_code 173 = .ok (.aload_n 0, 1) := by decide +kernel
theorem d_M_init_174 : decode prog_9_method_1_code 174 = .ok (.iconst 3, 1) := by decide +kernel
theorem d_M_init_175 : decode prog_9_method_1_code 175 = .ok (.newarray .int, 2) := by decide +kernel
theorem d_M_init_177 : decode prog_9_method_1_code 177 = .ok (.putfield 68, 3) := by decide +kernel
theorem d_M_init_180 : decode prog_9_method_1_code 180 = .ok (.aload_n 0, 1) := by decide +kernel
theorem d_M_init_181 : decode prog_9_method_1_code 181 = .ok (.iconst 3, 1) := by decide +kernel
theorem d_M_init_182 : decode prog_9_method_1_code 182 = .ok (.newarray .int, 2) := by decide +kernel
theorem d_M_init_184 : decode prog_9_method_1_code 184 = .ok (.putfield 71, 3) := by decide +kernel
theorem d_M_init_187 : decode prog_9_method_1_code 187 = .ok (.aload_n 0, 1) := by decide +kernel
theorem d_M_init_188 : decode prog_9_method_1_code 188 = .ok (.bipush 12, 2) := by decide +kernel
theorem d_M_init_190 : decode prog_9_method_1_code 190 = .ok (.newarray .int, 2) := by decide +kernel
theorem d_M_init_192 : decode prog_9_method_1_code 192 = .ok (.putfield 74, 3) := by decide +kernel
theorem d_M_init_195 : decode prog_9_method_1_code 195 = .ok (.aload_n 0, 1) := by decide +kernel
theorem d_M_init_196 : decode prog_9_method_1_code 196 = .ok (.iconst 3, 1) := by decide +kernel
theorem d_M_init_197 : decode prog_9_method_1_code 197 = .ok (.newarray .int, 2) := by decide +kernel
theorem d_M_init_199 : decode prog_9_method_1_code 199 = .ok (.putfield 77, 3) := by decide +kernel
theorem d_M_init_202 : decode prog_9_method_1_code 202 = .ok (.aload_n 0, 1) := by decide +kernel
theorem d_M_init_203 : decode prog_9_method_1_code 203 = .ok (.bipush 12, 2) := by decide +kernel
theorem d_M_init_205 : decode prog_9_method_1_code 205 = .ok (.newarray .int, 2) := by decide +kernel
theorem d_M_init_207 : decode prog_9_method_1_code 207 = .ok (.putfield 80, 3) := by decide +kernel
theorem d_M_init_210 : decode prog_9_method_1_code 210 = .ok (.aload_n 0, 1) := by decide +kernel
theorem d_M_init_211 : decode prog_9_method_1_code 211 = .ok (.iconst 2, 1) := by decide +kernel
theorem d_M_init_212 : decode prog_9_method_1_code 212 = .ok (.newarray .int, 2) := by decide +kernel
theorem d_M_init_214 : decode prog_9_method_1_code 214 = .ok (.dup, 1) := by decide +kernel
theorem d_M_init_215 : decode prog_9_method_1_code 215 = .ok (.iconst 0, 1) := by decide +kernel
theorem d_M_init_216 : decode prog_9_method_1_code 216 = .ok (.iconst 1, 1) := by decide +kernel
theorem d_M_init_217 : decode prog_9_method_1_code 217 = .ok (.iastore, 1) := by decide +kernel
theorem d_M_init_218 : decode prog_9_method_1_code 218 = .ok (.dup, 1) := by decide +kernel
theorem d_M_init_219 : decode prog_9_method_1_code 219 = .ok (.iconst 1, 1) := by decide +kernel
theorem d_M_init_220 : decode prog_9_method_1_code 220 = .ok (.iconst 1, 1) := by decide +kernel
theorem d_M_init_221 : decode prog_9_method_1_code 221 = .ok (.iastore, 1) := by decide +kernel
theorem d_M_init_222 : decode prog_9_method_1_code 222 = .ok (.putfield 83, 3) := by decide +kernel
theorem d_M_init_225 : decode prog_9_method_1_code 225 = .ok (.aload_n 0, 1) := by decide +kernel
theorem d_M_init_226 : decode prog_9_method_1_code 226 = .ok (.iconst 2, 1) := by decide +kernel
theorem d_M_init_227 : decode prog_9_method_1_code 227 = .ok (.newarray .boolean, 2) := by decide +kernel
theorem d_M_init_229 : decode prog_9_method_1_code 229 = .ok (.putfield 86, 3) := by decide +kernel
theorem d_M_init_232 : decode prog_9_method_1_code 232 = .ok (.aload_n 0, 1) := by decide +kernel
theorem d_M_init_233 : decode prog_9_method_1_code 233 = .ok (.iconst (-1), 1) := by decide +kernel
theorem d_M_init_234 : decode prog_9_method_1_code 234 = .ok (.putfield 89, 3) := by decide +kernel
theorem d_M_init_237 : decode prog_9_method_1_code 237 = .ok (.return_, 1) := by decide +kernel
theorem d_M_is_0 : decode prog_9_method_2_code 0 = .ok (.iload_n 0, 1) := by decide +kernel
theorem d_M_is_1 : decode prog_9_method_2_code 1 = .ok (.iload_n 1, 1) := by decide +kernel
theorem d_M_is_2 : decode prog_9_method_2_code 2 = .ok (.if_icmp .lt 12, 3) := by decide +kernel
theorem d_M_is_5 : decode prog_9_method_2_code 5 = .ok (.iload_n 0, 1) := by decide +kernel
theorem d_M_is_6 : decode prog_9_method_2_code 6 = .ok (.iload_n 2, 1) := by decide +kernel
theorem d_M_is_7 : decode prog_9_method_2_code 7 = .ok (.if_icmp .gt 7, 3) := by decide +kernel
theorem d_M_is_10 : decode prog_9_method_2_code 10 = .ok (.iconst 1, 1) := by decide +kernel
theorem d_M_is_11 : decode prog_9_method_2_code 11 = .ok (.goto 4, 3) := by decide +kernel
theorem d_M_is_14 : decode prog_9_method_2_code 14 = .ok (.iconst 0, 1) := by decide +kernel
theorem d_M_is_15 : decode prog_9_method_2_code 15 = .ok (.ireturn, 1) := by decide +kernel
theorem d_M_parts_0 : decode prog_9_method_3_code 0 = .ok (.iload_n 0, 1) := by decide +kernel
theorem d_M_parts_1 : decode prog_9_method_3_code 1 = .ok (.bipush 8, 2) := by decide +kernel
theorem d_M_parts_3 : decode prog_9_method_3_code 3 = .ok (.if_icmp .lt 9, 3) := by decide +kernel
theorem d_M_parts_6 : decode prog_9_method_3_code 6 = .ok (.iload_n 0, 1) := by decide +kernel
theorem d_M_parts_7 : decode prog_9_method_3_code 7 = .ok (.bipush 9, 2) := by decide +kernel
theorem d_M_parts_9 : decode prog_9_method_3_code 9 = .ok (.if_icmp .ne 7, 3) := by decide +kernel
theorem d_M_parts_12 : decode prog_9_method_3_code 12 = .ok (.iconst 0, 1) := by decide +kernel
theorem d_M_parts_13 : decode prog_9_method_3_code 13 = .ok (.goto 19, 3) := by decide +kernel
theorem d_M_parts_16 : decode prog_9_method_3_code 16 = .ok (.iload_n 0, 1) := by decide +kernel
theorem d_M_parts_17 : decode prog_9_method_3_code 17 = .ok (.bipush 10, 2) := by decide +kernel
theorem d_M_parts_19 : decode prog_9_method_3_code 19 = .ok (.bipush 12, 2) := by decide +kernel
theorem d_M_parts_21 : decode prog_9_method_3_code 21 = .ok (.invokestatic 93, 3) := by decide +kernel
theorem d_M_parts_24 : decode prog_9_method_3_code 24 = .ok (.ifCond .eq 7, 3) := by decide +kernel
theorem d_M_parts_27 : decode prog_9_method_3_code 27 = .ok (.iconst 2, 1) := by decide +kernel
theorem d_M_parts_28 : decode prog_9_method_3_code 28 = .ok (.goto 4, 3) := by decide +kernel
theorem d_M_parts_31 : decode prog_9_method_3_code 31 = .ok (.iconst 1, 1) := by decide +kernel
theorem d_M_parts_32 : decode prog_9_method_3_code 32 = .ok (.ireturn, 1) := by decide +kernel
theorem d_M_fits_0 : decode prog_9_method_4_code 0 = .ok (.iload_n 0, 1) := by decide +kernel
theorem d_M_fits_1 : decode prog_9_method_4_code 1 = .ok (.tableswitch 104 1 13 #[67, 74, 82, 82, 89, 89, 82, 104, 96, 104, 104, 104, 74], 67) := by decide +kernel
theorem d_M_fits_68 : decode prog_9_method_4_code 68 = .ok (.iload_n 1, 1) := by decide +kernel
theorem d_M_fits_69 : decode prog_9_method_4_code 69 = .ok (.iconst 0, 1) := by decide +kernel
theorem d_M_fits_70 : decode prog_9_method_4_code 70 = .ok (.iconst 3, 1) := by decide +kernel
theorem d_M_fits_71 : decode prog_9_method_4_code 71 = .ok (.invokestatic 93, 3) := by decide +kernel
theorem d_M_fits_74 : decode prog_9_method_4_code 74 = .ok (.ireturn, 1) := by decide +kernel
theorem d_M_fits_75 : decode prog_9_method_4_code 75 = .ok (.iload_n 1, 1) := by decide +kernel
theorem d_M_fits_76 : decode prog_9_method_4_code 76 = .ok (.iconst 1, 1) := by decide +kernel
theorem d_M_fits_77 : decode prog_9_method_4_code 77 = .ok (.bipush 40, 2) := by decide +kernel
theorem d_M_fits_79 : decode prog_9_method_4_code 79 = .ok (.invokestatic 93, 3) := by decide +kernel
theorem d_M_fits_82 : decode prog_9_method_4_code 82 = .ok (.ireturn, 1) := by decide +kernel
theorem d_M_fits_83 : decode prog_9_method_4_code 83 = .ok (.iload_n 1, 1) := by decide +kernel
theorem d_M_fits_84 : decode prog_9_method_4_code 84 = .ok (.iconst 0, 1) := by decide +kernel
theorem d_M_fits_85 : decode prog_9_method_4_code 85 = .ok (.iconst 5, 1) := by decide +kernel
theorem d_M_fits_86 : decode prog_9_method_4_code 86 = .ok (.invokestatic 93, 3) := by decide +kernel
theorem d_M_fits_89 : decode prog_9_method_4_code 89 = .ok (.ireturn, 1) := by decide +kernel
theorem d_M_fits_90 : decode prog_9_method_4_code 90 = .ok (.iload_n 1, 1) := by decide +kernel
theorem d_M_fits_91 : decode prog_9_method_4_code 91 = .ok (.iconst 0, 1) := by decide +kernel
theorem d_M_fits_92 : decode prog_9_method_4_code 92 = .ok (.iconst 1, 1) := by decide +kernel
theorem d_M_fits_93 : decode prog_9_method_4_code 93 = .ok (.invokestatic 93, 3) := by decide +kernel
theorem d_M_fits_96 : decode prog_9_method_4_code 96 = .ok (.ireturn, 1) := by decide +kernel
theorem d_M_fits_97 : decode prog_9_method_4_code 97 = .ok (.iload_n 1, 1) := by decide +kernel
theorem d_M_fits_98 : decode prog_9_method_4_code 98 = .ok (.iconst 1, 1) := by decide +kernel
theorem d_M_fits_99 : decode prog_9_method_4_code 99 = .ok (.bipush 97, 2) := by decide +kernel
theorem d_M_fits_101 : decode prog_9_method_4_code 101 = .ok (.invokestatic 93, 3) := by decide +kernel
theorem d_M_fits_104 : decode prog_9_method_4_code 104 = .ok (.ireturn, 1) := by decide +kernel
theorem d_M_fits_105 : decode prog_9_method_4_code 105 = .ok (.iload_n 0, 1) := by decide +kernel
theorem d_M_fits_106 : decode prog_9_method_4_code 106 = .ok (.iconst 0, 1) := by decide +kernel
theorem d_M_fits_107 : decode prog_9_method_4_code 107 = .ok (.bipush 15, 2) := by decide +kernel
theorem d_M_fits_109 : decode prog_9_method_4_code 109 = .ok (.invokestatic 93, 3) := by decide +kernel
theorem d_M_fits_112 : decode prog_9_method_4_code 112 = .ok (.ireturn, 1) := by decide +kernel
theorem d_M_token_0 : decode prog_9_method_5_code 0 = .ok (.iload_n 1, 1) := by decide +kernel
theorem d_M_token_1 : decode prog_9_method_5_code 1 = .ok (.iload_n 2, 1) := by decide +kernel
theorem d_M_token_2 : decode prog_9_method_5_code 2 = .ok (.invokestatic 97, 3) := by decide +kernel
theorem d_M_token_5 : decode prog_9_method_5_code 5 = .ok (.ifCond .ne 5, 3) := by decide +kernel
theorem d_M_token_8 : decode prog_9_method_5_code 8 = .ok (.iconst (-1), 1) := by decide +kernel
theorem d_M_token_9 : decode prog_9_method_5_code 9 = .ok (.ireturn, 1) := by decide +kernel
theorem d_M_token_10 : decode prog_9_method_5_code 10 = .ok (.aload_n 0, 1) := by decide +kernel
theorem d_M_token_11 : decode prog_9_method_5_code 11 = .ok (.getfield 16, 3) := by decide +kernel
theorem d_M_token_14 : decode prog_9_method_5_code 14 = .ok (.bipush 6, 2) := by decide +kernel
theorem d_M_token_16 : decode prog_9_method_5_code 16 = .ok (.iaload, 1) := by decide +kernel
theorem d_M_token_17 : decode prog_9_method_5_code 17 = .ok (.bipush 12, 2) := by decide +kernel
theorem d_M_token_19 : decode prog_9_method_5_code 19 = .ok (.if_icmp .ne 6, 3) := by decide +kernel
theorem d_M_token_22 : decode prog_9_method_5_code 22 = .ok (.bipush (-2), 2) := by decide +kernel
theorem d_M_token_24 : decode prog_9_method_5_code 24 = .ok (.ireturn, 1) := by decide +kernel
theorem d_M_token_25 : decode prog_9_method_5_code 25 = .ok (.aload_n 0, 1) := by decide +kernel
theorem d_M_token_26 : decode prog_9_method_5_code 26 = .ok (.getfield 7, 3) := by decide +kernel
theorem d_M_token_29 : decode prog_9_method_5_code 29 = .ok (.bipush 72, 2) := by decide +kernel
theorem d_M_token_31 : decode prog_9_method_5_code 31 = .ok (.aload_n 0, 1) := by decide +kernel
theorem d_M_token_32 : decode prog_9_method_5_code 32 = .ok (.getfield 16, 3) := by decide +kernel
theorem d_M_token_35 : decode prog_9_method_5_code 35 = .ok (.bipush 6, 2) := by decide +kernel
theorem d_M_token_37 : decode prog_9_method_5_code 37 = .ok (.iaload, 1) := by decide +kernel
theorem d_M_token_38 : decode prog_9_method_5_code 38 = .ok (.iadd, 1) := by decide +kernel
theorem d_M_token_39 : decode prog_9_method_5_code 39 = .ok (.iload_n 1, 1) := by decide +kernel
theorem d_M_token_40 : decode prog_9_method_5_code 40 = .ok (.iastore, 1) := by decide +kernel
theorem d_M_token_41 : decode prog_9_method_5_code 41 = .ok (.aload_n 0, 1) := by decide +kernel
theorem d_M_token_42 : decode prog_9_method_5_code 42 = .ok (.getfield 13, 3) := by decide +kernel
theorem d_M_token_45 : decode prog_9_method_5_code 45 = .ok (.bipush 72, 2) := by decide +kernel
theorem d_M_token_47 : decode prog_9_method_5_code 47 = .ok (.aload_n 0, 1) := by decide +kernel
theorem d_M_token_48 : decode prog_9_method_5_code 48 = .ok (.getfield 16, 3) := by decide +kernel
theorem d_M_token_51 : decode prog_9_method_5_code 51 = .ok (.bipush 6, 2) := by decide +kernel
theorem d_M_token_53 : decode prog_9_method_5_code 53 = .ok (.iaload, 1) := by decide +kernel
theorem d_M_token_54 : decode prog_9_method_5_code 54 = .ok (.iadd, 1) := by decide +kernel
theorem d_M_token_55 : decode prog_9_method_5_code 55 = .ok (.iload_n 2, 1) := by decide +kernel
theorem d_M_token_56 : decode prog_9_method_5_code 56 = .ok (.iastore, 1) := by decide +kernel
theorem d_M_token_57 : decode prog_9_method_5_code 57 = .ok (.aload_n 0, 1) := by decide +kernel
theorem d_M_token_58 : decode prog_9_method_5_code 58 = .ok (.getfield 16, 3) := by decide +kernel
theorem d_M_token_61 : decode prog_9_method_5_code 61 = .ok (.bipush 6, 2) := by decide +kernel
theorem d_M_token_63 : decode prog_9_method_5_code 63 = .ok (.dup2, 1) := by decide +kernel
theorem d_M_token_64 : decode prog_9_method_5_code 64 = .ok (.iaload, 1) := by decide +kernel
theorem d_M_token_65 : decode prog_9_method_5_code 65 = .ok (.iconst 1, 1) := by decide +kernel
theorem d_M_token_66 : decode prog_9_method_5_code 66 = .ok (.iadd, 1) := by decide +kernel
theorem d_M_token_67 : decode prog_9_method_5_code 67 = .ok (.dup_x2, 1) := by decide +kernel
theorem d_M_token_68 : decode prog_9_method_5_code 68 = .ok (.iastore, 1) := by decide +kernel
theorem d_M_token_69 : decode prog_9_method_5_code 69 = .ok (.ireturn, 1) := by decide +kernel
theorem d_M_clear_0 : decode prog_9_method_6_code 0 = .ok (.aload_n 0, 1) := by decide +kernel
theorem d_M_clear_1 : decode prog_9_method_6_code 1 = .ok (.getfield 16, 3) := by decide +kernel
theorem d_M_clear_4 : decode prog_9_method_6_code 4 = .ok (.bipush 6, 2) := by decide +kernel
theorem d_M_clear_6 : decode prog_9_method_6_code 6 = .ok (.iaload, 1) := by decide +kernel
theorem d_M_clear_7 : decode prog_9_method_6_code 7 = .ok (.istore_n 1, 1) := by decide +kernel
theorem d_M_clear_8 : decode prog_9_method_6_code 8 = .ok (.aload_n 0, 1) := by decide +kernel
theorem d_M_clear_9 : decode prog_9_method_6_code 9 = .ok (.getfield 16, 3) := by decide +kernel
theorem d_M_clear_12 : decode prog_9_method_6_code 12 = .ok (.bipush 6, 2) := by decide +kernel
theorem d_M_clear_14 : decode prog_9_method_6_code 14 = .ok (.iconst 0, 1) := by decide +kernel
theorem d_M_clear_15 : decode prog_9_method_6_code 15 = .ok (.iastore, 1) := by decide +kernel
theorem d_M_clear_16 : decode prog_9_method_6_code 16 = .ok (.iload_n 1, 1) := by decide +kernel
theorem d_M_clear_17 : decode prog_9_method_6_code 17 = .ok (.ireturn, 1) := by decide +kernel
theorem d_M_define_0 : decode prog_9_method_7_code 0 = .ok (.iconst 1, 1) := by decide +kernel
theorem d_M_define_1 : decode prog_9_method_7_code 1 = .ok (.istore_n 1, 1) := by decide +kernel
theorem d_M_define_2 : decode prog_9_method_7_code 2 = .ok (.iconst 0, 1) := by decide +kernel
theorem d_M_define_3 : decode prog_9_method_7_code 3 = .ok (.istore_n 2, 1) := by decide +kernel
theorem d_M_define_4 : decode prog_9_method_7_code 4 = .ok (.iload_n 2, 1) := by decide +kernel
theorem d_M_define_5 : decode prog_9_method_7_code 5 = .ok (.aload_n 0, 1) := by decide +kernel
theorem d_M_define_6 : decode prog_9_method_7_code 6 = .ok (.getfield 16, 3) := by decide +kernel
theorem d_M_define_9 : decode prog_9_method_7_code 9 = .ok (.bipush 6, 2) := by decide +kernel
theorem d_M_define_11 : decode prog_9_method_7_code 11 = .ok (.iaload, 1) := by decide +kernel
theorem d_M_define_12 : decode prog_9_method_7_code 12 = .ok (.if_icmp .ge 32, 3) := by decide +kernel
theorem d_M_define_15 : decode prog_9_method_7_code 15 = .ok (.iload_n 1, 1) := by decide +kernel
theorem d_M_define_16 : decode prog_9_method_7_code 16 = .ok (.ifCond .ne 5, 3) := by decide +kernel
theorem d_M_define_19 : decode prog_9_method_7_code 19 = .ok (.iconst (-1), 1) := by decide +kernel
theorem d_M_define_20 : decode prog_9_method_7_code 20 = .ok (.ireturn, 1) := by decide +kernel
theorem d_M_define_21 : decode prog_9_method_7_code 21 = .ok (.iload_n 1, 1) := by decide +kernel
theorem d_M_define_22 : decode prog_9_method_7_code 22 = .ok (.aload_n 0, 1) := by decide +kernel
theorem d_M_define_23 : decode prog_9_method_7_code 23 = .ok (.getfield 7, 3) := by decide +kernel
theorem d_M_define_26 : decode prog_9_method_7_code 26 = .ok (.bipush 72, 2) := by decide +kernel
theorem d_M_define_28 : decode prog_9_method_7_code 28 = .ok (.iload_n 2, 1) := by decide +kernel
theorem d_M_define_29 : decode prog_9_method_7_code 29 = .ok (.iadd, 1) := by decide +kernel
theorem d_M_define_30 : decode prog_9_method_7_code 30 = .ok (.iaload, 1) := by decide +kernel
theorem d_M_define_31 : decode prog_9_method_7_code 31 = .ok (.invokestatic 101, 3) := by decide +kernel
theorem d_M_define_34 : decode prog_9_method_7_code 34 = .ok (.iconst 1, 1) := by decide +kernel
theorem d_M_define_35 : decode prog_9_method_7_code 35 = .ok (.isub, 1) := by decide +kernel
theorem d_M_define_36 : decode prog_9_method_7_code 36 = .ok (.iadd, 1) := by decide +kernel
theorem d_M_define_37 : decode prog_9_method_7_code 37 = .ok (.istore_n 1, 1) := by decide +kernel
theorem d_M_define_38 : decode prog_9_method_7_code 38 = .ok (.iinc 2 1, 3) := by decide +kernel
theorem d_M_define_41 : decode prog_9_method_7_code 41 = .ok (.goto (-37), 3) := by decide +kernel
theorem d_M_define_44 : decode prog_9_method_7_code 44 = .ok (.iload_n 1, 1) := by decide +kernel
theorem d_M_define_45 : decode prog_9_method_7_code 45 = .ok (.ifCond .le 5, 3) := by decide +kernel
theorem d_M_define_48 : decode prog_9_method_7_code 48 = .ok (.iconst (-1), 1) := by decide +kernel
theorem d_M_define_49 : decode prog_9_method_7_code 49 = .ok (.ireturn, 1) := by decide +kernel
theorem d_M_define_50 : decode prog_9_method_7_code 50 = .ok (.aload_n 0, 1) := by decide +kernel
theorem d_M_define_51 : decode prog_9_method_7_code 51 = .ok (.getfield 105, 3) := by decide +kernel
theorem d_M_define_54 : decode prog_9_method_7_code 54 = .ok (.bipush 6, 2) := by decide +kernel
theorem d_M_define_56 : decode prog_9_method_7_code 56 = .ok (.if_icmp .ne 6, 3) := by decide +kernel
theorem d_M_define_59 : decode prog_9_method_7_code 59 = .ok (.bipush (-2), 2) := by decide +kernel
theorem d_M_define_61 : decode prog_9_method_7_code 61 = .ok (.ireturn, 1) := by decide +kernel
theorem d_M_define_62 : decode prog_9_method_7_code 62 = .ok (.iconst 0, 1) := by decide +kernel
theorem d_M_define_63 : decode prog_9_method_7_code 63 = .ok (.istore_n 2, 1) := by decide +kernel
theorem d_M_define_64 : decode prog_9_method_7_code 64 = .ok (.iload_n 2, 1) := by decide +kernel
theorem d_M_define_65 : decode prog_9_method_7_code 65 = .ok (.bipush 12, 2) := by decide +kernel
theorem d_M_define_67 : decode prog_9_method_7_code 67 = .ok (.if_icmp .ge 55, 3) := by decide +kernel
theorem d_M_define_70 : decode prog_9_method_7_code 70 = .ok (.aload_n 0, 1) := by decide +kernel
theorem d_M_define_71 : decode prog_9_method_7_code 71 = .ok (.getfield 7, 3) := by decide +kernel
theorem d_M_define_74 : decode prog_9_method_7_code 74 = .ok (.bipush 12, 2) := by decide +kernel
theorem d_M_define_76 : decode prog_9_method_7_code 76 = .ok (.aload_n 0, 1) := by decide +kernel
theorem d_M_define_77 : decode prog_9_method_7_code 77 = .ok (.getfield 105, 3) := by decide +kernel
theorem d_M_define_80 : decode prog_9_method_7_code 80 = .ok (.imul, 1) := by decide +kernel
theorem d_M_define_81 : decode prog_9_method_7_code 81 = .ok (.iload_n 2, 1) := by decide +kernel
theorem d_M_define_82 : decode prog_9_method_7_code 82 = .ok (.iadd, 1) := by decide +kernel
theorem d_M_define_83 : decode prog_9_method_7_code 83 = .ok (.aload_n 0, 1) := by decide +kernel
theorem d_M_define_84 : decode prog_9_method_7_code 84 = .ok (.getfield 7, 3) := by decide +kernel
theorem d_M_define_87 : decode prog_9_method_7_code 87 = .ok (.bipush 72, 2) := by decide +kernel
theorem d_M_define_89 : decode prog_9_method_7_code 89 = .ok (.iload_n 2, 1) := by decide +kernel
theorem d_M_define_90 : decode prog_9_method_7_code 90 = .ok (.iadd, 1) := by decide +kernel
theorem d_M_define_91 : decode prog_9_method_7_code 91 = .ok (.iaload, 1) := by decide +kernel
theorem d_M_define_92 : decode prog_9_method_7_code 92 = .ok (.iastore, 1) := by decide +kernel
theorem d_M_define_93 : decode prog_9_method_7_code 93 = .ok (.aload_n 0, 1) := by decide +kernel
theorem d_M_define_94 : decode prog_9_method_7_code 94 = .ok (.getfield 13, 3) := by decide +kernel
theorem d_M_define_97 : decode prog_9_method_7_code 97 = .ok (.bipush 12, 2) := by decide +kernel
theorem d_M_define_99 : decode prog_9_method_7_code 99 = .ok (.aload_n 0, 1) := by decide +kernel
theorem d_M_define_100 : decode prog_9_method_7_code 100 = .ok (.getfield 105, 3) := by decide +kernel
theorem d_M_define_103 : decode prog_9_method_7_code 103 = .ok (.imul, 1) := by decide +kernel
theorem d_M_define_104 : decode prog_9_method_7_code 104 = .ok (.iload_n 2, 1) := by decide +kernel
theorem d_M_define_105 : decode prog_9_method_7_code 105 = .ok (.iadd, 1) := by decide +kernel
theorem d_M_define_106 : decode prog_9_method_7_code 106 = .ok (.aload_n 0, 1) := by decide +kernel
theorem d_M_define_107 : decode prog_9_method_7_code 107 = .ok (.getfield 13, 3) := by decide +kernel
theorem d_M_define_110 : decode prog_9_method_7_code 110 = .ok (.bipush 72, 2) := by decide +kernel
theorem d_M_define_112 : decode prog_9_method_7_code 112 = .ok (.iload_n 2, 1) := by decide +kernel
theorem d_M_define_113 : decode prog_9_method_7_code 113 = .ok (.iadd, 1) := by decide +kernel
theorem d_M_define_114 : decode prog_9_method_7_code 114 = .ok (.iaload, 1) := by decide +kernel
theorem d_M_define_115 : decode prog_9_method_7_code 115 = .ok (.iastore, 1) := by decide +kernel
theorem d_M_define_116 : decode prog_9_method_7_code 116 = .ok (.iinc 2 1, 3) := by decide +kernel
theorem d_M_define_119 : decode prog_9_method_7_code 119 = .ok (.goto (-55), 3) := by decide +kernel
theorem d_M_define_122 : decode prog_9_method_7_code 122 = .ok (.aload_n 0, 1) := by decide +kernel
theorem d_M_define_123 : decode prog_9_method_7_code 123 = .ok (.getfield 16, 3) := by decide +kernel
theorem d_M_define_126 : decode prog_9_method_7_code 126 = .ok (.aload_n 0, 1) := by decide +kernel
theorem d_M_define_127 : decode prog_9_method_7_code 127 = .ok (.getfield 105, 3) := by decide +kernel
theorem d_M_define_130 : decode prog_9_method_7_code 130 = .ok (.aload_n 0, 1) := by decide +kernel
theorem d_M_define_131 : decode prog_9_method_7_code 131 = .ok (.getfield 16, 3) := by decide +kernel
theorem d_M_define_134 : decode prog_9_method_7_code 134 = .ok (.bipush 6, 2) := by decide +kernel
theorem d_M_define_136 : decode prog_9_method_7_code 136 = .ok (.iaload, 1) := by decide +kernel
theorem d_M_define_137 : decode prog_9_method_7_code 137 = .ok (.iastore, 1) := by decide +kernel
theorem d_M_define_138 : decode prog_9_method_7_code 138 = .ok (.aload_n 0, 1) := by decide +kernel
theorem d_M_define_139 : decode prog_9_method_7_code 139 = .ok (.getfield 16, 3) := by decide +kernel
theorem d_M_define_142 : decode prog_9_method_7_code 142 = .ok (.bipush 6, 2) := by decide +kernel
theorem d_M_define_144 : decode prog_9_method_7_code 144 = .ok (.iconst 0, 1) := by decide +kernel
theorem d_M_define_145 : decode prog_9_method_7_code 145 = .ok (.iastore, 1) := by decide +kernel
theorem d_M_define_146 : decode prog_9_method_7_code 146 = .ok (.aload_n 0, 1) := by decide +kernel
theorem d_M_define_147 : decode prog_9_method_7_code 147 = .ok (.dup, 1) := by decide +kernel
theorem d_M_define_148 : decode prog_9_method_7_code 148 = .ok (.getfield 105, 3) := by decide +kernel
theorem d_M_define_151 : decode prog_9_method_7_code 151 = .ok (.dup_x1, 1) := by decide +kernel
theorem d_M_define_152 : decode prog_9_method_7_code 152 = .ok (.iconst 1, 1) := by decide +kernel
theorem d_M_define_153 : decode prog_9_method_7_code 153 = .ok (.iadd, 1) := by decide +kernel
theorem d_M_define_154 : decode prog_9_method_7_code 154 = .ok (.putfield 105, 3) := by decide +kernel
theorem d_M_define_157 : decode prog_9_method_7_code 157 = .ok (.ireturn, 1) := by decide +kernel
theorem d_M_opOf_0 : decode prog_9_method_8_code 0 = .ok (.aload_n 0, 1) := by decide +kernel
theorem d_M_opOf_1 : decode prog_9_method_8_code 1 = .ok (.getfield 7, 3) := by decide +kernel
theorem d_M_opOf_4 : decode prog_9_method_8_code 4 = .ok (.bipush 12, 2) := by decide +kernel
theorem d_M_opOf_6 : decode prog_9_method_8_code 6 = .ok (.aload_n 0, 1) := by decide +kernel
theorem d_M_opOf_7 : decode prog_9_method_8_code 7 = .ok (.getfield 28, 3) := by decide +kernel
theorem d_M_opOf_10 : decode prog_9_method_8_code 10 = .ok (.iload_n 1, 1) := by decide +kernel
theorem d_M_opOf_11 : decode prog_9_method_8_code 11 = .ok (.iaload, 1) := by decide +kernel
theorem d_M_opOf_12 : decode prog_9_method_8_code 12 = .ok (.imul, 1) := by decide +kernel
theorem d_M_opOf_13 : decode prog_9_method_8_code 13 = .ok (.iload_n 2, 1) := by decide +kernel
theorem d_M_opOf_14 : decode prog_9_method_8_code 14 = .ok (.iadd, 1) := by decide +kernel
theorem d_M_opOf_15 : decode prog_9_method_8_code 15 = .ok (.iaload, 1) := by decide +kernel
theorem d_M_opOf_16 : decode prog_9_method_8_code 16 = .ok (.ireturn, 1) := by decide +kernel
theorem d_M_argOf_0 : decode prog_9_method_9_code 0 = .ok (.aload_n 0, 1) := by decide +kernel
theorem d_M_argOf_1 : decode prog_9_method_9_code 1 = .ok (.getfield 13, 3) := by decide +kernel
theorem d_M_argOf_4 : decode prog_9_method_9_code 4 = .ok (.bipush 12, 2) := by decide +kernel
theorem d_M_argOf_6 : decode prog_9_method_9_code 6 = .ok (.aload_n 0, 1) := by decide +kernel
theorem d_M_argOf_7 : decode prog_9_method_9_code 7 = .ok (.getfield 28, 3) := by decide +kernel
theorem d_M_argOf_10 : decode prog_9_method_9_code 10 = .ok (.iload_n 1, 1) := by decide +kernel
theorem d_M_argOf_11 : decode prog_9_method_9_code 11 = .ok (.iaload, 1) := by decide +kernel
theorem d_M_argOf_12 : decode prog_9_method_9_code 12 = .ok (.imul, 1) := by decide +kernel
theorem d_M_argOf_13 : decode prog_9_method_9_code 13 = .ok (.iload_n 2, 1) := by decide +kernel
theorem d_M_argOf_14 : decode prog_9_method_9_code 14 = .ok (.iadd, 1) := by decide +kernel
theorem d_M_argOf_15 : decode prog_9_method_9_code 15 = .ok (.iaload, 1) := by decide +kernel
theorem d_M_argOf_16 : decode prog_9_method_9_code 16 = .ok (.ireturn, 1) := by decide +kernel
theorem d_M_end_0 : decode prog_9_method_10_code 0 = .ok (.iconst 1, 1) := by decide +kernel
theorem d_M_end_1 : decode prog_9_method_10_code 1 = .ok (.istore_n 3, 1) := by decide +kernel
theorem d_M_end_2 : decode prog_9_method_10_code 2 = .ok (.iload_n 2, 1) := by decide +kernel
theorem d_M_end_3 : decode prog_9_method_10_code 3 = .ok (.istore 4, 2) := by decide +kernel
theorem d_M_end_5 : decode prog_9_method_10_code 5 = .ok (.iload_n 3, 1) := by decide +kernel
theorem d_M_end_6 : decode prog_9_method_10_code 6 = .ok (.ifCond .le 24, 3) := by decide +kernel
theorem d_M_end_9 : decode prog_9_method_10_code 9 = .ok (.iload_n 3, 1) := by decide +kernel
theorem d_M_end_10 : decode prog_9_method_10_code 10 = .ok (.aload_n 0, 1) := by decide +kernel
theorem d_M_end_11 : decode prog_9_method_10_code 11 = .ok (.iload_n 1, 1) := by decide +kernel
theorem d_M_end_12 : decode prog_9_method_10_code 12 = .ok (.iload 4, 2) := by decide +kernel
theorem d_M_end_14 : decode prog_9_method_10_code 14 = .ok (.invokevirtual 108, 3) := by decide +kernel
theorem d_M_end_17 : decode prog_9_method_10_code 17 = .ok (.invokestatic 101, 3) := by decide +kernel
theorem d_M_end_20 : decode prog_9_method_10_code 20 = .ok (.iconst 1, 1) := by decide +kernel
theorem d_M_end_21 : decode prog_9_method_10_code 21 = .ok (.isub, 1) := by decide +kernel
theorem d_M_end_22 : decode prog_9_method_10_code 22 = .ok (.iadd, 1) := by decide +kernel
theorem d_M_end_23 : decode prog_9_method_10_code 23 = .ok (.istore_n 3, 1) := by decide +kernel
theorem d_M_end_24 : decode prog_9_method_10_code 24 = .ok (.iinc 4 1, 3) := by decide +kernel
theorem d_M_end_27 : decode prog_9_method_10_code 27 = .ok (.goto (-22), 3) := by decide +kernel
theorem d_M_end_30 : decode prog_9_method_10_code 30 = .ok (.iload 4, 2) := by decide +kernel
theorem d_M_end_32 : decode prog_9_method_10_code 32 = .ok (.ireturn, 1) := by decide +kernel
theorem d_M_make_0 : decode prog_9_method_11_code 0 = .ok (.aload_n 0, 1) := by decide +kernel
theorem d_M_make_1 : decode prog_9_method_11_code 1 = .ok (.dup, 1) := by decide +kernel
theorem d_M_make_2 : decode prog_9_method_11_code 2 = .ok (.getfield 112, 3) := by decide +kernel
theorem d_M_make_5 : decode prog_9_method_11_code 5 = .ok (.dup_x1, 1) := by decide +kernel
theorem d_M_make_6 : decode prog_9_method_11_code 6 = .ok (.iconst 1, 1) := by decide +kernel
theorem d_M_make_7 : decode prog_9_method_11_code 7 = .ok (.iadd, 1) := by decide +kernel
theorem d_M_make_8 : decode prog_9_method_11_code 8 = .ok (.putfield 112, 3) := by decide +kernel
theorem d_M_make_11 : decode prog_9_method_11_code 11 = .ok (.istore_n 2, 1) := by decide +kernel
theorem d_M_make_12 : decode prog_9_method_11_code 12 = .ok (.aload_n 0, 1) := by decide +kernel
theorem d_M_make_13 : decode prog_9_method_11_code 13 = .ok (.getfield 28, 3) := by decide +kernel
theorem d_M_make_16 : decode prog_9_method_11_code 16 = .ok (.iload_n 2, 1) := by decide +kernel
theorem d_M_make_17 : decode prog_9_method_11_code 17 = .ok (.iload_n 1, 1) := by decide +kernel
theorem d_M_make_18 : decode prog_9_method_11_code 18 = .ok (.iastore, 1) := by decide +kernel
theorem d_M_make_19 : decode prog_9_method_11_code 19 = .ok (.aload_n 0, 1) := by decide +kernel
theorem d_M_make_20 : decode prog_9_method_11_code 20 = .ok (.getfield 19, 3) := by decide +kernel
theorem d_M_make_23 : decode prog_9_method_11_code 23 = .ok (.iload_n 2, 1) := by decide +kernel
theorem d_M_make_24 : decode prog_9_method_11_code 24 = .ok (.iconst 0, 1) := by decide +kernel
theorem d_M_make_25 : decode prog_9_method_11_code 25 = .ok (.iastore, 1) := by decide +kernel
theorem d_M_make_26 : decode prog_9_method_11_code 26 = .ok (.aload_n 0, 1) := by decide +kernel
theorem d_M_make_27 : decode prog_9_method_11_code 27 = .ok (.getfield 31, 3) := by decide +kernel
theorem d_M_make_30 : decode prog_9_method_11_code 30 = .ok (.iload_n 2, 1) := by decide +kernel
theorem d_M_make_31 : decode prog_9_method_11_code 31 = .ok (.iconst 4, 1) := by decide +kernel
theorem d_M_make_32 : decode prog_9_method_11_code 32 = .ok (.iastore, 1) := by decide +kernel
theorem d_M_make_33 : decode prog_9_method_11_code 33 = .ok (.bipush 12, 2) := by decide +kernel
theorem d_M_make_35 : decode prog_9_method_11_code 35 = .ok (.iload_n 2, 1) := by decide +kernel
theorem d_M_make_36 : decode prog_9_method_11_code 36 = .ok (.imul, 1) := by decide +kernel
theorem d_M_make_37 : decode prog_9_method_11_code 37 = .ok (.istore_n 3, 1) := by decide +kernel
theorem d_M_make_38 : decode prog_9_method_11_code 38 = .ok (.iload_n 3, 1) := by decide +kernel
theorem d_M_make_39 : decode prog_9_method_11_code 39 = .ok (.bipush 12, 2) := by decide +kernel
theorem d_M_make_41 : decode prog_9_method_11_code 41 = .ok (.iload_n 2, 1) := by decide +kernel
theorem d_M_make_42 : decode prog_9_method_11_code 42 = .ok (.imul, 1) := by decide +kernel
theorem d_M_make_43 : decode prog_9_method_11_code 43 = .ok (.bipush 12, 2) := by decide +kernel
theorem d_M_make_45 : decode prog_9_method_11_code 45 = .ok (.iadd, 1) := by decide +kernel
theorem d_M_make_46 : decode prog_9_method_11_code 46 = .ok (.if_icmp .ge 37, 3) := by decide +kernel
theorem d_M_make_49 : decode prog_9_method_11_code 49 = .ok (.aload_n 0, 1) := by decide +kernel
theorem d_M_make_50 : decode prog_9_method_11_code 50 = .ok (.getfield 41, 3) := by decide +kernel
theorem d_M_make_53 : decode prog_9_method_11_code 53 = .ok (.iload_n 3, 1) := by decide +kernel
theorem d_M_make_54 : decode prog_9_method_11_code 54 = .ok (.iconst 0, 1) := by decide +kernel
theorem d_M_make_55 : decode prog_9_method_11_code 55 = .ok (.iastore, 1) := by decide +kernel
theorem d_M_make_56 : decode prog_9_method_11_code 56 = .ok (.aload_n 0, 1) := by decide +kernel
theorem d_M_make_57 : decode prog_9_method_11_code 57 = .ok (.getfield 47, 3) := by decide +kernel
theorem d_M_make_60 : decode prog_9_method_11_code 60 = .ok (.iload_n 3, 1) := by decide +kernel
theorem d_M_make_61 : decode prog_9_method_11_code 61 = .ok (.iconst 0, 1) := by decide +kernel
theorem d_M_make_62 : decode prog_9_method_11_code 62 = .ok (.iastore, 1) := by decide +kernel
theorem d_M_make_63 : decode prog_9_method_11_code 63 = .ok (.aload_n 0, 1) := by decide +kernel
theorem d_M_make_64 : decode prog_9_method_11_code 64 = .ok (.getfield 53, 3) := by decide +kernel
theorem d_M_make_67 : decode prog_9_method_11_code 67 = .ok (.iload_n 3, 1) := by decide +kernel
theorem d_M_make_68 : decode prog_9_method_11_code 68 = .ok (.iconst 0, 1) := by decide +kernel
theorem d_M_make_69 : decode prog_9_method_11_code 69 = .ok (.bastore, 1) := by decide +kernel
theorem d_M_make_70 : decode prog_9_method_11_code 70 = .ok (.aload_n 0, 1) := by decide +kernel
theorem d_M_make_71 : decode prog_9_method_11_code 71 = .ok (.getfield 56, 3) := by decide +kernel
theorem d_M_make_74 : decode prog_9_method_11_code 74 = .ok (.iload_n 3, 1) := by decide +kernel
theorem d_M_make_75 : decode prog_9_method_11_code 75 = .ok (.iconst 0, 1) := by decide +kernel
theorem d_M_make_76 : decode prog_9_method_11_code 76 = .ok (.bastore, 1) := by decide +kernel
theorem d_M_make_77 : decode prog_9_method_11_code 77 = .ok (.iinc 3 1, 3) := by decide +kernel
theorem d_M_make_80 : decode prog_9_method_11_code 80 = .ok (.goto (-42), 3) := by decide +kernel
theorem d_M_make_83 : decode prog_9_method_11_code 83 = .ok (.aload_n 0, 1) := by decide +kernel
theorem d_M_make_84 : decode prog_9_method_11_code 84 = .ok (.iload_n 2, 1) := by decide +kernel
theorem d_M_make_85 : decode prog_9_method_11_code 85 = .ok (.invokevirtual 115, 3) := by decide +kernel
theorem d_M_make_88 : decode prog_9_method_11_code 88 = .ok (.iload_n 2, 1) := by decide +kernel
theorem d_M_make_89 : decode prog_9_method_11_code 89 = .ok (.ireturn, 1) := by decide +kernel
theorem d_M_inject_0 : decode prog_9_method_12_code 0 = .ok (.aload_n 0, 1) := by decide +kernel
theorem d_M_inject_1 : decode prog_9_method_12_code 1 = .ok (.getfield 80, 3) := by decide +kernel
theorem d_M_inject_4 : decode prog_9_method_12_code 4 = .ok (.aload_n 0, 1) := by decide +kernel
theorem d_M_inject_5 : decode prog_9_method_12_code 5 = .ok (.dup, 1) := by decide +kernel
theorem d_M_inject_6 : decode prog_9_method_12_code 6 = .ok (.getfield 119, 3) := by decide +kernel
theorem d_M_inject_9 : decode prog_9_method_12_code 9 = .ok (.dup_x1, 1) := by decide +kernel
theorem d_M_inject_10 : decode prog_9_method_12_code 10 = .ok (.iconst 1, 1) := by decide +kernel
theorem d_M_inject_11 : decode prog_9_method_12_code 11 = .ok (.iadd, 1) := by decide +kernel
theorem d_M_inject_12 : decode prog_9_method_12_code 12 = .ok (.putfield 119, 3) := by decide +kernel
theorem d_M_inject_15 : decode prog_9_method_12_code 15 = .ok (.iload_n 1, 1) := by decide +kernel
theorem d_M_inject_16 : decode prog_9_method_12_code 16 = .ok (.iastore, 1) := by decide +kernel
theorem d_M_inject_17 : decode prog_9_method_12_code 17 = .ok (.aload_n 0, 1) := by decide +kernel
theorem d_M_inject_18 : decode prog_9_method_12_code 18 = .ok (.getfield 34, 3) := by decide +kernel
theorem d_M_inject_21 : decode prog_9_method_12_code 21 = .ok (.iload_n 1, 1) := by decide +kernel
theorem d_M_inject_22 : decode prog_9_method_12_code 22 = .ok (.iconst 1, 1) := by decide +kernel
theorem d_M_inject_23 : decode prog_9_method_12_code 23 = .ok (.iastore, 1) := by decide +kernel
theorem d_M_inject_24 : decode prog_9_method_12_code 24 = .ok (.return_, 1) := by decide +kernel
theorem d_M_toRing_0 : decode prog_9_method_13_code 0 = .ok (.aload_n 0, 1) := by decide +kernel
theorem d_M_toRing_1 : decode prog_9_method_13_code 1 = .ok (.getfield 77, 3) := by decide +kernel
theorem d_M_toRing_4 : decode prog_9_method_13_code 4 = .ok (.iload_n 2, 1) := by decide +kernel
theorem d_M_toRing_5 : decode prog_9_method_13_code 5 = .ok (.iaload, 1) := by decide +kernel
theorem d_M_toRing_6 : decode prog_9_method_13_code 6 = .ok (.iconst 4, 1) := by decide +kernel
theorem d_M_toRing_7 : decode prog_9_method_13_code 7 = .ok (.if_icmp .ge 34, 3) := by decide +kernel
theorem d_M_toRing_10 : decode prog_9_method_13_code 10 = .ok (.aload_n 0, 1) := by decide +kernel
theorem d_M_toRing_11 : decode prog_9_method_13_code 11 = .ok (.getfield 74, 3) := by decide +kernel
theorem d_M_toRing_14 : decode prog_9_method_13_code 14 = .ok (.iconst 4, 1) := by decide +kernel
theorem d_M_toRing_15 : decode prog_9_method_13_code 15 = .ok (.iload_n 2, 1) := by decide +kernel
theorem d_M_toRing_16 : decode prog_9_method_13_code 16 = .ok (.imul, 1) := by decide +kernel
theorem d_M_toRing_17 : decode prog_9_method_13_code 17 = .ok (.aload_n 0, 1) := by decide +kernel
theorem d_M_toRing_18 : decode prog_9_method_13_code 18 = .ok (.getfield 77, 3) := by decide +kernel
theorem d_M_toRing_21 : decode prog_9_method_13_code 21 = .ok (.iload_n 2, 1) := by decide +kernel
theorem d_M_toRing_22 : decode prog_9_method_13_code 22 = .ok (.dup2, 1) := by decide +kernel
theorem d_M_toRing_23 : decode prog_9_method_13_code 23 = .ok (.iaload, 1) := by decide +kernel
theorem d_M_toRing_24 : decode prog_9_method_13_code 24 = .ok (.dup_x2, 1) := by decide +kernel
theorem d_M_toRing_25 : decode prog_9_method_13_code 25 = .ok (.iconst 1, 1) := by decide +kernel
theorem d_M_toRing_26 : decode prog_9_method_13_code 26 = .ok (.iadd, 1) := by decide +kernel
theorem d_M_toRing_27 : decode prog_9_method_13_code 27 = .ok (.iastore, 1) := by decide +kernel
theorem d_M_toRing_28 : decode prog_9_method_13_code 28 = .ok (.iadd, 1) := by decide +kernel
theorem d_M_toRing_29 : decode prog_9_method_13_code 29 = .ok (.iload_n 1, 1) := by decide +kernel
theorem d_M_toRing_30 : decode prog_9_method_13_code 30 = .ok (.iastore, 1) := by decide +kernel
theorem d_M_toRing_31 : decode prog_9_method_13_code 31 = .ok (.aload_n 0, 1) := by decide +kernel
theorem d_M_toRing_32 : decode prog_9_method_13_code 32 = .ok (.getfield 34, 3) := by decide +kernel
theorem d_M_toRing_35 : decode prog_9_method_13_code 35 = .ok (.iload_n 1, 1) := by decide +kernel
theorem d_M_toRing_36 : decode prog_9_method_13_code 36 = .ok (.iconst 5, 1) := by decide +kernel
theorem d_M_toRing_37 : decode prog_9_method_13_code 37 = .ok (.iload_n 2, 1) := by decide +kernel
theorem d_M_toRing_38 : decode prog_9_method_13_code 38 = .ok (.iadd, 1) := by decide +kernel
theorem d_M_toRing_39 : decode prog_9_method_13_code 39 = .ok (.iastore, 1) := by decide +kernel
theorem d_M_toRing_40 : decode prog_9_method_13_code 40 = .ok (.return_, 1) := by decide +kernel
theorem d_M_toRing_41 : decode prog_9_method_13_code 41 = .ok (.aload_n 0, 1) := by decide +kernel
theorem d_M_toRing_42 : decode prog_9_method_13_code 42 = .ok (.iload_n 2, 1) := by decide +kernel
theorem d_M_toRing_43 : decode prog_9_method_13_code 43 = .ok (.invokevirtual 122, 3) := by decide +kernel
theorem d_M_toRing_46 : decode prog_9_method_13_code 46 = .ok (.istore_n 3, 1) := by decide +kernel
theorem d_M_toRing_47 : decode prog_9_method_13_code 47 = .ok (.aload_n 0, 1) := by decide +kernel
theorem d_M_toRing_48 : decode prog_9_method_13_code 48 = .ok (.iload_n 2, 1) := by decide +kernel
theorem d_M_toRing_49 : decode prog_9_method_13_code 49 = .ok (.invokevirtual 122, 3) := by decide +kernel
theorem d_M_toRing_52 : decode prog_9_method_13_code 52 = .ok (.istore 4, 2) := by decide +kernel
theorem d_M_toRing_54 : decode prog_9_method_13_code 54 = .ok (.aload_n 0, 1) := by decide +kernel
theorem d_M_toRing_55 : decode prog_9_method_13_code 55 = .ok (.iload_n 3, 1) := by decide +kernel
theorem d_M_toRing_56 : decode prog_9_method_13_code 56 = .ok (.invokevirtual 125, 3) := by decide +kernel
theorem d_M_toRing_59 : decode prog_9_method_13_code 59 = .ok (.aload_n 0, 1) := by decide +kernel
theorem d_M_toRing_60 : decode prog_9_method_13_code 60 = .ok (.iload 4, 2) := by decide +kernel
theorem d_M_toRing_62 : decode prog_9_method_13_code 62 = .ok (.invokevirtual 125, 3) := by decide +kernel
theorem d_M_toRing_65 : decode prog_9_method_13_code 65 = .ok (.aload_n 0, 1) := by decide +kernel
theorem d_M_toRing_66 : decode prog_9_method_13_code 66 = .ok (.iload_n 1, 1) := by decide +kernel
theorem d_M_toRing_67 : decode prog_9_method_13_code 67 = .ok (.invokevirtual 125, 3) := by decide +kernel
theorem d_M_toRing_70 : decode prog_9_method_13_code 70 = .ok (.return_, 1) := by decide +kernel
theorem d_M_shift_0 : decode prog_9_method_14_code 0 = .ok (.aload_n 0, 1) := by decide +kernel
theorem d_M_shift_1 : decode prog_9_method_14_code 1 = .ok (.getfield 74, 3) := by decide +kernel
theorem d_M_shift_4 : decode prog_9_method_14_code 4 = .ok (.iconst 4, 1) := by decide +kernel
theorem d_M_shift_5 : decode prog_9_method_14_code 5 = .ok (.iload_n 1, 1) := by decide +kernel
theorem d_M_shift_6 : decode prog_9_method_14_code 6 = .ok (.imul, 1) := by decide +kernel
theorem d_M_shift_7 : decode prog_9_method_14_code 7 = .ok (.iaload, 1) := by decide +kernel
theorem d_M_shift_8 : decode prog_9_method_14_code 8 = .ok (.istore_n 2, 1) := by decide +kernel
theorem d_M_shift_9 : decode prog_9_method_14_code 9 = .ok (.aload_n 0, 1) := by decide +kernel
theorem d_M_shift_10 : decode prog_9_method_14_code 10 = .ok (.getfield 77, 3) := by decide +kernel
theorem d_M_shift_13 : decode prog_9_method_14_code 13 = .ok (.iload_n 1, 1) := by decide +kernel
theorem d_M_shift_14 : decode prog_9_method_14_code 14 = .ok (.dup2, 1) := by decide +kernel
theorem d_M_shift_15 : decode prog_9_method_14_code 15 = .ok (.iaload, 1) := by decide +kernel
theorem d_M_shift_16 : decode prog_9_method_14_code 16 = .ok (.iconst 1, 1) := by decide +kernel
theorem d_M_shift_17 : decode prog_9_method_14_code 17 = .ok (.isub, 1) := by decide +kernel
theorem d_M_shift_18 : decode prog_9_method_14_code 18 = .ok (.iastore, 1) := by decide +kernel
theorem d_M_shift_19 : decode prog_9_method_14_code 19 = .ok (.iconst 0, 1) := by decide +kernel
theorem d_M_shift_20 : decode prog_9_method_14_code 20 = .ok (.istore_n 3, 1) := by decide +kernel
theorem d_M_shift_21 : decode prog_9_method_14_code 21 = .ok (.iload_n 3, 1) := by decide +kernel
theorem d_M_shift_22 : decode prog_9_method_14_code 22 = .ok (.aload_n 0, 1) := by decide +kernel
theorem d_M_shift_23 : decode prog_9_method_14_code 23 = .ok (.getfield 77, 3) := by decide +kernel
theorem d_M_shift_26 : decode prog_9_method_14_code 26 = .ok (.iload_n 1, 1) := by decide +kernel
theorem d_M_shift_27 : decode prog_9_method_14_code 27 = .ok (.iaload, 1) := by decide +kernel
theorem d_M_shift_28 : decode prog_9_method_14_code 28 = .ok (.if_icmp .ge 31, 3) := by decide +kernel
theorem d_M_shift_31 : decode prog_9_method_14_code 31 = .ok (.aload_n 0, 1) := by decide +kernel
theorem d_M_shift_32 : decode prog_9_method_14_code 32 = .ok (.getfield 74, 3) := by decide +kernel
theorem d_M_shift_35 : decode prog_9_method_14_code 35 = .ok (.iconst 4, 1) := by decide +kernel
theorem d_M_shift_36 : decode prog_9_method_14_code 36 = .ok (.iload_n 1, 1) := by decide +kernel
theorem d_M_shift_37 : decode prog_9_method_14_code 37 = .ok (.imul, 1) := by decide +kernel
theorem d_M_shift_38 : decode prog_9_method_14_code 38 = .ok (.iload_n 3, 1) := by decide +kernel
theorem d_M_shift_39 : decode prog_9_method_14_code 39 = .ok (.iadd, 1) := by decide +kernel
theorem d_M_shift_40 : decode prog_9_method_14_code 40 = .ok (.aload_n 0, 1) := by decide +kernel
theorem d_M_shift_41 : decode prog_9_method_14_code 41 = .ok (.getfield 74, 3) := by decide +kernel
theorem d_M_shift_44 : decode prog_9_method_14_code 44 = .ok (.iconst 4, 1) := by decide +kernel
theorem d_M_shift_45 : decode prog_9_method_14_code 45 = .ok (.iload_n 1, 1) := by decide +kernel
theorem d_M_shift_46 : decode prog_9_method_14_code 46 = .ok (.imul, 1) := by decide +kernel
theorem d_M_shift_47 : decode prog_9_method_14_code 47 = .ok (.iload_n 3, 1) := by decide +kernel
theorem d_M_shift_48 : decode prog_9_method_14_code 48 = .ok (.iadd, 1) := by decide +kernel
theorem d_M_shift_49 : decode prog_9_method_14_code 49 = .ok (.iconst 1, 1) := by decide +kernel
theorem d_M_shift_50 : decode prog_9_method_14_code 50 = .ok (.iadd, 1) := by decide +kernel
theorem d_M_shift_51 : decode prog_9_method_14_code 51 = .ok (.iaload, 1) := by decide +kernel
theorem d_M_shift_52 : decode prog_9_method_14_code 52 = .ok (.iastore, 1) := by decide +kernel
theorem d_M_shift_53 : decode prog_9_method_14_code 53 = .ok (.iinc 3 1, 3) := by decide +kernel
theorem d_M_shift_56 : decode prog_9_method_14_code 56 = .ok (.goto (-35), 3) := by decide +kernel
theorem d_M_shift_59 : decode prog_9_method_14_code 59 = .ok (.iload_n 2, 1) := by decide +kernel
theorem d_M_shift_60 : decode prog_9_method_14_code 60 = .ok (.ireturn, 1) := by decide +kernel
theorem d_M_shiftInjector_0 : decode prog_9_method_15_code 0 = .ok (.aload_n 0, 1) := by decide +kernel
theorem d_M_shiftInjector_1 : decode prog_9_method_15_code 1 = .ok (.getfield 80, 3) := by decide +kernel
theorem d_M_shiftInjector_4 : decode prog_9_method_15_code 4 = .ok (.iconst 0, 1) := by decide +kernel
theorem d_M_shiftInjector_5 : decode prog_9_method_15_code 5 = .ok (.iaload, 1) := by decide +kernel
theorem d_M_shiftInjector_6 : decode prog_9_method_15_code 6 = .ok (.istore_n 1, 1) := by decide +kernel
theorem d_M_shiftInjector_7 : decode prog_9_method_15_code 7 = .ok (.aload_n 0, 1) := by decide +kernel
theorem d_M_shiftInjector_8 : decode prog_9_method_15_code 8 = .ok (.dup, 1) := by decide +kernel
theorem d_M_shiftInjector_9 : decode prog_9_method_15_code 9 = .ok (.getfield 119, 3) := by decide +kernel
theorem d_M_shiftInjector_12 : decode prog_9_method_15_code 12 = .ok (.iconst 1, 1) := by decide +kernel
theorem d_M_shiftInjector_13 : decode prog_9_method_15_code 13 = .ok (.isub, 1) := by decide +kernel
theorem d_M_shiftInjector_14 : decode prog_9_method_15_code 14 = .ok (.putfield 119, 3) := by decide +kernel
theorem d_M_shiftInjector_17 : decode prog_9_method_15_code 17 = .ok (.iconst 0, 1) := by decide +kernel
theorem d_M_shiftInjector_18 : decode prog_9_method_15_code 18 = .ok (.istore_n 2, 1) := by decide +kernel
theorem d_M_shiftInjector_19 : decode prog_9_method_15_code 19 = .ok (.iload_n 2, 1) := by decide +kernel
theorem d_M_shiftInjector_20 : decode prog_9_method_15_code 20 = .ok (.aload_n 0, 1) := by decide +kernel
theorem d_M_shiftInjector_21 : decode prog_9_method_15_code 21 = .ok (.getfield 119, 3) := by decide +kernel
theorem d_M_shiftInjector_24 : decode prog_9_method_15_code 24 = .ok (.if_icmp .ge 23, 3) := by decide +kernel
theorem d_M_shiftInjector_27 : decode prog_9_method_15_code 27 = .ok (.aload_n 0, 1) := by decide +kernel
theorem d_M_shiftInjector_28 : decode prog_9_method_15_code 28 = .ok (.getfield 80, 3) := by decide +kernel
theorem d_M_shiftInjector_31 : decode prog_9_method_15_code 31 = .ok (.iload_n 2, 1) := by decide +kernel
theorem d_M_shiftInjector_32 : decode prog_9_method_15_code 32 = .ok (.aload_n 0, 1) := by decide +kernel
theorem d_M_shiftInjector_33 : decode prog_9_method_15_code 33 = .ok (.getfield 80, 3) := by decide +kernel
theorem d_M_shiftInjector_36 : decode prog_9_method_15_code 36 = .ok (.iload_n 2, 1) := by decide +kernel
theorem d_M_shiftInjector_37 : decode prog_9_method_15_code 37 = .ok (.iconst 1, 1) := by decide +kernel
theorem d_M_shiftInjector_38 : decode prog_9_method_15_code 38 = .ok (.iadd, 1) := by decide +kernel
theorem d_M_shiftInjector_39 : decode prog_9_method_15_code 39 = .ok (.iaload, 1) := by decide +kernel
theorem d_M_shiftInjector_40 : decode prog_9_method_15_code 40 = .ok (.iastore, 1) := by decide +kernel
theorem d_M_shiftInjector_41 : decode prog_9_method_15_code 41 = .ok (.iinc 2 1, 3) := by decide +kernel
theorem d_M_shiftInjector_44 : decode prog_9_method_15_code 44 = .ok (.goto (-25), 3) := by decide +kernel
theorem d_M_shiftInjector_47 : decode prog_9_method_15_code 47 = .ok (.iload_n 1, 1) := by decide +kernel
theorem d_M_shiftInjector_48 : decode prog_9_method_15_code 48 = .ok (.ireturn, 1) := by decide +kernel
theorem d_M_wakeUp_0 : decode prog_9_method_16_code 0 = .ok (.aload_n 0, 1) := by decide +kernel
theorem d_M_wakeUp_1 : decode prog_9_method_16_code 1 = .ok (.getfield 19, 3) := by decide +kernel
theorem d_M_wakeUp_4 : decode prog_9_method_16_code 4 = .ok (.iload_n 1, 1) := by decide +kernel
theorem d_M_wakeUp_5 : decode prog_9_method_16_code 5 = .ok (.iaload, 1) := by decide +kernel
theorem d_M_wakeUp_6 : decode prog_9_method_16_code 6 = .ok (.iconst 5, 1) := by decide +kernel
theorem d_M_wakeUp_7 : decode prog_9_method_16_code 7 = .ok (.if_icmp .ne 10, 3) := by decide +kernel
theorem d_M_wakeUp_10 : decode prog_9_method_16_code 10 = .ok (.aload_n 0, 1) := by decide +kernel
theorem d_M_wakeUp_11 : decode prog_9_method_16_code 11 = .ok (.getfield 37, 3) := by decide +kernel
theorem d_M_wakeUp_14 : decode prog_9_method_16_code 14 = .ok (.iload_n 1, 1) := by decide +kernel
theorem d_M_wakeUp_15 : decode prog_9_method_16_code 15 = .ok (.iconst 1, 1) := by decide +kernel
theorem d_M_wakeUp_16 : decode prog_9_method_16_code 16 = .ok (.bastore, 1) := by decide +kernel
theorem d_M_wakeUp_17 : decode prog_9_method_16_code 17 = .ok (.aload_n 0, 1) := by decide +kernel
theorem d_M_wakeUp_18 : decode prog_9_method_16_code 18 = .ok (.getfield 19, 3) := by decide +kernel
theorem d_M_wakeUp_21 : decode prog_9_method_16_code 21 = .ok (.iload_n 1, 1) := by decide +kernel
theorem d_M_wakeUp_22 : decode prog_9_method_16_code 22 = .ok (.iaload, 1) := by decide +kernel
theorem d_M_wakeUp_23 : decode prog_9_method_16_code 23 = .ok (.ifCond .eq 4, 3) := by decide +kernel
theorem d_M_wakeUp_26 : decode prog_9_method_16_code 26 = .ok (.return_, 1) := by decide +kernel
theorem d_M_wakeUp_27 : decode prog_9_method_16_code 27 = .ok (.aload_n 0, 1) := by decide +kernel
theorem d_M_wakeUp_28 : decode prog_9_method_16_code 28 = .ok (.getfield 19, 3) := by decide +kernel
theorem d_M_wakeUp_31 : decode prog_9_method_16_code 31 = .ok (.iload_n 1, 1) := by decide +kernel
theorem d_M_wakeUp_32 : decode prog_9_method_16_code 32 = .ok (.iconst 1, 1) := by decide +kernel
theorem d_M_wakeUp_33 : decode prog_9_method_16_code 33 = .ok (.iastore, 1) := by decide +kernel
theorem d_M_wakeUp_34 : decode prog_9_method_16_code 34 = .ok (.aload_n 0, 1) := by decide +kernel
theorem d_M_wakeUp_35 : decode prog_9_method_16_code 35 = .ok (.getfield 89, 3) := by decide +kernel
theorem d_M_wakeUp_38 : decode prog_9_method_16_code 38 = .ok (.ifCond .ge 9, 3) := by decide +kernel
theorem d_M_wakeUp_41 : decode prog_9_method_16_code 41 = .ok (.aload_n 0, 1) := by decide +kernel
theorem d_M_wakeUp_42 : decode prog_9_method_16_code 42 = .ok (.iload_n 1, 1) := by decide +kernel
theorem d_M_wakeUp_43 : decode prog_9_method_16_code 43 = .ok (.invokevirtual 125, 3) := by decide +kernel
theorem d_M_wakeUp_46 : decode prog_9_method_16_code 46 = .ok (.return_, 1) := by decide +kernel
theorem d_M_wakeUp_47 : decode prog_9_method_16_code 47 = .ok (.aload_n 0, 1) := by decide +kernel
theorem d_M_wakeUp_48 : decode prog_9_method_16_code 48 = .ok (.getfield 65, 3) := by decide +kernel
theorem d_M_wakeUp_51 : decode prog_9_method_16_code 51 = .ok (.aload_n 0, 1) := by decide +kernel
theorem d_M_wakeUp_52 : decode prog_9_method_16_code 52 = .ok (.getfield 89, 3) := by decide +kernel
theorem d_M_wakeUp_55 : decode prog_9_method_16_code 55 = .ok (.iaload, 1) := by decide +kernel
theorem d_M_wakeUp_56 : decode prog_9_method_16_code 56 = .ok (.istore_n 2, 1) := by decide +kernel
theorem d_M_wakeUp_57 : decode prog_9_method_16_code 57 = .ok (.aload_n 0, 1) := by decide +kernel
theorem d_M_wakeUp_58 : decode prog_9_method_16_code 58 = .ok (.getfield 65, 3) := by decide +kernel
theorem d_M_wakeUp_61 : decode prog_9_method_16_code 61 = .ok (.aload_n 0, 1) := by decide +kernel
theorem d_M_wakeUp_62 : decode prog_9_method_16_code 62 = .ok (.getfield 89, 3) := by decide +kernel
theorem d_M_wakeUp_65 : decode prog_9_method_16_code 65 = .ok (.iload_n 1, 1) := by decide +kernel
theorem d_M_wakeUp_66 : decode prog_9_method_16_code 66 = .ok (.iastore, 1) := by decide +kernel
theorem d_M_wakeUp_67 : decode prog_9_method_16_code 67 = .ok (.aload_n 0, 1) := by decide +kernel
theorem d_M_wakeUp_68 : decode prog_9_method_16_code 68 = .ok (.getfield 34, 3) := by decide +kernel
theorem d_M_wakeUp_71 : decode prog_9_method_16_code 71 = .ok (.iload_n 1, 1) := by decide +kernel
theorem d_M_wakeUp_72 : decode prog_9_method_16_code 72 = .ok (.iconst 2, 1) := by decide +kernel
theorem d_M_wakeUp_73 : decode prog_9_method_16_code 73 = .ok (.aload_n 0, 1) := by decide +kernel
theorem d_M_wakeUp_74 : decode prog_9_method_16_code 74 = .ok (.getfield 89, 3) := by decide +kernel
theorem d_M_wakeUp_77 : decode prog_9_method_16_code 77 = .ok (.iadd, 1) := by decide +kernel
theorem d_M_wakeUp_78 : decode prog_9_method_16_code 78 = .ok (.iastore, 1) := by decide +kernel
theorem d_M_wakeUp_79 : decode prog_9_method_16_code 79 = .ok (.iload_n 2, 1) := by decide +kernel
theorem d_M_wakeUp_80 : decode prog_9_method_16_code 80 = .ok (.ifCond .lt 12, 3) := by decide +kernel
theorem d_M_wakeUp_83 : decode prog_9_method_16_code 83 = .ok (.aload_n 0, 1) := by decide +kernel
theorem d_M_wakeUp_84 : decode prog_9_method_16_code 84 = .ok (.iload_n 2, 1) := by decide +kernel
theorem d_M_wakeUp_85 : decode prog_9_method_16_code 85 = .ok (.aload_n 0, 1) := by decide +kernel
theorem d_M_wakeUp_86 : decode prog_9_method_16_code 86 = .ok (.getfield 89, 3) := by decide +kernel
theorem d_M_wakeUp_89 : decode prog_9_method_16_code 89 = .ok (.invokevirtual 128, 3) := by decide +kernel
theorem d_M_wakeUp_92 : decode prog_9_method_16_code 92 = .ok (.return_, 1) := by decide +kernel
theorem d_M_firstAt_0 : decode prog_9_method_17_code 0 = .ok (.iconst (-1), 1) := by decide +kernel
theorem d_M_firstAt_1 : decode prog_9_method_17_code 1 = .ok (.istore_n 3, 1) := by decide +kernel
theorem d_M_firstAt_2 : decode prog_9_method_17_code 2 = .ok (.iconst 0, 1) := by decide +kernel
theorem d_M_firstAt_3 : decode prog_9_method_17_code 3 = .ok (.istore 4, 2) := by decide +kernel
theorem d_M_firstAt_5 : decode prog_9_method_17_code 5 = .ok (.iload 4, 2) := by decide +kernel
theorem d_M_firstAt_7 : decode prog_9_method_17_code 7 = .ok (.bipush 12, 2) := by decide +kernel
theorem d_M_firstAt_9 : decode prog_9_method_17_code 9 = .ok (.aload_n 0, 1) := by decide +kernel
theorem d_M_firstAt_10 : decode prog_9_method_17_code 10 = .ok (.getfield 112, 3) := by decide +kernel
theorem d_M_firstAt_13 : decode prog_9_method_17_code 13 = .ok (.imul, 1) := by decide +kernel
theorem d_M_firstAt_14 : decode prog_9_method_17_code 14 = .ok (.if_icmp .ge 85, 3) := by decide +kernel
theorem d_M_firstAt_17 : decode prog_9_method_17_code 17 = .ok (.iload 4, 2) := by decide +kernel
theorem d_M_firstAt_19 : decode prog_9_method_17_code 19 = .ok (.bipush 12, 2) := by decide +kernel
theorem d_M_firstAt_21 : decode prog_9_method_17_code 21 = .ok (.idiv, 1) := by decide +kernel
theorem d_M_firstAt_22 : decode prog_9_method_17_code 22 = .ok (.istore 5, 2) := by decide +kernel
theorem d_M_firstAt_24 : decode prog_9_method_17_code 24 = .ok (.iload 4, 2) := by decide +kernel
theorem d_M_firstAt_26 : decode prog_9_method_17_code 26 = .ok (.bipush 12, 2) := by decide +kernel
theorem d_M_firstAt_28 : decode prog_9_method_17_code 28 = .ok (.irem, 1) := by decide +kernel
theorem d_M_firstAt_29 : decode prog_9_method_17_code 29 = .ok (.istore 6, 2) := by decide +kernel
theorem d_M_firstAt_31 : decode prog_9_method_17_code 31 = .ok (.aload_n 0, 1) := by decide +kernel
theorem d_M_firstAt_32 : decode prog_9_method_17_code 32 = .ok (.getfield 53, 3) := by decide +kernel
theorem d_M_firstAt_35 : decode prog_9_method_17_code 35 = .ok (.iload 4, 2) := by decide +kernel
theorem d_M_firstAt_37 : decode prog_9_method_17_code 37 = .ok (.baload, 1) := by decide +kernel
theorem d_M_firstAt_38 : decode prog_9_method_17_code 38 = .ok (.ifCond .eq 55, 3) := by decide +kernel
theorem d_M_firstAt_41 : decode prog_9_method_17_code 41 = .ok (.aload_n 0, 1) := by decide +kernel
theorem d_M_firstAt_42 : decode prog_9_method_17_code 42 = .ok (.iload 5, 2) := by decide +kernel
theorem d_M_firstAt_44 : decode prog_9_method_17_code 44 = .ok (.iload 6, 2) := by decide +kernel
theorem d_M_firstAt_46 : decode prog_9_method_17_code 46 = .ok (.invokevirtual 108, 3) := by decide +kernel
theorem d_M_firstAt_49 : decode prog_9_method_17_code 49 = .ok (.iload_n 1, 1) := by decide +kernel
theorem d_M_firstAt_50 : decode prog_9_method_17_code 50 = .ok (.if_icmp .ne 43, 3) := by decide +kernel
theorem d_M_firstAt_53 : decode prog_9_method_17_code 53 = .ok (.aload_n 0, 1) := by decide +kernel
theorem d_M_firstAt_54 : decode prog_9_method_17_code 54 = .ok (.iload 5, 2) := by decide +kernel
theorem d_M_firstAt_56 : decode prog_9_method_17_code 56 = .ok (.iload 6, 2) := by decide +kernel
theorem d_M_firstAt_58 : decode prog_9_method_17_code 58 = .ok (.invokevirtual 132, 3) := by decide +kernel
theorem d_M_firstAt_61 : decode prog_9_method_17_code 61 = .ok (.iconst 2, 1) := by decide +kernel
theorem d_M_firstAt_62 : decode prog_9_method_17_code 62 = .ok (.irem, 1) := by decide +kernel
theorem d_M_firstAt_63 : decode prog_9_method_17_code 63 = .ok (.iload_n 2, 1) := by decide +kernel
theorem d_M_firstAt_64 : decode prog_9_method_17_code 64 = .ok (.if_icmp .eq 6, 3) := by decide +kernel
theorem d_M_firstAt_67 : decode prog_9_method_17_code 67 = .ok (.goto 26, 3) := by decide +kernel
theorem d_M_firstAt_70 : decode prog_9_method_17_code 70 = .ok (.iload_n 3, 1) := by decide +kernel
theorem d_M_firstAt_71 : decode prog_9_method_17_code 71 = .ok (.ifCond .lt 19, 3) := by decide +kernel
theorem d_M_firstAt_74 : decode prog_9_method_17_code 74 = .ok (.aload_n 0, 1) := by decide +kernel
theorem d_M_firstAt_75 : decode prog_9_method_17_code 75 = .ok (.getfield 50, 3) := by decide +kernel
theorem d_M_firstAt_78 : decode prog_9_method_17_code 78 = .ok (.iload 4, 2) := by decide +kernel
theorem d_M_firstAt_80 : decode prog_9_method_17_code 80 = .ok (.iaload, 1) := by decide +kernel
theorem d_M_firstAt_81 : decode prog_9_method_17_code 81 = .ok (.aload_n 0, 1) := by decide +kernel
theorem d_M_firstAt_82 : decode prog_9_method_17_code 82 = .ok (.getfield 50, 3) := by decide +kernel
theorem d_M_firstAt_85 : decode prog_9_method_17_code 85 = .ok (.iload_n 3, 1) := by decide +kernel
theorem d_M_firstAt_86 : decode prog_9_method_17_code 86 = .ok (.iaload, 1) := by decide +kernel
theorem d_M_firstAt_87 : decode prog_9_method_17_code 87 = .ok (.if_icmp .ge 6, 3) := by decide +kernel
theorem d_M_firstAt_90 : decode prog_9_method_17_code 90 = .ok (.iload 4, 2) := by decide +kernel
theorem d_M_firstAt_92 : decode prog_9_method_17_code 92 = .ok (.istore_n 3, 1) := by decide +kernel
theorem d_M_firstAt_93 : decode prog_9_method_17_code 93 = .ok (.iinc 4 1, 3) := by decide +kernel
theorem d_M_firstAt_96 : decode prog_9_method_17_code 96 = .ok (.goto (-91), 3) := by decide +kernel
theorem d_M_firstAt_99 : decode prog_9_method_17_code 99 = .ok (.iload_n 3, 1) := by decide +kernel
theorem d_M_firstAt_100 : decode prog_9_method_17_code 100 = .ok (.ireturn, 1) := by decide +kernel
theorem d_M_waiting_0 : decode prog_9_method_18_code 0 = .ok (.iconst 0, 1) := by decide +kernel
theorem d_M_waiting_1 : decode prog_9_method_18_code 1 = .ok (.istore_n 3, 1) := by decide +kernel
theorem d_M_waiting_2 : decode prog_9_method_18_code 2 = .ok (.iconst 0, 1) := by decide +kernel
theorem d_M_waiting_3 : decode prog_9_method_18_code 3 = .ok (.istore 4, 2) := by decide +kernel
theorem d_M_waiting_5 : decode prog_9_method_18_code 5 = .ok (.iload 4, 2) := by decide +kernel
theorem d_M_waiting_7 : decode prog_9_method_18_code 7 = .ok (.bipush 12, 2) := by decide +kernel
theorem d_M_waiting_9 : decode prog_9_method_18_code 9 = .ok (.aload_n 0, 1) := by decide +kernel
theorem d_M_waiting_10 : decode prog_9_method_18_code 10 = .ok (.getfield 112, 3) := by decide +kernel
theorem d_M_waiting_13 : decode prog_9_method_18_code 13 = .ok (.imul, 1) := by decide +kernel
theorem d_M_waiting_14 : decode prog_9_method_18_code 14 = .ok (.if_icmp .ge 60, 3) := by decide +kernel
theorem d_M_waiting_17 : decode prog_9_method_18_code 17 = .ok (.aload_n 0, 1) := by decide +kernel
theorem d_M_waiting_18 : decode prog_9_method_18_code 18 = .ok (.getfield 53, 3) := by decide +kernel
theorem d_M_waiting_21 : decode prog_9_method_18_code 21 = .ok (.iload 4, 2) := by decide +kernel
theorem d_M_waiting_23 : decode prog_9_method_18_code 23 = .ok (.baload, 1) := by decide +kernel
theorem d_M_waiting_24 : decode prog_9_method_18_code 24 = .ok (.ifCond .eq 44, 3) := by decide +kernel
theorem d_M_waiting_27 : decode prog_9_method_18_code 27 = .ok (.aload_n 0, 1) := by decide +kernel
theorem d_M_waiting_28 : decode prog_9_method_18_code 28 = .ok (.iload 4, 2) := by decide +kernel
theorem d_M_waiting_30 : decode prog_9_method_18_code 30 = .ok (.bipush 12, 2) := by decide +kernel
theorem d_M_waiting_32 : decode prog_9_method_18_code 32 = .ok (.idiv, 1) := by decide +kernel
theorem d_M_waiting_33 : decode prog_9_method_18_code 33 = .ok (.iload 4, 2) := by decide +kernel
theorem d_M_waiting_35 : decode prog_9_method_18_code 35 = .ok (.bipush 12, 2) := by decide +kernel
theorem d_M_waiting_37 : decode prog_9_method_18_code 37 = .ok (.irem, 1) := by decide +kernel
theorem d_M_waiting_38 : decode prog_9_method_18_code 38 = .ok (.invokevirtual 108, 3) := by decide +kernel
theorem d_M_waiting_41 : decode prog_9_method_18_code 41 = .ok (.iload_n 1, 1) := by decide +kernel
theorem d_M_waiting_42 : decode prog_9_method_18_code 42 = .ok (.if_icmp .ne 26, 3) := by decide +kernel
theorem d_M_waiting_45 : decode prog_9_method_18_code 45 = .ok (.aload_n 0, 1) := by decide +kernel
theorem d_M_waiting_46 : decode prog_9_method_18_code 46 = .ok (.iload 4, 2) := by decide +kernel
theorem d_M_waiting_48 : decode prog_9_method_18_code 48 = .ok (.bipush 12, 2) := by decide +kernel
theorem d_M_waiting_50 : decode prog_9_method_18_code 50 = .ok (.idiv, 1) := by decide +kernel
theorem d_M_waiting_51 : decode prog_9_method_18_code 51 = .ok (.iload 4, 2) := by decide +kernel
theorem d_M_waiting_53 : decode prog_9_method_18_code 53 = .ok (.bipush 12, 2) := by decide +kernel
theorem d_M_waiting_55 : decode prog_9_method_18_code 55 = .ok (.irem, 1) := by decide +kernel
theorem d_M_waiting_56 : decode prog_9_method_18_code 56 = .ok (.invokevirtual 132, 3) := by decide +kernel
theorem d_M_waiting_59 : decode prog_9_method_18_code 59 = .ok (.iconst 2, 1) := by decide +kernel
theorem d_M_waiting_60 : decode prog_9_method_18_code 60 = .ok (.irem, 1) := by decide +kernel
theorem d_M_waiting_61 : decode prog_9_method_18_code 61 = .ok (.iload_n 2, 1) := by decide +kernel
theorem d_M_waiting_62 : decode prog_9_method_18_code 62 = .ok (.if_icmp .ne 6, 3) := by decide +kernel
theorem d_M_waiting_65 : decode prog_9_method_18_code 65 = .ok (.iinc 3 1, 3) := by decide +kernel
theorem d_M_waiting_68 : decode prog_9_method_18_code 68 = .ok (.iinc 4 1, 3) := by decide +kernel
theorem d_M_waiting_71 : decode prog_9_method_18_code 71 = .ok (.goto (-66), 3) := by decide +kernel
theorem d_M_waiting_74 : decode prog_9_method_18_code 74 = .ok (.iload_n 3, 1) := by decide +kernel
theorem d_M_waiting_75 : decode prog_9_method_18_code 75 = .ok (.ireturn, 1) := by decide +kernel
theorem d_M_wants_0 : decode prog_9_method_19_code 0 = .ok (.iconst 1, 1) := by decide +kernel
theorem d_M_wants_1 : decode prog_9_method_19_code 1 = .ok (.iload_n 0, 1) := by decide +kernel
theorem d_M_wants_2 : decode prog_9_method_19_code 2 = .ok (.iconst 2, 1) := by decide +kernel
theorem d_M_wants_3 : decode prog_9_method_19_code 3 = .ok (.idiv, 1) := by decide +kernel
theorem d_M_wants_4 : decode prog_9_method_19_code 4 = .ok (.iadd, 1) := by decide +kernel
theorem d_M_wants_5 : decode prog_9_method_19_code 5 = .ok (.ireturn, 1) := by decide +kernel
theorem d_M_add_0 : decode prog_9_method_20_code 0 = .ok (.iload_n 2, 1) := by decide +kernel
theorem d_M_add_1 : decode prog_9_method_20_code 1 = .ok (.istore_n 3, 1) := by decide +kernel
theorem d_M_add_2 : decode prog_9_method_20_code 2 = .ok (.aload_n 0, 1) := by decide +kernel
theorem d_M_add_3 : decode prog_9_method_20_code 3 = .ok (.iconst 3, 1) := by decide +kernel
theorem d_M_add_4 : decode prog_9_method_20_code 4 = .ok (.iload_n 1, 1) := by decide +kernel
theorem d_M_add_5 : decode prog_9_method_20_code 5 = .ok (.invokevirtual 135, 3) := by decide +kernel
theorem d_M_add_8 : decode prog_9_method_20_code 8 = .ok (.istore 4, 2) := by decide +kernel
theorem d_M_add_10 : decode prog_9_method_20_code 10 = .ok (.iload_n 3, 1) := by decide +kernel
theorem d_M_add_11 : decode prog_9_method_20_code 11 = .ok (.ifCond .le 117, 3) := by decide +kernel
theorem d_M_add_14 : decode prog_9_method_20_code 14 = .ok (.iload 4, 2) := by decide +kernel
theorem d_M_add_16 : decode prog_9_method_20_code 16 = .ok (.ifCond .lt 112, 3) := by decide +kernel
theorem d_M_add_19 : decode prog_9_method_20_code 19 = .ok (.aload_n 0, 1) := by decide +kernel
theorem d_M_add_20 : decode prog_9_method_20_code 20 = .ok (.iload 4, 2) := by decide +kernel
theorem d_M_add_22 : decode prog_9_method_20_code 22 = .ok (.bipush 12, 2) := by decide +kernel
theorem d_M_add_24 : decode prog_9_method_20_code 24 = .ok (.idiv, 1) := by decide +kernel
theorem d_M_add_25 : decode prog_9_method_20_code 25 = .ok (.iload 4, 2) := by decide +kernel
theorem d_M_add_27 : decode prog_9_method_20_code 27 = .ok (.bipush 12, 2) := by decide +kernel
theorem d_M_add_29 : decode prog_9_method_20_code 29 = .ok (.irem, 1) := by decide +kernel
theorem d_M_add_30 : decode prog_9_method_20_code 30 = .ok (.invokevirtual 132, 3) := by decide +kernel
theorem d_M_add_33 : decode prog_9_method_20_code 33 = .ok (.invokestatic 138, 3) := by decide +kernel
theorem d_M_add_36 : decode prog_9_method_20_code 36 = .ok (.aload_n 0, 1) := by decide +kernel
theorem d_M_add_37 : decode prog_9_method_20_code 37 = .ok (.getfield 47, 3) := by decide +kernel
theorem d_M_add_40 : decode prog_9_method_20_code 40 = .ok (.iload 4, 2) := by decide +kernel
theorem d_M_add_42 : decode prog_9_method_20_code 42 = .ok (.iaload, 1) := by decide +kernel
theorem d_M_add_43 : decode prog_9_method_20_code 43 = .ok (.isub, 1) := by decide +kernel
theorem d_M_add_44 : decode prog_9_method_20_code 44 = .ok (.istore 5, 2) := by decide +kernel
theorem d_M_add_46 : decode prog_9_method_20_code 46 = .ok (.iload 5, 2) := by decide +kernel
theorem d_M_add_48 : decode prog_9_method_20_code 48 = .ok (.iload_n 3, 1) := by decide +kernel
theorem d_M_add_49 : decode prog_9_method_20_code 49 = .ok (.if_icmp .ge 8, 3) := by decide +kernel
theorem d_M_add_52 : decode prog_9_method_20_code 52 = .ok (.iload 5, 2) := by decide +kernel
theorem d_M_add_54 : decode prog_9_method_20_code 54 = .ok (.goto 4, 3) := by decide +kernel
theorem d_M_add_57 : decode prog_9_method_20_code 57 = .ok (.iload_n 3, 1) := by decide +kernel
theorem d_M_add_58 : decode prog_9_method_20_code 58 = .ok (.istore 6, 2) := by decide +kernel
theorem d_M_add_60 : decode prog_9_method_20_code 60 = .ok (.aload_n 0, 1) := by decide +kernel
theorem d_M_add_61 : decode prog_9_method_20_code 61 = .ok (.getfield 47, 3) := by decide +kernel
theorem d_M_add_64 : decode prog_9_method_20_code 64 = .ok (.iload 4, 2) := by decide +kernel
theorem d_M_add_66 : decode prog_9_method_20_code 66 = .ok (.dup2, 1) := by decide +kernel
theorem d_M_add_67 : decode prog_9_method_20_code 67 = .ok (.iaload, 1) := by decide +kernel
theorem d_M_add_68 : decode prog_9_method_20_code 68 = .ok (.iload 6, 2) := by decide +kernel
theorem d_M_add_70 : decode prog_9_method_20_code 70 = .ok (.iadd, 1) := by decide +kernel
theorem d_M_add_71 : decode prog_9_method_20_code 71 = .ok (.iastore, 1) := by decide +kernel
theorem d_M_add_72 : decode prog_9_method_20_code 72 = .ok (.iload_n 3, 1) := by decide +kernel
theorem d_M_add_73 : decode prog_9_method_20_code 73 = .ok (.iload 6, 2) := by decide +kernel
theorem d_M_add_75 : decode prog_9_method_20_code 75 = .ok (.isub, 1) := by decide +kernel
theorem d_M_add_76 : decode prog_9_method_20_code 76 = .ok (.istore_n 3, 1) := by decide +kernel
theorem d_M_add_77 : decode prog_9_method_20_code 77 = .ok (.iload 6, 2) := by decide +kernel
theorem d_M_add_79 : decode prog_9_method_20_code 79 = .ok (.iload 5, 2) := by decide +kernel
theorem d_M_add_81 : decode prog_9_method_20_code 81 = .ok (.if_icmp .ne 28, 3) := by decide +kernel
theorem d_M_add_84 : decode prog_9_method_20_code 84 = .ok (.aload_n 0, 1) := by decide +kernel
theorem d_M_add_85 : decode prog_9_method_20_code 85 = .ok (.getfield 53, 3) := by decide +kernel
theorem d_M_add_88 : decode prog_9_method_20_code 88 = .ok (.iload 4, 2) := by decide +kernel
theorem d_M_add_90 : decode prog_9_method_20_code 90 = .ok (.iconst 0, 1) := by decide +kernel
theorem d_M_add_91 : decode prog_9_method_20_code 91 = .ok (.bastore, 1) := by decide +kernel
theorem d_M_add_92 : decode prog_9_method_20_code 92 = .ok (.aload_n 0, 1) := by decide +kernel
theorem d_M_add_93 : decode prog_9_method_20_code 93 = .ok (.getfield 56, 3) := by decide +kernel
theorem d_M_add_96 : decode prog_9_method_20_code 96 = .ok (.iload 4, 2) := by decide +kernel
theorem d_M_add_98 : decode prog_9_method_20_code 98 = .ok (.iconst 1, 1) := by decide +kernel
theorem d_M_add_99 : decode prog_9_method_20_code 99 = .ok (.bastore, 1) := by decide +kernel
theorem d_M_add_100 : decode prog_9_method_20_code 100 = .ok (.aload_n 0, 1) := by decide +kernel
theorem d_M_add_101 : decode prog_9_method_20_code 101 = .ok (.iload 4, 2) := by decide +kernel
theorem d_M_add_103 : decode prog_9_method_20_code 103 = .ok (.bipush 12, 2) := by decide +kernel
theorem d_M_add_105 : decode prog_9_method_20_code 105 = .ok (.idiv, 1) := by decide +kernel
theorem d_M_add_106 : decode prog_9_method_20_code 106 = .ok (.invokevirtual 115, 3) := by decide +kernel
theorem d_M_add_109 : decode prog_9_method_20_code 109 = .ok (.iload_n 3, 1) := by decide +kernel
theorem d_M_add_110 : decode prog_9_method_20_code 110 = .ok (.ifCond .le 12, 3) := by decide +kernel
theorem d_M_add_113 : decode prog_9_method_20_code 113 = .ok (.aload_n 0, 1) := by decide +kernel
theorem d_M_add_114 : decode prog_9_method_20_code 114 = .ok (.iconst 3, 1) := by decide +kernel
theorem d_M_add_115 : decode prog_9_method_20_code 115 = .ok (.iload_n 1, 1) := by decide +kernel
theorem d_M_add_116 : decode prog_9_method_20_code 116 = .ok (.invokevirtual 135, 3) := by decide +kernel
theorem d_M_add_119 : decode prog_9_method_20_code 119 = .ok (.goto 4, 3) := by decide +kernel
theorem d_M_add_122 : decode prog_9_method_20_code 122 = .ok (.iconst (-1), 1) := by decide +kernel
theorem d_M_add_123 : decode prog_9_method_20_code 123 = .ok (.istore 4, 2) := by decide +kernel
theorem d_M_add_125 : decode prog_9_method_20_code 125 = .ok (.goto (-115), 3) := by decide +kernel
theorem d_M_add_128 : decode prog_9_method_20_code 128 = .ok (.aload_n 0, 1) := by decide +kernel
theorem d_M_add_129 : decode prog_9_method_20_code 129 = .ok (.getfield 83, 3) := by decide +kernel
theorem d_M_add_132 : decode prog_9_method_20_code 132 = .ok (.iload_n 1, 1) := by decide +kernel
theorem d_M_add_133 : decode prog_9_method_20_code 133 = .ok (.dup2, 1) := by decide +kernel
theorem d_M_add_134 : decode prog_9_method_20_code 134 = .ok (.iaload, 1) := by decide +kernel
theorem d_M_add_135 : decode prog_9_method_20_code 135 = .ok (.iload_n 3, 1) := by decide +kernel
theorem d_M_add_136 : decode prog_9_method_20_code 136 = .ok (.iadd, 1) := by decide +kernel
theorem d_M_add_137 : decode prog_9_method_20_code 137 = .ok (.iastore, 1) := by decide +kernel
theorem d_M_add_138 : decode prog_9_method_20_code 138 = .ok (.return_, 1) := by decide +kernel
theorem d_M_give_0 : decode prog_9_method_21_code 0 = .ok (.aload_n 0, 1) := by decide +kernel
theorem d_M_give_1 : decode prog_9_method_21_code 1 = .ok (.iconst 5, 1) := by decide +kernel
theorem d_M_give_2 : decode prog_9_method_21_code 2 = .ok (.iload_n 1, 1) := by decide +kernel
theorem d_M_give_3 : decode prog_9_method_21_code 3 = .ok (.invokevirtual 135, 3) := by decide +kernel
theorem d_M_give_6 : decode prog_9_method_21_code 6 = .ok (.istore_n 2, 1) := by decide +kernel
theorem d_M_give_7 : decode prog_9_method_21_code 7 = .ok (.iload_n 2, 1) := by decide +kernel
theorem d_M_give_8 : decode prog_9_method_21_code 8 = .ok (.ifCond .ge 13, 3) := by decide +kernel
theorem d_M_give_11 : decode prog_9_method_21_code 11 = .ok (.aload_n 0, 1) := by decide +kernel
theorem d_M_give_12 : decode prog_9_method_21_code 12 = .ok (.getfield 86, 3) := by decide +kernel
theorem d_M_give_15 : decode prog_9_method_21_code 15 = .ok (.iload_n 1, 1) := by decide +kernel
theorem d_M_give_16 : decode prog_9_method_21_code 16 = .ok (.iconst 1, 1) := by decide +kernel
theorem d_M_give_17 : decode prog_9_method_21_code 17 = .ok (.bastore, 1) := by decide +kernel
theorem d_M_give_18 : decode prog_9_method_21_code 18 = .ok (.goto 25, 3) := by decide +kernel
theorem d_M_give_21 : decode prog_9_method_21_code 21 = .ok (.aload_n 0, 1) := by decide +kernel
theorem d_M_give_22 : decode prog_9_method_21_code 22 = .ok (.getfield 53, 3) := by decide +kernel
theorem d_M_give_25 : decode prog_9_method_21_code 25 = .ok (.iload_n 2, 1) := by decide +kernel
theorem d_M_give_26 : decode prog_9_method_21_code 26 = .ok (.iconst 0, 1) := by decide +kernel
theorem d_M_give_27 : decode prog_9_method_21_code 27 = .ok (.bastore, 1) := by decide +kernel
theorem d_M_give_28 : decode prog_9_method_21_code 28 = .ok (.aload_n 0, 1) := by decide +kernel
theorem d_M_give_29 : decode prog_9_method_21_code 29 = .ok (.getfield 56, 3) := by decide +kernel
theorem d_M_give_32 : decode prog_9_method_21_code 32 = .ok (.iload_n 2, 1) := by decide +kernel
theorem d_M_give_33 : decode prog_9_method_21_code 33 = .ok (.iconst 1, 1) := by decide +kernel
theorem d_M_give_34 : decode prog_9_method_21_code 34 = .ok (.bastore, 1) := by decide +kernel
theorem d_M_give_35 : decode prog_9_method_21_code 35 = .ok (.aload_n 0, 1) := by decide +kernel
theorem d_M_give_36 : decode prog_9_method_21_code 36 = .ok (.iload_n 2, 1) := by decide +kernel
theorem d_M_give_37 : decode prog_9_method_21_code 37 = .ok (.bipush 12, 2) := by decide +kernel
theorem d_M_give_39 : decode prog_9_method_21_code 39 = .ok (.idiv, 1) := by decide +kernel
theorem d_M_give_40 : decode prog_9_method_21_code 40 = .ok (.invokevirtual 115, 3) := by decide +kernel
theorem d_M_give_43 : decode prog_9_method_21_code 43 = .ok (.iload_n 2, 1) := by decide +kernel
theorem d_M_give_44 : decode prog_9_method_21_code 44 = .ok (.ifCond .lt 7, 3) := by decide +kernel
theorem d_M_give_47 : decode prog_9_method_21_code 47 = .ok (.iconst 1, 1) := by decide +kernel
theorem d_M_give_48 : decode prog_9_method_21_code 48 = .ok (.goto 4, 3) := by decide +kernel
theorem d_M_give_51 : decode prog_9_method_21_code 51 = .ok (.iconst 0, 1) := by decide +kernel
theorem d_M_give_52 : decode prog_9_method_21_code 52 = .ok (.ireturn, 1) := by decide +kernel
theorem d_M_drop_0 : decode prog_9_method_22_code 0 = .ok (.aload_n 0, 1) := by decide +kernel
theorem d_M_drop_1 : decode prog_9_method_22_code 1 = .ok (.iload_n 1, 1) := by decide +kernel
theorem d_M_drop_2 : decode prog_9_method_22_code 2 = .ok (.iload_n 2, 1) := by decide +kernel
theorem d_M_drop_3 : decode prog_9_method_22_code 3 = .ok (.invokevirtual 141, 3) := by decide +kernel
theorem d_M_drop_6 : decode prog_9_method_22_code 6 = .ok (.istore_n 3, 1) := by decide +kernel
theorem d_M_drop_7 : decode prog_9_method_22_code 7 = .ok (.iload_n 2, 1) := by decide +kernel
theorem d_M_drop_8 : decode prog_9_method_22_code 8 = .ok (.istore 4, 2) := by decide +kernel
theorem d_M_drop_10 : decode prog_9_method_22_code 10 = .ok (.iload 4, 2) := by decide +kernel
theorem d_M_drop_12 : decode prog_9_method_22_code 12 = .ok (.iload_n 3, 1) := by decide +kernel
theorem d_M_drop_13 : decode prog_9_method_22_code 13 = .ok (.if_icmp .ge 164, 3) := by decide +kernel
theorem d_M_drop_16 : decode prog_9_method_22_code 16 = .ok (.bipush 12, 2) := by decide +kernel
theorem d_M_drop_18 : decode prog_9_method_22_code 18 = .ok (.iload_n 1, 1) := by decide +kernel
theorem d_M_drop_19 : decode prog_9_method_22_code 19 = .ok (.imul, 1) := by decide +kernel
theorem d_M_drop_20 : decode prog_9_method_22_code 20 = .ok (.iload 4, 2) := by decide +kernel
theorem d_M_drop_22 : decode prog_9_method_22_code 22 = .ok (.iadd, 1) := by decide +kernel
theorem d_M_drop_23 : decode prog_9_method_22_code 23 = .ok (.istore 5, 2) := by decide +kernel
theorem d_M_drop_25 : decode prog_9_method_22_code 25 = .ok (.aload_n 0, 1) := by decide +kernel
theorem d_M_drop_26 : decode prog_9_method_22_code 26 = .ok (.iload_n 1, 1) := by decide +kernel
theorem d_M_drop_27 : decode prog_9_method_22_code 27 = .ok (.iload 4, 2) := by decide +kernel
theorem d_M_drop_29 : decode prog_9_method_22_code 29 = .ok (.invokevirtual 108, 3) := by decide +kernel
theorem d_M_drop_32 : decode prog_9_method_22_code 32 = .ok (.istore 6, 2) := by decide +kernel
theorem d_M_drop_34 : decode prog_9_method_22_code 34 = .ok (.aload_n 0, 1) := by decide +kernel
theorem d_M_drop_35 : decode prog_9_method_22_code 35 = .ok (.iload_n 1, 1) := by decide +kernel
theorem d_M_drop_36 : decode prog_9_method_22_code 36 = .ok (.iload 4, 2) := by decide +kernel
theorem d_M_drop_38 : decode prog_9_method_22_code 38 = .ok (.invokevirtual 132, 3) := by decide +kernel
theorem d_M_drop_41 : decode prog_9_method_22_code 41 = .ok (.iconst 2, 1) := by decide +kernel
theorem d_M_drop_42 : decode prog_9_method_22_code 42 = .ok (.irem, 1) := by decide +kernel
theorem d_M_drop_43 : decode prog_9_method_22_code 43 = .ok (.istore 7, 2) := by decide +kernel
theorem d_M_drop_45 : decode prog_9_method_22_code 45 = .ok (.aload_n 0, 1) := by decide +kernel
theorem d_M_drop_46 : decode prog_9_method_22_code 46 = .ok (.getfield 41, 3) := by decide +kernel
theorem d_M_drop_49 : decode prog_9_method_22_code 49 = .ok (.iload 5, 2) := by decide +kernel
theorem d_M_drop_51 : decode prog_9_method_22_code 51 = .ok (.iaload, 1) := by decide +kernel
theorem d_M_drop_52 : decode prog_9_method_22_code 52 = .ok (.iconst 1, 1) := by decide +kernel
theorem d_M_drop_53 : decode prog_9_method_22_code 53 = .ok (.if_icmp .eq 6, 3) := by decide +kernel
theorem d_M_drop_56 : decode prog_9_method_22_code 56 = .ok (.goto 115, 3) := by decide +kernel
theorem d_M_drop_59 : decode prog_9_method_22_code 59 = .ok (.aload_n 0, 1) := by decide +kernel
theorem d_M_drop_60 : decode prog_9_method_22_code 60 = .ok (.getfield 41, 3) := by decide +kernel
theorem d_M_drop_63 : decode prog_9_method_22_code 63 = .ok (.iload 5, 2) := by decide +kernel
theorem d_M_drop_65 : decode prog_9_method_22_code 65 = .ok (.iconst 4, 1) := by decide +kernel
theorem d_M_drop_66 : decode prog_9_method_22_code 66 = .ok (.iastore, 1) := by decide +kernel
theorem d_M_drop_67 : decode prog_9_method_22_code 67 = .ok (.aload_n 0, 1) := by decide +kernel
theorem d_M_drop_68 : decode prog_9_method_22_code 68 = .ok (.getfield 56, 3) := by decide +kernel
theorem d_M_drop_71 : decode prog_9_method_22_code 71 = .ok (.iload 5, 2) := by decide +kernel
theorem d_M_drop_73 : decode prog_9_method_22_code 73 = .ok (.baload, 1) := by decide +kernel
theorem d_M_drop_74 : decode prog_9_method_22_code 74 = .ok (.ifCond .ne 19, 3) := by decide +kernel
theorem d_M_drop_77 : decode prog_9_method_22_code 77 = .ok (.aload_n 0, 1) := by decide +kernel
theorem d_M_drop_78 : decode prog_9_method_22_code 78 = .ok (.getfield 53, 3) := by decide +kernel
theorem d_M_drop_81 : decode prog_9_method_22_code 81 = .ok (.iload 5, 2) := by decide +kernel
theorem d_M_drop_83 : decode prog_9_method_22_code 83 = .ok (.baload, 1) := by decide +kernel
theorem d_M_drop_84 : decode prog_9_method_22_code 84 = .ok (.ifCond .eq 13, 3) := by decide +kernel
theorem d_M_drop_87 : decode prog_9_method_22_code 87 = .ok (.iload 6, 2) := by decide +kernel
theorem d_M_drop_89 : decode prog_9_method_22_code 89 = .ok (.iconst 3, 1) := by decide +kernel
theorem d_M_drop_90 : decode prog_9_method_22_code 90 = .ok (.if_icmp .ne 7, 3) := by decide +kernel
theorem d_M_drop_93 : decode prog_9_method_22_code 93 = .ok (.iconst 1, 1) := by decide +kernel
theorem d_M_drop_94 : decode prog_9_method_22_code 94 = .ok (.goto 4, 3) := by decide +kernel
theorem d_M_drop_97 : decode prog_9_method_22_code 97 = .ok (.iconst 0, 1) := by decide +kernel
theorem d_M_drop_98 : decode prog_9_method_22_code 98 = .ok (.istore 8, 2) := by decide +kernel
theorem d_M_drop_100 : decode prog_9_method_22_code 100 = .ok (.aload_n 0, 1) := by decide +kernel
theorem d_M_drop_101 : decode prog_9_method_22_code 101 = .ok (.getfield 47, 3) := by decide +kernel
theorem d_M_drop_104 : decode prog_9_method_22_code 104 = .ok (.iload 5, 2) := by decide +kernel
theorem d_M_drop_106 : decode prog_9_method_22_code 106 = .ok (.iaload, 1) := by decide +kernel
theorem d_M_drop_107 : decode prog_9_method_22_code 107 = .ok (.istore 9, 2) := by decide +kernel
theorem d_M_drop_109 : decode prog_9_method_22_code 109 = .ok (.aload_n 0, 1) := by decide +kernel
theorem d_M_drop_110 : decode prog_9_method_22_code 110 = .ok (.getfield 56, 3) := by decide +kernel
theorem d_M_drop_113 : decode prog_9_method_22_code 113 = .ok (.iload 5, 2) := by decide +kernel
theorem d_M_drop_115 : decode prog_9_method_22_code 115 = .ok (.baload, 1) := by decide +kernel
theorem d_M_drop_116 : decode prog_9_method_22_code 116 = .ok (.istore 10, 2) := by decide +kernel
theorem d_M_drop_118 : decode prog_9_method_22_code 118 = .ok (.aload_n 0, 1) := by decide +kernel
theorem d_M_drop_119 : decode prog_9_method_22_code 119 = .ok (.getfield 56, 3) := by decide +kernel
theorem d_M_drop_122 : decode prog_9_method_22_code 122 = .ok (.iload 5, 2) := by decide +kernel
theorem d_M_drop_124 : decode prog_9_method_22_code 124 = .ok (.iconst 0, 1) := by decide +kernel
theorem d_M_drop_125 : decode prog_9_method_22_code 125 = .ok (.bastore, 1) := by decide +kernel
theorem d_M_drop_126 : decode prog_9_method_22_code 126 = .ok (.aload_n 0, 1) := by decide +kernel
theorem d_M_drop_127 : decode prog_9_method_22_code 127 = .ok (.getfield 53, 3) := by decide +kernel
theorem d_M_drop_130 : decode prog_9_method_22_code 130 = .ok (.iload 5, 2) := by decide +kernel
theorem d_M_drop_132 : decode prog_9_method_22_code 132 = .ok (.iconst 0, 1) := by decide +kernel
theorem d_M_drop_133 : decode prog_9_method_22_code 133 = .ok (.bastore, 1) := by decide +kernel
theorem d_M_drop_134 : decode prog_9_method_22_code 134 = .ok (.iload 6, 2) := by decide +kernel
theorem d_M_drop_136 : decode prog_9_method_22_code 136 = .ok (.iconst 3, 1) := by decide +kernel
theorem d_M_drop_137 : decode prog_9_method_22_code 137 = .ok (.if_icmp .ne 16, 3) := by decide +kernel
theorem d_M_drop_140 : decode prog_9_method_22_code 140 = .ok (.iload 8, 2) := by decide +kernel
theorem d_M_drop_142 : decode prog_9_method_22_code 142 = .ok (.ifCond .eq 11, 3) := by decide +kernel
theorem d_M_drop_145 : decode prog_9_method_22_code 145 = .ok (.aload_n 0, 1) := by decide +kernel
theorem d_M_drop_146 : decode prog_9_method_22_code 146 = .ok (.iload 7, 2) := by decide +kernel
theorem d_M_drop_148 : decode prog_9_method_22_code 148 = .ok (.iload 9, 2) := by decide +kernel
theorem d_M_drop_150 : decode prog_9_method_22_code 150 = .ok (.invokevirtual 144, 3) := by decide +kernel
theorem d_M_drop_153 : decode prog_9_method_22_code 153 = .ok (.iload 6, 2) := by decide +kernel
theorem d_M_drop_155 : decode prog_9_method_22_code 155 = .ok (.iconst 5, 1) := by decide +kernel
theorem d_M_drop_156 : decode prog_9_method_22_code 156 = .ok (.if_icmp .ne 15, 3) := by decide +kernel
theorem d_M_drop_159 : decode prog_9_method_22_code 159 = .ok (.iload 10, 2) := by decide +kernel
theorem d_M_drop_161 : decode prog_9_method_22_code 161 = .ok (.ifCond .eq 10, 3) := by decide +kernel
theorem d_M_drop_164 : decode prog_9_method_22_code 164 = .ok (.aload_n 0, 1) := by decide +kernel
theorem d_M_drop_165 : decode prog_9_method_22_code 165 = .ok (.iload 7, 2) := by decide +kernel
theorem d_M_drop_167 : decode prog_9_method_22_code 167 = .ok (.invokevirtual 147, 3) := by decide +kernel
theorem d_M_drop_170 : decode prog_9_method_22_code 170 = .ok (.pop, 1) := by decide +kernel
theorem d_M_drop_171 : decode prog_9_method_22_code 171 = .ok (.iinc 4 1, 3) := by decide +kernel
theorem d_M_drop_174 : decode prog_9_method_22_code 174 = .ok (.goto (-164), 3) := by decide +kernel
theorem d_M_drop_177 : decode prog_9_method_22_code 177 = .ok (.return_, 1) := by decide +kernel
theorem d_M_ready_0 : decode prog_9_method_23_code 0 = .ok (.aload_n 0, 1) := by decide +kernel
theorem d_M_ready_1 : decode prog_9_method_23_code 1 = .ok (.getfield 41, 3) := by decide +kernel
theorem d_M_ready_4 : decode prog_9_method_23_code 4 = .ok (.iload_n 1, 1) := by decide +kernel
theorem d_M_ready_5 : decode prog_9_method_23_code 5 = .ok (.iconst 2, 1) := by decide +kernel
theorem d_M_ready_6 : decode prog_9_method_23_code 6 = .ok (.iastore, 1) := by decide +kernel
theorem d_M_ready_7 : decode prog_9_method_23_code 7 = .ok (.aload_n 0, 1) := by decide +kernel
theorem d_M_ready_8 : decode prog_9_method_23_code 8 = .ok (.getfield 44, 3) := by decide +kernel
theorem d_M_ready_11 : decode prog_9_method_23_code 11 = .ok (.iload_n 1, 1) := by decide +kernel
theorem d_M_ready_12 : decode prog_9_method_23_code 12 = .ok (.iload_n 2, 1) := by decide +kernel
theorem d_M_ready_13 : decode prog_9_method_23_code 13 = .ok (.iastore, 1) := by decide +kernel
theorem d_M_ready_14 : decode prog_9_method_23_code 14 = .ok (.aload_n 0, 1) := by decide +kernel
theorem d_M_ready_15 : decode prog_9_method_23_code 15 = .ok (.iconst 2, 1) := by decide +kernel
theorem d_M_ready_16 : decode prog_9_method_23_code 16 = .ok (.putfield 151, 3) := by decide +kernel
theorem d_M_ready_19 : decode prog_9_method_23_code 19 = .ok (.return_, 1) := by decide +kernel
theorem d_M_broken_0 : decode prog_9_method_24_code 0 = .ok (.aload_n 0, 1) := by decide +kernel
theorem d_M_broken_1 : decode prog_9_method_24_code 1 = .ok (.getfield 41, 3) := by decide +kernel
theorem d_M_broken_4 : decode prog_9_method_24_code 4 = .ok (.iload_n 1, 1) := by decide +kernel
theorem d_M_broken_5 : decode prog_9_method_24_code 5 = .ok (.iconst 3, 1) := by decide +kernel
theorem d_M_broken_6 : decode prog_9_method_24_code 6 = .ok (.iastore, 1) := by decide +kernel
theorem d_M_broken_7 : decode prog_9_method_24_code 7 = .ok (.aload_n 0, 1) := by decide +kernel
theorem d_M_broken_8 : decode prog_9_method_24_code 8 = .ok (.getfield 44, 3) := by decide +kernel
theorem d_M_broken_11 : decode prog_9_method_24_code 11 = .ok (.iload_n 1, 1) := by decide +kernel
theorem d_M_broken_12 : decode prog_9_method_24_code 12 = .ok (.iload_n 2, 1) := by decide +kernel
theorem d_M_broken_13 : decode prog_9_method_24_code 13 = .ok (.iastore, 1) := by decide +kernel
theorem d_M_broken_14 : decode prog_9_method_24_code 14 = .ok (.aload_n 0, 1) := by decide +kernel
theorem d_M_broken_15 : decode prog_9_method_24_code 15 = .ok (.iconst 3, 1) := by decide +kernel
theorem d_M_broken_16 : decode prog_9_method_24_code 16 = .ok (.putfield 151, 3) := by decide +kernel
theorem d_M_broken_19 : decode prog_9_method_24_code 19 = .ok (.return_, 1) := by decide +kernel
theorem d_M_pending_0 : decode prog_9_method_25_code 0 = .ok (.aload_n 0, 1) := by decide +kernel
theorem d_M_pending_1 : decode prog_9_method_25_code 1 = .ok (.getfield 41, 3) := by decide +kernel
theorem d_M_pending_4 : decode prog_9_method_25_code 4 = .ok (.iload_n 1, 1) := by decide +kernel
theorem d_M_pending_5 : decode prog_9_method_25_code 5 = .ok (.iconst 1, 1) := by decide +kernel
theorem d_M_pending_6 : decode prog_9_method_25_code 6 = .ok (.iastore, 1) := by decide +kernel
theorem d_M_pending_7 : decode prog_9_method_25_code 7 = .ok (.aload_n 0, 1) := by decide +kernel
theorem d_M_pending_8 : decode prog_9_method_25_code 8 = .ok (.iconst 1, 1) := by decide +kernel
theorem d_M_pending_9 : decode prog_9_method_25_code 9 = .ok (.putfield 151, 3) := by decide +kernel
theorem d_M_pending_12 : decode prog_9_method_25_code 12 = .ok (.return_, 1) := by decide +kernel
theorem d_M_spends_0 : decode prog_9_method_26_code 0 = .ok (.aload_n 0, 1) := by decide +kernel
theorem d_M_spends_1 : decode prog_9_method_26_code 1 = .ok (.getfield 31, 3) := by decide +kernel
theorem d_M_spends_4 : decode prog_9_method_26_code 4 = .ok (.iload_n 1, 1) := by decide +kernel
theorem d_M_spends_5 : decode prog_9_method_26_code 5 = .ok (.iaload, 1) := by decide +kernel
theorem d_M_spends_6 : decode prog_9_method_26_code 6 = .ok (.ifCond .le 15, 3) := by decide +kernel
theorem d_M_spends_9 : decode prog_9_method_26_code 9 = .ok (.aload_n 0, 1) := by decide +kernel
theorem d_M_spends_10 : decode prog_9_method_26_code 10 = .ok (.getfield 31, 3) := by decide +kernel
theorem d_M_spends_13 : decode prog_9_method_26_code 13 = .ok (.iload_n 1, 1) := by decide +kernel
theorem d_M_spends_14 : decode prog_9_method_26_code 14 = .ok (.dup2, 1) := by decide +kernel
theorem d_M_spends_15 : decode prog_9_method_26_code 15 = .ok (.iaload, 1) := by decide +kernel
theorem d_M_spends_16 : decode prog_9_method_26_code 16 = .ok (.iconst 1, 1) := by decide +kernel
theorem d_M_spends_17 : decode prog_9_method_26_code 17 = .ok (.isub, 1) := by decide +kernel
theorem d_M_spends_18 : decode prog_9_method_26_code 18 = .ok (.iastore, 1) := by decide +kernel
theorem d_M_spends_19 : decode prog_9_method_26_code 19 = .ok (.iconst 1, 1) := by decide +kernel
theorem d_M_spends_20 : decode prog_9_method_26_code 20 = .ok (.ireturn, 1) := by decide +kernel
theorem d_M_spends_21 : decode prog_9_method_26_code 21 = .ok (.aload_n 0, 1) := by decide +kernel
theorem d_M_spends_22 : decode prog_9_method_26_code 22 = .ok (.iload_n 1, 1) := by decide +kernel
theorem d_M_spends_23 : decode prog_9_method_26_code 23 = .ok (.invokevirtual 115, 3) := by decide +kernel
theorem d_M_spends_26 : decode prog_9_method_26_code 26 = .ok (.iconst 0, 1) := by decide +kernel
theorem d_M_spends_27 : decode prog_9_method_26_code 27 = .ok (.ireturn, 1) := by decide +kernel
theorem d_M_poll_0 : decode prog_9_method_27_code 0 = .ok (.iconst 0, 1) := by decide +kernel
theorem d_M_poll_1 : decode prog_9_method_27_code 1 = .ok (.istore_n 2, 1) := by decide +kernel
theorem d_M_poll_2 : decode prog_9_method_27_code 2 = .ok (.aload_n 0, 1) := by decide +kernel
theorem d_M_poll_3 : decode prog_9_method_27_code 3 = .ok (.getfield 59, 3) := by decide +kernel
theorem d_M_poll_6 : decode prog_9_method_27_code 6 = .ok (.iconst 0, 1) := by decide +kernel
theorem d_M_poll_7 : decode prog_9_method_27_code 7 = .ok (.iconst 0, 1) := by decide +kernel
theorem d_M_poll_8 : decode prog_9_method_27_code 8 = .ok (.iastore, 1) := by decide +kernel
theorem d_M_poll_9 : decode prog_9_method_27_code 9 = .ok (.aload_n 0, 1) := by decide +kernel
theorem d_M_poll_10 : decode prog_9_method_27_code 10 = .ok (.getfield 62, 3) := by decide +kernel
theorem d_M_poll_13 : decode prog_9_method_27_code 13 = .ok (.iconst 0, 1) := by decide +kernel
theorem d_M_poll_14 : decode prog_9_method_27_code 14 = .ok (.iconst 0, 1) := by decide +kernel
theorem d_M_poll_15 : decode prog_9_method_27_code 15 = .ok (.iastore, 1) := by decide +kernel
theorem d_M_poll_16 : decode prog_9_method_27_code 16 = .ok (.iload_n 2, 1) := by decide +kernel
theorem d_M_poll_17 : decode prog_9_method_27_code 17 = .ok (.ifCond .lt 121, 3) := by decide +kernel
theorem d_M_poll_20 : decode prog_9_method_27_code 20 = .ok (.aload_n 0, 1) := by decide +kernel
theorem d_M_poll_21 : decode prog_9_method_27_code 21 = .ok (.getfield 59, 3) := by decide +kernel
theorem d_M_poll_24 : decode prog_9_method_27_code 24 = .ok (.iload_n 2, 1) := by decide +kernel
theorem d_M_poll_25 : decode prog_9_method_27_code 25 = .ok (.iaload, 1) := by decide +kernel
theorem d_M_poll_26 : decode prog_9_method_27_code 26 = .ok (.istore_n 3, 1) := by decide +kernel
theorem d_M_poll_27 : decode prog_9_method_27_code 27 = .ok (.bipush 12, 2) := by decide +kernel
theorem d_M_poll_29 : decode prog_9_method_27_code 29 = .ok (.iload_n 1, 1) := by decide +kernel
theorem d_M_poll_30 : decode prog_9_method_27_code 30 = .ok (.imul, 1) := by decide +kernel
theorem d_M_poll_31 : decode prog_9_method_27_code 31 = .ok (.iload_n 3, 1) := by decide +kernel
theorem d_M_poll_32 : decode prog_9_method_27_code 32 = .ok (.iadd, 1) := by decide +kernel
theorem d_M_poll_33 : decode prog_9_method_27_code 33 = .ok (.istore 4, 2) := by decide +kernel
theorem d_M_poll_35 : decode prog_9_method_27_code 35 = .ok (.iconst (-1), 1) := by decide +kernel
theorem d_M_poll_36 : decode prog_9_method_27_code 36 = .ok (.istore 5, 2) := by decide +kernel
theorem d_M_poll_38 : decode prog_9_method_27_code 38 = .ok (.aload_n 0, 1) := by decide +kernel
theorem d_M_poll_39 : decode prog_9_method_27_code 39 = .ok (.iload_n 1, 1) := by decide +kernel
theorem d_M_poll_40 : decode prog_9_method_27_code 40 = .ok (.iload_n 3, 1) := by decide +kernel
theorem d_M_poll_41 : decode prog_9_method_27_code 41 = .ok (.invokevirtual 108, 3) := by decide +kernel
theorem d_M_poll_44 : decode prog_9_method_27_code 44 = .ok (.invokestatic 101, 3) := by decide +kernel
theorem d_M_poll_47 : decode prog_9_method_27_code 47 = .ok (.ifCond .ne 14, 3) := by decide +kernel
theorem d_M_poll_50 : decode prog_9_method_27_code 50 = .ok (.aload_n 0, 1) := by decide +kernel
theorem d_M_poll_51 : decode prog_9_method_27_code 51 = .ok (.iload_n 1, 1) := by decide +kernel
theorem d_M_poll_52 : decode prog_9_method_27_code 52 = .ok (.iload_n 3, 1) := by decide +kernel
theorem d_M_poll_53 : decode prog_9_method_27_code 53 = .ok (.iload 4, 2) := by decide +kernel
theorem d_M_poll_55 : decode prog_9_method_27_code 55 = .ok (.invokevirtual 154, 3) := by decide +kernel
theorem d_M_poll_58 : decode prog_9_method_27_code 58 = .ok (.goto 24, 3) := by decide +kernel
theorem d_M_poll_61 : decode prog_9_method_27_code 61 = .ok (.aload_n 0, 1) := by decide +kernel
theorem d_M_poll_62 : decode prog_9_method_27_code 62 = .ok (.iload_n 1, 1) := by decide +kernel
theorem d_M_poll_63 : decode prog_9_method_27_code 63 = .ok (.iload_n 3, 1) := by decide +kernel
theorem d_M_poll_64 : decode prog_9_method_27_code 64 = .ok (.iload 4, 2) := by decide +kernel
theorem d_M_poll_66 : decode prog_9_method_27_code 66 = .ok (.aload_n 0, 1) := by decide +kernel
theorem d_M_poll_67 : decode prog_9_method_27_code 67 = .ok (.getfield 62, 3) := by decide +kernel
theorem d_M_poll_70 : decode prog_9_method_27_code 70 = .ok (.iload_n 2, 1) := by decide +kernel
theorem d_M_poll_71 : decode prog_9_method_27_code 71 = .ok (.dup2, 1) := by decide +kernel
theorem d_M_poll_72 : decode prog_9_method_27_code 72 = .ok (.iaload, 1) := by decide +kernel
theorem d_M_poll_73 : decode prog_9_method_27_code 73 = .ok (.dup_x2, 1) := by decide +kernel
theorem d_M_poll_74 : decode prog_9_method_27_code 74 = .ok (.iconst 1, 1) := by decide +kernel
theorem d_M_poll_75 : decode prog_9_method_27_code 75 = .ok (.iadd, 1) := by decide +kernel
theorem d_M_poll_76 : decode prog_9_method_27_code 76 = .ok (.iastore, 1) := by decide +kernel
theorem d_M_poll_77 : decode prog_9_method_27_code 77 = .ok (.invokevirtual 158, 3) := by decide +kernel
theorem d_M_poll_80 : decode prog_9_method_27_code 80 = .ok (.istore 5, 2) := by decide +kernel
theorem d_M_poll_82 : decode prog_9_method_27_code 82 = .ok (.iload 5, 2) := by decide +kernel
theorem d_M_poll_84 : decode prog_9_method_27_code 84 = .ok (.ifCond .ge 9, 3) := by decide +kernel
theorem d_M_poll_87 : decode prog_9_method_27_code 87 = .ok (.iinc 2 (-1), 3) := by decide +kernel
theorem d_M_poll_90 : decode prog_9_method_27_code 90 = .ok (.goto 45, 3) := by decide +kernel
theorem d_M_poll_93 : decode prog_9_method_27_code 93 = .ok (.aload_n 0, 1) := by decide +kernel
theorem d_M_poll_94 : decode prog_9_method_27_code 94 = .ok (.getfield 41, 3) := by decide +kernel
theorem d_M_poll_97 : decode prog_9_method_27_code 97 = .ok (.bipush 12, 2) := by decide +kernel
theorem d_M_poll_99 : decode prog_9_method_27_code 99 = .ok (.iload_n 1, 1) := by decide +kernel
theorem d_M_poll_100 : decode prog_9_method_27_code 100 = .ok (.imul, 1) := by decide +kernel
theorem d_M_poll_101 : decode prog_9_method_27_code 101 = .ok (.iload 5, 2) := by decide +kernel
theorem d_M_poll_103 : decode prog_9_method_27_code 103 = .ok (.iadd, 1) := by decide +kernel
theorem d_M_poll_104 : decode prog_9_method_27_code 104 = .ok (.iaload, 1) := by decide +kernel
theorem d_M_poll_105 : decode prog_9_method_27_code 105 = .ok (.iconst 2, 1) := by decide +kernel
theorem d_M_poll_106 : decode prog_9_method_27_code 106 = .ok (.if_icmp .ne 11, 3) := by decide +kernel
theorem d_M_poll_109 : decode prog_9_method_27_code 109 = .ok (.aload_n 0, 1) := by decide +kernel
theorem d_M_poll_110 : decode prog_9_method_27_code 110 = .ok (.iconst 2, 1) := by decide +kernel
theorem d_M_poll_111 : decode prog_9_method_27_code 111 = .ok (.putfield 151, 3) := by decide +kernel
theorem d_M_poll_114 : decode prog_9_method_27_code 114 = .ok (.goto 21, 3) := by decide +kernel
theorem d_M_poll_117 : decode prog_9_method_27_code 117 = .ok (.iinc 2 1, 3) := by decide +kernel
theorem d_M_poll_120 : decode prog_9_method_27_code 120 = .ok (.aload_n 0, 1) := by decide +kernel
theorem d_M_poll_121 : decode prog_9_method_27_code 121 = .ok (.getfield 59, 3) := by decide +kernel
theorem d_M_poll_124 : decode prog_9_method_27_code 124 = .ok (.iload_n 2, 1) := by decide +kernel
theorem d_M_poll_125 : decode prog_9_method_27_code 125 = .ok (.iload 5, 2) := by decide +kernel
theorem d_M_poll_127 : decode prog_9_method_27_code 127 = .ok (.iastore, 1) := by decide +kernel
theorem d_M_poll_128 : decode prog_9_method_27_code 128 = .ok (.aload_n 0, 1) := by decide +kernel
theorem d_M_poll_129 : decode prog_9_method_27_code 129 = .ok (.getfield 62, 3) := by decide +kernel
theorem d_M_poll_132 : decode prog_9_method_27_code 132 = .ok (.iload_n 2, 1) := by decide +kernel
theorem d_M_poll_133 : decode prog_9_method_27_code 133 = .ok (.iconst 0, 1) := by decide +kernel
theorem d_M_poll_134 : decode prog_9_method_27_code 134 = .ok (.iastore, 1) := by decide +kernel
theorem d_M_poll_135 : decode prog_9_method_27_code 135 = .ok (.goto (-119), 3) := by decide +kernel
theorem d_M_poll_138 : decode prog_9_method_27_code 138 = .ok (.return_, 1) := by decide +kernel
theorem d_M_step_0 : decode prog_9_method_28_code 0 = .ok (.aload_n 0, 1) := by decide +kernel
theorem d_M_step_1 : decode prog_9_method_28_code 1 = .ok (.iload_n 1, 1) := by decide +kernel
theorem d_M_step_2 : decode prog_9_method_28_code 2 = .ok (.iload_n 2, 1) := by decide +kernel
theorem d_M_step_3 : decode prog_9_method_28_code 3 = .ok (.invokevirtual 108, 3) := by decide +kernel
theorem d_M_step_6 : decode prog_9_method_28_code 6 = .ok (.istore 5, 2) := by decide +kernel
theorem d_M_step_8 : decode prog_9_method_28_code 8 = .ok (.aload_n 0, 1) := by decide +kernel
theorem d_M_step_9 : decode prog_9_method_28_code 9 = .ok (.iload_n 1, 1) := by decide +kernel
theorem d_M_step_10 : decode prog_9_method_28_code 10 = .ok (.iload_n 2, 1) := by decide +kernel
theorem d_M_step_11 : decode prog_9_method_28_code 11 = .ok (.invokevirtual 132, 3) := by decide +kernel
theorem d_M_step_14 : decode prog_9_method_28_code 14 = .ok (.istore 6, 2) := by decide +kernel
theorem d_M_step_16 : decode prog_9_method_28_code 16 = .ok (.iload_n 2, 1) := by decide +kernel
theorem d_M_step_17 : decode prog_9_method_28_code 17 = .ok (.iconst 1, 1) := by decide +kernel
theorem d_M_step_18 : decode prog_9_method_28_code 18 = .ok (.iadd, 1) := by decide +kernel
theorem d_M_step_19 : decode prog_9_method_28_code 19 = .ok (.istore 7, 2) := by decide +kernel
theorem d_M_step_21 : decode prog_9_method_28_code 21 = .ok (.iload 5, 2) := by decide +kernel
theorem d_M_step_23 : decode prog_9_method_28_code 23 = .ok (.invokestatic 101, 3) := by decide +kernel
theorem d_M_step_26 : decode prog_9_method_28_code 26 = .ok (.iconst 2, 1) := by decide +kernel
theorem d_M_step_27 : decode prog_9_method_28_code 27 = .ok (.if_icmp .ne 13, 3) := by decide +kernel
theorem d_M_step_30 : decode prog_9_method_28_code 30 = .ok (.aload_n 0, 1) := by decide +kernel
theorem d_M_step_31 : decode prog_9_method_28_code 31 = .ok (.iload_n 1, 1) := by decide +kernel
theorem d_M_step_32 : decode prog_9_method_28_code 32 = .ok (.iload 7, 2) := by decide +kernel
theorem d_M_step_34 : decode prog_9_method_28_code 34 = .ok (.invokevirtual 141, 3) := by decide +kernel
theorem d_M_step_37 : decode prog_9_method_28_code 37 = .ok (.goto 4, 3) := by decide +kernel
theorem d_M_step_40 : decode prog_9_method_28_code 40 = .ok (.iconst (-1), 1) := by decide +kernel
theorem d_M_step_41 : decode prog_9_method_28_code 41 = .ok (.istore 8, 2) := by decide +kernel
theorem d_M_step_43 : decode prog_9_method_28_code 43 = .ok (.bipush 12, 2) := by decide +kernel
theorem d_M_step_45 : decode prog_9_method_28_code 45 = .ok (.iload_n 1, 1) := by decide +kernel
theorem d_M_step_46 : decode prog_9_method_28_code 46 = .ok (.imul, 1) := by decide +kernel
theorem d_M_step_47 : decode prog_9_method_28_code 47 = .ok (.iload 7, 2) := by decide +kernel
theorem d_M_step_49 : decode prog_9_method_28_code 49 = .ok (.iadd, 1) := by decide +kernel
theorem d_M_step_50 : decode prog_9_method_28_code 50 = .ok (.istore 9, 2) := by decide +kernel
theorem d_M_step_52 : decode prog_9_method_28_code 52 = .ok (.bipush 12, 2) := by decide +kernel
theorem d_M_step_54 : decode prog_9_method_28_code 54 = .ok (.iload_n 1, 1) := by decide +kernel
theorem d_M_step_55 : decode prog_9_method_28_code 55 = .ok (.imul, 1) := by decide +kernel
theorem d_M_step_56 : decode prog_9_method_28_code 56 = .ok (.iload 8, 2) := by decide +kernel
theorem d_M_step_58 : decode prog_9_method_28_code 58 = .ok (.iadd, 1) := by decide +kernel
theorem d_M_step_59 : decode prog_9_method_28_code 59 = .ok (.istore 10, 2) := by decide +kernel
theorem d_M_step_61 : decode prog_9_method_28_code 61 = .ok (.iload 4, 2) := by decide +kernel
theorem d_M_step_63 : decode prog_9_method_28_code 63 = .ok (.ifCond .ne 42, 3) := by decide +kernel
theorem d_M_step_66 : decode prog_9_method_28_code 66 = .ok (.aload_n 0, 1) := by decide +kernel
theorem d_M_step_67 : decode prog_9_method_28_code 67 = .ok (.getfield 41, 3) := by decide +kernel
theorem d_M_step_70 : decode prog_9_method_28_code 70 = .ok (.iload_n 3, 1) := by decide +kernel
theorem d_M_step_71 : decode prog_9_method_28_code 71 = .ok (.iaload, 1) := by decide +kernel
theorem d_M_step_72 : decode prog_9_method_28_code 72 = .ok (.ifCond .ne 23, 3) := by decide +kernel
theorem d_M_step_75 : decode prog_9_method_28_code 75 = .ok (.iload 5, 2) := by decide +kernel
theorem d_M_step_77 : decode prog_9_method_28_code 77 = .ok (.bipush 13, 2) := by decide +kernel
theorem d_M_step_79 : decode prog_9_method_28_code 79 = .ok (.if_icmp .ne 16, 3) := by decide +kernel
theorem d_M_step_82 : decode prog_9_method_28_code 82 = .ok (.aload_n 0, 1) := by decide +kernel
theorem d_M_step_83 : decode prog_9_method_28_code 83 = .ok (.getfield 47, 3) := by decide +kernel
theorem d_M_step_86 : decode prog_9_method_28_code 86 = .ok (.iload_n 3, 1) := by decide +kernel
theorem d_M_step_87 : decode prog_9_method_28_code 87 = .ok (.aload_n 0, 1) := by decide +kernel
theorem d_M_step_88 : decode prog_9_method_28_code 88 = .ok (.getfield 162, 3) := by decide +kernel
theorem d_M_step_91 : decode prog_9_method_28_code 91 = .ok (.iload 6, 2) := by decide +kernel
theorem d_M_step_93 : decode prog_9_method_28_code 93 = .ok (.iadd, 1) := by decide +kernel
theorem d_M_step_94 : decode prog_9_method_28_code 94 = .ok (.iastore, 1) := by decide +kernel
theorem d_M_step_95 : decode prog_9_method_28_code 95 = .ok (.aload_n 0, 1) := by decide +kernel
theorem d_M_step_96 : decode prog_9_method_28_code 96 = .ok (.getfield 41, 3) := by decide +kernel
theorem d_M_step_99 : decode prog_9_method_28_code 99 = .ok (.iload_n 3, 1) := by decide +kernel
theorem d_M_step_100 : decode prog_9_method_28_code 100 = .ok (.iconst 1, 1) := by decide +kernel
theorem d_M_step_101 : decode prog_9_method_28_code 101 = .ok (.iastore, 1) := by decide +kernel
theorem d_M_step_102 : decode prog_9_method_28_code 102 = .ok (.iload 7, 2) := by decide +kernel
theorem d_M_step_104 : decode prog_9_method_28_code 104 = .ok (.ireturn, 1) := by decide +kernel
theorem d_M_step_105 : decode prog_9_method_28_code 105 = .ok (.iload 4, 2) := by decide +kernel
theorem d_M_step_107 : decode prog_9_method_28_code 107 = .ok (.iconst 2, 1) := by decide +kernel
theorem d_M_step_108 : decode prog_9_method_28_code 108 = .ok (.if_icmp .ne 137, 3) := by decide +kernel
theorem d_M_step_111 : decode prog_9_method_28_code 111 = .ok (.aload_n 0, 1) := by decide +kernel
theorem d_M_step_112 : decode prog_9_method_28_code 112 = .ok (.getfield 151, 3) := by decide +kernel
theorem d_M_step_115 : decode prog_9_method_28_code 115 = .ok (.iconst 3, 1) := by decide +kernel
theorem d_M_step_116 : decode prog_9_method_28_code 116 = .ok (.if_icmp .ne 30, 3) := by decide +kernel
theorem d_M_step_119 : decode prog_9_method_28_code 119 = .ok (.aload_n 0, 1) := by decide +kernel
theorem d_M_step_120 : decode prog_9_method_28_code 120 = .ok (.iload_n 3, 1) := by decide +kernel
theorem d_M_step_121 : decode prog_9_method_28_code 121 = .ok (.aload_n 0, 1) := by decide +kernel
theorem d_M_step_122 : decode prog_9_method_28_code 122 = .ok (.getfield 44, 3) := by decide +kernel
theorem d_M_step_125 : decode prog_9_method_28_code 125 = .ok (.iload 10, 2) := by decide +kernel
theorem d_M_step_127 : decode prog_9_method_28_code 127 = .ok (.iaload, 1) := by decide +kernel
theorem d_M_step_128 : decode prog_9_method_28_code 128 = .ok (.invokevirtual 165, 3) := by decide +kernel
theorem d_M_step_131 : decode prog_9_method_28_code 131 = .ok (.aload_n 0, 1) := by decide +kernel
theorem d_M_step_132 : decode prog_9_method_28_code 132 = .ok (.iload_n 1, 1) := by decide +kernel
theorem d_M_step_133 : decode prog_9_method_28_code 133 = .ok (.iload 7, 2) := by decide +kernel
theorem d_M_step_135 : decode prog_9_method_28_code 135 = .ok (.invokevirtual 168, 3) := by decide +kernel
theorem d_M_step_138 : decode prog_9_method_28_code 138 = .ok (.aload_n 0, 1) := by decide +kernel
theorem d_M_step_139 : decode prog_9_method_28_code 139 = .ok (.iconst 3, 1) := by decide +kernel
theorem d_M_step_140 : decode prog_9_method_28_code 140 = .ok (.putfield 151, 3) := by decide +kernel
theorem d_M_step_143 : decode prog_9_method_28_code 143 = .ok (.goto 100, 3) := by decide +kernel
theorem d_M_step_146 : decode prog_9_method_28_code 146 = .ok (.iload 5, 2) := by decide +kernel
theorem d_M_step_148 : decode prog_9_method_28_code 148 = .ok (.bipush 11, 2) := by decide +kernel
theorem d_M_step_150 : decode prog_9_method_28_code 150 = .ok (.if_icmp .ne 53, 3) := by decide +kernel
theorem d_M_step_153 : decode prog_9_method_28_code 153 = .ok (.aload_n 0, 1) := by decide +kernel
theorem d_M_step_154 : decode prog_9_method_28_code 154 = .ok (.getfield 151, 3) := by decide +kernel
theorem d_M_step_157 : decode prog_9_method_28_code 157 = .ok (.iconst 2, 1) := by decide +kernel
theorem d_M_step_158 : decode prog_9_method_28_code 158 = .ok (.if_icmp .ne 37, 3) := by decide +kernel
theorem d_M_step_161 : decode prog_9_method_28_code 161 = .ok (.aload_n 0, 1) := by decide +kernel
theorem d_M_step_162 : decode prog_9_method_28_code 162 = .ok (.getfield 41, 3) := by decide +kernel
theorem d_M_step_165 : decode prog_9_method_28_code 165 = .ok (.iload 9, 2) := by decide +kernel
theorem d_M_step_167 : decode prog_9_method_28_code 167 = .ok (.iaload, 1) := by decide +kernel
theorem d_M_step_168 : decode prog_9_method_28_code 168 = .ok (.iconst 2, 1) := by decide +kernel
theorem d_M_step_169 : decode prog_9_method_28_code 169 = .ok (.if_icmp .ne 26, 3) := by decide +kernel
theorem d_M_step_172 : decode prog_9_method_28_code 172 = .ok (.aload_n 0, 1) := by decide +kernel
theorem d_M_step_173 : decode prog_9_method_28_code 173 = .ok (.iload_n 3, 1) := by decide +kernel
theorem d_M_step_174 : decode prog_9_method_28_code 174 = .ok (.aload_n 0, 1) := by decide +kernel
theorem d_M_step_175 : decode prog_9_method_28_code 175 = .ok (.getfield 44, 3) := by decide +kernel
theorem d_M_step_178 : decode prog_9_method_28_code 178 = .ok (.iload 9, 2) := by decide +kernel
theorem d_M_step_180 : decode prog_9_method_28_code 180 = .ok (.iaload, 1) := by decide +kernel
theorem d_M_step_181 : decode prog_9_method_28_code 181 = .ok (.aload_n 0, 1) := by decide +kernel
theorem d_M_step_182 : decode prog_9_method_28_code 182 = .ok (.getfield 44, 3) := by decide +kernel
theorem d_M_step_185 : decode prog_9_method_28_code 185 = .ok (.iload 10, 2) := by decide +kernel
theorem d_M_step_187 : decode prog_9_method_28_code 187 = .ok (.iaload, 1) := by decide +kernel
theorem d_M_step_188 : decode prog_9_method_28_code 188 = .ok (.iadd, 1) := by decide +kernel
theorem d_M_step_189 : decode prog_9_method_28_code 189 = .ok (.invokevirtual 171, 3) := by decide +kernel
theorem d_M_step_192 : decode prog_9_method_28_code 192 = .ok (.goto 51, 3) := by decide +kernel
theorem d_M_step_195 : decode prog_9_method_28_code 195 = .ok (.aload_n 0, 1) := by decide +kernel
theorem d_M_step_196 : decode prog_9_method_28_code 196 = .ok (.iload_n 3, 1) := by decide +kernel
theorem d_M_step_197 : decode prog_9_method_28_code 197 = .ok (.invokevirtual 174, 3) := by decide +kernel
theorem d_M_step_200 : decode prog_9_method_28_code 200 = .ok (.goto 43, 3) := by decide +kernel
theorem d_M_step_203 : decode prog_9_method_28_code 203 = .ok (.aload_n 0, 1) := by decide +kernel
theorem d_M_step_204 : decode prog_9_method_28_code 204 = .ok (.getfield 151, 3) := by decide +kernel
theorem d_M_step_207 : decode prog_9_method_28_code 207 = .ok (.iconst 2, 1) := by decide +kernel
theorem d_M_step_208 : decode prog_9_method_28_code 208 = .ok (.if_icmp .ne 30, 3) := by decide +kernel
theorem d_M_step_211 : decode prog_9_method_28_code 211 = .ok (.aload_n 0, 1) := by decide +kernel
theorem d_M_step_212 : decode prog_9_method_28_code 212 = .ok (.iload_n 3, 1) := by decide +kernel
theorem d_M_step_213 : decode prog_9_method_28_code 213 = .ok (.aload_n 0, 1) := by decide +kernel
theorem d_M_step_214 : decode prog_9_method_28_code 214 = .ok (.getfield 44, 3) := by decide +kernel
theorem d_M_step_217 : decode prog_9_method_28_code 217 = .ok (.iload 10, 2) := by decide +kernel
theorem d_M_step_219 : decode prog_9_method_28_code 219 = .ok (.iaload, 1) := by decide +kernel
theorem d_M_step_220 : decode prog_9_method_28_code 220 = .ok (.invokevirtual 171, 3) := by decide +kernel
theorem d_M_step_223 : decode prog_9_method_28_code 223 = .ok (.aload_n 0, 1) := by decide +kernel
theorem d_M_step_224 : decode prog_9_method_28_code 224 = .ok (.iload_n 1, 1) := by decide +kernel
theorem d_M_step_225 : decode prog_9_method_28_code 225 = .ok (.iload 7, 2) := by decide +kernel
theorem d_M_step_227 : decode prog_9_method_28_code 227 = .ok (.invokevirtual 168, 3) := by decide +kernel
theorem d_M_step_230 : decode prog_9_method_28_code 230 = .ok (.aload_n 0, 1) := by decide +kernel
theorem d_M_step_231 : decode prog_9_method_28_code 231 = .ok (.iconst 2, 1) := by decide +kernel
theorem d_M_step_232 : decode prog_9_method_28_code 232 = .ok (.putfield 151, 3) := by decide +kernel
theorem d_M_step_235 : decode prog_9_method_28_code 235 = .ok (.goto 8, 3) := by decide +kernel
theorem d_M_step_238 : decode prog_9_method_28_code 238 = .ok (.aload_n 0, 1) := by decide +kernel
theorem d_M_step_239 : decode prog_9_method_28_code 239 = .ok (.iload_n 3, 1) := by decide +kernel
theorem d_M_step_240 : decode prog_9_method_28_code 240 = .ok (.invokevirtual 174, 3) := by decide +kernel
theorem d_M_step_243 : decode prog_9_method_28_code 243 = .ok (.iconst (-1), 1) := by decide +kernel
theorem d_M_step_244 : decode prog_9_method_28_code 244 = .ok (.ireturn, 1) := by decide +kernel
theorem d_M_step_245 : decode prog_9_method_28_code 245 = .ok (.aload_n 0, 1) := by decide +kernel
theorem d_M_step_246 : decode prog_9_method_28_code 246 = .ok (.getfield 151, 3) := by decide +kernel
theorem d_M_step_249 : decode prog_9_method_28_code 249 = .ok (.iconst 3, 1) := by decide +kernel
theorem d_M_step_250 : decode prog_9_method_28_code 250 = .ok (.if_icmp .ne 67, 3) := by decide +kernel
theorem d_M_step_253 : decode prog_9_method_28_code 253 = .ok (.aload_n 0, 1) := by decide +kernel
theorem d_M_step_254 : decode prog_9_method_28_code 254 = .ok (.getfield 44, 3) := by decide +kernel
theorem d_M_step_257 : decode prog_9_method_28_code 257 = .ok (.iload 9, 2) := by decide +kernel
theorem d_M_step_259 : decode prog_9_method_28_code 259 = .ok (.iaload, 1) := by decide +kernel
theorem d_M_step_260 : decode prog_9_method_28_code 260 = .ok (.istore 11, 2) := by decide +kernel
theorem d_M_step_262 : decode prog_9_method_28_code 262 = .ok (.iload 5, 2) := by decide +kernel
theorem d_M_step_264 : decode prog_9_method_28_code 264 = .ok (.bipush 15, 2) := by decide +kernel
theorem d_M_step_266 : decode prog_9_method_28_code 266 = .ok (.if_icmp .ne 14, 3) := by decide +kernel
theorem d_M_step_269 : decode prog_9_method_28_code 269 = .ok (.aload_n 0, 1) := by decide +kernel
theorem d_M_step_270 : decode prog_9_method_28_code 270 = .ok (.iload_n 3, 1) := by decide +kernel
theorem d_M_step_271 : decode prog_9_method_28_code 271 = .ok (.iload 11, 2) := by decide +kernel
theorem d_M_step_273 : decode prog_9_method_28_code 273 = .ok (.ineg, 1) := by decide +kernel
theorem d_M_step_274 : decode prog_9_method_28_code 274 = .ok (.invokevirtual 171, 3) := by decide +kernel
theorem d_M_step_277 : decode prog_9_method_28_code 277 = .ok (.goto 10, 3) := by decide +kernel
theorem d_M_step_280 : decode prog_9_method_28_code 280 = .ok (.aload_n 0, 1) := by decide +kernel
theorem d_M_step_281 : decode prog_9_method_28_code 281 = .ok (.iload_n 3, 1) := by decide +kernel
theorem d_M_step_282 : decode prog_9_method_28_code 282 = .ok (.iload 11, 2) := by decide +kernel
theorem d_M_step_284 : decode prog_9_method_28_code 284 = .ok (.invokevirtual 165, 3) := by decide +kernel
theorem d_M_step_287 : decode prog_9_method_28_code 287 = .ok (.iload 8, 2) := by decide +kernel
theorem d_M_step_289 : decode prog_9_method_28_code 289 = .ok (.ifCond .lt 10, 3) := by decide +kernel
theorem d_M_step_292 : decode prog_9_method_28_code 292 = .ok (.aload_n 0, 1) := by decide +kernel
theorem d_M_step_293 : decode prog_9_method_28_code 293 = .ok (.iload_n 1, 1) := by decide +kernel
theorem d_M_step_294 : decode prog_9_method_28_code 294 = .ok (.iload 8, 2) := by decide +kernel
theorem d_M_step_296 : decode prog_9_method_28_code 296 = .ok (.invokevirtual 168, 3) := by decide +kernel
theorem d_M_step_299 : decode prog_9_method_28_code 299 = .ok (.aload_n 0, 1) := by decide +kernel
theorem d_M_step_300 : decode prog_9_method_28_code 300 = .ok (.iload 5, 2) := by decide +kernel
theorem d_M_step_302 : decode prog_9_method_28_code 302 = .ok (.bipush 15, 2) := by decide +kernel
theorem d_M_step_304 : decode prog_9_method_28_code 304 = .ok (.if_icmp .ne 7, 3) := by decide +kernel
theorem d_M_step_307 : decode prog_9_method_28_code 307 = .ok (.iconst 2, 1) := by decide +kernel
theorem d_M_step_308 : decode prog_9_method_28_code 308 = .ok (.goto 4, 3) := by decide +kernel
theorem d_M_step_311 : decode prog_9_method_28_code 311 = .ok (.iconst 3, 1) := by decide +kernel
theorem d_M_step_312 : decode prog_9_method_28_code 312 = .ok (.putfield 151, 3) := by decide +kernel
theorem d_M_step_315 : decode prog_9_method_28_code 315 = .ok (.iconst (-1), 1) := by decide +kernel
theorem d_M_step_316 : decode prog_9_method_28_code 316 = .ok (.ireturn, 1) := by decide +kernel
theorem d_M_step_317 : decode prog_9_method_28_code 317 = .ok (.aload_n 0, 1) := by decide +kernel
theorem d_M_step_318 : decode prog_9_method_28_code 318 = .ok (.getfield 151, 3) := by decide +kernel
theorem d_M_step_321 : decode prog_9_method_28_code 321 = .ok (.iconst 2, 1) := by decide +kernel
theorem d_M_step_322 : decode prog_9_method_28_code 322 = .ok (.if_icmp .ne 7, 3) := by decide +kernel
theorem d_M_step_325 : decode prog_9_method_28_code 325 = .ok (.iconst 1, 1) := by decide +kernel
theorem d_M_step_326 : decode prog_9_method_28_code 326 = .ok (.goto 4, 3) := by decide +kernel
theorem d_M_step_329 : decode prog_9_method_28_code 329 = .ok (.iconst 0, 1) := by decide +kernel
theorem d_M_step_330 : decode prog_9_method_28_code 330 = .ok (.istore 11, 2) := by decide +kernel
theorem d_M_step_332 : decode prog_9_method_28_code 332 = .ok (.iload 5, 2) := by decide +kernel
theorem d_M_step_334 : decode prog_9_method_28_code 334 = .ok (.bipush 11, 2) := by decide +kernel
theorem d_M_step_336 : decode prog_9_method_28_code 336 = .ok (.if_icmp .eq 27, 3) := by decide +kernel
theorem d_M_step_339 : decode prog_9_method_28_code 339 = .ok (.iload 5, 2) := by decide +kernel
theorem d_M_step_341 : decode prog_9_method_28_code 341 = .ok (.bipush 10, 2) := by decide +kernel
theorem d_M_step_343 : decode prog_9_method_28_code 343 = .ok (.if_icmp .ne 8, 3) := by decide +kernel
theorem d_M_step_346 : decode prog_9_method_28_code 346 = .ok (.iload 11, 2) := by decide +kernel
theorem d_M_step_348 : decode prog_9_method_28_code 348 = .ok (.ifCond .ne 15, 3) := by decide +kernel
theorem d_M_step_351 : decode prog_9_method_28_code 351 = .ok (.iload 5, 2) := by decide +kernel
theorem d_M_step_353 : decode prog_9_method_28_code 353 = .ok (.bipush 12, 2) := by decide +kernel
theorem d_M_step_355 : decode prog_9_method_28_code 355 = .ok (.if_icmp .ne 11, 3) := by decide +kernel
theorem d_M_step_358 : decode prog_9_method_28_code 358 = .ok (.iload 11, 2) := by decide +kernel
theorem d_M_step_360 : decode prog_9_method_28_code 360 = .ok (.ifCond .ne 6, 3) := by decide +kernel
theorem d_M_step_363 : decode prog_9_method_28_code 363 = .ok (.iload 8, 2) := by decide +kernel
theorem d_M_step_365 : decode prog_9_method_28_code 365 = .ok (.ireturn, 1) := by decide +kernel
theorem d_M_step_366 : decode prog_9_method_28_code 366 = .ok (.iload 5, 2) := by decide +kernel
theorem d_M_step_368 : decode prog_9_method_28_code 368 = .ok (.bipush 8, 2) := by decide +kernel
theorem d_M_step_370 : decode prog_9_method_28_code 370 = .ok (.if_icmp .ne 24, 3) := by decide +kernel
theorem d_M_step_373 : decode prog_9_method_28_code 373 = .ok (.iload 11, 2) := by decide +kernel
theorem d_M_step_375 : decode prog_9_method_28_code 375 = .ok (.ifCond .eq 19, 3) := by decide +kernel
theorem d_M_step_378 : decode prog_9_method_28_code 378 = .ok (.aload_n 0, 1) := by decide +kernel
theorem d_M_step_379 : decode prog_9_method_28_code 379 = .ok (.iload_n 1, 1) := by decide +kernel
theorem d_M_step_380 : decode prog_9_method_28_code 380 = .ok (.iload_n 3, 1) := by decide +kernel
theorem d_M_step_381 : decode prog_9_method_28_code 381 = .ok (.aload_n 0, 1) := by decide +kernel
theorem d_M_step_382 : decode prog_9_method_28_code 382 = .ok (.getfield 44, 3) := by decide +kernel
theorem d_M_step_385 : decode prog_9_method_28_code 385 = .ok (.iload 9, 2) := by decide +kernel
theorem d_M_step_387 : decode prog_9_method_28_code 387 = .ok (.iaload, 1) := by decide +kernel
theorem d_M_step_388 : decode prog_9_method_28_code 388 = .ok (.invokevirtual 177, 3) := by decide +kernel
theorem d_M_step_391 : decode prog_9_method_28_code 391 = .ok (.goto 105, 3) := by decide +kernel
theorem d_M_step_394 : decode prog_9_method_28_code 394 = .ok (.iload 11, 2) := by decide +kernel

theorem d_Y_nextTask_124 : decode prog_1_method_31_code 124 = .ok (.ifCond .eq 11, 3) := by decide +kernel
theorem d_Y_nextTask_127 : decode prog_1_method_31_code 127 = .ok (.aload_n 0, 1) := by decide +kernel
theorem d_Y_nextTask_128 : decode prog_1_method_31_code 128 = .ok (.aload_n 1, 1) := by decide +kernel
theorem d_Y_nextTask_129 : decode prog_1_method_31_code 129 = .ok (.invokevirtual 254, 3) := by decide +kernel
theorem d_Y_nextTask_132 : decode prog_1_method_31_code 132 = .ok (.goto 10, 3) := by decide +kernel
theorem d_Y_nextTask_135 : decode prog_1_method_31_code 135 = .ok (.aload_n 0, 1) := by decide +kernel
theorem d_Y_nextTask_136 : decode prog_1_method_31_code 136 = .ok (.getfield 45, 3) := by decide +kernel
theorem d_Y_nextTask_139 : decode prog_1_method_31_code 139 = .ok (.invokevirtual 231, 3) := by decide +kernel
theorem d_Y_nextTask_142 : decode prog_1_method_31_code 142 = .ok (.ireturn, 1) := by decide +kernel
theorem d_Y_steal_0 : decode prog_1_method_32_code 0 = .ok (.iconst 1, 1) := by decide +kernel
theorem d_Y_steal_1 : decode prog_1_method_32_code 1 = .ok (.istore_n 2, 1) := by decide +kernel
theorem d_Y_steal_2 : decode prog_1_method_32_code 2 = .ok (.iload_n 2, 1) := by decide +kernel
theorem d_Y_steal_3 : decode prog_1_method_32_code 3 = .ok (.iconst 3, 1) := by decide +kernel
theorem d_Y_steal_4 : decode prog_1_method_32_code 4 = .ok (.if_icmp .ge 91, 3) := by decide +kernel
theorem d_Y_steal_7 : decode prog_1_method_32_code 7 = .ok (.aload_n 0, 1) := by decide +kernel
theorem d_Y_steal_8 : decode prog_1_method_32_code 8 = .ok (.getfield 38, 3) := by decide +kernel
theorem d_Y_steal_11 : decode prog_1_method_32_code 11 = .ok (.aload_n 1, 1) := by decide +kernel
theorem d_Y_steal_12 : decode prog_1_method_32_code 12 = .ok (.getfield 195, 3) := by decide +kernel
theorem d_Y_steal_15 : decode prog_1_method_32_code 15 = .ok (.iload_n 2, 1) := by decide +kernel
theorem d_Y_steal_16 : decode prog_1_method_32_code 16 = .ok (.iadd, 1) := by decide +kernel
theorem d_Y_steal_17 : decode prog_1_method_32_code 17 = .ok (.iconst 3, 1) := by decide +kernel
theorem d_Y_steal_18 : decode prog_1_method_32_code 18 = .ok (.irem, 1) := by decide +kernel
theorem d_Y_steal_19 : decode prog_1_method_32_code 19 = .ok (.aaload, 1) := by decide +kernel
theorem d_Y_steal_20 : decode prog_1_method_32_code 20 = .ok (.getfield 165, 3) := by decide +kernel
theorem d_Y_steal_23 : decode prog_1_method_32_code 23 = .ok (.astore_n 3, 1) := by decide +kernel
theorem d_Y_steal_24 : decode prog_1_method_32_code 24 = .ok (.aload_n 3, 1) := by decide +kernel
theorem d_Y_steal_25 : decode prog_1_method_32_code 25 = .ok (.invokevirtual 198, 3) := by decide +kernel
theorem d_Y_steal_28 : decode prog_1_method_32_code 28 = .ok (.ifCond .ne 61, 3) := by decide +kernel
theorem d_Y_steal_31 : decode prog_1_method_32_code 31 = .ok (.aload_n 0, 1) := by decide +kernel
theorem d_Y_steal_32 : decode prog_1_method_32_code 32 = .ok (.dup, 1) := by decide +kernel
theorem d_Y_steal_33 : decode prog_1_method_32_code 33 = .ok (.getfield 72, 3) := by decide +kernel
theorem d_Y_steal_36 : decode prog_1_method_32_code 36 = .ok (.iconst 1, 1) := by decide +kernel
theorem d_Y_steal_37 : decode prog_1_method_32_code 37 = .ok (.iadd, 1) := by decide +kernel
theorem d_Y_steal_38 : decode prog_1_method_32_code 38 = .ok (.putfield 72, 3) := by decide +kernel
theorem d_Y_steal_41 : decode prog_1_method_32_code 41 = .ok (.aload_n 3, 1) := by decide +kernel
theorem d_Y_steal_42 : decode prog_1_method_32_code 42 = .ok (.getfield 168, 3) := by decide +kernel
theorem d_Y_steal_45 : decode prog_1_method_32_code 45 = .ok (.iconst 1, 1) := by decide +kernel
theorem d_Y_steal_46 : decode prog_1_method_32_code 46 = .ok (.iadd, 1) := by decide +kernel
theorem d_Y_steal_47 : decode prog_1_method_32_code 47 = .ok (.iconst 2, 1) := by decide +kernel
theorem d_Y_steal_48 : decode prog_1_method_32_code 48 = .ok (.idiv, 1) := by decide +kernel
theorem d_Y_steal_49 : decode prog_1_method_32_code 49 = .ok (.iconst 1, 1) := by decide +kernel
theorem d_Y_steal_50 : decode prog_1_method_32_code 50 = .ok (.isub, 1) := by decide +kernel
theorem d_Y_steal_51 : decode prog_1_method_32_code 51 = .ok (.istore 4, 2) := by decide +kernel
theorem d_Y_steal_53 : decode prog_1_method_32_code 53 = .ok (.aload_n 3, 1) := by decide +kernel
theorem d_Y_steal_54 : decode prog_1_method_32_code 54 = .ok (.invokevirtual 231, 3) := by decide +kernel
theorem d_Y_steal_57 : decode prog_1_method_32_code 57 = .ok (.istore 5, 2) := by decide +kernel
theorem d_Y_steal_59 : decode prog_1_method_32_code 59 = .ok (.iconst 0, 1) := by decide +kernel
theorem d_Y_steal_60 : decode prog_1_method_32_code 60 = .ok (.istore 6, 2) := by decide +kernel
theorem d_Y_steal_62 : decode prog_1_method_32_code 62 = .ok (.iload 6, 2) := by decide +kernel
theorem d_Y_steal_64 : decode prog_1_method_32_code 64 = .ok (.iload 4, 2) := by decide +kernel
theorem d_Y_steal_66 : decode prog_1_method_32_code 66 = .ok (.if_icmp .ge 20, 3) := by decide +kernel
theorem d_Y_steal_69 : decode prog_1_method_32_code 69 = .ok (.aload_n 1, 1) := by decide +kernel
theorem d_Y_steal_70 : decode prog_1_method_32_code 70 = .ok (.getfield 165, 3) := by decide +kernel
theorem d_Y_steal_73 : decode prog_1_method_32_code 73 = .ok (.aload_n 3, 1) := by decide +kernel
theorem d_Y_steal_74 : decode prog_1_method_32_code 74 = .ok (.invokevirtual 231, 3) := by decide +kernel
theorem d_Y_steal_77 : decode prog_1_method_32_code 77 = .ok (.invokevirtual 210, 3) := by decide +kernel
theorem d_Y_steal_80 : decode prog_1_method_32_code 80 = .ok (.iinc 6 1, 3) := by decide +kernel
theorem d_Y_steal_83 : decode prog_1_method_32_code 83 = .ok (.goto (-21), 3) := by decide +kernel
theorem d_Y_steal_86 : decode prog_1_method_32_code 86 = .ok (.iload 5, 2) := by decide +kernel
theorem d_Y_steal_88 : decode prog_1_method_32_code 88 = .ok (.ireturn, 1) := by decide +kernel
theorem d_Y_steal_89 : decode prog_1_method_32_code 89 = .ok (.iinc 2 1, 3) := by decide +kernel
theorem d_Y_steal_92 : decode prog_1_method_32_code 92 = .ok (.goto (-90), 3) := by decide +kernel
theorem d_Y_steal_95 : decode prog_1_method_32_code 95 = .ok (.iconst (-1), 1) := by decide +kernel
theorem d_Y_steal_96 : decode prog_1_method_32_code 96 = .ok (.ireturn, 1) := by decide +kernel
theorem d_Y_poll_0 : decode prog_1_method_33_code 0 = .ok (.iload_n 3, 1) := by decide +kernel
theorem d_Y_poll_1 : decode prog_1_method_33_code 1 = .ok (.bipush 12, 2) := by decide +kernel
theorem d_Y_poll_3 : decode prog_1_method_33_code 3 = .ok (.if_icmp .ge 14, 3) := by decide +kernel
theorem d_Y_poll_6 : decode prog_1_method_33_code 6 = .ok (.aload_n 1, 1) := by decide +kernel
theorem d_Y_poll_7 : decode prog_1_method_33_code 7 = .ok (.getfield 257, 3) := by decide +kernel
theorem d_Y_poll_10 : decode prog_1_method_33_code 10 = .ok (.iload_n 2, 1) := by decide +kernel
theorem d_Y_poll_11 : decode prog_1_method_33_code 11 = .ok (.invokevirtual 260, 3) := by decide +kernel
theorem d_Y_poll_14 : decode prog_1_method_33_code 14 = .ok (.ifCond .ne 5, 3) := by decide +kernel
theorem d_Y_poll_17 : decode prog_1_method_33_code 17 = .ok (.iconst 1, 1) := by decide +kernel
theorem d_Y_poll_18 : decode prog_1_method_33_code 18 = .ok (.ireturn, 1) := by decide +kernel
theorem d_Y_poll_19 : decode prog_1_method_33_code 19 = .ok (.aload_n 1, 1) := by decide +kernel
theorem d_Y_poll_20 : decode prog_1_method_33_code 20 = .ok (.getfield 263, 3) := by decide +kernel
theorem d_Y_poll_23 : decode prog_1_method_33_code 23 = .ok (.iload_n 2, 1) := by decide +kernel
theorem d_Y_poll_24 : decode prog_1_method_33_code 24 = .ok (.iaload, 1) := by decide +kernel
theorem d_Y_poll_25 : decode prog_1_method_33_code 25 = .ok (.iconst 2, 1) := by decide +kernel
theorem d_Y_poll_26 : decode prog_1_method_33_code 26 = .ok (.if_icmp .ne 5, 3) := by decide +kernel
theorem d_Y_poll_29 : decode prog_1_method_33_code 29 = .ok (.iconst 2, 1) := by decide +kernel
theorem d_Y_poll_30 : decode prog_1_method_33_code 30 = .ok (.ireturn, 1) := by decide +kernel
theorem d_Y_poll_31 : decode prog_1_method_33_code 31 = .ok (.aload_n 1, 1) := by decide +kernel
theorem d_Y_poll_32 : decode prog_1_method_33_code 32 = .ok (.getfield 263, 3) := by decide +kernel
theorem d_Y_poll_35 : decode prog_1_method_33_code 35 = .ok (.iload_n 2, 1) := by decide +kernel
theorem d_Y_poll_36 : decode prog_1_method_33_code 36 = .ok (.iconst 1, 1) := by decide +kernel
theorem d_Y_poll_37 : decode prog_1_method_33_code 37 = .ok (.iastore, 1) := by decide +kernel
theorem d_Y_poll_38 : decode prog_1_method_33_code 38 = .ok (.aload_n 1, 1) := by decide +kernel
theorem d_Y_poll_39 : decode prog_1_method_33_code 39 = .ok (.getfield 257, 3) := by decide +kernel
theorem d_Y_poll_42 : decode prog_1_method_33_code 42 = .ok (.getfield 266, 3) := by decide +kernel
theorem d_Y_poll_45 : decode prog_1_method_33_code 45 = .ok (.iload_n 2, 1) := by decide +kernel
theorem d_Y_poll_46 : decode prog_1_method_33_code 46 = .ok (.iaload, 1) := by decide +kernel
theorem d_Y_poll_47 : decode prog_1_method_33_code 47 = .ok (.istore 4, 2) := by decide +kernel
theorem d_Y_poll_49 : decode prog_1_method_33_code 49 = .ok (.aload_n 1, 1) := by decide +kernel
theorem d_Y_poll_50 : decode prog_1_method_33_code 50 = .ok (.getfield 257, 3) := by decide +kernel
theorem d_Y_poll_53 : decode prog_1_method_33_code 53 = .ok (.getfield 269, 3) := by decide +kernel
theorem d_Y_poll_56 : decode prog_1_method_33_code 56 = .ok (.iload_n 2, 1) := by decide +kernel
theorem d_Y_poll_57 : decode prog_1_method_33_code 57 = .ok (.iaload, 1) := by decide +kernel
theorem d_Y_poll_58 : decode prog_1_method_33_code 58 = .ok (.tableswitch 276 0 15 #[78, 88, 99, 110, 121, 148, 159, 182, 196, 206, 216, 226, 236, 246, 256, 266], 78) := by decide +kernel
theorem d_Y_poll_136 : decode prog_1_method_33_code 136 = .ok (.aload_n 1, 1) := by decide +kernel
theorem d_Y_poll_137 : decode prog_1_method_33_code 137 = .ok (.iload_n 2, 1) := by decide +kernel
theorem d_Y_poll_138 : decode prog_1_method_33_code 138 = .ok (.iload 4, 2) := by decide +kernel
theorem d_Y_poll_140 : decode prog_1_method_33_code 140 = .ok (.invokevirtual 272, 3) := by decide +kernel
theorem d_Y_poll_143 : decode prog_1_method_33_code 143 = .ok (.goto 191, 3) := by decide +kernel
theorem d_Y_poll_146 : decode prog_1_method_33_code 146 = .ok (.aload_n 0, 1) := by decide +kernel
theorem d_Y_poll_147 : decode prog_1_method_33_code 147 = .ok (.aload_n 1, 1) := by decide +kernel
theorem d_Y_poll_148 : decode prog_1_method_33_code 148 = .ok (.iload_n 2, 1) := by decide +kernel
theorem d_Y_poll_149 : decode prog_1_method_33_code 149 = .ok (.iload 4, 2) := by decide +kernel
theorem d_Y_poll_151 : decode prog_1_method_33_code 151 = .ok (.invokevirtual 276, 3) := by decide +kernel
theorem d_Y_poll_154 : decode prog_1_method_33_code 154 = .ok (.goto 180, 3) := by decide +kernel
theorem d_Y_poll_157 : decode prog_1_method_33_code 157 = .ok (.aload_n 0, 1) := by decide +kernel
theorem d_Y_poll_158 : decode prog_1_method_33_code 158 = .ok (.aload_n 1, 1) := by decide +kernel
theorem d_Y_poll_159 : decode prog_1_method_33_code 159 = .ok (.iload_n 2, 1) := by decide +kernel
theorem d_Y_poll_160 : decode prog_1_method_33_code 160 = .ok (.iload 4, 2) := by decide +kernel
theorem d_Y_poll_162 : decode prog_1_method_33_code 162 = .ok (.invokevirtual 280, 3) := by decide +kernel
theorem d_Y_poll_165 : decode prog_1_method_33_code 165 = .ok (.goto 169, 3) := by decide +kernel
theorem d_Y_poll_168 : decode prog_1_method_33_code 168 = .ok (.aload_n 0, 1) := by decide +kernel
theorem d_Y_poll_169 : decode prog_1_method_33_code 169 = .ok (.aload_n 1, 1) := by decide +kernel
theorem d_Y_poll_170 : decode prog_1_method_33_code 170 = .ok (.iload_n 2, 1) := by decide +kernel
theorem d_Y_poll_171 : decode prog_1_method_33_code 171 = .ok (.iload 4, 2) := by decide +kernel
theorem d_Y_poll_173 : decode prog_1_method_33_code 173 = .ok (.invokevirtual 283, 3) := by decide +kernel
theorem d_Y_poll_176 : decode prog_1_method_33_code 176 = .ok (.goto 158, 3) := by decide +kernel
theorem d_Y_poll_179 : decode prog_1_method_33_code 179 = .ok (.aload_n 0, 1) := by decide +kernel
theorem d_Y_poll_180 : decode prog_1_method_33_code 180 = .ok (.aload_n 0, 1) := by decide +kernel
theorem d_Y_poll_181 : decode prog_1_method_33_code 181 = .ok (.getfield 55, 3) := by decide +kernel
theorem d_Y_poll_184 : decode prog_1_method_33_code 184 = .ok (.iload 4, 2) := by decide +kernel
theorem d_Y_poll_186 : decode prog_1_method_33_code 186 = .ok (.iconst 1, 1) := by decide +kernel
theorem d_Y_poll_187 : decode prog_1_method_33_code 187 = .ok (.iand, 1) := by decide +kernel
theorem d_Y_poll_188 : decode prog_1_method_33_code 188 = .ok (.aaload, 1) := by decide +kernel
theorem d_Y_poll_189 : decode prog_1_method_33_code 189 = .ok (.iload 4, 2) := by decide +kernel
theorem d_Y_poll_191 : decode prog_1_method_33_code 191 = .ok (.invokestatic 286, 3) := by decide +kernel
theorem d_Y_poll_194 : decode prog_1_method_33_code 194 = .ok (.invokevirtual 133, 3) := by decide +kernel
theorem d_Y_poll_197 : decode prog_1_method_33_code 197 = .ok (.aload_n 1, 1) := by decide +kernel
theorem d_Y_poll_198 : decode prog_1_method_33_code 198 = .ok (.iload_n 2, 1) := by decide +kernel
theorem d_Y_poll_199 : decode prog_1_method_33_code 199 = .ok (.iconst 0, 1) := by decide +kernel
theorem d_Y_poll_200 : decode prog_1_method_33_code 200 = .ok (.invokevirtual 272, 3) := by decide +kernel
theorem d_Y_poll_203 : decode prog_1_method_33_code 203 = .ok (.goto 131, 3) := by decide +kernel
theorem d_Y_poll_206 : decode prog_1_method_33_code 206 = .ok (.aload_n 0, 1) := by decide +kernel
theorem d_Y_poll_207 : decode prog_1_method_33_code 207 = .ok (.aload_n 1, 1) := by decide +kernel
theorem d_Y_poll_208 : decode prog_1_method_33_code 208 = .ok (.iload_n 2, 1) := by decide +kernel
theorem d_Y_poll_209 : decode prog_1_method_33_code 209 = .ok (.iload 4, 2) := by decide +kernel
theorem d_Y_poll_211 : decode prog_1_method_33_code 211 = .ok (.invokevirtual 289, 3) := by decide +kernel
theorem d_Y_poll_214 : decode prog_1_method_33_code 214 = .ok (.goto 120, 3) := by decide +kernel
theorem d_Y_poll_217 : decode prog_1_method_33_code 217 = .ok (.aload_n 0, 1) := by decide +kernel
theorem d_Y_poll_218 : decode prog_1_method_33_code 218 = .ok (.aload_n 0, 1) := by decide +kernel
theorem d_Y_poll_219 : decode prog_1_method_33_code 219 = .ok (.getfield 62, 3) := by decide +kernel
theorem d_Y_poll_222 : decode prog_1_method_33_code 222 = .ok (.iload 4, 2) := by decide +kernel
theorem d_Y_poll_224 : decode prog_1_method_33_code 224 = .ok (.iconst 1, 1) := by decide +kernel
theorem d_Y_poll_225 : decode prog_1_method_33_code 225 = .ok (.iand, 1) := by decide +kernel
theorem d_Y_poll_226 : decode prog_1_method_33_code 226 = .ok (.aaload, 1) := by decide +kernel
theorem d_Y_poll_227 : decode prog_1_method_33_code 227 = .ok (.invokevirtual 140, 3) := by decide +kernel
theorem d_Y_poll_230 : decode prog_1_method_33_code 230 = .ok (.pop, 1) := by decide +kernel
theorem d_Y_poll_231 : decode prog_1_method_33_code 231 = .ok (.aload_n 1, 1) := by decide +kernel
theorem d_Y_poll_232 : decode prog_1_method_33_code 232 = .ok (.iload_n 2, 1) := by decide +kernel
theorem d_Y_poll_233 : decode prog_1_method_33_code 233 = .ok (.iconst 0, 1) := by decide +kernel
theorem d_Y_poll_234 : decode prog_1_method_33_code 234 = .ok (.invokevirtual 272, 3) := by decide +kernel
theorem d_Y_poll_237 : decode prog_1_method_33_code 237 = .ok (.goto 97, 3) := by decide +kernel
theorem d_Y_poll_240 : decode prog_1_method_33_code 240 = .ok (.aload_n 1, 1) := by decide +kernel
theorem d_Y_poll_241 : decode prog_1_method_33_code 241 = .ok (.iload_n 2, 1) := by decide +kernel
theorem d_Y_poll_242 : decode prog_1_method_33_code 242 = .ok (.aload_n 0, 1) := by decide +kernel
theorem d_Y_poll_243 : decode prog_1_method_33_code 243 = .ok (.iload 4, 2) := by decide +kernel
theorem d_Y_poll_245 : decode prog_1_method_33_code 245 = .ok (.invokevirtual 99, 3) := by decide +kernel
theorem d_Y_poll_248 : decode prog_1_method_33_code 248 = .ok (.invokevirtual 272, 3) := by decide +kernel
theorem d_Y_poll_251 : decode prog_1_method_33_code 251 = .ok (.goto 83, 3) := by decide +kernel
theorem d_Y_poll_254 : decode prog_1_method_33_code 254 = .ok (.aload_n 0, 1) := by decide +kernel
theorem d_Y_poll_255 : decode prog_1_method_33_code 255 = .ok (.aload_n 1, 1) := by decide +kernel
theorem d_Y_poll_256 : decode prog_1_method_33_code 256 = .ok (.iload_n 2, 1) := by decide +kernel
theorem d_Y_poll_257 : decode prog_1_method_33_code 257 = .ok (.iload_n 3, 1) := by decide +kernel
theorem d_Y_poll_258 : decode prog_1_method_33_code 258 = .ok (.invokevirtual 292, 3) := by decide +kernel
theorem d_Y_poll_261 : decode prog_1_method_33_code 261 = .ok (.goto 73, 3) := by decide +kernel
theorem d_Y_poll_264 : decode prog_1_method_33_code 264 = .ok (.aload_n 1, 1) := by decide +kernel
theorem d_Y_poll_265 : decode prog_1_method_33_code 265 = .ok (.iload_n 2, 1) := by decide +kernel
theorem d_Y_poll_266 : decode prog_1_method_33_code 266 = .ok (.iload 4, 2) := by decide +kernel
theorem d_Y_poll_268 : decode prog_1_method_33_code 268 = .ok (.invokevirtual 295, 3) := by decide +kernel
theorem d_Y_poll_271 : decode prog_1_method_33_code 271 = .ok (.goto 63, 3) := by decide +kernel
theorem d_Y_poll_274 : decode prog_1_method_33_code 274 = .ok (.aload_n 0, 1) := by decide +kernel
theorem d_Y_poll_275 : decode prog_1_method_33_code 275 = .ok (.aload_n 1, 1) := by decide +kernel
theorem d_Y_poll_276 : decode prog_1_method_33_code 276 = .ok (.iload_n 2, 1) := by decide +kernel
theorem d_Y_poll_277 : decode prog_1_method_33_code 277 = .ok (.iload_n 3, 1) := by decide +kernel
theorem d_Y_poll_278 : decode prog_1_method_33_code 278 = .ok (.invokevirtual 298, 3) := by decide +kernel
theorem d_Y_poll_281 : decode prog_1_method_33_code 281 = .ok (.goto 53, 3) := by decide +kernel
theorem d_Y_poll_284 : decode prog_1_method_33_code 284 = .ok (.aload_n 0, 1) := by decide +kernel
theorem d_Y_poll_285 : decode prog_1_method_33_code 285 = .ok (.aload_n 1, 1) := by decide +kernel
theorem d_Y_poll_286 : decode prog_1_method_33_code 286 = .ok (.iload_n 2, 1) := by decide +kernel
theorem d_Y_poll_287 : decode prog_1_method_33_code 287 = .ok (.iload_n 3, 1) := by decide +kernel
theorem d_Y_poll_288 : decode prog_1_method_33_code 288 = .ok (.invokevirtual 301, 3) := by decide +kernel
theorem d_Y_poll_291 : decode prog_1_method_33_code 291 = .ok (.goto 43, 3) := by decide +kernel
theorem d_Y_poll_294 : decode prog_1_method_33_code 294 = .ok (.aload_n 0, 1) := by decide +kernel
theorem d_Y_poll_295 : decode prog_1_method_33_code 295 = .ok (.aload_n 1, 1) := by decide +kernel
theorem d_Y_poll_296 : decode prog_1_method_33_code 296 = .ok (.iload_n 2, 1) := by decide +kernel
theorem d_Y_poll_297 : decode prog_1_method_33_code 297 = .ok (.iload_n 3, 1) := by decide +kernel
theorem d_Y_poll_298 : decode prog_1_method_33_code 298 = .ok (.invokevirtual 304, 3) := by decide +kernel
theorem d_Y_poll_301 : decode prog_1_method_33_code 301 = .ok (.goto 33, 3) := by decide +kernel
theorem d_Y_poll_304 : decode prog_1_method_33_code 304 = .ok (.aload_n 0, 1) := by decide +kernel
theorem d_Y_poll_305 : decode prog_1_method_33_code 305 = .ok (.aload_n 1, 1) := by decide +kernel
theorem d_Y_poll_306 : decode prog_1_method_33_code 306 = .ok (.iload_n 2, 1) := by decide +kernel
theorem d_Y_poll_307 : decode prog_1_method_33_code 307 = .ok (.iload_n 3, 1) := by decide +kernel
theorem d_Y_poll_308 : decode prog_1_method_33_code 308 = .ok (.invokevirtual 307, 3) := by decide +kernel
theorem d_Y_poll_311 : decode prog_1_method_33_code 311 = .ok (.goto 23, 3) := by decide +kernel
theorem d_Y_poll_314 : decode prog_1_method_33_code 314 = .ok (.aload_n 0, 1) := by decide +kernel
theorem d_Y_poll_315 : decode prog_1_method_33_code 315 = .ok (.aload_n 1, 1) := by decide +kernel
theorem d_Y_poll_316 : decode prog_1_method_33_code 316 = .ok (.iload_n 2, 1) := by decide +kernel
theorem d_Y_poll_317 : decode prog_1_method_33_code 317 = .ok (.iload_n 3, 1) := by decide +kernel
theorem d_Y_poll_318 : decode prog_1_method_33_code 318 = .ok (.invokevirtual 310, 3) := by decide +kernel
theorem d_Y_poll_321 : decode prog_1_method_33_code 321 = .ok (.goto 13, 3) := by decide +kernel
theorem d_Y_poll_324 : decode prog_1_method_33_code 324 = .ok (.aload_n 0, 1) := by decide +kernel
theorem d_Y_poll_325 : decode prog_1_method_33_code 325 = .ok (.aload_n 1, 1) := by decide +kernel
theorem d_Y_poll_326 : decode prog_1_method_33_code 326 = .ok (.iload_n 2, 1) := by decide +kernel
theorem d_Y_poll_327 : decode prog_1_method_33_code 327 = .ok (.iload_n 3, 1) := by decide +kernel
theorem d_Y_poll_328 : decode prog_1_method_33_code 328 = .ok (.invokevirtual 313, 3) := by decide +kernel
theorem d_Y_poll_331 : decode prog_1_method_33_code 331 = .ok (.goto 3, 3) := by decide +kernel
theorem d_Y_poll_334 : decode prog_1_method_33_code 334 = .ok (.aload_n 1, 1) := by decide +kernel
theorem d_Y_poll_335 : decode prog_1_method_33_code 335 = .ok (.getfield 263, 3) := by decide +kernel
theorem d_Y_poll_338 : decode prog_1_method_33_code 338 = .ok (.iload_n 2, 1) := by decide +kernel
theorem d_Y_poll_339 : decode prog_1_method_33_code 339 = .ok (.iaload, 1) := by decide +kernel
theorem d_Y_poll_340 : decode prog_1_method_33_code 340 = .ok (.ireturn, 1) := by decide +kernel
theorem d_Y_pollTurn_0 : decode prog_1_method_34_code 0 = .ok (.aload_n 1, 1) := by decide +kernel
theorem d_Y_pollTurn_1 : decode prog_1_method_34_code 1 = .ok (.getfield 204, 3) := by decide +kernel
theorem d_Y_pollTurn_4 : decode prog_1_method_34_code 4 = .ok (.iload_n 2, 1) := by decide +kernel
theorem d_Y_pollTurn_5 : decode prog_1_method_34_code 5 = .ok (.iaload, 1) := by decide +kernel
theorem d_Y_pollTurn_6 : decode prog_1_method_34_code 6 = .ok (.iconst 0, 1) := by decide +kernel
theorem d_Y_pollTurn_7 : decode prog_1_method_34_code 7 = .ok (.invokestatic 316, 3) := by decide +kernel
theorem d_Y_pollTurn_10 : decode prog_1_method_34_code 10 = .ok (.istore 4, 2) := by decide +kernel
theorem d_Y_pollTurn_12 : decode prog_1_method_34_code 12 = .ok (.iload 4, 2) := by decide +kernel
theorem d_Y_pollTurn_14 : decode prog_1_method_34_code 14 = .ok (.iload_n 3, 1) := by decide +kernel
theorem d_Y_pollTurn_15 : decode prog_1_method_34_code 15 = .ok (.if_icmp .lt 10, 3) := by decide +kernel
theorem d_Y_pollTurn_18 : decode prog_1_method_34_code 18 = .ok (.aload_n 1, 1) := by decide +kernel
theorem d_Y_pollTurn_19 : decode prog_1_method_34_code 19 = .ok (.iload_n 2, 1) := by decide +kernel
theorem d_Y_pollTurn_20 : decode prog_1_method_34_code 20 = .ok (.iconst 0, 1) := by decide +kernel
theorem d_Y_pollTurn_21 : decode prog_1_method_34_code 21 = .ok (.invokevirtual 272, 3) := by decide +kernel
theorem d_Y_pollTurn_24 : decode prog_1_method_34_code 24 = .ok (.return_, 1) := by decide +kernel
theorem d_Y_pollTurn_25 : decode prog_1_method_34_code 25 = .ok (.aload_n 1, 1) := by decide +kernel
theorem d_Y_pollTurn_26 : decode prog_1_method_34_code 26 = .ok (.getfield 204, 3) := by decide +kernel
theorem d_Y_pollTurn_29 : decode prog_1_method_34_code 29 = .ok (.iload_n 2, 1) := by decide +kernel
theorem d_Y_pollTurn_30 : decode prog_1_method_34_code 30 = .ok (.iload 4, 2) := by decide +kernel
theorem d_Y_pollTurn_32 : decode prog_1_method_34_code 32 = .ok (.iconst 1, 1) := by decide +kernel
theorem d_Y_pollTurn_33 : decode prog_1_method_34_code 33 = .ok (.iadd, 1) := by decide +kernel
theorem d_Y_pollTurn_34 : decode prog_1_method_34_code 34 = .ok (.iastore, 1) := by decide +kernel
theorem d_Y_pollTurn_35 : decode prog_1_method_34_code 35 = .ok (.aload_n 0, 1) := by decide +kernel
theorem d_Y_pollTurn_36 : decode prog_1_method_34_code 36 = .ok (.aload_n 1, 1) := by decide +kernel
theorem d_Y_pollTurn_37 : decode prog_1_method_34_code 37 = .ok (.invokevirtual 220, 3) := by decide +kernel
theorem d_Y_pollTurn_40 : decode prog_1_method_34_code 40 = .ok (.return_, 1) := by decide +kernel
theorem d_Y_pollSleep_0 : decode prog_1_method_35_code 0 = .ok (.aload_n 1, 1) := by decide +kernel
theorem d_Y_pollSleep_1 : decode prog_1_method_35_code 1 = .ok (.getfield 204, 3) := by decide +kernel
theorem d_Y_pollSleep_4 : decode prog_1_method_35_code 4 = .ok (.iload_n 2, 1) := by decide +kernel
theorem d_Y_pollSleep_5 : decode prog_1_method_35_code 5 = .ok (.iaload, 1) := by decide +kernel
theorem d_Y_pollSleep_6 : decode prog_1_method_35_code 6 = .ok (.iconst (-1), 1) := by decide +kernel
theorem d_Y_pollSleep_7 : decode prog_1_method_35_code 7 = .ok (.if_icmp .ne 13, 3) := by decide +kernel
theorem d_Y_pollSleep_10 : decode prog_1_method_35_code 10 = .ok (.aload_n 1, 1) := by decide +kernel
theorem d_Y_pollSleep_11 : decode prog_1_method_35_code 11 = .ok (.getfield 204, 3) := by decide +kernel
theorem d_Y_pollSleep_14 : decode prog_1_method_35_code 14 = .ok (.iload_n 2, 1) := by decide +kernel
theorem d_Y_pollSleep_15 : decode prog_1_method_35_code 15 = .ok (.aload_n 0, 1) := by decide +kernel
theorem d_Y_pollSleep_16 : decode prog_1_method_35_code 16 = .ok (.getfield 66, 3) := by decide +kernel
theorem d_Y_pollSleep_19 : decode prog_1_method_35_code 19 = .ok (.iastore, 1) := by decide +kernel
theorem d_Y_pollSleep_20 : decode prog_1_method_35_code 20 = .ok (.aload_n 0, 1) := by decide +kernel
theorem d_Y_pollSleep_21 : decode prog_1_method_35_code 21 = .ok (.getfield 66, 3) := by decide +kernel
theorem d_Y_pollSleep_24 : decode prog_1_method_35_code 24 = .ok (.aload_n 1, 1) := by decide +kernel
theorem d_Y_pollSleep_25 : decode prog_1_method_35_code 25 = .ok (.getfield 204, 3) := by decide +kernel
theorem d_Y_pollSleep_28 : decode prog_1_method_35_code 28 = .ok (.iload_n 2, 1) := by decide +kernel
theorem d_Y_pollSleep_29 : decode prog_1_method_35_code 29 = .ok (.iaload, 1) := by decide +kernel
theorem d_Y_pollSleep_30 : decode prog_1_method_35_code 30 = .ok (.isub, 1) := by decide +kernel
theorem d_Y_pollSleep_31 : decode prog_1_method_35_code 31 = .ok (.iload_n 3, 1) := by decide +kernel
theorem d_Y_pollSleep_32 : decode prog_1_method_35_code 32 = .ok (.if_icmp .lt 9, 3) := by decide +kernel
theorem d_Y_pollSleep_35 : decode prog_1_method_35_code 35 = .ok (.aload_n 1, 1) := by decide +kernel
theorem d_Y_pollSleep_36 : decode prog_1_method_35_code 36 = .ok (.iload_n 2, 1) := by decide +kernel
theorem d_Y_pollSleep_37 : decode prog_1_method_35_code 37 = .ok (.iconst 0, 1) := by decide +kernel
theorem d_Y_pollSleep_38 : decode prog_1_method_35_code 38 = .ok (.invokevirtual 272, 3) := by decide +kernel
theorem d_Y_pollSleep_41 : decode prog_1_method_35_code 41 = .ok (.return_, 1) := by decide +kernel
theorem d_Y_pollTake_0 : decode prog_1_method_36_code 0 = .ok (.aload_n 0, 1) := by decide +kernel
theorem d_Y_pollTake_1 : decode prog_1_method_36_code 1 = .ok (.getfield 55, 3) := by decide +kernel
theorem d_Y_pollTake_4 : decode prog_1_method_36_code 4 = .ok (.iload_n 3, 1) := by decide +kernel
theorem d_Y_pollTake_5 : decode prog_1_method_36_code 5 = .ok (.iconst 1, 1) := by decide +kernel
theorem d_Y_pollTake_6 : decode prog_1_method_36_code 6 = .ok (.iand, 1) := by decide +kernel
theorem d_Y_pollTake_7 : decode prog_1_method_36_code 7 = .ok (.aaload, 1) := by decide +kernel
theorem d_Y_pollTake_8 : decode prog_1_method_36_code 8 = .ok (.astore 4, 2) := by decide +kernel
theorem d_Y_pollTake_10 : decode prog_1_method_36_code 10 = .ok (.iload_n 3, 1) := by decide +kernel
theorem d_Y_pollTake_11 : decode prog_1_method_36_code 11 = .ok (.invokestatic 286, 3) := by decide +kernel
theorem d_Y_pollTake_14 : decode prog_1_method_36_code 14 = .ok (.istore 5, 2) := by decide +kernel
theorem d_Y_pollTake_16 : decode prog_1_method_36_code 16 = .ok (.aload_n 1, 1) := by decide +kernel
theorem d_Y_pollTake_17 : decode prog_1_method_36_code 17 = .ok (.getfield 204, 3) := by decide +kernel
theorem d_Y_pollTake_20 : decode prog_1_method_36_code 20 = .ok (.iload_n 2, 1) := by decide +kernel
theorem d_Y_pollTake_21 : decode prog_1_method_36_code 21 = .ok (.iaload, 1) := by decide +kernel
theorem d_Y_pollTake_22 : decode prog_1_method_36_code 22 = .ok (.iconst (-1), 1) := by decide +kernel
theorem d_Y_pollTake_23 : decode prog_1_method_36_code 23 = .ok (.if_icmp .ne 7, 3) := by decide +kernel
theorem d_Y_pollTake_26 : decode prog_1_method_36_code 26 = .ok (.iconst 1, 1) := by decide +kernel
theorem d_Y_pollTake_27 : decode prog_1_method_36_code 27 = .ok (.goto 4, 3) := by decide +kernel
theorem d_Y_pollTake_30 : decode prog_1_method_36_code 30 = .ok (.iconst 0, 1) := by decide +kernel
theorem d_Y_pollTake_31 : decode prog_1_method_36_code 31 = .ok (.istore 6, 2) := by decide +kernel
theorem d_Y_pollTake_33 : decode prog_1_method_36_code 33 = .ok (.iload 6, 2) := by decide +kernel
theorem d_Y_pollTake_35 : decode prog_1_method_36_code 35 = .ok (.ifCond .eq 32, 3) := by decide +kernel
theorem d_Y_pollTake_38 : decode prog_1_method_36_code 38 = .ok (.aload 4, 2) := by decide +kernel
theorem d_Y_pollTake_40 : decode prog_1_method_36_code 40 = .ok (.getfield 175, 3) := by decide +kernel
theorem d_Y_pollTake_43 : decode prog_1_method_36_code 43 = .ok (.invokevirtual 198, 3) := by decide +kernel
theorem d_Y_pollTake_46 : decode prog_1_method_36_code 46 = .ok (.ifCond .eq 17, 3) := by decide +kernel
theorem d_Y_pollTake_49 : decode prog_1_method_36_code 49 = .ok (.aload 4, 2) := by decide +kernel
theorem d_Y_pollTake_51 : decode prog_1_method_36_code 51 = .ok (.getfield 137, 3) := by decide +kernel
theorem d_Y_pollTake_54 : decode prog_1_method_36_code 54 = .ok (.iload 5, 2) := by decide +kernel
theorem d_Y_pollTake_56 : decode prog_1_method_36_code 56 = .ok (.if_icmp .lt 7, 3) := by decide +kernel
theorem d_Y_pollTake_59 : decode prog_1_method_36_code 59 = .ok (.iconst 1, 1) := by decide +kernel
theorem d_Y_pollTake_60 : decode prog_1_method_36_code 60 = .ok (.goto 23, 3) := by decide +kernel
theorem d_Y_pollTake_63 : decode prog_1_method_36_code 63 = .ok (.iconst 0, 1) := by decide +kernel
theorem d_Y_pollTake_64 : decode prog_1_method_36_code 64 = .ok (.goto 19, 3) := by decide +kernel
theorem d_Y_pollTake_67 : decode prog_1_method_36_code 67 = .ok (.aload_n 1, 1) := by decide +kernel
theorem d_Y_pollTake_68 : decode prog_1_method_36_code 68 = .ok (.getfield 204, 3) := by decide +kernel
theorem d_Y_pollTake_71 : decode prog_1_method_36_code 71 = .ok (.iload_n 2, 1) := by decide +kernel
theorem d_Y_pollTake_72 : decode prog_1_method_36_code 72 = .ok (.iaload, 1) := by decide +kernel
theorem d_Y_pollTake_73 : decode prog_1_method_36_code 73 = .ok (.iload 5, 2) := by decide +kernel
theorem d_Y_pollTake_75 : decode prog_1_method_36_code 75 = .ok (.if_icmp .lt 7, 3) := by decide +kernel
theorem d_Y_pollTake_78 : decode prog_1_method_36_code 78 = .ok (.iconst 1, 1) := by decide +kernel
theorem d_Y_pollTake_79 : decode prog_1_method_36_code 79 = .ok (.goto 4, 3) := by decide +kernel
theorem d_Y_pollTake_82 : decode prog_1_method_36_code 82 = .ok (.iconst 0, 1) := by decide +kernel
theorem d_Y_pollTake_83 : decode prog_1_method_36_code 83 = .ok (.istore 7, 2) := by decide +kernel
theorem d_Y_pollTake_85 : decode prog_1_method_36_code 85 = .ok (.iload 7, 2) := by decide +kernel
theorem d_Y_pollTake_87 : decode prog_1_method_36_code 87 = .ok (.ifCond .eq 42, 3) := by decide +kernel
theorem d_Y_pollTake_90 : decode prog_1_method_36_code 90 = .ok (.aload_n 0, 1) := by decide +kernel
theorem d_Y_pollTake_91 : decode prog_1_method_36_code 91 = .ok (.aload_n 1, 1) := by decide +kernel
theorem d_Y_pollTake_92 : decode prog_1_method_36_code 92 = .ok (.invokevirtual 322, 3) := by decide +kernel
theorem d_Y_pollTake_95 : decode prog_1_method_36_code 95 = .ok (.ifCond .eq 69, 3) := by decide +kernel
theorem d_Y_pollTake_98 : decode prog_1_method_36_code 98 = .ok (.aload 4, 2) := by decide +kernel
theorem d_Y_pollTake_100 : decode prog_1_method_36_code 100 = .ok (.dup, 1) := by decide +kernel
theorem d_Y_pollTake_101 : decode prog_1_method_36_code 101 = .ok (.getfield 137, 3) := by decide +kernel
theorem d_Y_pollTake_104 : decode prog_1_method_36_code 104 = .ok (.iload 6, 2) := by decide +kernel
theorem d_Y_pollTake_106 : decode prog_1_method_36_code 106 = .ok (.ifCond .eq 8, 3) := by decide +kernel
theorem d_Y_pollTake_109 : decode prog_1_method_36_code 109 = .ok (.iload 5, 2) := by decide +kernel
theorem d_Y_pollTake_111 : decode prog_1_method_36_code 111 = .ok (.goto 4, 3) := by decide +kernel
theorem d_Y_pollTake_114 : decode prog_1_method_36_code 114 = .ok (.iconst 0, 1) := by decide +kernel
theorem d_Y_pollTake_115 : decode prog_1_method_36_code 115 = .ok (.isub, 1) := by decide +kernel
theorem d_Y_pollTake_116 : decode prog_1_method_36_code 116 = .ok (.putfield 137, 3) := by decide +kernel
theorem d_Y_pollTake_119 : decode prog_1_method_36_code 119 = .ok (.aload_n 1, 1) := by decide +kernel
theorem d_Y_pollTake_120 : decode prog_1_method_36_code 120 = .ok (.iload_n 2, 1) := by decide +kernel
theorem d_Y_pollTake_121 : decode prog_1_method_36_code 121 = .ok (.iload 5, 2) := by decide +kernel
theorem d_Y_pollTake_123 : decode prog_1_method_36_code 123 = .ok (.invokevirtual 272, 3) := by decide +kernel
theorem d_Y_pollTake_126 : decode prog_1_method_36_code 126 = .ok (.goto 38, 3) := by decide +kernel
theorem d_Y_pollTake_129 : decode prog_1_method_36_code 129 = .ok (.iload 6, 2) := by decide +kernel
theorem d_Y_pollTake_131 : decode prog_1_method_36_code 131 = .ok (.ifCond .eq 33, 3) := by decide +kernel
theorem d_Y_pollTake_134 : decode prog_1_method_36_code 134 = .ok (.aload_n 1, 1) := by decide +kernel
theorem d_Y_pollTake_135 : decode prog_1_method_36_code 135 = .ok (.getfield 204, 3) := by decide +kernel
theorem d_Y_pollTake_138 : decode prog_1_method_36_code 138 = .ok (.iload_n 2, 1) := by decide +kernel
theorem d_Y_pollTake_139 : decode prog_1_method_36_code 139 = .ok (.aload 4, 2) := by decide +kernel
theorem d_Y_pollTake_141 : decode prog_1_method_36_code 141 = .ok (.getfield 137, 3) := by decide +kernel
theorem d_Y_pollTake_144 : decode prog_1_method_36_code 144 = .ok (.iastore, 1) := by decide +kernel
theorem d_Y_pollTake_145 : decode prog_1_method_36_code 145 = .ok (.aload 4, 2) := by decide +kernel
theorem d_Y_pollTake_147 : decode prog_1_method_36_code 147 = .ok (.iconst 0, 1) := by decide +kernel
theorem d_Y_pollTake_148 : decode prog_1_method_36_code 148 = .ok (.putfield 137, 3) := by decide +kernel
theorem d_Y_pollTake_151 : decode prog_1_method_36_code 151 = .ok (.aload 4, 2) := by decide +kernel
theorem d_Y_pollTake_153 : decode prog_1_method_36_code 153 = .ok (.getfield 175, 3) := by decide +kernel
theorem d_Y_pollTake_156 : decode prog_1_method_36_code 156 = .ok (.aload_n 1, 1) := by decide +kernel
theorem d_Y_pollTake_157 : decode prog_1_method_36_code 157 = .ok (.iload_n 2, 1) := by decide +kernel
theorem d_Y_pollTake_158 : decode prog_1_method_36_code 158 = .ok (.invokevirtual 326, 3) := by decide +kernel
theorem d_Y_pollTake_161 : decode prog_1_method_36_code 161 = .ok (.invokevirtual 210, 3) := by decide +kernel
theorem d_Y_pollTake_164 : decode prog_1_method_36_code 164 = .ok (.return_, 1) := by decide +kernel
theorem d_Y_pollWait_0 : decode prog_1_method_37_code 0 = .ok (.aload_n 0, 1) := by decide +kernel
theorem d_Y_pollWait_1 : decode prog_1_method_37_code 1 = .ok (.getfield 62, 3) := by decide +kernel
theorem d_Y_pollWait_4 : decode prog_1_method_37_code 4 = .ok (.iload_n 3, 1) := by decide +kernel
theorem d_Y_pollWait_5 : decode prog_1_method_37_code 5 = .ok (.iconst 1, 1) := by decide +kernel
theorem d_Y_pollWait_6 : decode prog_1_method_37_code 6 = .ok (.iand, 1) := by decide +kernel
theorem d_Y_pollWait_7 : decode prog_1_method_37_code 7 = .ok (.aaload, 1) := by decide +kernel
theorem d_Y_pollWait_8 : decode prog_1_method_37_code 8 = .ok (.astore 4, 2) := by decide +kernel
theorem d_Y_pollWait_10 : decode prog_1_method_37_code 10 = .ok (.aload_n 1, 1) := by decide +kernel
theorem d_Y_pollWait_11 : decode prog_1_method_37_code 11 = .ok (.getfield 204, 3) := by decide +kernel
theorem d_Y_pollWait_14 : decode prog_1_method_37_code 14 = .ok (.iload_n 2, 1) := by decide +kernel
theorem d_Y_pollWait_15 : decode prog_1_method_37_code 15 = .ok (.iaload, 1) := by decide +kernel
theorem d_Y_pollWait_16 : decode prog_1_method_37_code 16 = .ok (.iconst (-1), 1) := by decide +kernel
theorem d_Y_pollWait_17 : decode prog_1_method_37_code 17 = .ok (.if_icmp .ne 7, 3) := by decide +kernel
theorem d_Y_pollWait_20 : decode prog_1_method_37_code 20 = .ok (.iconst 1, 1) := by decide +kernel
theorem d_Y_pollWait_21 : decode prog_1_method_37_code 21 = .ok (.goto 4, 3) := by decide +kernel
theorem d_Y_pollWait_24 : decode prog_1_method_37_code 24 = .ok (.iconst 0, 1) := by decide +kernel
theorem d_Y_pollWait_25 : decode prog_1_method_37_code 25 = .ok (.istore 5, 2) := by decide +kernel
theorem d_Y_pollWait_27 : decode prog_1_method_37_code 27 = .ok (.iload 5, 2) := by decide +kernel
theorem d_Y_pollWait_29 : decode prog_1_method_37_code 29 = .ok (.ifCond .eq 11, 3) := by decide +kernel
theorem d_Y_pollWait_32 : decode prog_1_method_37_code 32 = .ok (.aload 4, 2) := by decide +kernel
theorem d_Y_pollWait_34 : decode prog_1_method_37_code 34 = .ok (.getfield 182, 3) := by decide +kernel
theorem d_Y_pollWait_37 : decode prog_1_method_37_code 37 = .ok (.goto 18, 3) := by decide +kernel
theorem d_Y_pollWait_40 : decode prog_1_method_37_code 40 = .ok (.aload_n 1, 1) := by decide +kernel
theorem d_Y_pollWait_41 : decode prog_1_method_37_code 41 = .ok (.getfield 204, 3) := by decide +kernel
theorem d_Y_pollWait_44 : decode prog_1_method_37_code 44 = .ok (.iload_n 2, 1) := by decide +kernel
theorem d_Y_pollWait_45 : decode prog_1_method_37_code 45 = .ok (.iaload, 1) := by decide +kernel
theorem d_Y_pollWait_46 : decode prog_1_method_37_code 46 = .ok (.iconst 1, 1) := by decide +kernel
theorem d_Y_pollWait_47 : decode prog_1_method_37_code 47 = .ok (.if_icmp .ne 7, 3) := by decide +kernel
theorem d_Y_pollWait_50 : decode prog_1_method_37_code 50 = .ok (.iconst 1, 1) := by decide +kernel
theorem d_Y_pollWait_51 : decode prog_1_method_37_code 51 = .ok (.goto 4, 3) := by decide +kernel
theorem d_Y_pollWait_54 : decode prog_1_method_37_code 54 = .ok (.iconst 0, 1) := by decide +kernel
theorem d_Y_pollWait_55 : decode prog_1_method_37_code 55 = .ok (.istore 6, 2) := by decide +kernel
theorem d_Y_pollWait_57 : decode prog_1_method_37_code 57 = .ok (.iload 6, 2) := by decide +kernel
theorem d_Y_pollWait_59 : decode prog_1_method_37_code 59 = .ok (.ifCond .eq 43, 3) := by decide +kernel
theorem d_Y_pollWait_62 : decode prog_1_method_37_code 62 = .ok (.aload_n 0, 1) := by decide +kernel
theorem d_Y_pollWait_63 : decode prog_1_method_37_code 63 = .ok (.aload_n 1, 1) := by decide +kernel
theorem d_Y_pollWait_64 : decode prog_1_method_37_code 64 = .ok (.invokevirtual 322, 3) := by decide +kernel
theorem d_Y_pollWait_67 : decode prog_1_method_37_code 67 = .ok (.ifCond .eq 60, 3) := by decide +kernel
theorem d_Y_pollWait_70 : decode prog_1_method_37_code 70 = .ok (.aload 4, 2) := by decide +kernel
theorem d_Y_pollWait_72 : decode prog_1_method_37_code 72 = .ok (.aload 4, 2) := by decide +kernel
theorem d_Y_pollWait_74 : decode prog_1_method_37_code 74 = .ok (.getfield 182, 3) := by decide +kernel
theorem d_Y_pollWait_77 : decode prog_1_method_37_code 77 = .ok (.ifCond .eq 12, 3) := by decide +kernel
theorem d_Y_pollWait_80 : decode prog_1_method_37_code 80 = .ok (.iload 5, 2) := by decide +kernel
theorem d_Y_pollWait_82 : decode prog_1_method_37_code 82 = .ok (.ifCond .ne 7, 3) := by decide +kernel
theorem d_Y_pollWait_85 : decode prog_1_method_37_code 85 = .ok (.iconst 1, 1) := by decide +kernel
theorem d_Y_pollWait_86 : decode prog_1_method_37_code 86 = .ok (.goto 4, 3) := by decide +kernel
theorem d_Y_pollWait_89 : decode prog_1_method_37_code 89 = .ok (.iconst 0, 1) := by decide +kernel
theorem d_Y_pollWait_90 : decode prog_1_method_37_code 90 = .ok (.putfield 182, 3) := by decide +kernel
theorem d_Y_pollWait_93 : decode prog_1_method_37_code 93 = .ok (.aload_n 1, 1) := by decide +kernel
theorem d_Y_pollWait_94 : decode prog_1_method_37_code 94 = .ok (.iload_n 2, 1) := by decide +kernel
theorem d_Y_pollWait_95 : decode prog_1_method_37_code 95 = .ok (.iconst 1, 1) := by decide +kernel
theorem d_Y_pollWait_96 : decode prog_1_method_37_code 96 = .ok (.invokevirtual 272, 3) := by decide +kernel
theorem d_Y_pollWait_99 : decode prog_1_method_37_code 99 = .ok (.goto 28, 3) := by decide +kernel
theorem d_Y_pollWait_102 : decode prog_1_method_37_code 102 = .ok (.iload 5, 2) := by decide +kernel
theorem d_Y_pollWait_104 : decode prog_1_method_37_code 104 = .ok (.ifCond .eq 23, 3) := by decide +kernel
theorem d_Y_pollWait_107 : decode prog_1_method_37_code 107 = .ok (.aload_n 1, 1) := by decide +kernel
theorem d_Y_pollWait_108 : decode prog_1_method_37_code 108 = .ok (.getfield 204, 3) := by decide +kernel
theorem d_Y_pollWait_111 : decode prog_1_method_37_code 111 = .ok (.iload_n 2, 1) := by decide +kernel
theorem d_Y_pollWait_112 : decode prog_1_method_37_code 112 = .ok (.iconst 0, 1) := by decide +kernel
theorem d_Y_pollWait_113 : decode prog_1_method_37_code 113 = .ok (.iastore, 1) := by decide +kernel
theorem d_Y_pollWait_114 : decode prog_1_method_37_code 114 = .ok (.aload 4, 2) := by decide +kernel
theorem d_Y_pollWait_116 : decode prog_1_method_37_code 116 = .ok (.getfield 186, 3) := by decide +kernel
theorem d_Y_pollWait_119 : decode prog_1_method_37_code 119 = .ok (.aload_n 1, 1) := by decide +kernel
theorem d_Y_pollWait_120 : decode prog_1_method_37_code 120 = .ok (.iload_n 2, 1) := by decide +kernel
theorem d_Y_pollWait_121 : decode prog_1_method_37_code 121 = .ok (.invokevirtual 326, 3) := by decide +kernel
theorem d_Y_pollWait_124 : decode prog_1_method_37_code 124 = .ok (.invokevirtual 210, 3) := by decide +kernel
theorem d_Y_pollWait_127 : decode prog_1_method_37_code 127 = .ok (.return_, 1) := by decide +kernel
theorem d_Y_pollReap_0 : decode prog_1_method_38_code 0 = .ok (.iload_n 2, 1) := by decide +kernel
theorem d_Y_pollReap_1 : decode prog_1_method_38_code 1 = .ok (.iconst 1, 1) := by decide +kernel
theorem d_Y_pollReap_2 : decode prog_1_method_38_code 2 = .ok (.iadd, 1) := by decide +kernel
theorem d_Y_pollReap_3 : decode prog_1_method_38_code 3 = .ok (.istore 4, 2) := by decide +kernel
theorem d_Y_pollReap_5 : decode prog_1_method_38_code 5 = .ok (.aload_n 0, 1) := by decide +kernel
theorem d_Y_pollReap_6 : decode prog_1_method_38_code 6 = .ok (.aload_n 1, 1) := by decide +kernel
theorem d_Y_pollReap_7 : decode prog_1_method_38_code 7 = .ok (.iload 4, 2) := by decide +kernel
theorem d_Y_pollReap_9 : decode prog_1_method_38_code 9 = .ok (.iload_n 3, 1) := by decide +kernel
theorem d_Y_pollReap_10 : decode prog_1_method_38_code 10 = .ok (.iconst 1, 1) := by decide +kernel
theorem d_Y_pollReap_11 : decode prog_1_method_38_code 11 = .ok (.iadd, 1) := by decide +kernel
theorem d_Y_pollReap_12 : decode prog_1_method_38_code 12 = .ok (.invokevirtual 240, 3) := by decide +kernel
theorem d_Y_pollReap_15 : decode prog_1_method_38_code 15 = .ok (.iconst 2, 1) := by decide +kernel
theorem d_Y_pollReap_16 : decode prog_1_method_38_code 16 = .ok (.if_icmp .eq 11, 3) := by decide +kernel
theorem d_Y_pollReap_19 : decode prog_1_method_38_code 19 = .ok (.aload_n 1, 1) := by decide +kernel
theorem d_Y_pollReap_20 : decode prog_1_method_38_code 20 = .ok (.iload_n 2, 1) := by decide +kernel
theorem d_Y_pollReap_21 : decode prog_1_method_38_code 21 = .ok (.iload 4, 2) := by decide +kernel
theorem d_Y_pollReap_23 : decode prog_1_method_38_code 23 = .ok (.invokevirtual 329, 3) := by decide +kernel
theorem d_Y_pollReap_26 : decode prog_1_method_38_code 26 = .ok (.return_, 1) := by decide +kernel
theorem d_Y_pollReap_27 : decode prog_1_method_38_code 27 = .ok (.aload_n 0, 1) := by decide +kernel
theorem d_Y_pollReap_28 : decode prog_1_method_38_code 28 = .ok (.aload_n 1, 1) := by decide +kernel
theorem d_Y_pollReap_29 : decode prog_1_method_38_code 29 = .ok (.iload 4, 2) := by decide +kernel
theorem d_Y_pollReap_31 : decode prog_1_method_38_code 31 = .ok (.invokevirtual 332, 3) := by decide +kernel
theorem d_Y_pollReap_34 : decode prog_1_method_38_code 34 = .ok (.invokevirtual 113, 3) := by decide +kernel
theorem d_Y_pollReap_37 : decode prog_1_method_38_code 37 = .ok (.astore 5, 2) := by decide +kernel
theorem d_Y_pollReap_39 : decode prog_1_method_38_code 39 = .ok (.aload 5, 2) := by decide +kernel
theorem d_Y_pollReap_41 : decode prog_1_method_38_code 41 = .ok (.ifnull 15, 3) := by decide +kernel
theorem d_Y_pollReap_44 : decode prog_1_method_38_code 44 = .ok (.aload 5, 2) := by decide +kernel
theorem d_Y_pollReap_46 : decode prog_1_method_38_code 46 = .ok (.getfield 213, 3) := by decide +kernel
theorem d_Y_pollReap_49 : decode prog_1_method_38_code 49 = .ok (.aload_n 1, 1) := by decide +kernel
theorem d_Y_pollReap_50 : decode prog_1_method_38_code 50 = .ok (.getfield 213, 3) := by decide +kernel
theorem d_Y_pollReap_53 : decode prog_1_method_38_code 53 = .ok (.if_icmp .ne 13, 3) := by decide +kernel
theorem d_Y_pollReap_56 : decode prog_1_method_38_code 56 = .ok (.aload_n 1, 1) := by decide +kernel
theorem d_Y_pollReap_57 : decode prog_1_method_38_code 57 = .ok (.iload_n 2, 1) := by decide +kernel
theorem d_Y_pollReap_58 : decode prog_1_method_38_code 58 = .ok (.bipush 98, 2) := by decide +kernel
theorem d_Y_pollReap_60 : decode prog_1_method_38_code 60 = .ok (.invokevirtual 295, 3) := by decide +kernel
theorem d_Y_pollReap_63 : decode prog_1_method_38_code 63 = .ok (.goto 71, 3) := by decide +kernel
theorem d_Y_pollReap_66 : decode prog_1_method_38_code 66 = .ok (.aload 5, 2) := by decide +kernel
theorem d_Y_pollReap_68 : decode prog_1_method_38_code 68 = .ok (.getfield 123, 3) := by decide +kernel
theorem d_Y_pollReap_71 : decode prog_1_method_38_code 71 = .ok (.iconst 4, 1) := by decide +kernel
theorem d_Y_pollReap_72 : decode prog_1_method_38_code 72 = .ok (.if_icmp .ne 13, 3) := by decide +kernel
theorem d_Y_pollReap_75 : decode prog_1_method_38_code 75 = .ok (.aload_n 1, 1) := by decide +kernel
theorem d_Y_pollReap_76 : decode prog_1_method_38_code 76 = .ok (.iload_n 2, 1) := by decide +kernel
theorem d_Y_pollReap_77 : decode prog_1_method_38_code 77 = .ok (.bipush 99, 2) := by decide +kernel
theorem d_Y_pollReap_79 : decode prog_1_method_38_code 79 = .ok (.invokevirtual 295, 3) := by decide +kernel
theorem d_Y_pollReap_82 : decode prog_1_method_38_code 82 = .ok (.goto 52, 3) := by decide +kernel
theorem d_Y_pollReap_85 : decode prog_1_method_38_code 85 = .ok (.aload 5, 2) := by decide +kernel
theorem d_Y_pollReap_87 : decode prog_1_method_38_code 87 = .ok (.getfield 123, 3) := by decide +kernel
theorem d_Y_pollReap_90 : decode prog_1_method_38_code 90 = .ok (.iconst 3, 1) := by decide +kernel
theorem d_Y_pollReap_91 : decode prog_1_method_38_code 91 = .ok (.if_icmp .ne 16, 3) := by decide +kernel
theorem d_Y_pollReap_94 : decode prog_1_method_38_code 94 = .ok (.aload_n 1, 1) := by decide +kernel
theorem d_Y_pollReap_95 : decode prog_1_method_38_code 95 = .ok (.iload_n 2, 1) := by decide +kernel
theorem d_Y_pollReap_96 : decode prog_1_method_38_code 96 = .ok (.aload 5, 2) := by decide +kernel
theorem d_Y_pollReap_98 : decode prog_1_method_38_code 98 = .ok (.getfield 144, 3) := by decide +kernel
theorem d_Y_pollReap_101 : decode prog_1_method_38_code 101 = .ok (.invokevirtual 295, 3) := by decide +kernel
theorem d_Y_pollReap_104 : decode prog_1_method_38_code 104 = .ok (.goto 30, 3) := by decide +kernel
theorem d_Y_pollReap_107 : decode prog_1_method_38_code 107 = .ok (.aload 5, 2) := by decide +kernel
theorem d_Y_pollReap_109 : decode prog_1_method_38_code 109 = .ok (.getfield 123, 3) := by decide +kernel
theorem d_Y_pollReap_112 : decode prog_1_method_38_code 112 = .ok (.iconst 2, 1) := by decide +kernel
theorem d_Y_pollReap_113 : decode prog_1_method_38_code 113 = .ok (.if_icmp .ne 21, 3) := by decide +kernel
theorem d_Y_pollReap_116 : decode prog_1_method_38_code 116 = .ok (.aload_n 0, 1) := by decide +kernel
theorem d_Y_pollReap_117 : decode prog_1_method_38_code 117 = .ok (.aload_n 1, 1) := by decide +kernel
theorem d_Y_pollReap_118 : decode prog_1_method_38_code 118 = .ok (.invokevirtual 322, 3) := by decide +kernel
theorem d_Y_pollReap_121 : decode prog_1_method_38_code 121 = .ok (.ifCond .eq 13, 3) := by decide +kernel
theorem d_Y_pollReap_124 : decode prog_1_method_38_code 124 = .ok (.aload_n 1, 1) := by decide +kernel
theorem d_Y_pollReap_125 : decode prog_1_method_38_code 125 = .ok (.iload_n 2, 1) := by decide +kernel
theorem d_Y_pollReap_126 : decode prog_1_method_38_code 126 = .ok (.aload 5, 2) := by decide +kernel
theorem d_Y_pollReap_128 : decode prog_1_method_38_code 128 = .ok (.getfield 144, 3) := by decide +kernel
theorem d_Y_pollReap_131 : decode prog_1_method_38_code 131 = .ok (.invokevirtual 272, 3) := by decide +kernel
theorem d_Y_pollReap_134 : decode prog_1_method_38_code 134 = .ok (.return_, 1) := by decide +kernel
theorem d_Y_pollThen_0 : decode prog_1_method_39_code 0 = .ok (.iload_n 2, 1) := by decide +kernel
theorem d_Y_pollThen_1 : decode prog_1_method_39_code 1 = .ok (.iconst 1, 1) := by decide +kernel
theorem d_Y_pollThen_2 : decode prog_1_method_39_code 2 = .ok (.iadd, 1) := by decide +kernel
theorem d_Y_pollThen_3 : decode prog_1_method_39_code 3 = .ok (.istore 4, 2) := by decide +kernel
theorem d_Y_pollThen_5 : decode prog_1_method_39_code 5 = .ok (.aload_n 0, 1) := by decide +kernel
theorem d_Y_pollThen_6 : decode prog_1_method_39_code 6 = .ok (.aload_n 1, 1) := by decide +kernel
theorem d_Y_pollThen_7 : decode prog_1_method_39_code 7 = .ok (.iload 4, 2) := by decide +kernel
theorem d_Y_pollThen_9 : decode prog_1_method_39_code 9 = .ok (.iload_n 3, 1) := by decide +kernel
theorem d_Y_pollThen_10 : decode prog_1_method_39_code 10 = .ok (.iconst 1, 1) := by decide +kernel
theorem d_Y_pollThen_11 : decode prog_1_method_39_code 11 = .ok (.iadd, 1) := by decide +kernel
theorem d_Y_pollThen_12 : decode prog_1_method_39_code 12 = .ok (.invokevirtual 240, 3) := by decide +kernel
theorem d_Y_pollThen_15 : decode prog_1_method_39_code 15 = .ok (.iconst 2, 1) := by decide +kernel
theorem d_Y_pollThen_16 : decode prog_1_method_39_code 16 = .ok (.if_icmp .eq 11, 3) := by decide +kernel
theorem d_Y_pollThen_19 : decode prog_1_method_39_code 19 = .ok (.aload_n 1, 1) := by decide +kernel
theorem d_Y_pollThen_20 : decode prog_1_method_39_code 20 = .ok (.iload_n 2, 1) := by decide +kernel
theorem d_Y_pollThen_21 : decode prog_1_method_39_code 21 = .ok (.iload 4, 2) := by decide +kernel
theorem d_Y_pollThen_23 : decode prog_1_method_39_code 23 = .ok (.invokevirtual 329, 3) := by decide +kernel
theorem d_Y_pollThen_26 : decode prog_1_method_39_code 26 = .ok (.return_, 1) := by decide +kernel
theorem d_Y_pollThen_27 : decode prog_1_method_39_code 27 = .ok (.aload_n 1, 1) := by decide +kernel
theorem d_Y_pollThen_28 : decode prog_1_method_39_code 28 = .ok (.getfield 257, 3) := by decide +kernel
theorem d_Y_pollThen_31 : decode prog_1_method_39_code 31 = .ok (.iload 4, 2) := by decide +kernel
theorem d_Y_pollThen_33 : decode prog_1_method_39_code 33 = .ok (.invokevirtual 335, 3) := by decide +kernel
theorem d_Y_pollThen_36 : decode prog_1_method_39_code 36 = .ok (.istore 5, 2) := by decide +kernel
theorem d_Y_pollThen_38 : decode prog_1_method_39_code 38 = .ok (.aload_n 0, 1) := by decide +kernel
theorem d_Y_pollThen_39 : decode prog_1_method_39_code 39 = .ok (.aload_n 1, 1) := by decide +kernel
theorem d_Y_pollThen_40 : decode prog_1_method_39_code 40 = .ok (.iload 5, 2) := by decide +kernel
theorem d_Y_pollThen_42 : decode prog_1_method_39_code 42 = .ok (.iload_n 3, 1) := by decide +kernel
theorem d_Y_pollThen_43 : decode prog_1_method_39_code 43 = .ok (.iconst 1, 1) := by decide +kernel
theorem d_Y_pollThen_44 : decode prog_1_method_39_code 44 = .ok (.iadd, 1) := by decide +kernel
theorem d_Y_pollThen_45 : decode prog_1_method_39_code 45 = .ok (.invokevirtual 240, 3) := by decide +kernel
theorem d_Y_pollThen_48 : decode prog_1_method_39_code 48 = .ok (.pop, 1) := by decide +kernel
theorem d_Y_pollThen_49 : decode prog_1_method_39_code 49 = .ok (.aload_n 1, 1) := by decide +kernel
theorem d_Y_pollThen_50 : decode prog_1_method_39_code 50 = .ok (.iload_n 2, 1) := by decide +kernel
theorem d_Y_pollThen_51 : decode prog_1_method_39_code 51 = .ok (.iload 5, 2) := by decide +kernel
theorem d_Y_pollThen_53 : decode prog_1_method_39_code 53 = .ok (.invokevirtual 329, 3) := by decide +kernel
theorem d_Y_pollThen_56 : decode prog_1_method_39_code 56 = .ok (.return_, 1) := by decide +kernel
theorem d_Y_pollBoth_0 : decode prog_1_method_40_code 0 = .ok (.iload_n 2, 1) := by decide +kernel
theorem d_Y_pollBoth_1 : decode prog_1_method_40_code 1 = .ok (.iconst 1, 1) := by decide +kernel
theorem d_Y_pollBoth_2 : decode prog_1_method_40_code 2 = .ok (.iadd, 1) := by decide +kernel
theorem d_Y_pollBoth_3 : decode prog_1_method_40_code 3 = .ok (.istore 4, 2) := by decide +kernel
theorem d_Y_pollBoth_5 : decode prog_1_method_40_code 5 = .ok (.aload_n 1, 1) := by decide +kernel
theorem d_Y_pollBoth_6 : decode prog_1_method_40_code 6 = .ok (.getfield 257, 3) := by decide +kernel
theorem d_Y_pollBoth_9 : decode prog_1_method_40_code 9 = .ok (.iload 4, 2) := by decide +kernel
theorem d_Y_pollBoth_11 : decode prog_1_method_40_code 11 = .ok (.invokevirtual 335, 3) := by decide +kernel
theorem d_Y_pollBoth_14 : decode prog_1_method_40_code 14 = .ok (.istore 5, 2) := by decide +kernel
theorem d_Y_pollBoth_16 : decode prog_1_method_40_code 16 = .ok (.aload_n 0, 1) := by decide +kernel
theorem d_Y_pollBoth_17 : decode prog_1_method_40_code 17 = .ok (.aload_n 1, 1) := by decide +kernel
theorem d_Y_pollBoth_18 : decode prog_1_method_40_code 18 = .ok (.iload 4, 2) := by decide +kernel
theorem d_Y_pollBoth_20 : decode prog_1_method_40_code 20 = .ok (.iload_n 3, 1) := by decide +kernel
theorem d_Y_pollBoth_21 : decode prog_1_method_40_code 21 = .ok (.iconst 1, 1) := by decide +kernel
theorem d_Y_pollBoth_22 : decode prog_1_method_40_code 22 = .ok (.iadd, 1) := by decide +kernel
theorem d_Y_pollBoth_23 : decode prog_1_method_40_code 23 = .ok (.invokevirtual 240, 3) := by decide +kernel
theorem d_Y_pollBoth_26 : decode prog_1_method_40_code 26 = .ok (.istore 6, 2) := by decide +kernel
theorem d_Y_pollBoth_28 : decode prog_1_method_40_code 28 = .ok (.iload 6, 2) := by decide +kernel
theorem d_Y_pollBoth_30 : decode prog_1_method_40_code 30 = .ok (.iconst 3, 1) := by decide +kernel
theorem d_Y_pollBoth_31 : decode prog_1_method_40_code 31 = .ok (.if_icmp .ne 18, 3) := by decide +kernel
theorem d_Y_pollBoth_34 : decode prog_1_method_40_code 34 = .ok (.aload_n 0, 1) := by decide +kernel
theorem d_Y_pollBoth_35 : decode prog_1_method_40_code 35 = .ok (.aload_n 1, 1) := by decide +kernel
theorem d_Y_pollBoth_36 : decode prog_1_method_40_code 36 = .ok (.iload 5, 2) := by decide +kernel
theorem d_Y_pollBoth_38 : decode prog_1_method_40_code 38 = .ok (.invokevirtual 126, 3) := by decide +kernel
theorem d_Y_pollBoth_41 : decode prog_1_method_40_code 41 = .ok (.aload_n 1, 1) := by decide +kernel
theorem d_Y_pollBoth_42 : decode prog_1_method_40_code 42 = .ok (.iload_n 2, 1) := by decide +kernel
theorem d_Y_pollBoth_43 : decode prog_1_method_40_code 43 = .ok (.iload 4, 2) := by decide +kernel
theorem d_Y_pollBoth_45 : decode prog_1_method_40_code 45 = .ok (.invokevirtual 329, 3) := by decide +kernel
theorem d_Y_pollBoth_48 : decode prog_1_method_40_code 48 = .ok (.return_, 1) := by decide +kernel
theorem d_Y_pollBoth_49 : decode prog_1_method_40_code 49 = .ok (.aload_n 0, 1) := by decide +kernel
theorem d_Y_pollBoth_50 : decode prog_1_method_40_code 50 = .ok (.aload_n 1, 1) := by decide +kernel
theorem d_Y_pollBoth_51 : decode prog_1_method_40_code 51 = .ok (.iload 5, 2) := by decide +kernel
theorem d_Y_pollBoth_53 : decode prog_1_method_40_code 53 = .ok (.iload_n 3, 1) := by decide +kernel
theorem d_Y_pollBoth_54 : decode prog_1_method_40_code 54 = .ok (.iconst 1, 1) := by decide +kernel
theorem d_Y_pollBoth_55 : decode prog_1_method_40_code 55 = .ok (.iadd, 1) := by decide +kernel
theorem d_Y_pollBoth_56 : decode prog_1_method_40_code 56 = .ok (.invokevirtual 240, 3) := by decide +kernel
theorem d_Y_pollBoth_59 : decode prog_1_method_40_code 59 = .ok (.istore 7, 2) := by decide +kernel
theorem d_Y_pollBoth_61 : decode prog_1_method_40_code 61 = .ok (.iload 7, 2) := by decide +kernel
theorem d_Y_pollBoth_63 : decode prog_1_method_40_code 63 = .ok (.iconst 3, 1) := by decide +kernel
theorem d_Y_pollBoth_64 : decode prog_1_method_40_code 64 = .ok (.if_icmp .ne 20, 3) := by decide +kernel
theorem d_Y_pollBoth_67 : decode prog_1_method_40_code 67 = .ok (.aload_n 0, 1) := by decide +kernel
theorem d_Y_pollBoth_68 : decode prog_1_method_40_code 68 = .ok (.aload_n 1, 1) := by decide +kernel
theorem d_Y_pollBoth_69 : decode prog_1_method_40_code 69 = .ok (.iload 4, 2) := by decide +kernel
theorem d_Y_pollBoth_71 : decode prog_1_method_40_code 71 = .ok (.invokevirtual 126, 3) := by decide +kernel
theorem d_Y_pollBoth_74 : decode prog_1_method_40_code 74 = .ok (.aload_n 1, 1) := by decide +kernel
theorem d_Y_pollBoth_75 : decode prog_1_method_40_code 75 = .ok (.iload_n 2, 1) := by decide +kernel
theorem d_Y_pollBoth_76 : decode prog_1_method_40_code 76 = .ok (.iload 5, 2) := by decide +kernel
theorem d_Y_pollBoth_78 : decode prog_1_method_40_code 78 = .ok (.invokevirtual 329, 3) := by decide +kernel
theorem d_Y_pollBoth_81 : decode prog_1_method_40_code 81 = .ok (.goto 33, 3) := by decide +kernel
theorem d_Y_pollBoth_84 : decode prog_1_method_40_code 84 = .ok (.iload 6, 2) := by decide +kernel
theorem d_Y_pollBoth_86 : decode prog_1_method_40_code 86 = .ok (.iconst 2, 1) := by decide +kernel
theorem d_Y_pollBoth_87 : decode prog_1_method_40_code 87 = .ok (.if_icmp .ne 27, 3) := by decide +kernel
theorem d_Y_pollBoth_90 : decode prog_1_method_40_code 90 = .ok (.iload 7, 2) := by decide +kernel
theorem d_Y_pollBoth_92 : decode prog_1_method_40_code 92 = .ok (.iconst 2, 1) := by decide +kernel
theorem d_Y_pollBoth_93 : decode prog_1_method_40_code 93 = .ok (.if_icmp .ne 21, 3) := by decide +kernel
theorem d_Y_pollBoth_96 : decode prog_1_method_40_code 96 = .ok (.aload_n 1, 1) := by decide +kernel
theorem d_Y_pollBoth_97 : decode prog_1_method_40_code 97 = .ok (.iload_n 2, 1) := by decide +kernel
theorem d_Y_pollBoth_98 : decode prog_1_method_40_code 98 = .ok (.aload_n 1, 1) := by decide +kernel
theorem d_Y_pollBoth_99 : decode prog_1_method_40_code 99 = .ok (.iload 4, 2) := by decide +kernel
theorem d_Y_pollBoth_101 : decode prog_1_method_40_code 101 = .ok (.invokevirtual 332, 3) := by decide +kernel
theorem d_Y_pollBoth_104 : decode prog_1_method_40_code 104 = .ok (.aload_n 1, 1) := by decide +kernel
theorem d_Y_pollBoth_105 : decode prog_1_method_40_code 105 = .ok (.iload 5, 2) := by decide +kernel
theorem d_Y_pollBoth_107 : decode prog_1_method_40_code 107 = .ok (.invokevirtual 332, 3) := by decide +kernel
theorem d_Y_pollBoth_110 : decode prog_1_method_40_code 110 = .ok (.iadd, 1) := by decide +kernel
theorem d_Y_pollBoth_111 : decode prog_1_method_40_code 111 = .ok (.invokevirtual 272, 3) := by decide +kernel
theorem d_Y_pollBoth_114 : decode prog_1_method_40_code 114 = .ok (.return_, 1) := by decide +kernel
theorem d_Y_pollFirst_0 : decode prog_1_method_41_code 0 = .ok (.iload_n 2, 1) := by decide +kernel
theorem d_Y_pollFirst_1 : decode prog_1_method_41_code 1 = .ok (.iconst 1, 1) := by decide +kernel
theorem d_Y_pollFirst_2 : decode prog_1_method_41_code 2 = .ok (.iadd, 1) := by decide +kernel
theorem d_Y_pollFirst_3 : decode prog_1_method_41_code 3 = .ok (.istore 4, 2) := by decide +kernel
theorem d_Y_pollFirst_5 : decode prog_1_method_41_code 5 = .ok (.aload_n 1, 1) := by decide +kernel
theorem d_Y_pollFirst_6 : decode prog_1_method_41_code 6 = .ok (.getfield 257, 3) := by decide +kernel
theorem d_Y_pollFirst_9 : decode prog_1_method_41_code 9 = .ok (.iload 4, 2) := by decide +kernel
theorem d_Y_pollFirst_11 : decode prog_1_method_41_code 11 = .ok (.invokevirtual 335, 3) := by decide +kernel
theorem d_Y_pollFirst_14 : decode prog_1_method_41_code 14 = .ok (.istore 5, 2) := by decide +kernel
theorem d_Y_pollFirst_16 : decode prog_1_method_41_code 16 = .ok (.aload_n 0, 1) := by decide +kernel
theorem d_Y_pollFirst_17 : decode prog_1_method_41_code 17 = .ok (.aload_n 1, 1) := by decide +kernel
theorem d_Y_pollFirst_18 : decode prog_1_method_41_code 18 = .ok (.iload 4, 2) := by decide +kernel
theorem d_Y_pollFirst_20 : decode prog_1_method_41_code 20 = .ok (.iload_n 3, 1) := by decide +kernel
theorem d_Y_pollFirst_21 : decode prog_1_method_41_code 21 = .ok (.iconst 1, 1) := by decide +kernel
theorem d_Y_pollFirst_22 : decode prog_1_method_41_code 22 = .ok (.iadd, 1) := by decide +kernel
theorem d_Y_pollFirst_23 : decode prog_1_method_41_code 23 = .ok (.invokevirtual 240, 3) := by decide +kernel
theorem d_Y_pollFirst_26 : decode prog_1_method_41_code 26 = .ok (.iconst 1, 1) := by decide +kernel
theorem d_Y_pollFirst_27 : decode prog_1_method_41_code 27 = .ok (.if_icmp .eq 20, 3) := by decide +kernel
theorem d_Y_pollFirst_30 : decode prog_1_method_41_code 30 = .ok (.aload_n 0, 1) := by decide +kernel
theorem d_Y_pollFirst_31 : decode prog_1_method_41_code 31 = .ok (.aload_n 1, 1) := by decide +kernel
theorem d_Y_pollFirst_32 : decode prog_1_method_41_code 32 = .ok (.iload 5, 2) := by decide +kernel
theorem d_Y_pollFirst_34 : decode prog_1_method_41_code 34 = .ok (.invokevirtual 126, 3) := by decide +kernel
theorem d_Y_pollFirst_37 : decode prog_1_method_41_code 37 = .ok (.aload_n 1, 1) := by decide +kernel
theorem d_Y_pollFirst_38 : decode prog_1_method_41_code 38 = .ok (.iload_n 2, 1) := by decide +kernel
theorem d_Y_pollFirst_39 : decode prog_1_method_41_code 39 = .ok (.iload 4, 2) := by decide +kernel
theorem d_Y_pollFirst_41 : decode prog_1_method_41_code 41 = .ok (.invokevirtual 329, 3) := by decide +kernel
theorem d_Y_pollFirst_44 : decode prog_1_method_41_code 44 = .ok (.goto 31, 3) := by decide +kernel
theorem d_Y_pollFirst_47 : decode prog_1_method_41_code 47 = .ok (.aload_n 0, 1) := by decide +kernel
theorem d_Y_pollFirst_48 : decode prog_1_method_41_code 48 = .ok (.aload_n 1, 1) := by decide +kernel
theorem d_Y_pollFirst_49 : decode prog_1_method_41_code 49 = .ok (.iload 5, 2) := by decide +kernel
theorem d_Y_pollFirst_51 : decode prog_1_method_41_code 51 = .ok (.iload_n 3, 1) := by decide +kernel
theorem d_Y_pollFirst_52 : decode prog_1_method_41_code 52 = .ok (.iconst 1, 1) := by decide +kernel
theorem d_Y_pollFirst_53 : decode prog_1_method_41_code 53 = .ok (.iadd, 1) := by decide +kernel
theorem d_Y_pollFirst_54 : decode prog_1_method_41_code 54 = .ok (.invokevirtual 240, 3) := by decide +kernel
theorem d_Y_pollFirst_57 : decode prog_1_method_41_code 57 = .ok (.iconst 1, 1) := by decide +kernel
theorem d_Y_pollFirst_58 : decode prog_1_method_41_code 58 = .ok (.if_icmp .eq 17, 3) := by decide +kernel
theorem d_Y_pollFirst_61 : decode prog_1_method_41_code 61 = .ok (.aload_n 0, 1) := by decide +kernel
theorem d_Y_pollFirst_62 : decode prog_1_method_41_code 62 = .ok (.aload_n 1, 1) := by decide +kernel
theorem d_Y_pollFirst_63 : decode prog_1_method_41_code 63 = .ok (.iload 4, 2) := by decide +kernel
theorem d_Y_pollFirst_65 : decode prog_1_method_41_code 65 = .ok (.invokevirtual 126, 3) := by decide +kernel
theorem d_Y_pollFirst_68 : decode prog_1_method_41_code 68 = .ok (.aload_n 1, 1) := by decide +kernel
theorem d_Y_pollFirst_69 : decode prog_1_method_41_code 69 = .ok (.iload_n 2, 1) := by decide +kernel
theorem d_Y_pollFirst_70 : decode prog_1_method_41_code 70 = .ok (.iload 5, 2) := by decide +kernel
theorem d_Y_pollFirst_72 : decode prog_1_method_41_code 72 = .ok (.invokevirtual 329, 3) := by decide +kernel
theorem d_Y_pollFirst_75 : decode prog_1_method_41_code 75 = .ok (.return_, 1) := by decide +kernel
theorem d_Y_pollWithin_0 : decode prog_1_method_42_code 0 = .ok (.iload_n 2, 1) := by decide +kernel
theorem d_Y_pollWithin_1 : decode prog_1_method_42_code 1 = .ok (.iconst 1, 1) := by decide +kernel
theorem d_Y_pollWithin_2 : decode prog_1_method_42_code 2 = .ok (.iadd, 1) := by decide +kernel
theorem d_Y_pollWithin_3 : decode prog_1_method_42_code 3 = .ok (.istore 4, 2) := by decide +kernel
theorem d_Y_pollWithin_5 : decode prog_1_method_42_code 5 = .ok (.aload_n 1, 1) := by decide +kernel
theorem d_Y_pollWithin_6 : decode prog_1_method_42_code 6 = .ok (.getfield 204, 3) := by decide +kernel
theorem d_Y_pollWithin_9 : decode prog_1_method_42_code 9 = .ok (.iload_n 2, 1) := by decide +kernel
theorem d_Y_pollWithin_10 : decode prog_1_method_42_code 10 = .ok (.iaload, 1) := by decide +kernel
theorem d_Y_pollWithin_11 : decode prog_1_method_42_code 11 = .ok (.iconst (-1), 1) := by decide +kernel
theorem d_Y_pollWithin_12 : decode prog_1_method_42_code 12 = .ok (.if_icmp .ne 13, 3) := by decide +kernel
theorem d_Y_pollWithin_15 : decode prog_1_method_42_code 15 = .ok (.aload_n 1, 1) := by decide +kernel
theorem d_Y_pollWithin_16 : decode prog_1_method_42_code 16 = .ok (.getfield 204, 3) := by decide +kernel
theorem d_Y_pollWithin_19 : decode prog_1_method_42_code 19 = .ok (.iload_n 2, 1) := by decide +kernel
theorem d_Y_pollWithin_20 : decode prog_1_method_42_code 20 = .ok (.aload_n 0, 1) := by decide +kernel
theorem d_Y_pollWithin_21 : decode prog_1_method_42_code 21 = .ok (.getfield 66, 3) := by decide +kernel
theorem d_Y_pollWithin_24 : decode prog_1_method_42_code 24 = .ok (.iastore, 1) := by decide +kernel
theorem d_Y_pollWithin_25 : decode prog_1_method_42_code 25 = .ok (.aload_n 0, 1) := by decide +kernel
theorem d_Y_pollWithin_26 : decode prog_1_method_42_code 26 = .ok (.aload_n 1, 1) := by decide +kernel
theorem d_Y_pollWithin_27 : decode prog_1_method_42_code 27 = .ok (.iload 4, 2) := by decide +kernel
theorem d_Y_pollWithin_29 : decode prog_1_method_42_code 29 = .ok (.iload_n 3, 1) := by decide +kernel
theorem d_Y_pollWithin_30 : decode prog_1_method_42_code 30 = .ok (.iconst 1, 1) := by decide +kernel
theorem d_Y_pollWithin_31 : decode prog_1_method_42_code 31 = .ok (.iadd, 1) := by decide +kernel
theorem d_Y_pollWithin_32 : decode prog_1_method_42_code 32 = .ok (.invokevirtual 240, 3) := by decide +kernel
theorem d_Y_pollWithin_35 : decode prog_1_method_42_code 35 = .ok (.iconst 1, 1) := by decide +kernel
theorem d_Y_pollWithin_36 : decode prog_1_method_42_code 36 = .ok (.if_icmp .eq 13, 3) := by decide +kernel
theorem d_Y_pollWithin_39 : decode prog_1_method_42_code 39 = .ok (.aload_n 1, 1) := by decide +kernel
theorem d_Y_pollWithin_40 : decode prog_1_method_42_code 40 = .ok (.iload_n 2, 1) := by decide +kernel
theorem d_Y_pollWithin_41 : decode prog_1_method_42_code 41 = .ok (.iload 4, 2) := by decide +kernel
theorem d_Y_pollWithin_43 : decode prog_1_method_42_code 43 = .ok (.invokevirtual 329, 3) := by decide +kernel
theorem d_Y_pollWithin_46 : decode prog_1_method_42_code 46 = .ok (.goto 39, 3) := by decide +kernel
theorem d_Y_pollWithin_49 : decode prog_1_method_42_code 49 = .ok (.aload_n 0, 1) := by decide +kernel
theorem d_Y_pollWithin_50 : decode prog_1_method_42_code 50 = .ok (.getfield 66, 3) := by decide +kernel
theorem d_Y_pollWithin_53 : decode prog_1_method_42_code 53 = .ok (.aload_n 1, 1) := by decide +kernel
theorem d_Y_pollWithin_54 : decode prog_1_method_42_code 54 = .ok (.getfield 204, 3) := by decide +kernel
theorem d_Y_pollWithin_57 : decode prog_1_method_42_code 57 = .ok (.iload_n 2, 1) := by decide +kernel
theorem d_Y_pollWithin_58 : decode prog_1_method_42_code 58 = .ok (.iaload, 1) := by decide +kernel
theorem d_Y_pollWithin_59 : decode prog_1_method_42_code 59 = .ok (.isub, 1) := by decide +kernel
theorem d_Y_pollWithin_60 : decode prog_1_method_42_code 60 = .ok (.aload_n 1, 1) := by decide +kernel
theorem d_Y_pollWithin_61 : decode prog_1_method_42_code 61 = .ok (.getfield 257, 3) := by decide +kernel
theorem d_Y_pollWithin_64 : decode prog_1_method_42_code 64 = .ok (.getfield 266, 3) := by decide +kernel
theorem d_Y_pollWithin_67 : decode prog_1_method_42_code 67 = .ok (.iload_n 2, 1) := by decide +kernel
theorem d_Y_pollWithin_68 : decode prog_1_method_42_code 68 = .ok (.iaload, 1) := by decide +kernel
theorem d_Y_pollWithin_69 : decode prog_1_method_42_code 69 = .ok (.if_icmp .lt 16, 3) := by decide +kernel
theorem d_Y_pollWithin_72 : decode prog_1_method_42_code 72 = .ok (.aload_n 0, 1) := by decide +kernel
theorem d_Y_pollWithin_73 : decode prog_1_method_42_code 73 = .ok (.aload_n 1, 1) := by decide +kernel
theorem d_Y_pollWithin_74 : decode prog_1_method_42_code 74 = .ok (.iload 4, 2) := by decide +kernel
theorem d_Y_pollWithin_76 : decode prog_1_method_42_code 76 = .ok (.invokevirtual 126, 3) := by decide +kernel
theorem d_Y_pollWithin_79 : decode prog_1_method_42_code 79 = .ok (.aload_n 1, 1) := by decide +kernel
theorem d_Y_pollWithin_80 : decode prog_1_method_42_code 80 = .ok (.iload_n 2, 1) := by decide +kernel
theorem d_Y_pollWithin_81 : decode prog_1_method_42_code 81 = .ok (.iconst (-1), 1) := by decide +kernel
theorem d_Y_pollWithin_82 : decode prog_1_method_42_code 82 = .ok (.invokevirtual 272, 3) := by decide +kernel
theorem d_Y_pollWithin_85 : decode prog_1_method_42_code 85 = .ok (.return_, 1) := by decide +kernel
theorem d_Y_pollAdd_0 : decode prog_1_method_43_code 0 = .ok (.iload_n 2, 1) := by decide +kernel
theorem d_Y_pollAdd_1 : decode prog_1_method_43_code 1 = .ok (.iconst 1, 1) := by decide +kernel
theorem d_Y_pollAdd_2 : decode prog_1_method_43_code 2 = .ok (.iadd, 1) := by decide +kernel
theorem d_Y_pollAdd_3 : decode prog_1_method_43_code 3 = .ok (.istore 4, 2) := by decide +kernel
theorem d_Y_pollAdd_5 : decode prog_1_method_43_code 5 = .ok (.aload_n 0, 1) := by decide +kernel
theorem d_Y_pollAdd_6 : decode prog_1_method_43_code 6 = .ok (.aload_n 1, 1) := by decide +kernel
theorem d_Y_pollAdd_7 : decode prog_1_method_43_code 7 = .ok (.iload 4, 2) := by decide +kernel
theorem d_Y_pollAdd_9 : decode prog_1_method_43_code 9 = .ok (.iload_n 3, 1) := by decide +kernel
theorem d_Y_pollAdd_10 : decode prog_1_method_43_code 10 = .ok (.iconst 1, 1) := by decide +kernel
theorem d_Y_pollAdd_11 : decode prog_1_method_43_code 11 = .ok (.iadd, 1) := by decide +kernel
theorem d_Y_pollAdd_12 : decode prog_1_method_43_code 12 = .ok (.invokevirtual 240, 3) := by decide +kernel
theorem d_Y_pollAdd_15 : decode prog_1_method_43_code 15 = .ok (.iconst 2, 1) := by decide +kernel
theorem d_Y_pollAdd_16 : decode prog_1_method_43_code 16 = .ok (.if_icmp .ne 27, 3) := by decide +kernel
theorem d_Y_pollAdd_19 : decode prog_1_method_43_code 19 = .ok (.aload_n 1, 1) := by decide +kernel
theorem d_Y_pollAdd_20 : decode prog_1_method_43_code 20 = .ok (.iload_n 2, 1) := by decide +kernel
theorem d_Y_pollAdd_21 : decode prog_1_method_43_code 21 = .ok (.aload_n 1, 1) := by decide +kernel
theorem d_Y_pollAdd_22 : decode prog_1_method_43_code 22 = .ok (.iload 4, 2) := by decide +kernel
theorem d_Y_pollAdd_24 : decode prog_1_method_43_code 24 = .ok (.invokevirtual 332, 3) := by decide +kernel
theorem d_Y_pollAdd_27 : decode prog_1_method_43_code 27 = .ok (.aload_n 1, 1) := by decide +kernel
theorem d_Y_pollAdd_28 : decode prog_1_method_43_code 28 = .ok (.getfield 257, 3) := by decide +kernel
theorem d_Y_pollAdd_31 : decode prog_1_method_43_code 31 = .ok (.getfield 266, 3) := by decide +kernel
theorem d_Y_pollAdd_34 : decode prog_1_method_43_code 34 = .ok (.iload_n 2, 1) := by decide +kernel
theorem d_Y_pollAdd_35 : decode prog_1_method_43_code 35 = .ok (.iaload, 1) := by decide +kernel
theorem d_Y_pollAdd_36 : decode prog_1_method_43_code 36 = .ok (.iadd, 1) := by decide +kernel
theorem d_Y_pollAdd_37 : decode prog_1_method_43_code 37 = .ok (.invokevirtual 272, 3) := by decide +kernel
theorem d_Y_pollAdd_40 : decode prog_1_method_43_code 40 = .ok (.goto 10, 3) := by decide +kernel
theorem d_Y_pollAdd_43 : decode prog_1_method_43_code 43 = .ok (.aload_n 1, 1) := by decide +kernel
theorem d_Y_pollAdd_44 : decode prog_1_method_43_code 44 = .ok (.iload_n 2, 1) := by decide +kernel
theorem d_Y_pollAdd_45 : decode prog_1_method_43_code 45 = .ok (.iload 4, 2) := by decide +kernel
theorem d_Y_pollAdd_47 : decode prog_1_method_43_code 47 = .ok (.invokevirtual 329, 3) := by decide +kernel
theorem d_Y_pollAdd_50 : decode prog_1_method_43_code 50 = .ok (.return_, 1) := by decide +kernel
theorem d_Y_pollCatch_0 : decode prog_1_method_44_code 0 = .ok (.iload_n 2, 1) := by decide +kernel
theorem d_Y_pollCatch_1 : decode prog_1_method_44_code 1 = .ok (.iconst 1, 1) := by decide +kernel
theorem d_Y_pollCatch_2 : decode prog_1_method_44_code 2 = .ok (.iadd, 1) := by decide +kernel
theorem d_Y_pollCatch_3 : decode prog_1_method_44_code 3 = .ok (.istore 4, 2) := by decide +kernel
theorem d_Y_pollCatch_5 : decode prog_1_method_44_code 5 = .ok (.aload_n 0, 1) := by decide +kernel
theorem d_Y_pollCatch_6 : decode prog_1_method_44_code 6 = .ok (.aload_n 1, 1) := by decide +kernel
theorem d_Y_pollCatch_7 : decode prog_1_method_44_code 7 = .ok (.iload 4, 2) := by decide +kernel
theorem d_Y_pollCatch_9 : decode prog_1_method_44_code 9 = .ok (.iload_n 3, 1) := by decide +kernel
theorem d_Y_pollCatch_10 : decode prog_1_method_44_code 10 = .ok (.iconst 1, 1) := by decide +kernel
theorem d_Y_pollCatch_11 : decode prog_1_method_44_code 11 = .ok (.iadd, 1) := by decide +kernel
theorem d_Y_pollCatch_12 : decode prog_1_method_44_code 12 = .ok (.invokevirtual 240, 3) := by decide +kernel
theorem d_Y_pollCatch_15 : decode prog_1_method_44_code 15 = .ok (.iconst 3, 1) := by decide +kernel
theorem d_Y_pollCatch_16 : decode prog_1_method_44_code 16 = .ok (.if_icmp .ne 18, 3) := by decide +kernel
theorem d_Y_pollCatch_19 : decode prog_1_method_44_code 19 = .ok (.aload_n 1, 1) := by decide +kernel
theorem d_Y_pollCatch_20 : decode prog_1_method_44_code 20 = .ok (.iload_n 2, 1) := by decide +kernel
theorem d_Y_pollCatch_21 : decode prog_1_method_44_code 21 = .ok (.aload_n 1, 1) := by decide +kernel
theorem d_Y_pollCatch_22 : decode prog_1_method_44_code 22 = .ok (.iload 4, 2) := by decide +kernel
theorem d_Y_pollCatch_24 : decode prog_1_method_44_code 24 = .ok (.invokevirtual 332, 3) := by decide +kernel
theorem d_Y_pollCatch_27 : decode prog_1_method_44_code 27 = .ok (.ineg, 1) := by decide +kernel
theorem d_Y_pollCatch_28 : decode prog_1_method_44_code 28 = .ok (.invokevirtual 272, 3) := by decide +kernel
theorem d_Y_pollCatch_31 : decode prog_1_method_44_code 31 = .ok (.goto 10, 3) := by decide +kernel
theorem d_Y_pollCatch_34 : decode prog_1_method_44_code 34 = .ok (.aload_n 1, 1) := by decide +kernel
theorem d_Y_pollCatch_35 : decode prog_1_method_44_code 35 = .ok (.iload_n 2, 1) := by decide +kernel
theorem d_Y_pollCatch_36 : decode prog_1_method_44_code 36 = .ok (.iload 4, 2) := by decide +kernel
theorem d_Y_pollCatch_38 : decode prog_1_method_44_code 38 = .ok (.invokevirtual 329, 3) := by decide +kernel
theorem d_Y_pollCatch_41 : decode prog_1_method_44_code 41 = .ok (.return_, 1) := by decide +kernel
theorem d_Y_spendUnit_0 : decode prog_1_method_45_code 0 = .ok (.aload_n 1, 1) := by decide +kernel
theorem d_Y_spendUnit_1 : decode prog_1_method_45_code 1 = .ok (.getfield 153, 3) := by decide +kernel
theorem d_Y_spendUnit_4 : decode prog_1_method_45_code 4 = .ok (.ifCond .gt 10, 3) := by decide +kernel
theorem d_Y_spendUnit_7 : decode prog_1_method_45_code 7 = .ok (.aload_n 0, 1) := by decide +kernel
theorem d_Y_spendUnit_8 : decode prog_1_method_45_code 8 = .ok (.aload_n 1, 1) := by decide +kernel
theorem d_Y_spendUnit_9 : decode prog_1_method_45_code 9 = .ok (.invokevirtual 220, 3) := by decide +kernel
theorem d_Y_spendUnit_12 : decode prog_1_method_45_code 12 = .ok (.iconst 0, 1) := by decide +kernel
theorem d_Y_spendUnit_13 : decode prog_1_method_45_code 13 = .ok (.ireturn, 1) := by decide +kernel
theorem d_Y_spendUnit_14 : decode prog_1_method_45_code 14 = .ok (.aload_n 1, 1) := by decide +kernel
theorem d_Y_spendUnit_15 : decode prog_1_method_45_code 15 = .ok (.dup, 1) := by decide +kernel
theorem d_Y_spendUnit_16 : decode prog_1_method_45_code 16 = .ok (.getfield 153, 3) := by decide +kernel
theorem d_Y_spendUnit_19 : decode prog_1_method_45_code 19 = .ok (.iconst 1, 1) := by decide +kernel
theorem d_Y_spendUnit_20 : decode prog_1_method_45_code 20 = .ok (.isub, 1) := by decide +kernel
theorem d_Y_spendUnit_21 : decode prog_1_method_45_code 21 = .ok (.putfield 153, 3) := by decide +kernel
theorem d_Y_spendUnit_24 : decode prog_1_method_45_code 24 = .ok (.iconst 1, 1) := by decide +kernel
theorem d_Y_spendUnit_25 : decode prog_1_method_45_code 25 = .ok (.ireturn, 1) := by decide +kernel
theorem d_Y_permitsOf_0 : decode prog_1_method_46_code 0 = .ok (.iconst 1, 1) := by decide +kernel
theorem d_Y_permitsOf_1 : decode prog_1_method_46_code 1 = .ok (.iload_n 0, 1) := by decide +kernel
theorem d_Y_permitsOf_2 : decode prog_1_method_46_code 2 = .ok (.iconst 2, 1) := by decide +kernel
theorem d_Y_permitsOf_3 : decode prog_1_method_46_code 3 = .ok (.idiv, 1) := by decide +kernel
theorem d_Y_permitsOf_4 : decode prog_1_method_46_code 4 = .ok (.iadd, 1) := by decide +kernel
theorem d_Y_permitsOf_5 : decode prog_1_method_46_code 5 = .ok (.ireturn, 1) := by decide +kernel
theorem d_Y_addPermits_0 : decode prog_1_method_47_code 0 = .ok (.iload_n 2, 1) := by decide +kernel
theorem d_Y_addPermits_1 : decode prog_1_method_47_code 1 = .ok (.istore_n 3, 1) := by decide +kernel
theorem d_Y_addPermits_2 : decode prog_1_method_47_code 2 = .ok (.aload_n 1, 1) := by decide +kernel
theorem d_Y_addPermits_3 : decode prog_1_method_47_code 3 = .ok (.getfield 175, 3) := by decide +kernel
theorem d_Y_addPermits_6 : decode prog_1_method_47_code 6 = .ok (.getfield 168, 3) := by decide +kernel
theorem d_Y_addPermits_9 : decode prog_1_method_47_code 9 = .ok (.istore 4, 2) := by decide +kernel
theorem d_Y_addPermits_11 : decode prog_1_method_47_code 11 = .ok (.iload 4, 2) := by decide +kernel
theorem d_Y_addPermits_13 : decode prog_1_method_47_code 13 = .ok (.ifCond .le 124, 3) := by decide +kernel
theorem d_Y_addPermits_16 : decode prog_1_method_47_code 16 = .ok (.iload_n 3, 1) := by decide +kernel
theorem d_Y_addPermits_17 : decode prog_1_method_47_code 17 = .ok (.ifCond .le 120, 3) := by decide +kernel
theorem d_Y_addPermits_20 : decode prog_1_method_47_code 20 = .ok (.aload_n 1, 1) := by decide +kernel
theorem d_Y_addPermits_21 : decode prog_1_method_47_code 21 = .ok (.getfield 175, 3) := by decide +kernel
theorem d_Y_addPermits_24 : decode prog_1_method_47_code 24 = .ok (.iconst 0, 1) := by decide +kernel
theorem d_Y_addPermits_25 : decode prog_1_method_47_code 25 = .ok (.invokevirtual 169, 3) := by decide +kernel
theorem d_Y_addPermits_28 : decode prog_1_method_47_code 28 = .ok (.istore 5, 2) := by decide +kernel
theorem d_Y_addPermits_30 : decode prog_1_method_47_code 30 = .ok (.aload_n 0, 1) := by decide +kernel
theorem d_Y_addPermits_31 : decode prog_1_method_47_code 31 = .ok (.iload 5, 2) := by decide +kernel
theorem d_Y_addPermits_33 : decode prog_1_method_47_code 33 = .ok (.invokevirtual 201, 3) := by decide +kernel
theorem d_Y_addPermits_36 : decode prog_1_method_47_code 36 = .ok (.astore 6, 2) := by decide +kernel
theorem d_Y_addPermits_38 : decode prog_1_method_47_code 38 = .ok (.aload 6, 2) := by decide +kernel
theorem d_Y_addPermits_40 : decode prog_1_method_47_code 40 = .ok (.ifnonnull 6, 3) := by decide +kernel
theorem d_Y_addPermits_43 : decode prog_1_method_47_code 43 = .ok (.goto 94, 3) := by decide +kernel
theorem d_Y_addPermits_46 : decode prog_1_method_47_code 46 = .ok (.iload 5, 2) := by decide +kernel
theorem d_Y_addPermits_48 : decode prog_1_method_47_code 48 = .ok (.bipush 12, 2) := by decide +kernel
theorem d_Y_addPermits_50 : decode prog_1_method_47_code 50 = .ok (.irem, 1) := by decide +kernel
theorem d_Y_addPermits_51 : decode prog_1_method_47_code 51 = .ok (.istore 7, 2) := by decide +kernel
theorem d_Y_addPermits_53 : decode prog_1_method_47_code 53 = .ok (.aload 6, 2) := by decide +kernel
theorem d_Y_addPermits_55 : decode prog_1_method_47_code 55 = .ok (.getfield 257, 3) := by decide +kernel
theorem d_Y_addPermits_58 : decode prog_1_method_47_code 58 = .ok (.getfield 266, 3) := by decide +kernel
theorem d_Y_addPermits_61 : decode prog_1_method_47_code 61 = .ok (.iload 7, 2) := by decide +kernel
theorem d_Y_addPermits_63 : decode prog_1_method_47_code 63 = .ok (.iaload, 1) := by decide +kernel
theorem d_Y_addPermits_64 : decode prog_1_method_47_code 64 = .ok (.invokestatic 286, 3) := by decide +kernel
theorem d_Y_addPermits_67 : decode prog_1_method_47_code 67 = .ok (.istore 8, 2) := by decide +kernel
theorem d_Y_addPermits_69 : decode prog_1_method_47_code 69 = .ok (.iload_n 3, 1) := by decide +kernel
theorem d_Y_addPermits_70 : decode prog_1_method_47_code 70 = .ok (.iload 8, 2) := by decide +kernel
theorem d_Y_addPermits_72 : decode prog_1_method_47_code 72 = .ok (.aload 6, 2) := by decide +kernel
theorem d_Y_addPermits_74 : decode prog_1_method_47_code 74 = .ok (.getfield 204, 3) := by decide +kernel
theorem d_Y_addPermits_77 : decode prog_1_method_47_code 77 = .ok (.iload 7, 2) := by decide +kernel
theorem d_Y_addPermits_79 : decode prog_1_method_47_code 79 = .ok (.iaload, 1) := by decide +kernel
theorem d_Y_addPermits_80 : decode prog_1_method_47_code 80 = .ok (.isub, 1) := by decide +kernel
theorem d_Y_addPermits_81 : decode prog_1_method_47_code 81 = .ok (.invokestatic 338, 3) := by decide +kernel
theorem d_Y_addPermits_84 : decode prog_1_method_47_code 84 = .ok (.istore 9, 2) := by decide +kernel
theorem d_Y_addPermits_86 : decode prog_1_method_47_code 86 = .ok (.aload 6, 2) := by decide +kernel
theorem d_Y_addPermits_88 : decode prog_1_method_47_code 88 = .ok (.getfield 204, 3) := by decide +kernel
theorem d_Y_addPermits_91 : decode prog_1_method_47_code 91 = .ok (.iload 7, 2) := by decide +kernel
theorem d_Y_addPermits_93 : decode prog_1_method_47_code 93 = .ok (.dup2, 1) := by decide +kernel
theorem d_Y_addPermits_94 : decode prog_1_method_47_code 94 = .ok (.iaload, 1) := by decide +kernel
theorem d_Y_addPermits_95 : decode prog_1_method_47_code 95 = .ok (.iload 9, 2) := by decide +kernel
theorem d_Y_addPermits_97 : decode prog_1_method_47_code 97 = .ok (.iadd, 1) := by decide +kernel
theorem d_Y_addPermits_98 : decode prog_1_method_47_code 98 = .ok (.iastore, 1) := by decide +kernel
theorem d_Y_addPermits_99 : decode prog_1_method_47_code 99 = .ok (.iload_n 3, 1) := by decide +kernel
theorem d_Y_addPermits_100 : decode prog_1_method_47_code 100 = .ok (.iload 9, 2) := by decide +kernel
theorem d_Y_addPermits_102 : decode prog_1_method_47_code 102 = .ok (.isub, 1) := by decide +kernel
theorem d_Y_addPermits_103 : decode prog_1_method_47_code 103 = .ok (.istore_n 3, 1) := by decide +kernel
theorem d_Y_addPermits_104 : decode prog_1_method_47_code 104 = .ok (.aload 6, 2) := by decide +kernel
theorem d_Y_addPermits_106 : decode prog_1_method_47_code 106 = .ok (.getfield 204, 3) := by decide +kernel
theorem d_Y_addPermits_109 : decode prog_1_method_47_code 109 = .ok (.iload 7, 2) := by decide +kernel
theorem d_Y_addPermits_111 : decode prog_1_method_47_code 111 = .ok (.iaload, 1) := by decide +kernel
theorem d_Y_addPermits_112 : decode prog_1_method_47_code 112 = .ok (.iload 8, 2) := by decide +kernel
theorem d_Y_addPermits_114 : decode prog_1_method_47_code 114 = .ok (.if_icmp .lt 17, 3) := by decide +kernel
theorem d_Y_addPermits_117 : decode prog_1_method_47_code 117 = .ok (.aload_n 1, 1) := by decide +kernel
theorem d_Y_addPermits_118 : decode prog_1_method_47_code 118 = .ok (.getfield 175, 3) := by decide +kernel
theorem d_Y_addPermits_121 : decode prog_1_method_47_code 121 = .ok (.invokevirtual 231, 3) := by decide +kernel
theorem d_Y_addPermits_124 : decode prog_1_method_47_code 124 = .ok (.pop, 1) := by decide +kernel
theorem d_Y_addPermits_125 : decode prog_1_method_47_code 125 = .ok (.aload_n 0, 1) := by decide +kernel
theorem d_Y_addPermits_126 : decode prog_1_method_47_code 126 = .ok (.aload 6, 2) := by decide +kernel
theorem d_Y_addPermits_128 : decode prog_1_method_47_code 128 = .ok (.invokevirtual 220, 3) := by decide +kernel
theorem d_Y_addPermits_131 : decode prog_1_method_47_code 131 = .ok (.iinc 4 (-1), 3) := by decide +kernel
theorem d_Y_addPermits_134 : decode prog_1_method_47_code 134 = .ok (.goto (-123), 3) := by decide +kernel
theorem d_Y_addPermits_137 : decode prog_1_method_47_code 137 = .ok (.aload_n 1, 1) := by decide +kernel
theorem d_Y_addPermits_138 : decode prog_1_method_47_code 138 = .ok (.dup, 1) := by decide +kernel
theorem d_Y_addPermits_139 : decode prog_1_method_47_code 139 = .ok (.getfield 137, 3) := by decide +kernel
theorem d_Y_addPermits_142 : decode prog_1_method_47_code 142 = .ok (.iload_n 3, 1) := by decide +kernel
theorem d_Y_addPermits_143 : decode prog_1_method_47_code 143 = .ok (.iadd, 1) := by decide +kernel
theorem d_Y_addPermits_144 : decode prog_1_method_47_code 144 = .ok (.putfield 137, 3) := by decide +kernel
theorem d_Y_addPermits_147 : decode prog_1_method_47_code 147 = .ok (.return_, 1) := by decide +kernel
theorem d_Y_giveNotice_0 : decode prog_1_method_48_code 0 = .ok (.aload_n 1, 1) := by decide +kernel
theorem d_Y_giveNotice_1 : decode prog_1_method_48_code 1 = .ok (.getfield 186, 3) := by decide +kernel
theorem d_Y_giveNotice_4 : decode prog_1_method_48_code 4 = .ok (.invokevirtual 198, 3) := by decide +kernel
theorem d_Y_giveNotice_7 : decode prog_1_method_48_code 7 = .ok (.ifCond .eq 10, 3) := by decide +kernel
theorem d_Y_giveNotice_10 : decode prog_1_method_48_code 10 = .ok (.aload_n 1, 1) := by decide +kernel
theorem d_Y_giveNotice_11 : decode prog_1_method_48_code 11 = .ok (.iconst 1, 1) := by decide +kernel
theorem d_Y_giveNotice_12 : decode prog_1_method_48_code 12 = .ok (.putfield 182, 3) := by decide +kernel
theorem d_Y_giveNotice_15 : decode prog_1_method_48_code 15 = .ok (.iconst 0, 1) := by decide +kernel
theorem d_Y_giveNotice_16 : decode prog_1_method_48_code 16 = .ok (.ireturn, 1) := by decide +kernel
theorem d_Y_giveNotice_17 : decode prog_1_method_48_code 17 = .ok (.aload_n 1, 1) := by decide +kernel
theorem d_Y_giveNotice_18 : decode prog_1_method_48_code 18 = .ok (.getfield 186, 3) := by decide +kernel
theorem d_Y_giveNotice_21 : decode prog_1_method_48_code 21 = .ok (.invokevirtual 231, 3) := by decide +kernel
theorem d_Y_giveNotice_24 : decode prog_1_method_48_code 24 = .ok (.istore_n 2, 1) := by decide +kernel
theorem d_Y_giveNotice_25 : decode prog_1_method_48_code 25 = .ok (.aload_n 0, 1) := by decide +kernel
theorem d_Y_giveNotice_26 : decode prog_1_method_48_code 26 = .ok (.iload_n 2, 1) := by decide +kernel
theorem d_Y_giveNotice_27 : decode prog_1_method_48_code 27 = .ok (.invokevirtual 201, 3) := by decide +kernel
theorem d_Y_giveNotice_30 : decode prog_1_method_48_code 30 = .ok (.astore_n 3, 1) := by decide +kernel
theorem d_Y_giveNotice_31 : decode prog_1_method_48_code 31 = .ok (.aload_n 3, 1) := by decide +kernel
theorem d_Y_giveNotice_32 : decode prog_1_method_48_code 32 = .ok (.ifnull 18, 3) := by decide +kernel
theorem d_Y_giveNotice_35 : decode prog_1_method_48_code 35 = .ok (.aload_n 3, 1) := by decide +kernel
theorem d_Y_giveNotice_36 : decode prog_1_method_48_code 36 = .ok (.getfield 204, 3) := by decide +kernel
theorem d_Y_giveNotice_39 : decode prog_1_method_48_code 39 = .ok (.iload_n 2, 1) := by decide +kernel
theorem d_Y_giveNotice_40 : decode prog_1_method_48_code 40 = .ok (.bipush 12, 2) := by decide +kernel
theorem d_Y_giveNotice_42 : decode prog_1_method_48_code 42 = .ok (.irem, 1) := by decide +kernel
theorem d_Y_giveNotice_43 : decode prog_1_method_48_code 43 = .ok (.iconst 1, 1) := by decide +kernel
theorem d_Y_giveNotice_44 : decode prog_1_method_48_code 44 = .ok (.iastore, 1) := by decide +kernel
theorem d_Y_giveNotice_45 : decode prog_1_method_48_code 45 = .ok (.aload_n 0, 1) := by decide +kernel
theorem d_Y_giveNotice_46 : decode prog_1_method_48_code 46 = .ok (.aload_n 3, 1) := by decide +kernel
theorem d_Y_giveNotice_47 : decode prog_1_method_48_code 47 = .ok (.invokevirtual 220, 3) := by decide +kernel
theorem d_Y_giveNotice_50 : decode prog_1_method_48_code 50 = .ok (.iconst 1, 1) := by decide +kernel
theorem d_Y_giveNotice_51 : decode prog_1_method_48_code 51 = .ok (.ireturn, 1) := by decide +kernel
theorem d_Y_drop_0 : decode prog_1_method_49_code 0 = .ok (.aload_n 1, 1) := by decide +kernel
theorem d_Y_drop_1 : decode prog_1_method_49_code 1 = .ok (.iload_n 2, 1) := by decide +kernel
theorem d_Y_drop_2 : decode prog_1_method_49_code 2 = .ok (.invokevirtual 341, 3) := by decide +kernel
theorem d_Y_drop_5 : decode prog_1_method_49_code 5 = .ok (.iconst 1, 1) := by decide +kernel
theorem d_Y_drop_6 : decode prog_1_method_49_code 6 = .ok (.if_icmp .eq 4, 3) := by decide +kernel
theorem d_Y_drop_9 : decode prog_1_method_49_code 9 = .ok (.return_, 1) := by decide +kernel
theorem d_Y_drop_10 : decode prog_1_method_49_code 10 = .ok (.aload_n 1, 1) := by decide +kernel
theorem d_Y_drop_11 : decode prog_1_method_49_code 11 = .ok (.getfield 257, 3) := by decide +kernel
theorem d_Y_drop_14 : decode prog_1_method_49_code 14 = .ok (.iload_n 2, 1) := by decide +kernel
theorem d_Y_drop_15 : decode prog_1_method_49_code 15 = .ok (.invokevirtual 335, 3) := by decide +kernel
theorem d_Y_drop_18 : decode prog_1_method_49_code 18 = .ok (.istore_n 3, 1) := by decide +kernel
theorem d_Y_drop_19 : decode prog_1_method_49_code 19 = .ok (.iload_n 2, 1) := by decide +kernel
theorem d_Y_drop_20 : decode prog_1_method_49_code 20 = .ok (.istore 4, 2) := by decide +kernel
theorem d_Y_drop_22 : decode prog_1_method_49_code 22 = .ok (.iload 4, 2) := by decide +kernel
theorem d_Y_drop_24 : decode prog_1_method_49_code 24 = .ok (.iload_n 3, 1) := by decide +kernel
theorem d_Y_drop_25 : decode prog_1_method_49_code 25 = .ok (.if_icmp .ge 186, 3) := by decide +kernel
theorem d_Y_drop_28 : decode prog_1_method_49_code 28 = .ok (.aload_n 1, 1) := by decide +kernel
theorem d_Y_drop_29 : decode prog_1_method_49_code 29 = .ok (.getfield 263, 3) := by decide +kernel
theorem d_Y_drop_32 : decode prog_1_method_49_code 32 = .ok (.iload 4, 2) := by decide +kernel
theorem d_Y_drop_34 : decode prog_1_method_49_code 34 = .ok (.iaload, 1) := by decide +kernel
theorem d_Y_drop_35 : decode prog_1_method_49_code 35 = .ok (.iconst 1, 1) := by decide +kernel
theorem d_Y_drop_36 : decode prog_1_method_49_code 36 = .ok (.if_icmp .ne 18, 3) := by decide +kernel
theorem d_Y_drop_39 : decode prog_1_method_49_code 39 = .ok (.aload_n 1, 1) := by decide +kernel
theorem d_Y_drop_40 : decode prog_1_method_49_code 40 = .ok (.getfield 204, 3) := by decide +kernel
theorem d_Y_drop_43 : decode prog_1_method_49_code 43 = .ok (.iload 4, 2) := by decide +kernel
theorem d_Y_drop_45 : decode prog_1_method_49_code 45 = .ok (.iaload, 1) := by decide +kernel
theorem d_Y_drop_46 : decode prog_1_method_49_code 46 = .ok (.iconst (-1), 1) := by decide +kernel
theorem d_Y_drop_47 : decode prog_1_method_49_code 47 = .ok (.if_icmp .eq 7, 3) := by decide +kernel
theorem d_Y_drop_50 : decode prog_1_method_49_code 50 = .ok (.iconst 1, 1) := by decide +kernel
theorem d_Y_drop_51 : decode prog_1_method_49_code 51 = .ok (.goto 4, 3) := by decide +kernel
theorem d_Y_drop_54 : decode prog_1_method_49_code 54 = .ok (.iconst 0, 1) := by decide +kernel
theorem d_Y_drop_55 : decode prog_1_method_49_code 55 = .ok (.istore 5, 2) := by decide +kernel
theorem d_Y_drop_57 : decode prog_1_method_49_code 57 = .ok (.aload_n 1, 1) := by decide +kernel
theorem d_Y_drop_58 : decode prog_1_method_49_code 58 = .ok (.getfield 263, 3) := by decide +kernel
theorem d_Y_drop_61 : decode prog_1_method_49_code 61 = .ok (.iload 4, 2) := by decide +kernel
theorem d_Y_drop_63 : decode prog_1_method_49_code 63 = .ok (.iconst 4, 1) := by decide +kernel
theorem d_Y_drop_64 : decode prog_1_method_49_code 64 = .ok (.iastore, 1) := by decide +kernel
theorem d_Y_drop_65 : decode prog_1_method_49_code 65 = .ok (.aload_n 1, 1) := by decide +kernel
theorem d_Y_drop_66 : decode prog_1_method_49_code 66 = .ok (.getfield 257, 3) := by decide +kernel
theorem d_Y_drop_69 : decode prog_1_method_49_code 69 = .ok (.getfield 266, 3) := by decide +kernel
theorem d_Y_drop_72 : decode prog_1_method_49_code 72 = .ok (.iload 4, 2) := by decide +kernel
theorem d_Y_drop_74 : decode prog_1_method_49_code 74 = .ok (.iaload, 1) := by decide +kernel
theorem d_Y_drop_75 : decode prog_1_method_49_code 75 = .ok (.istore 6, 2) := by decide +kernel
theorem d_Y_drop_77 : decode prog_1_method_49_code 77 = .ok (.iload 5, 2) := by decide +kernel
theorem d_Y_drop_79 : decode prog_1_method_49_code 79 = .ok (.ifCond .eq 61, 3) := by decide +kernel
theorem d_Y_drop_82 : decode prog_1_method_49_code 82 = .ok (.aload_n 1, 1) := by decide +kernel
theorem d_Y_drop_83 : decode prog_1_method_49_code 83 = .ok (.getfield 257, 3) := by decide +kernel
theorem d_Y_drop_86 : decode prog_1_method_49_code 86 = .ok (.getfield 269, 3) := by decide +kernel
theorem d_Y_drop_89 : decode prog_1_method_49_code 89 = .ok (.iload 4, 2) := by decide +kernel
theorem d_Y_drop_91 : decode prog_1_method_49_code 91 = .ok (.iaload, 1) := by decide +kernel
theorem d_Y_drop_92 : decode prog_1_method_49_code 92 = .ok (.iconst 3, 1) := by decide +kernel
theorem d_Y_drop_93 : decode prog_1_method_49_code 93 = .ok (.if_icmp .ne 47, 3) := by decide +kernel
theorem d_Y_drop_96 : decode prog_1_method_49_code 96 = .ok (.aload_n 0, 1) := by decide +kernel
theorem d_Y_drop_97 : decode prog_1_method_49_code 97 = .ok (.getfield 55, 3) := by decide +kernel
theorem d_Y_drop_100 : decode prog_1_method_49_code 100 = .ok (.iload 6, 2) := by decide +kernel
theorem d_Y_drop_102 : decode prog_1_method_49_code 102 = .ok (.iconst 1, 1) := by decide +kernel
theorem d_Y_drop_103 : decode prog_1_method_49_code 103 = .ok (.iand, 1) := by decide +kernel
theorem d_Y_drop_104 : decode prog_1_method_49_code 104 = .ok (.aaload, 1) := by decide +kernel
theorem d_Y_drop_105 : decode prog_1_method_49_code 105 = .ok (.getfield 175, 3) := by decide +kernel
theorem d_Y_drop_108 : decode prog_1_method_49_code 108 = .ok (.aload_n 1, 1) := by decide +kernel
theorem d_Y_drop_109 : decode prog_1_method_49_code 109 = .ok (.iload 4, 2) := by decide +kernel
theorem d_Y_drop_111 : decode prog_1_method_49_code 111 = .ok (.invokevirtual 326, 3) := by decide +kernel
theorem d_Y_drop_114 : decode prog_1_method_49_code 114 = .ok (.invokevirtual 234, 3) := by decide +kernel
theorem d_Y_drop_117 : decode prog_1_method_49_code 117 = .ok (.aload_n 0, 1) := by decide +kernel
theorem d_Y_drop_118 : decode prog_1_method_49_code 118 = .ok (.aload_n 0, 1) := by decide +kernel
theorem d_Y_drop_119 : decode prog_1_method_49_code 119 = .ok (.getfield 55, 3) := by decide +kernel
theorem d_Y_drop_122 : decode prog_1_method_49_code 122 = .ok (.iload 6, 2) := by decide +kernel
theorem d_Y_drop_124 : decode prog_1_method_49_code 124 = .ok (.iconst 1, 1) := by decide +kernel
theorem d_Y_drop_125 : decode prog_1_method_49_code 125 = .ok (.iand, 1) := by decide +kernel
theorem d_Y_drop_126 : decode prog_1_method_49_code 126 = .ok (.aaload, 1) := by decide +kernel
theorem d_Y_drop_127 : decode prog_1_method_49_code 127 = .ok (.aload_n 1, 1) := by decide +kernel
theorem d_Y_drop_128 : decode prog_1_method_49_code 128 = .ok (.getfield 204, 3) := by decide +kernel
theorem d_Y_drop_131 : decode prog_1_method_49_code 131 = .ok (.iload 4, 2) := by decide +kernel
theorem d_Y_drop_133 : decode prog_1_method_49_code 133 = .ok (.iaload, 1) := by decide +kernel
theorem d_Y_drop_134 : decode prog_1_method_49_code 134 = .ok (.invokevirtual 133, 3) := by decide +kernel
theorem d_Y_drop_137 : decode prog_1_method_49_code 137 = .ok (.goto 68, 3) := by decide +kernel
theorem d_Y_drop_140 : decode prog_1_method_49_code 140 = .ok (.iload 5, 2) := by decide +kernel
theorem d_Y_drop_142 : decode prog_1_method_49_code 142 = .ok (.ifCond .eq 63, 3) := by decide +kernel
theorem d_Y_drop_145 : decode prog_1_method_49_code 145 = .ok (.aload_n 1, 1) := by decide +kernel
theorem d_Y_drop_146 : decode prog_1_method_49_code 146 = .ok (.getfield 257, 3) := by decide +kernel
theorem d_Y_drop_149 : decode prog_1_method_49_code 149 = .ok (.getfield 269, 3) := by decide +kernel
theorem d_Y_drop_152 : decode prog_1_method_49_code 152 = .ok (.iload 4, 2) := by decide +kernel
theorem d_Y_drop_154 : decode prog_1_method_49_code 154 = .ok (.iaload, 1) := by decide +kernel
theorem d_Y_drop_155 : decode prog_1_method_49_code 155 = .ok (.iconst 5, 1) := by decide +kernel
theorem d_Y_drop_156 : decode prog_1_method_49_code 156 = .ok (.if_icmp .ne 49, 3) := by decide +kernel
theorem d_Y_drop_159 : decode prog_1_method_49_code 159 = .ok (.aload_n 0, 1) := by decide +kernel
theorem d_Y_drop_160 : decode prog_1_method_49_code 160 = .ok (.getfield 62, 3) := by decide +kernel
theorem d_Y_drop_163 : decode prog_1_method_49_code 163 = .ok (.iload 6, 2) := by decide +kernel
theorem d_Y_drop_165 : decode prog_1_method_49_code 165 = .ok (.iconst 1, 1) := by decide +kernel
theorem d_Y_drop_166 : decode prog_1_method_49_code 166 = .ok (.iand, 1) := by decide +kernel
theorem d_Y_drop_167 : decode prog_1_method_49_code 167 = .ok (.aaload, 1) := by decide +kernel
theorem d_Y_drop_168 : decode prog_1_method_49_code 168 = .ok (.getfield 186, 3) := by decide +kernel
theorem d_Y_drop_171 : decode prog_1_method_49_code 171 = .ok (.aload_n 1, 1) := by decide +kernel
theorem d_Y_drop_172 : decode prog_1_method_49_code 172 = .ok (.iload 4, 2) := by decide +kernel
theorem d_Y_drop_174 : decode prog_1_method_49_code 174 = .ok (.invokevirtual 326, 3) := by decide +kernel
theorem d_Y_drop_177 : decode prog_1_method_49_code 177 = .ok (.invokevirtual 234, 3) := by decide +kernel
theorem d_Y_drop_180 : decode prog_1_method_49_code 180 = .ok (.aload_n 1, 1) := by decide +kernel
theorem d_Y_drop_181 : decode prog_1_method_49_code 181 = .ok (.getfield 204, 3) := by decide +kernel
theorem d_Y_drop_184 : decode prog_1_method_49_code 184 = .ok (.iload 4, 2) := by decide +kernel
theorem d_Y_drop_186 : decode prog_1_method_49_code 186 = .ok (.iaload, 1) := by decide +kernel
theorem d_Y_drop_187 : decode prog_1_method_49_code 187 = .ok (.iconst 1, 1) := by decide +kernel
theorem d_Y_drop_188 : decode prog_1_method_49_code 188 = .ok (.if_icmp .ne 17, 3) := by decide +kernel
theorem d_Y_drop_191 : decode prog_1_method_49_code 191 = .ok (.aload_n 0, 1) := by decide +kernel
theorem d_Y_drop_192 : decode prog_1_method_49_code 192 = .ok (.aload_n 0, 1) := by decide +kernel
theorem d_Y_drop_193 : decode prog_1_method_49_code 193 = .ok (.getfield 62, 3) := by decide +kernel
theorem d_Y_drop_196 : decode prog_1_method_49_code 196 = .ok (.iload 6, 2) := by decide +kernel
theorem d_Y_drop_198 : decode prog_1_method_49_code 198 = .ok (.iconst 1, 1) := by decide +kernel
theorem d_Y_drop_199 : decode prog_1_method_49_code 199 = .ok (.iand, 1) := by decide +kernel
theorem d_Y_drop_200 : decode prog_1_method_49_code 200 = .ok (.aaload, 1) := by decide +kernel
theorem d_Y_drop_201 : decode prog_1_method_49_code 201 = .ok (.invokevirtual 140, 3) := by decide +kernel
theorem d_Y_drop_204 : decode prog_1_method_49_code 204 = .ok (.pop, 1) := by decide +kernel
theorem d_Y_drop_205 : decode prog_1_method_49_code 205 = .ok (.iinc 4 1, 3) := by decide +kernel
theorem d_Y_drop_208 : decode prog_1_method_49_code 208 = .ok (.goto (-186), 3) := by decide +kernel
theorem d_Y_drop_211 : decode prog_1_method_49_code 211 = .ok (.return_, 1) := by decide +kernel

theorem d_L_law_0 : decode code 0 = .ok (.new 7, 3) := by decide +kernel
theorem d_L_law_3 : decode code 3 = .ok (.dup, 1) := by decide +kernel
theorem d_L_law_4 : decode code 4 = .ok (.invokespecial 9, 3) := by decide +kernel
theorem d_L_law_7 : decode code 7 = .ok (.astore_n 1, 1) := by decide +kernel
theorem d_L_law_8 : decode code 8 = .ok (.new 10, 3) := by decide +kernel
theorem d_L_law_11 : decode code 11 = .ok (.dup, 1) := by decide +kernel
theorem d_L_law_12 : decode code 12 = .ok (.invokespecial 12, 3) := by decide +kernel
theorem d_L_law_15 : decode code 15 = .ok (.astore_n 2, 1) := by decide +kernel
theorem d_L_law_16 : decode code 16 = .ok (.iconst 0, 1) := by decide +kernel
theorem d_L_law_17 : decode code 17 = .ok (.istore_n 3, 1) := by decide +kernel
theorem d_L_law_18 : decode code 18 = .ok (.iload_n 3, 1) := by decide +kernel
theorem d_L_law_19 : decode code 19 = .ok (.aload_n 0, 1) := by decide +kernel
theorem d_L_law_20 : decode code 20 = .ok (.arraylength, 1) := by decide +kernel
theorem d_L_law_21 : decode code 21 = .ok (.iconst 3, 1) := by decide +kernel
theorem d_L_law_22 : decode code 22 = .ok (.isub, 1) := by decide +kernel
theorem d_L_law_23 : decode code 23 = .ok (.if_icmp .gt 466, 3) := by decide +kernel
theorem d_L_law_26 : decode code 26 = .ok (.aload_n 0, 1) := by decide +kernel
theorem d_L_law_27 : decode code 27 = .ok (.iload_n 3, 1) := by decide +kernel
theorem d_L_law_28 : decode code 28 = .ok (.iaload, 1) := by decide +kernel
theorem d_L_law_29 : decode code 29 = .ok (.bipush 15, 2) := by decide +kernel
theorem d_L_law_31 : decode code 31 = .ok (.iand, 1) := by decide +kernel
theorem d_L_law_32 : decode code 32 = .ok (.tableswitch 451 0 14 #[76, 109, 122, 135, 158, 181, 204, 227, 250, 283, 306, 339, 372, 395, 428], 76) := by decide +kernel
theorem d_L_law_108 : decode code 108 = .ok (.aload_n 1, 1) := by decide +kernel
theorem d_L_law_109 : decode code 109 = .ok (.aload_n 0, 1) := by decide +kernel
theorem d_L_law_110 : decode code 110 = .ok (.iload_n 3, 1) := by decide +kernel
theorem d_L_law_111 : decode code 111 = .ok (.iconst 1, 1) := by decide +kernel
theorem d_L_law_112 : decode code 112 = .ok (.iadd, 1) := by decide +kernel
theorem d_L_law_113 : decode code 113 = .ok (.iaload, 1) := by decide +kernel
theorem d_L_law_114 : decode code 114 = .ok (.aload_n 0, 1) := by decide +kernel
theorem d_L_law_115 : decode code 115 = .ok (.iload_n 3, 1) := by decide +kernel
theorem d_L_law_116 : decode code 116 = .ok (.iconst 2, 1) := by decide +kernel
theorem d_L_law_117 : decode code 117 = .ok (.iadd, 1) := by decide +kernel
theorem d_L_law_118 : decode code 118 = .ok (.iaload, 1) := by decide +kernel
theorem d_L_law_119 : decode code 119 = .ok (.invokevirtual 13, 3) := by decide +kernel
theorem d_L_law_122 : decode code 122 = .ok (.pop, 1) := by decide +kernel
theorem d_L_law_123 : decode code 123 = .ok (.aload_n 2, 1) := by decide +kernel
theorem d_L_law_124 : decode code 124 = .ok (.aload_n 0, 1) := by decide +kernel
theorem d_L_law_125 : decode code 125 = .ok (.iload_n 3, 1) := by decide +kernel
theorem d_L_law_126 : decode code 126 = .ok (.iconst 1, 1) := by decide +kernel
theorem d_L_law_127 : decode code 127 = .ok (.iadd, 1) := by decide +kernel
theorem d_L_law_128 : decode code 128 = .ok (.iaload, 1) := by decide +kernel
theorem d_L_law_129 : decode code 129 = .ok (.aload_n 0, 1) := by decide +kernel
theorem d_L_law_130 : decode code 130 = .ok (.iload_n 3, 1) := by decide +kernel
theorem d_L_law_131 : decode code 131 = .ok (.iconst 2, 1) := by decide +kernel
theorem d_L_law_132 : decode code 132 = .ok (.iadd, 1) := by decide +kernel
theorem d_L_law_133 : decode code 133 = .ok (.iaload, 1) := by decide +kernel
theorem d_L_law_134 : decode code 134 = .ok (.invokevirtual 17, 3) := by decide +kernel
theorem d_L_law_137 : decode code 137 = .ok (.pop, 1) := by decide +kernel
theorem d_L_law_138 : decode code 138 = .ok (.goto 345, 3) := by decide +kernel
theorem d_L_law_141 : decode code 141 = .ok (.aload_n 1, 1) := by decide +kernel
theorem d_L_law_142 : decode code 142 = .ok (.invokevirtual 18, 3) := by decide +kernel
theorem d_L_law_145 : decode code 145 = .ok (.pop, 1) := by decide +kernel
theorem d_L_law_146 : decode code 146 = .ok (.aload_n 2, 1) := by decide +kernel
theorem d_L_law_147 : decode code 147 = .ok (.invokevirtual 22, 3) := by decide +kernel
theorem d_L_law_150 : decode code 150 = .ok (.pop, 1) := by decide +kernel
theorem d_L_law_151 : decode code 151 = .ok (.goto 332, 3) := by decide +kernel
theorem d_L_law_154 : decode code 154 = .ok (.aload_n 1, 1) := by decide +kernel
theorem d_L_law_155 : decode code 155 = .ok (.invokevirtual 23, 3) := by decide +kernel
theorem d_L_law_158 : decode code 158 = .ok (.pop, 1) := by decide +kernel
theorem d_L_law_159 : decode code 159 = .ok (.aload_n 2, 1) := by decide +kernel
theorem d_L_law_160 : decode code 160 = .ok (.invokevirtual 26, 3) := by decide +kernel
theorem d_L_law_163 : decode code 163 = .ok (.pop, 1) := by decide +kernel
theorem d_L_law_164 : decode code 164 = .ok (.goto 319, 3) := by decide +kernel
theorem d_L_law_167 : decode code 167 = .ok (.aload_n 1, 1) := by decide +kernel
theorem d_L_law_168 : decode code 168 = .ok (.aload_n 0, 1) := by decide +kernel
theorem d_L_law_169 : decode code 169 = .ok (.iload_n 3, 1) := by decide +kernel
theorem d_L_law_170 : decode code 170 = .ok (.iconst 1, 1) := by decide +kernel
theorem d_L_law_171 : decode code 171 = .ok (.iadd, 1) := by decide +kernel
theorem d_L_law_172 : decode code 172 = .ok (.iaload, 1) := by decide +kernel
theorem d_L_law_173 : decode code 173 = .ok (.invokevirtual 27, 3) := by decide +kernel
theorem d_L_law_176 : decode code 176 = .ok (.pop, 1) := by decide +kernel
theorem d_L_law_177 : decode code 177 = .ok (.aload_n 2, 1) := by decide +kernel
theorem d_L_law_178 : decode code 178 = .ok (.aload_n 0, 1) := by decide +kernel
theorem d_L_law_179 : decode code 179 = .ok (.iload_n 3, 1) := by decide +kernel
theorem d_L_law_180 : decode code 180 = .ok (.iconst 1, 1) := by decide +kernel
theorem d_L_law_181 : decode code 181 = .ok (.iadd, 1) := by decide +kernel
theorem d_L_law_182 : decode code 182 = .ok (.iaload, 1) := by decide +kernel
theorem d_L_law_183 : decode code 183 = .ok (.invokevirtual 31, 3) := by decide +kernel
theorem d_L_law_186 : decode code 186 = .ok (.pop, 1) := by decide +kernel
theorem d_L_law_187 : decode code 187 = .ok (.goto 296, 3) := by decide +kernel
theorem d_L_law_190 : decode code 190 = .ok (.aload_n 1, 1) := by decide +kernel
theorem d_L_law_191 : decode code 191 = .ok (.aload_n 0, 1) := by decide +kernel
theorem d_L_law_192 : decode code 192 = .ok (.iload_n 3, 1) := by decide +kernel
theorem d_L_law_193 : decode code 193 = .ok (.iconst 1, 1) := by decide +kernel
theorem d_L_law_194 : decode code 194 = .ok (.iadd, 1) := by decide +kernel
theorem d_L_law_195 : decode code 195 = .ok (.iaload, 1) := by decide +kernel
theorem d_L_law_196 : decode code 196 = .ok (.invokevirtual 32, 3) := by decide +kernel
theorem d_L_law_199 : decode code 199 = .ok (.pop, 1) := by decide +kernel
theorem d_L_law_200 : decode code 200 = .ok (.aload_n 2, 1) := by decide +kernel
theorem d_L_law_201 : decode code 201 = .ok (.aload_n 0, 1) := by decide +kernel
theorem d_L_law_202 : decode code 202 = .ok (.iload_n 3, 1) := by decide +kernel
theorem d_L_law_203 : decode code 203 = .ok (.iconst 1, 1) := by decide +kernel
theorem d_L_law_204 : decode code 204 = .ok (.iadd, 1) := by decide +kernel
theorem d_L_law_205 : decode code 205 = .ok (.iaload, 1) := by decide +kernel
theorem d_L_law_206 : decode code 206 = .ok (.invokevirtual 35, 3) := by decide +kernel
theorem d_L_law_209 : decode code 209 = .ok (.pop, 1) := by decide +kernel
theorem d_L_law_210 : decode code 210 = .ok (.goto 273, 3) := by decide +kernel
theorem d_L_law_213 : decode code 213 = .ok (.aload_n 1, 1) := by decide +kernel
theorem d_L_law_214 : decode code 214 = .ok (.aload_n 0, 1) := by decide +kernel
theorem d_L_law_215 : decode code 215 = .ok (.iload_n 3, 1) := by decide +kernel
theorem d_L_law_216 : decode code 216 = .ok (.iconst 1, 1) := by decide +kernel
theorem d_L_law_217 : decode code 217 = .ok (.iadd, 1) := by decide +kernel
theorem d_L_law_218 : decode code 218 = .ok (.iaload, 1) := by decide +kernel
theorem d_L_law_219 : decode code 219 = .ok (.invokevirtual 36, 3) := by decide +kernel
theorem d_L_law_222 : decode code 222 = .ok (.pop, 1) := by decide +kernel
theorem d_L_law_223 : decode code 223 = .ok (.aload_n 2, 1) := by decide +kernel
theorem d_L_law_224 : decode code 224 = .ok (.aload_n 0, 1) := by decide +kernel
theorem d_L_law_225 : decode code 225 = .ok (.iload_n 3, 1) := by decide +kernel
theorem d_L_law_226 : decode code 226 = .ok (.iconst 1, 1) := by decide +kernel
theorem d_L_law_227 : decode code 227 = .ok (.iadd, 1) := by decide +kernel
theorem d_L_law_228 : decode code 228 = .ok (.iaload, 1) := by decide +kernel
theorem d_L_law_229 : decode code 229 = .ok (.invokevirtual 39, 3) := by decide +kernel
theorem d_L_law_232 : decode code 232 = .ok (.pop, 1) := by decide +kernel
theorem d_L_law_233 : decode code 233 = .ok (.goto 250, 3) := by decide +kernel
theorem d_L_law_236 : decode code 236 = .ok (.aload_n 1, 1) := by decide +kernel
theorem d_L_law_237 : decode code 237 = .ok (.aload_n 0, 1) := by decide +kernel
theorem d_L_law_238 : decode code 238 = .ok (.iload_n 3, 1) := by decide +kernel
theorem d_L_law_239 : decode code 239 = .ok (.iconst 1, 1) := by decide +kernel
theorem d_L_law_240 : decode code 240 = .ok (.iadd, 1) := by decide +kernel
theorem d_L_law_241 : decode code 241 = .ok (.iaload, 1) := by decide +kernel
theorem d_L_law_242 : decode code 242 = .ok (.invokevirtual 40, 3) := by decide +kernel
theorem d_L_law_245 : decode code 245 = .ok (.aload_n 2, 1) := by decide +kernel
theorem d_L_law_246 : decode code 246 = .ok (.aload_n 0, 1) := by decide +kernel
theorem d_L_law_247 : decode code 247 = .ok (.iload_n 3, 1) := by decide +kernel
theorem d_L_law_248 : decode code 248 = .ok (.iconst 1, 1) := by decide +kernel
theorem d_L_law_249 : decode code 249 = .ok (.iadd, 1) := by decide +kernel
theorem d_L_law_250 : decode code 250 = .ok (.iaload, 1) := by decide +kernel
theorem d_L_law_251 : decode code 251 = .ok (.invokevirtual 43, 3) := by decide +kernel
theorem d_L_law_254 : decode code 254 = .ok (.if_icmp .eq 229, 3) := by decide +kernel
theorem d_L_law_257 : decode code 257 = .ok (.iconst 0, 1) := by decide +kernel
theorem d_L_law_258 : decode code 258 = .ok (.ireturn, 1) := by decide +kernel
theorem d_L_law_259 : decode code 259 = .ok (.aload_n 1, 1) := by decide +kernel
theorem d_L_law_260 : decode code 260 = .ok (.aload_n 0, 1) := by decide +kernel
theorem d_L_law_261 : decode code 261 = .ok (.iload_n 3, 1) := by decide +kernel
theorem d_L_law_262 : decode code 262 = .ok (.iconst 1, 1) := by decide +kernel
theorem d_L_law_263 : decode code 263 = .ok (.iadd, 1) := by decide +kernel
theorem d_L_law_264 : decode code 264 = .ok (.iaload, 1) := by decide +kernel
theorem d_L_law_265 : decode code 265 = .ok (.invokevirtual 44, 3) := by decide +kernel
theorem d_L_law_268 : decode code 268 = .ok (.pop, 1) := by decide +kernel
theorem d_L_law_269 : decode code 269 = .ok (.aload_n 2, 1) := by decide +kernel
theorem d_L_law_270 : decode code 270 = .ok (.aload_n 0, 1) := by decide +kernel
theorem d_L_law_271 : decode code 271 = .ok (.iload_n 3, 1) := by decide +kernel
theorem d_L_law_272 : decode code 272 = .ok (.iconst 1, 1) := by decide +kernel
theorem d_L_law_273 : decode code 273 = .ok (.iadd, 1) := by decide +kernel
theorem d_L_law_274 : decode code 274 = .ok (.iaload, 1) := by decide +kernel
theorem d_L_law_275 : decode code 275 = .ok (.invokevirtual 48, 3) := by decide +kernel
theorem d_L_law_278 : decode code 278 = .ok (.pop, 1) := by decide +kernel
theorem d_L_law_279 : decode code 279 = .ok (.goto 204, 3) := by decide +kernel
theorem d_L_law_282 : decode code 282 = .ok (.aload_n 1, 1) := by decide +kernel
theorem d_L_law_283 : decode code 283 = .ok (.aload_n 0, 1) := by decide +kernel
theorem d_L_law_284 : decode code 284 = .ok (.iload_n 3, 1) := by decide +kernel
theorem d_L_law_285 : decode code 285 = .ok (.iconst 1, 1) := by decide +kernel
theorem d_L_law_286 : decode code 286 = .ok (.iadd, 1) := by decide +kernel
theorem d_L_law_287 : decode code 287 = .ok (.iaload, 1) := by decide +kernel
theorem d_L_law_288 : decode code 288 = .ok (.aload_n 0, 1) := by decide +kernel
theorem d_L_law_289 : decode code 289 = .ok (.iload_n 3, 1) := by decide +kernel
theorem d_L_law_290 : decode code 290 = .ok (.iconst 2, 1) := by decide +kernel
theorem d_L_law_291 : decode code 291 = .ok (.iadd, 1) := by decide +kernel
theorem d_L_law_292 : decode code 292 = .ok (.iaload, 1) := by decide +kernel
theorem d_L_law_293 : decode code 293 = .ok (.invokevirtual 49, 3) := by decide +kernel
theorem d_L_law_296 : decode code 296 = .ok (.pop, 1) := by decide +kernel
theorem d_L_law_297 : decode code 297 = .ok (.aload_n 2, 1) := by decide +kernel
theorem d_L_law_298 : decode code 298 = .ok (.aload_n 0, 1) := by decide +kernel
theorem d_L_law_299 : decode code 299 = .ok (.iload_n 3, 1) := by decide +kernel
theorem d_L_law_300 : decode code 300 = .ok (.iconst 1, 1) := by decide +kernel
theorem d_L_law_301 : decode code 301 = .ok (.iadd, 1) := by decide +kernel
theorem d_L_law_302 : decode code 302 = .ok (.iaload, 1) := by decide +kernel
theorem d_L_law_303 : decode code 303 = .ok (.aload_n 0, 1) := by decide +kernel
theorem d_L_law_304 : decode code 304 = .ok (.iload_n 3, 1) := by decide +kernel
theorem d_L_law_305 : decode code 305 = .ok (.iconst 2, 1) := by decide +kernel
theorem d_L_law_306 : decode code 306 = .ok (.iadd, 1) := by decide +kernel
theorem d_L_law_307 : decode code 307 = .ok (.iaload, 1) := by decide +kernel
theorem d_L_law_308 : decode code 308 = .ok (.invokevirtual 52, 3) := by decide +kernel
theorem d_L_law_311 : decode code 311 = .ok (.pop, 1) := by decide +kernel
theorem d_L_law_312 : decode code 312 = .ok (.goto 171, 3) := by decide +kernel
theorem d_L_law_315 : decode code 315 = .ok (.aload_n 1, 1) := by decide +kernel
theorem d_L_law_316 : decode code 316 = .ok (.aload_n 0, 1) := by decide +kernel
theorem d_L_law_317 : decode code 317 = .ok (.iload_n 3, 1) := by decide +kernel
theorem d_L_law_318 : decode code 318 = .ok (.iconst 1, 1) := by decide +kernel
theorem d_L_law_319 : decode code 319 = .ok (.iadd, 1) := by decide +kernel
theorem d_L_law_320 : decode code 320 = .ok (.iaload, 1) := by decide +kernel
theorem d_L_law_321 : decode code 321 = .ok (.invokevirtual 53, 3) := by decide +kernel
theorem d_L_law_324 : decode code 324 = .ok (.pop, 1) := by decide +kernel
theorem d_L_law_325 : decode code 325 = .ok (.aload_n 2, 1) := by decide +kernel
theorem d_L_law_326 : decode code 326 = .ok (.aload_n 0, 1) := by decide +kernel
theorem d_L_law_327 : decode code 327 = .ok (.iload_n 3, 1) := by decide +kernel
theorem d_L_law_328 : decode code 328 = .ok (.iconst 1, 1) := by decide +kernel
theorem d_L_law_329 : decode code 329 = .ok (.iadd, 1) := by decide +kernel
theorem d_L_law_330 : decode code 330 = .ok (.iaload, 1) := by decide +kernel
theorem d_L_law_331 : decode code 331 = .ok (.invokevirtual 56, 3) := by decide +kernel
theorem d_L_law_334 : decode code 334 = .ok (.pop, 1) := by decide +kernel
theorem d_L_law_335 : decode code 335 = .ok (.goto 148, 3) := by decide +kernel
theorem d_L_law_338 : decode code 338 = .ok (.aload_n 1, 1) := by decide +kernel
theorem d_L_law_339 : decode code 339 = .ok (.aload_n 0, 1) := by decide +kernel
theorem d_L_law_340 : decode code 340 = .ok (.iload_n 3, 1) := by decide +kernel
theorem d_L_law_341 : decode code 341 = .ok (.iconst 1, 1) := by decide +kernel
theorem d_L_law_342 : decode code 342 = .ok (.iadd, 1) := by decide +kernel
theorem d_L_law_343 : decode code 343 = .ok (.iaload, 1) := by decide +kernel
theorem d_L_law_344 : decode code 344 = .ok (.aload_n 0, 1) := by decide +kernel
theorem d_L_law_345 : decode code 345 = .ok (.iload_n 3, 1) := by decide +kernel
theorem d_L_law_346 : decode code 346 = .ok (.iconst 2, 1) := by decide +kernel
theorem d_L_law_347 : decode code 347 = .ok (.iadd, 1) := by decide +kernel
theorem d_L_law_348 : decode code 348 = .ok (.iaload, 1) := by decide +kernel
theorem d_L_law_349 : decode code 349 = .ok (.invokevirtual 57, 3) := by decide +kernel
theorem d_L_law_352 : decode code 352 = .ok (.pop, 1) := by decide +kernel
theorem d_L_law_353 : decode code 353 = .ok (.aload_n 2, 1) := by decide +kernel
theorem d_L_law_354 : decode code 354 = .ok (.aload_n 0, 1) := by decide +kernel
theorem d_L_law_355 : decode code 355 = .ok (.iload_n 3, 1) := by decide +kernel
theorem d_L_law_356 : decode code 356 = .ok (.iconst 1, 1) := by decide +kernel
theorem d_L_law_357 : decode code 357 = .ok (.iadd, 1) := by decide +kernel
theorem d_L_law_358 : decode code 358 = .ok (.iaload, 1) := by decide +kernel
theorem d_L_law_359 : decode code 359 = .ok (.aload_n 0, 1) := by decide +kernel
theorem d_L_law_360 : decode code 360 = .ok (.iload_n 3, 1) := by decide +kernel
theorem d_L_law_361 : decode code 361 = .ok (.iconst 2, 1) := by decide +kernel
theorem d_L_law_362 : decode code 362 = .ok (.iadd, 1) := by decide +kernel
theorem d_L_law_363 : decode code 363 = .ok (.iaload, 1) := by decide +kernel
theorem d_L_law_364 : decode code 364 = .ok (.invokevirtual 60, 3) := by decide +kernel
theorem d_L_law_367 : decode code 367 = .ok (.pop, 1) := by decide +kernel
theorem d_L_law_368 : decode code 368 = .ok (.goto 115, 3) := by decide +kernel
theorem d_L_law_371 : decode code 371 = .ok (.aload_n 1, 1) := by decide +kernel
theorem d_L_law_372 : decode code 372 = .ok (.aload_n 0, 1) := by decide +kernel
theorem d_L_law_373 : decode code 373 = .ok (.iload_n 3, 1) := by decide +kernel
theorem d_L_law_374 : decode code 374 = .ok (.iconst 1, 1) := by decide +kernel
theorem d_L_law_375 : decode code 375 = .ok (.iadd, 1) := by decide +kernel
theorem d_L_law_376 : decode code 376 = .ok (.iaload, 1) := by decide +kernel
theorem d_L_law_377 : decode code 377 = .ok (.aload_n 0, 1) := by decide +kernel
theorem d_L_law_378 : decode code 378 = .ok (.iload_n 3, 1) := by decide +kernel
theorem d_L_law_379 : decode code 379 = .ok (.iconst 2, 1) := by decide +kernel
theorem d_L_law_380 : decode code 380 = .ok (.iadd, 1) := by decide +kernel
theorem d_L_law_381 : decode code 381 = .ok (.iaload, 1) := by decide +kernel
theorem d_L_law_382 : decode code 382 = .ok (.invokevirtual 61, 3) := by decide +kernel
theorem d_L_law_385 : decode code 385 = .ok (.pop, 1) := by decide +kernel
theorem d_L_law_386 : decode code 386 = .ok (.aload_n 2, 1) := by decide +kernel
theorem d_L_law_387 : decode code 387 = .ok (.aload_n 0, 1) := by decide +kernel
theorem d_L_law_388 : decode code 388 = .ok (.iload_n 3, 1) := by decide +kernel
theorem d_L_law_389 : decode code 389 = .ok (.iconst 1, 1) := by decide +kernel
theorem d_L_law_390 : decode code 390 = .ok (.iadd, 1) := by decide +kernel
theorem d_L_law_391 : decode code 391 = .ok (.iaload, 1) := by decide +kernel
theorem d_L_law_392 : decode code 392 = .ok (.aload_n 0, 1) := by decide +kernel
theorem d_L_law_393 : decode code 393 = .ok (.iload_n 3, 1) := by decide +kernel
theorem d_L_law_394 : decode code 394 = .ok (.iconst 2, 1) := by decide +kernel
theorem d_L_law_395 : decode code 395 = .ok (.iadd, 1) := by decide +kernel
theorem d_L_law_396 : decode code 396 = .ok (.iaload, 1) := by decide +kernel
theorem d_L_law_397 : decode code 397 = .ok (.invokevirtual 64, 3) := by decide +kernel
theorem d_L_law_400 : decode code 400 = .ok (.pop, 1) := by decide +kernel
theorem d_L_law_401 : decode code 401 = .ok (.goto 82, 3) := by decide +kernel
theorem d_L_law_404 : decode code 404 = .ok (.aload_n 1, 1) := by decide +kernel
theorem d_L_law_405 : decode code 405 = .ok (.aload_n 0, 1) := by decide +kernel
theorem d_L_law_406 : decode code 406 = .ok (.iload_n 3, 1) := by decide +kernel
theorem d_L_law_407 : decode code 407 = .ok (.iconst 1, 1) := by decide +kernel
theorem d_L_law_408 : decode code 408 = .ok (.iadd, 1) := by decide +kernel
theorem d_L_law_409 : decode code 409 = .ok (.iaload, 1) := by decide +kernel
theorem d_L_law_410 : decode code 410 = .ok (.invokevirtual 65, 3) := by decide +kernel
theorem d_L_law_413 : decode code 413 = .ok (.pop, 1) := by decide +kernel
theorem d_L_law_414 : decode code 414 = .ok (.aload_n 2, 1) := by decide +kernel
theorem d_L_law_415 : decode code 415 = .ok (.aload_n 0, 1) := by decide +kernel
theorem d_L_law_416 : decode code 416 = .ok (.iload_n 3, 1) := by decide +kernel
theorem d_L_law_417 : decode code 417 = .ok (.iconst 1, 1) := by decide +kernel
theorem d_L_law_418 : decode code 418 = .ok (.iadd, 1) := by decide +kernel
theorem d_L_law_419 : decode code 419 = .ok (.iaload, 1) := by decide +kernel
theorem d_L_law_420 : decode code 420 = .ok (.invokevirtual 68, 3) := by decide +kernel
theorem d_L_law_423 : decode code 423 = .ok (.pop, 1) := by decide +kernel
theorem d_L_law_424 : decode code 424 = .ok (.goto 59, 3) := by decide +kernel
theorem d_L_law_427 : decode code 427 = .ok (.aload_n 1, 1) := by decide +kernel
theorem d_L_law_428 : decode code 428 = .ok (.aload_n 0, 1) := by decide +kernel
theorem d_L_law_429 : decode code 429 = .ok (.iload_n 3, 1) := by decide +kernel
theorem d_L_law_430 : decode code 430 = .ok (.iconst 1, 1) := by decide +kernel
theorem d_L_law_431 : decode code 431 = .ok (.iadd, 1) := by decide +kernel
theorem d_L_law_432 : decode code 432 = .ok (.iaload, 1) := by decide +kernel
theorem d_L_law_433 : decode code 433 = .ok (.aload_n 0, 1) := by decide +kernel
theorem d_L_law_434 : decode code 434 = .ok (.iload_n 3, 1) := by decide +kernel
theorem d_L_law_435 : decode code 435 = .ok (.iconst 2, 1) := by decide +kernel
theorem d_L_law_436 : decode code 436 = .ok (.iadd, 1) := by decide +kernel
theorem d_L_law_437 : decode code 437 = .ok (.iaload, 1) := by decide +kernel
theorem d_L_law_438 : decode code 438 = .ok (.invokevirtual 69, 3) := by decide +kernel
theorem d_L_law_441 : decode code 441 = .ok (.pop, 1) := by decide +kernel
theorem d_L_law_442 : decode code 442 = .ok (.aload_n 2, 1) := by decide +kernel
theorem d_L_law_443 : decode code 443 = .ok (.aload_n 0, 1) := by decide +kernel
theorem d_L_law_444 : decode code 444 = .ok (.iload_n 3, 1) := by decide +kernel
theorem d_L_law_445 : decode code 445 = .ok (.iconst 1, 1) := by decide +kernel
theorem d_L_law_446 : decode code 446 = .ok (.iadd, 1) := by decide +kernel
theorem d_L_law_447 : decode code 447 = .ok (.iaload, 1) := by decide +kernel
theorem d_L_law_448 : decode code 448 = .ok (.aload_n 0, 1) := by decide +kernel
theorem d_L_law_449 : decode code 449 = .ok (.iload_n 3, 1) := by decide +kernel
theorem d_L_law_450 : decode code 450 = .ok (.iconst 2, 1) := by decide +kernel
theorem d_L_law_451 : decode code 451 = .ok (.iadd, 1) := by decide +kernel
theorem d_L_law_452 : decode code 452 = .ok (.iaload, 1) := by decide +kernel
theorem d_L_law_453 : decode code 453 = .ok (.invokevirtual 72, 3) := by decide +kernel
theorem d_L_law_456 : decode code 456 = .ok (.pop, 1) := by decide +kernel
theorem d_L_law_457 : decode code 457 = .ok (.goto 26, 3) := by decide +kernel
theorem d_L_law_460 : decode code 460 = .ok (.aload_n 1, 1) := by decide +kernel
theorem d_L_law_461 : decode code 461 = .ok (.aload_n 0, 1) := by decide +kernel
theorem d_L_law_462 : decode code 462 = .ok (.iload_n 3, 1) := by decide +kernel
theorem d_L_law_463 : decode code 463 = .ok (.iconst 1, 1) := by decide +kernel
theorem d_L_law_464 : decode code 464 = .ok (.iadd, 1) := by decide +kernel
theorem d_L_law_465 : decode code 465 = .ok (.iaload, 1) := by decide +kernel
theorem d_L_law_466 : decode code 466 = .ok (.invokevirtual 73, 3) := by decide +kernel
theorem d_L_law_469 : decode code 469 = .ok (.pop, 1) := by decide +kernel
theorem d_L_law_470 : decode code 470 = .ok (.aload_n 2, 1) := by decide +kernel
theorem d_L_law_471 : decode code 471 = .ok (.aload_n 0, 1) := by decide +kernel
theorem d_L_law_472 : decode code 472 = .ok (.iload_n 3, 1) := by decide +kernel
theorem d_L_law_473 : decode code 473 = .ok (.iconst 1, 1) := by decide +kernel
theorem d_L_law_474 : decode code 474 = .ok (.iadd, 1) := by decide +kernel
theorem d_L_law_475 : decode code 475 = .ok (.iaload, 1) := by decide +kernel
theorem d_L_law_476 : decode code 476 = .ok (.invokevirtual 76, 3) := by decide +kernel
theorem d_L_law_479 : decode code 479 = .ok (.pop, 1) := by decide +kernel
theorem d_L_law_480 : decode code 480 = .ok (.goto 3, 3) := by decide +kernel
theorem d_L_law_483 : decode code 483 = .ok (.iinc 3 3, 3) := by decide +kernel
theorem d_L_law_486 : decode code 486 = .ok (.goto (-468), 3) := by decide +kernel
theorem d_L_law_489 : decode code 489 = .ok (.iconst 1, 1) := by decide +kernel
theorem d_L_law_490 : decode code 490 = .ok (.ireturn, 1) := by decide +kernel

theorem d_law_0 : decode b_law 0 = .ok (.new 8, 3) := by decide +kernel
theorem d_law_3 : decode b_law 3 = .ok (.dup, 1) := by decide +kernel
theorem d_law_4 : decode b_law 4 = .ok (.invokespecial 30, 3) := by decide +kernel
theorem d_law_7 : decode b_law 7 = .ok (.astore_n 1, 1) := by decide +kernel
theorem d_law_8 : decode b_law 8 = .ok (.new 31, 3) := by decide +kernel
theorem d_law_11 : decode b_law 11 = .ok (.dup, 1) := by decide +kernel
theorem d_law_12 : decode b_law 12 = .ok (.invokespecial 33, 3) := by decide +kernel
theorem d_law_15 : decode b_law 15 = .ok (.astore_n 2, 1) := by decide +kernel
theorem d_law_16 : decode b_law 16 = .ok (.iconst 1, 1) := by decide +kernel
theorem d_law_17 : decode b_law 17 = .ok (.newarray .long, 2) := by decide +kernel
theorem d_law_19 : decode b_law 19 = .ok (.astore_n 3, 1) := by decide +kernel
theorem d_law_20 : decode b_law 20 = .ok (.iconst 0, 1) := by decide +kernel
theorem d_law_21 : decode b_law 21 = .ok (.istore 4, 2) := by decide +kernel
theorem d_law_23 : decode b_law 23 = .ok (.iload 4, 2) := by decide +kernel
theorem d_law_25 : decode b_law 25 = .ok (.aload_n 0, 1) := by decide +kernel
theorem d_law_26 : decode b_law 26 = .ok (.arraylength, 1) := by decide +kernel
theorem d_law_27 : decode b_law 27 = .ok (.iconst 4, 1) := by decide +kernel
theorem d_law_28 : decode b_law 28 = .ok (.isub, 1) := by decide +kernel
theorem d_law_29 : decode b_law 29 = .ok (.if_icmp .gt 425, 3) := by decide +kernel
theorem d_law_32 : decode b_law 32 = .ok (.aload_n 0, 1) := by decide +kernel
theorem d_law_33 : decode b_law 33 = .ok (.iload 4, 2) := by decide +kernel
theorem d_law_35 : decode b_law 35 = .ok (.iaload, 1) := by decide +kernel
theorem d_law_36 : decode b_law 36 = .ok (.bipush 7, 2) := by decide +kernel
theorem d_law_38 : decode b_law 38 = .ok (.iand, 1) := by decide +kernel
theorem d_law_39 : decode b_law 39 = .ok (.tableswitch 409 0 7 #[45, 114, 158, 183, 239, 295, 308, 396], 45) := by decide +kernel
theorem d_law_84 : decode b_law 84 = .ok (.aload_n 1, 1) := by decide +kernel
theorem d_law_85 : decode b_law 85 = .ok (.aload_n 0, 1) := by decide +kernel
theorem d_law_86 : decode b_law 86 = .ok (.iload 4, 2) := by decide +kernel
theorem d_law_88 : decode b_law 88 = .ok (.iconst 1, 1) := by decide +kernel
theorem d_law_89 : decode b_law 89 = .ok (.iadd, 1) := by decide +kernel
theorem d_law_90 : decode b_law 90 = .ok (.iaload, 1) := by decide +kernel
theorem d_law_91 : decode b_law 91 = .ok (.i2l, 1) := by decide +kernel
theorem d_law_92 : decode b_law 92 = .ok (.bipush 32, 2) := by decide +kernel
theorem d_law_94 : decode b_law 94 = .ok (.lshl, 1) := by decide +kernel
theorem d_law_95 : decode b_law 95 = .ok (.aload_n 0, 1) := by decide +kernel
theorem d_law_96 : decode b_law 96 = .ok (.iload 4, 2) := by decide +kernel
theorem d_law_98 : decode b_law 98 = .ok (.iconst 2, 1) := by decide +kernel
theorem d_law_99 : decode b_law 99 = .ok (.iadd, 1) := by decide +kernel
theorem d_law_100 : decode b_law 100 = .ok (.iaload, 1) := by decide +kernel
theorem d_law_101 : decode b_law 101 = .ok (.i2l, 1) := by decide +kernel
theorem d_law_102 : decode b_law 102 = .ok (.ldc2_w 34, 3) := by decide +kernel
theorem d_law_105 : decode b_law 105 = .ok (.land, 1) := by decide +kernel
theorem d_law_106 : decode b_law 106 = .ok (.lor, 1) := by decide +kernel
theorem d_law_107 : decode b_law 107 = .ok (.aload_n 0, 1) := by decide +kernel
theorem d_law_108 : decode b_law 108 = .ok (.iload 4, 2) := by decide +kernel
theorem d_law_110 : decode b_law 110 = .ok (.iconst 3, 1) := by decide +kernel
theorem d_law_111 : decode b_law 111 = .ok (.iadd, 1) := by decide +kernel
theorem d_law_112 : decode b_law 112 = .ok (.iaload, 1) := by decide +kernel
theorem d_law_113 : decode b_law 113 = .ok (.invokevirtual 36, 3) := by decide +kernel
theorem d_law_116 : decode b_law 116 = .ok (.aload_n 2, 1) := by decide +kernel
theorem d_law_117 : decode b_law 117 = .ok (.aload_n 0, 1) := by decide +kernel
theorem d_law_118 : decode b_law 118 = .ok (.iload 4, 2) := by decide +kernel
theorem d_law_120 : decode b_law 120 = .ok (.iconst 1, 1) := by decide +kernel
theorem d_law_121 : decode b_law 121 = .ok (.iadd, 1) := by decide +kernel
theorem d_law_122 : decode b_law 122 = .ok (.iaload, 1) := by decide +kernel
theorem d_law_123 : decode b_law 123 = .ok (.i2l, 1) := by decide +kernel
theorem d_law_124 : decode b_law 124 = .ok (.bipush 32, 2) := by decide +kernel
theorem d_law_126 : decode b_law 126 = .ok (.lshl, 1) := by decide +kernel
theorem d_law_127 : decode b_law 127 = .ok (.aload_n 0, 1) := by decide +kernel
theorem d_law_128 : decode b_law 128 = .ok (.iload 4, 2) := by decide +kernel
theorem d_law_130 : decode b_law 130 = .ok (.iconst 2, 1) := by decide +kernel
theorem d_law_131 : decode b_law 131 = .ok (.iadd, 1) := by decide +kernel
theorem d_law_132 : decode b_law 132 = .ok (.iaload, 1) := by decide +kernel
theorem d_law_133 : decode b_law 133 = .ok (.i2l, 1) := by decide +kernel
theorem d_law_134 : decode b_law 134 = .ok (.ldc2_w 34, 3) := by decide +kernel
theorem d_law_137 : decode b_law 137 = .ok (.land, 1) := by decide +kernel
theorem d_law_138 : decode b_law 138 = .ok (.lor, 1) := by decide +kernel
theorem d_law_139 : decode b_law 139 = .ok (.aload_n 0, 1) := by decide +kernel
theorem d_law_140 : decode b_law 140 = .ok (.iload 4, 2) := by decide +kernel
theorem d_law_142 : decode b_law 142 = .ok (.iconst 3, 1) := by decide +kernel
theorem d_law_143 : decode b_law 143 = .ok (.iadd, 1) := by decide +kernel
theorem d_law_144 : decode b_law 144 = .ok (.iaload, 1) := by decide +kernel
theorem d_law_145 : decode b_law 145 = .ok (.invokevirtual 40, 3) := by decide +kernel
theorem d_law_148 : decode b_law 148 = .ok (.if_icmp .eq 300, 3) := by decide +kernel
theorem d_law_151 : decode b_law 151 = .ok (.iconst 0, 1) := by decide +kernel
theorem d_law_152 : decode b_law 152 = .ok (.ireturn, 1) := by decide +kernel
theorem d_law_153 : decode b_law 153 = .ok (.aload_n 1, 1) := by decide +kernel
theorem d_law_154 : decode b_law 154 = .ok (.aload_n 3, 1) := by decide +kernel
theorem d_law_155 : decode b_law 155 = .ok (.invokestatic 41, 3) := by decide +kernel
theorem d_law_158 : decode b_law 158 = .ok (.istore 5, 2) := by decide +kernel
theorem d_law_160 : decode b_law 160 = .ok (.aload_n 2, 1) := by decide +kernel
theorem d_law_161 : decode b_law 161 = .ok (.invokevirtual 46, 3) := by decide +kernel
theorem d_law_164 : decode b_law 164 = .ok (.istore 6, 2) := by decide +kernel
theorem d_law_166 : decode b_law 166 = .ok (.aload_n 2, 1) := by decide +kernel
theorem d_law_167 : decode b_law 167 = .ok (.invokevirtual 47, 3) := by decide +kernel
theorem d_law_170 : decode b_law 170 = .ok (.iload 5, 2) := by decide +kernel
theorem d_law_172 : decode b_law 172 = .ok (.if_icmp .eq 5, 3) := by decide +kernel
theorem d_law_175 : decode b_law 175 = .ok (.iconst 0, 1) := by decide +kernel
theorem d_law_176 : decode b_law 176 = .ok (.ireturn, 1) := by decide +kernel
theorem d_law_177 : decode b_law 177 = .ok (.iload 5, 2) := by decide +kernel
theorem d_law_179 : decode b_law 179 = .ok (.ifCond .ne 15, 3) := by decide +kernel
theorem d_law_182 : decode b_law 182 = .ok (.aload_n 3, 1) := by decide +kernel
theorem d_law_183 : decode b_law 183 = .ok (.iconst 0, 1) := by decide +kernel
theorem d_law_184 : decode b_law 184 = .ok (.laload, 1) := by decide +kernel
theorem d_law_185 : decode b_law 185 = .ok (.iload 6, 2) := by decide +kernel
theorem d_law_187 : decode b_law 187 = .ok (.i2l, 1) := by decide +kernel
theorem d_law_188 : decode b_law 188 = .ok (.lcmp, 1) := by decide +kernel
theorem d_law_189 : decode b_law 189 = .ok (.ifCond .eq 5, 3) := by decide +kernel
theorem d_law_192 : decode b_law 192 = .ok (.iconst 0, 1) := by decide +kernel
theorem d_law_193 : decode b_law 193 = .ok (.ireturn, 1) := by decide +kernel
theorem d_law_194 : decode b_law 194 = .ok (.goto 254, 3) := by decide +kernel
theorem d_law_197 : decode b_law 197 = .ok (.aload_n 1, 1) := by decide +kernel
theorem d_law_198 : decode b_law 198 = .ok (.aload_n 0, 1) := by decide +kernel
theorem d_law_199 : decode b_law 199 = .ok (.iload 4, 2) := by decide +kernel
theorem d_law_201 : decode b_law 201 = .ok (.iconst 1, 1) := by decide +kernel
theorem d_law_202 : decode b_law 202 = .ok (.iadd, 1) := by decide +kernel
theorem d_law_203 : decode b_law 203 = .ok (.iaload, 1) := by decide +kernel
theorem d_law_204 : decode b_law 204 = .ok (.invokevirtual 50, 3) := by decide +kernel
theorem d_law_207 : decode b_law 207 = .ok (.aload_n 2, 1) := by decide +kernel
theorem d_law_208 : decode b_law 208 = .ok (.aload_n 0, 1) := by decide +kernel
theorem d_law_209 : decode b_law 209 = .ok (.iload 4, 2) := by decide +kernel
theorem d_law_211 : decode b_law 211 = .ok (.iconst 1, 1) := by decide +kernel
theorem d_law_212 : decode b_law 212 = .ok (.iadd, 1) := by decide +kernel
theorem d_law_213 : decode b_law 213 = .ok (.iaload, 1) := by decide +kernel
theorem d_law_214 : decode b_law 214 = .ok (.invokevirtual 53, 3) := by decide +kernel
theorem d_law_217 : decode b_law 217 = .ok (.if_icmp .eq 231, 3) := by decide +kernel
theorem d_law_220 : decode b_law 220 = .ok (.iconst 0, 1) := by decide +kernel
theorem d_law_221 : decode b_law 221 = .ok (.ireturn, 1) := by decide +kernel
theorem d_law_222 : decode b_law 222 = .ok (.aload_n 1, 1) := by decide +kernel
theorem d_law_223 : decode b_law 223 = .ok (.aload_n 0, 1) := by decide +kernel
theorem d_law_224 : decode b_law 224 = .ok (.iload 4, 2) := by decide +kernel
theorem d_law_226 : decode b_law 226 = .ok (.iconst 1, 1) := by decide +kernel
theorem d_law_227 : decode b_law 227 = .ok (.iadd, 1) := by decide +kernel
theorem d_law_228 : decode b_law 228 = .ok (.iaload, 1) := by decide +kernel
theorem d_law_229 : decode b_law 229 = .ok (.aload_n 3, 1) := by decide +kernel
theorem d_law_230 : decode b_law 230 = .ok (.invokestatic 54, 3) := by decide +kernel
theorem d_law_233 : decode b_law 233 = .ok (.istore 5, 2) := by decide +kernel
theorem d_law_235 : decode b_law 235 = .ok (.aload_n 2, 1) := by decide +kernel
theorem d_law_236 : decode b_law 236 = .ok (.aload_n 0, 1) := by decide +kernel
theorem d_law_237 : decode b_law 237 = .ok (.iload 4, 2) := by decide +kernel
theorem d_law_239 : decode b_law 239 = .ok (.iconst 1, 1) := by decide +kernel
theorem d_law_240 : decode b_law 240 = .ok (.iadd, 1) := by decide +kernel
theorem d_law_241 : decode b_law 241 = .ok (.iaload, 1) := by decide +kernel
theorem d_law_242 : decode b_law 242 = .ok (.invokevirtual 57, 3) := by decide +kernel
theorem d_law_245 : decode b_law 245 = .ok (.istore 6, 2) := by decide +kernel
theorem d_law_247 : decode b_law 247 = .ok (.aload_n 2, 1) := by decide +kernel
theorem d_law_248 : decode b_law 248 = .ok (.invokevirtual 47, 3) := by decide +kernel
theorem d_law_251 : decode b_law 251 = .ok (.iload 5, 2) := by decide +kernel
theorem d_law_253 : decode b_law 253 = .ok (.if_icmp .eq 5, 3) := by decide +kernel
theorem d_law_256 : decode b_law 256 = .ok (.iconst 0, 1) := by decide +kernel
theorem d_law_257 : decode b_law 257 = .ok (.ireturn, 1) := by decide +kernel
theorem d_law_258 : decode b_law 258 = .ok (.iload 5, 2) := by decide +kernel
theorem d_law_260 : decode b_law 260 = .ok (.ifCond .ne 15, 3) := by decide +kernel
theorem d_law_263 : decode b_law 263 = .ok (.aload_n 3, 1) := by decide +kernel
theorem d_law_264 : decode b_law 264 = .ok (.iconst 0, 1) := by decide +kernel
theorem d_law_265 : decode b_law 265 = .ok (.laload, 1) := by decide +kernel
theorem d_law_266 : decode b_law 266 = .ok (.iload 6, 2) := by decide +kernel
theorem d_law_268 : decode b_law 268 = .ok (.i2l, 1) := by decide +kernel
theorem d_law_269 : decode b_law 269 = .ok (.lcmp, 1) := by decide +kernel
theorem d_law_270 : decode b_law 270 = .ok (.ifCond .eq 5, 3) := by decide +kernel
theorem d_law_273 : decode b_law 273 = .ok (.iconst 0, 1) := by decide +kernel
theorem d_law_274 : decode b_law 274 = .ok (.ireturn, 1) := by decide +kernel
theorem d_law_275 : decode b_law 275 = .ok (.goto 173, 3) := by decide +kernel
theorem d_law_278 : decode b_law 278 = .ok (.aload_n 1, 1) := by decide +kernel
theorem d_law_279 : decode b_law 279 = .ok (.aload_n 0, 1) := by decide +kernel
theorem d_law_280 : decode b_law 280 = .ok (.iload 4, 2) := by decide +kernel
theorem d_law_282 : decode b_law 282 = .ok (.iconst 1, 1) := by decide +kernel
theorem d_law_283 : decode b_law 283 = .ok (.iadd, 1) := by decide +kernel
theorem d_law_284 : decode b_law 284 = .ok (.iaload, 1) := by decide +kernel
theorem d_law_285 : decode b_law 285 = .ok (.aload_n 3, 1) := by decide +kernel
theorem d_law_286 : decode b_law 286 = .ok (.invokestatic 58, 3) := by decide +kernel
theorem d_law_289 : decode b_law 289 = .ok (.istore 5, 2) := by decide +kernel
theorem d_law_291 : decode b_law 291 = .ok (.aload_n 2, 1) := by decide +kernel
theorem d_law_292 : decode b_law 292 = .ok (.aload_n 0, 1) := by decide +kernel
theorem d_law_293 : decode b_law 293 = .ok (.iload 4, 2) := by decide +kernel
theorem d_law_295 : decode b_law 295 = .ok (.iconst 1, 1) := by decide +kernel
theorem d_law_296 : decode b_law 296 = .ok (.iadd, 1) := by decide +kernel
theorem d_law_297 : decode b_law 297 = .ok (.iaload, 1) := by decide +kernel
theorem d_law_298 : decode b_law 298 = .ok (.invokevirtual 60, 3) := by decide +kernel
theorem d_law_301 : decode b_law 301 = .ok (.istore 6, 2) := by decide +kernel
theorem d_law_303 : decode b_law 303 = .ok (.aload_n 2, 1) := by decide +kernel
theorem d_law_304 : decode b_law 304 = .ok (.invokevirtual 47, 3) := by decide +kernel
theorem d_law_307 : decode b_law 307 = .ok (.iload 5, 2) := by decide +kernel
theorem d_law_309 : decode b_law 309 = .ok (.if_icmp .eq 5, 3) := by decide +kernel
theorem d_law_312 : decode b_law 312 = .ok (.iconst 0, 1) := by decide +kernel
theorem d_law_313 : decode b_law 313 = .ok (.ireturn, 1) := by decide +kernel
theorem d_law_314 : decode b_law 314 = .ok (.iload 5, 2) := by decide +kernel
theorem d_law_316 : decode b_law 316 = .ok (.ifCond .ne 15, 3) := by decide +kernel
theorem d_law_319 : decode b_law 319 = .ok (.aload_n 3, 1) := by decide +kernel
theorem d_law_320 : decode b_law 320 = .ok (.iconst 0, 1) := by decide +kernel
theorem d_law_321 : decode b_law 321 = .ok (.laload, 1) := by decide +kernel
theorem d_law_322 : decode b_law 322 = .ok (.iload 6, 2) := by decide +kernel
theorem d_law_324 : decode b_law 324 = .ok (.i2l, 1) := by decide +kernel
theorem d_law_325 : decode b_law 325 = .ok (.lcmp, 1) := by decide +kernel
theorem d_law_326 : decode b_law 326 = .ok (.ifCond .eq 5, 3) := by decide +kernel
theorem d_law_329 : decode b_law 329 = .ok (.iconst 0, 1) := by decide +kernel
theorem d_law_330 : decode b_law 330 = .ok (.ireturn, 1) := by decide +kernel
theorem d_law_331 : decode b_law 331 = .ok (.goto 117, 3) := by decide +kernel
theorem d_law_334 : decode b_law 334 = .ok (.aload_n 1, 1) := by decide +kernel
theorem d_law_335 : decode b_law 335 = .ok (.invokevirtual 61, 3) := by decide +kernel
theorem d_law_338 : decode b_law 338 = .ok (.aload_n 2, 1) := by decide +kernel
theorem d_law_339 : decode b_law 339 = .ok (.invokevirtual 64, 3) := by decide +kernel
theorem d_law_342 : decode b_law 342 = .ok (.if_icmp .eq 106, 3) := by decide +kernel
theorem d_law_345 : decode b_law 345 = .ok (.iconst 0, 1) := by decide +kernel
theorem d_law_346 : decode b_law 346 = .ok (.ireturn, 1) := by decide +kernel
theorem d_law_347 : decode b_law 347 = .ok (.aload_n 1, 1) := by decide +kernel
theorem d_law_348 : decode b_law 348 = .ok (.aload_n 0, 1) := by decide +kernel
theorem d_law_349 : decode b_law 349 = .ok (.iload 4, 2) := by decide +kernel
theorem d_law_351 : decode b_law 351 = .ok (.iconst 1, 1) := by decide +kernel
theorem d_law_352 : decode b_law 352 = .ok (.iadd, 1) := by decide +kernel
theorem d_law_353 : decode b_law 353 = .ok (.iaload, 1) := by decide +kernel
theorem d_law_354 : decode b_law 354 = .ok (.i2l, 1) := by decide +kernel
theorem d_law_355 : decode b_law 355 = .ok (.bipush 32, 2) := by decide +kernel
theorem d_law_357 : decode b_law 357 = .ok (.lshl, 1) := by decide +kernel
theorem d_law_358 : decode b_law 358 = .ok (.aload_n 0, 1) := by decide +kernel
theorem d_law_359 : decode b_law 359 = .ok (.iload 4, 2) := by decide +kernel
theorem d_law_361 : decode b_law 361 = .ok (.iconst 2, 1) := by decide +kernel
theorem d_law_362 : decode b_law 362 = .ok (.iadd, 1) := by decide +kernel
theorem d_law_363 : decode b_law 363 = .ok (.iaload, 1) := by decide +kernel
theorem d_law_364 : decode b_law 364 = .ok (.i2l, 1) := by decide +kernel
theorem d_law_365 : decode b_law 365 = .ok (.ldc2_w 34, 3) := by decide +kernel
theorem d_law_368 : decode b_law 368 = .ok (.land, 1) := by decide +kernel
theorem d_law_369 : decode b_law 369 = .ok (.lor, 1) := by decide +kernel
theorem d_law_370 : decode b_law 370 = .ok (.aload_n 3, 1) := by decide +kernel
theorem d_law_371 : decode b_law 371 = .ok (.invokestatic 65, 3) := by decide +kernel
theorem d_law_374 : decode b_law 374 = .ok (.istore 5, 2) := by decide +kernel
theorem d_law_376 : decode b_law 376 = .ok (.aload_n 2, 1) := by decide +kernel
theorem d_law_377 : decode b_law 377 = .ok (.aload_n 0, 1) := by decide +kernel
theorem d_law_378 : decode b_law 378 = .ok (.iload 4, 2) := by decide +kernel
theorem d_law_380 : decode b_law 380 = .ok (.iconst 1, 1) := by decide +kernel
theorem d_law_381 : decode b_law 381 = .ok (.iadd, 1) := by decide +kernel
theorem d_law_382 : decode b_law 382 = .ok (.iaload, 1) := by decide +kernel
theorem d_law_383 : decode b_law 383 = .ok (.i2l, 1) := by decide +kernel
theorem d_law_384 : decode b_law 384 = .ok (.bipush 32, 2) := by decide +kernel
theorem d_law_386 : decode b_law 386 = .ok (.lshl, 1) := by decide +kernel
theorem d_law_387 : decode b_law 387 = .ok (.aload_n 0, 1) := by decide +kernel
theorem d_law_388 : decode b_law 388 = .ok (.iload 4, 2) := by decide +kernel
theorem d_law_390 : decode b_law 390 = .ok (.iconst 2, 1) := by decide +kernel
theorem d_law_391 : decode b_law 391 = .ok (.iadd, 1) := by decide +kernel
theorem d_law_392 : decode b_law 392 = .ok (.iaload, 1) := by decide +kernel
theorem d_law_393 : decode b_law 393 = .ok (.i2l, 1) := by decide +kernel
theorem d_law_394 : decode b_law 394 = .ok (.ldc2_w 34, 3) := by decide +kernel
theorem d_law_397 : decode b_law 397 = .ok (.land, 1) := by decide +kernel
theorem d_law_398 : decode b_law 398 = .ok (.lor, 1) := by decide +kernel
theorem d_law_399 : decode b_law 399 = .ok (.invokevirtual 68, 3) := by decide +kernel
theorem d_law_402 : decode b_law 402 = .ok (.istore 6, 2) := by decide +kernel
theorem d_law_404 : decode b_law 404 = .ok (.aload_n 2, 1) := by decide +kernel
theorem d_law_405 : decode b_law 405 = .ok (.invokevirtual 47, 3) := by decide +kernel
theorem d_law_408 : decode b_law 408 = .ok (.iload 5, 2) := by decide +kernel
theorem d_law_410 : decode b_law 410 = .ok (.if_icmp .eq 5, 3) := by decide +kernel
theorem d_law_413 : decode b_law 413 = .ok (.iconst 0, 1) := by decide +kernel
theorem d_law_414 : decode b_law 414 = .ok (.ireturn, 1) := by decide +kernel
theorem d_law_415 : decode b_law 415 = .ok (.iload 5, 2) := by decide +kernel
theorem d_law_417 : decode b_law 417 = .ok (.ifCond .ne 15, 3) := by decide +kernel
theorem d_law_420 : decode b_law 420 = .ok (.aload_n 3, 1) := by decide +kernel
theorem d_law_421 : decode b_law 421 = .ok (.iconst 0, 1) := by decide +kernel
theorem d_law_422 : decode b_law 422 = .ok (.laload, 1) := by decide +kernel
theorem d_law_423 : decode b_law 423 = .ok (.iload 6, 2) := by decide +kernel
theorem d_law_425 : decode b_law 425 = .ok (.i2l, 1) := by decide +kernel
theorem d_law_426 : decode b_law 426 = .ok (.lcmp, 1) := by decide +kernel
theorem d_law_427 : decode b_law 427 = .ok (.ifCond .eq 5, 3) := by decide +kernel
theorem d_law_430 : decode b_law 430 = .ok (.iconst 0, 1) := by decide +kernel
theorem d_law_431 : decode b_law 431 = .ok (.ireturn, 1) := by decide +kernel
theorem d_law_432 : decode b_law 432 = .ok (.goto 16, 3) := by decide +kernel
theorem d_law_435 : decode b_law 435 = .ok (.aload_n 1, 1) := by decide +kernel
theorem d_law_436 : decode b_law 436 = .ok (.invokevirtual 69, 3) := by decide +kernel
theorem d_law_439 : decode b_law 439 = .ok (.aload_n 2, 1) := by decide +kernel
theorem d_law_440 : decode b_law 440 = .ok (.invokevirtual 72, 3) := by decide +kernel
theorem d_law_443 : decode b_law 443 = .ok (.if_icmp .eq 5, 3) := by decide +kernel
theorem d_law_446 : decode b_law 446 = .ok (.iconst 0, 1) := by decide +kernel

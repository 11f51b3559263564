theorem d_Mod_wn34_306 : decode b_Mod_wn34 306 = .ok (.iload_n 1, 1) := by decide +kernel
theorem d_Mod_wn34_307 : decode b_Mod_wn34 307 = .ok (.bipush 32, 2) := by decide +kernel
theorem d_Mod_wn34_309 : decode b_Mod_wn34 309 = .ok (.if_icmp .ge 21, 3) := by decide +kernel
theorem d_Mod_wn34_312 : decode b_Mod_wn34 312 = .ok (.aload_n 0, 1) := by decide +kernel
theorem d_Mod_wn34_313 : decode b_Mod_wn34 313 = .ok (.dup, 1) := by decide +kernel
theorem d_Mod_wn34_314 : decode b_Mod_wn34 314 = .ok (.getfield 115, 3) := by decide +kernel
theorem d_Mod_wn34_317 : decode b_Mod_wn34 317 = .ok (.aload_n 0, 1) := by decide +kernel
theorem d_Mod_wn34_318 : decode b_Mod_wn34 318 = .ok (.getfield 124, 3) := by decide +kernel
theorem d_Mod_wn34_321 : decode b_Mod_wn34 321 = .ok (.l2i, 1) := by decide +kernel
theorem d_Mod_wn34_322 : decode b_Mod_wn34 322 = .ok (.sipush 4095, 3) := by decide +kernel
theorem d_Mod_wn34_325 : decode b_Mod_wn34 325 = .ok (.iand, 1) := by decide +kernel
theorem d_Mod_wn34_326 : decode b_Mod_wn34 326 = .ok (.ior, 1) := by decide +kernel
theorem d_Mod_wn34_327 : decode b_Mod_wn34 327 = .ok (.putfield 115, 3) := by decide +kernel
theorem d_Mod_wn34_330 : decode b_Mod_wn34 330 = .ok (.iconst 1, 1) := by decide +kernel
theorem d_Mod_wn34_331 : decode b_Mod_wn34 331 = .ok (.ireturn, 1) := by decide +kernel
theorem d_Mod_wantParts_0 : decode b_Mod_wantParts 0 = .ok (.iload_n 1, 1) := by decide +kernel
theorem d_Mod_wantParts_1 : decode b_Mod_wantParts 1 = .ok (.tableswitch 509 0 34 #[155, 157, 509, 509, 509, 509, 509, 509, 509, 509, 204, 235, 293, 351, 351, 351, 398, 157, 429, 429, 429, 155, 509, 509, 509, 509, 509, 509, 509, 509, 509, 509, 494, 502, 502], 155) := by decide +kernel
theorem d_Mod_wantParts_156 : decode b_Mod_wantParts 156 = .ok (.iconst 1, 1) := by decide +kernel
theorem d_Mod_wantParts_157 : decode b_Mod_wantParts 157 = .ok (.ireturn, 1) := by decide +kernel
theorem d_Mod_wantParts_158 : decode b_Mod_wantParts 158 = .ok (.aload_n 0, 1) := by decide +kernel
theorem d_Mod_wantParts_159 : decode b_Mod_wantParts 159 = .ok (.bipush 20, 2) := by decide +kernel
theorem d_Mod_wantParts_161 : decode b_Mod_wantParts 161 = .ok (.invokevirtual 141, 3) := by decide +kernel
theorem d_Mod_wantParts_164 : decode b_Mod_wantParts 164 = .ok (.ifCond .eq 39, 3) := by decide +kernel
theorem d_Mod_wantParts_167 : decode b_Mod_wantParts 167 = .ok (.aload_n 0, 1) := by decide +kernel
theorem d_Mod_wantParts_168 : decode b_Mod_wantParts 168 = .ok (.invokevirtual 144, 3) := by decide +kernel
theorem d_Mod_wantParts_171 : decode b_Mod_wantParts 171 = .ok (.ifCond .eq 32, 3) := by decide +kernel
theorem d_Mod_wantParts_174 : decode b_Mod_wantParts 174 = .ok (.aload_n 0, 1) := by decide +kernel
theorem d_Mod_wantParts_175 : decode b_Mod_wantParts 175 = .ok (.bipush 16, 2) := by decide +kernel
theorem d_Mod_wantParts_177 : decode b_Mod_wantParts 177 = .ok (.invokevirtual 141, 3) := by decide +kernel
theorem d_Mod_wantParts_180 : decode b_Mod_wantParts 180 = .ok (.ifCond .eq 23, 3) := by decide +kernel
theorem d_Mod_wantParts_183 : decode b_Mod_wantParts 183 = .ok (.aload_n 0, 1) := by decide +kernel
theorem d_Mod_wantParts_184 : decode b_Mod_wantParts 184 = .ok (.invokevirtual 144, 3) := by decide +kernel
theorem d_Mod_wantParts_187 : decode b_Mod_wantParts 187 = .ok (.ifCond .eq 16, 3) := by decide +kernel
theorem d_Mod_wantParts_190 : decode b_Mod_wantParts 190 = .ok (.aload_n 0, 1) := by decide +kernel
theorem d_Mod_wantParts_191 : decode b_Mod_wantParts 191 = .ok (.iconst 1, 1) := by decide +kernel
theorem d_Mod_wantParts_192 : decode b_Mod_wantParts 192 = .ok (.iconst 0, 1) := by decide +kernel
theorem d_Mod_wantParts_193 : decode b_Mod_wantParts 193 = .ok (.invokevirtual 147, 3) := by decide +kernel
theorem d_Mod_wantParts_196 : decode b_Mod_wantParts 196 = .ok (.ifCond .eq 7, 3) := by decide +kernel
theorem d_Mod_wantParts_199 : decode b_Mod_wantParts 199 = .ok (.iconst 1, 1) := by decide +kernel
theorem d_Mod_wantParts_200 : decode b_Mod_wantParts 200 = .ok (.goto 4, 3) := by decide +kernel
theorem d_Mod_wantParts_203 : decode b_Mod_wantParts 203 = .ok (.iconst 0, 1) := by decide +kernel
theorem d_Mod_wantParts_204 : decode b_Mod_wantParts 204 = .ok (.ireturn, 1) := by decide +kernel
theorem d_Mod_wantParts_205 : decode b_Mod_wantParts 205 = .ok (.aload_n 0, 1) := by decide +kernel
theorem d_Mod_wantParts_206 : decode b_Mod_wantParts 206 = .ok (.bipush 20, 2) := by decide +kernel
theorem d_Mod_wantParts_208 : decode b_Mod_wantParts 208 = .ok (.invokevirtual 141, 3) := by decide +kernel
theorem d_Mod_wantParts_211 : decode b_Mod_wantParts 211 = .ok (.ifCond .eq 23, 3) := by decide +kernel
theorem d_Mod_wantParts_214 : decode b_Mod_wantParts 214 = .ok (.aload_n 0, 1) := by decide +kernel
theorem d_Mod_wantParts_215 : decode b_Mod_wantParts 215 = .ok (.invokevirtual 144, 3) := by decide +kernel
theorem d_Mod_wantParts_218 : decode b_Mod_wantParts 218 = .ok (.ifCond .eq 16, 3) := by decide +kernel
theorem d_Mod_wantParts_221 : decode b_Mod_wantParts 221 = .ok (.aload_n 0, 1) := by decide +kernel
theorem d_Mod_wantParts_222 : decode b_Mod_wantParts 222 = .ok (.iconst 1, 1) := by decide +kernel
theorem d_Mod_wantParts_223 : decode b_Mod_wantParts 223 = .ok (.iconst 0, 1) := by decide +kernel
theorem d_Mod_wantParts_224 : decode b_Mod_wantParts 224 = .ok (.invokevirtual 147, 3) := by decide +kernel
theorem d_Mod_wantParts_227 : decode b_Mod_wantParts 227 = .ok (.ifCond .eq 7, 3) := by decide +kernel
theorem d_Mod_wantParts_230 : decode b_Mod_wantParts 230 = .ok (.iconst 1, 1) := by decide +kernel
theorem d_Mod_wantParts_231 : decode b_Mod_wantParts 231 = .ok (.goto 4, 3) := by decide +kernel
theorem d_Mod_wantParts_234 : decode b_Mod_wantParts 234 = .ok (.iconst 0, 1) := by decide +kernel
theorem d_Mod_wantParts_235 : decode b_Mod_wantParts 235 = .ok (.ireturn, 1) := by decide +kernel
theorem d_Mod_wantParts_236 : decode b_Mod_wantParts 236 = .ok (.aload_n 0, 1) := by decide +kernel
theorem d_Mod_wantParts_237 : decode b_Mod_wantParts 237 = .ok (.bipush 20, 2) := by decide +kernel
theorem d_Mod_wantParts_239 : decode b_Mod_wantParts 239 = .ok (.invokevirtual 141, 3) := by decide +kernel
theorem d_Mod_wantParts_242 : decode b_Mod_wantParts 242 = .ok (.ifCond .eq 50, 3) := by decide +kernel
theorem d_Mod_wantParts_245 : decode b_Mod_wantParts 245 = .ok (.aload_n 0, 1) := by decide +kernel
theorem d_Mod_wantParts_246 : decode b_Mod_wantParts 246 = .ok (.invokevirtual 144, 3) := by decide +kernel
theorem d_Mod_wantParts_249 : decode b_Mod_wantParts 249 = .ok (.ifCond .eq 43, 3) := by decide +kernel
theorem d_Mod_wantParts_252 : decode b_Mod_wantParts 252 = .ok (.aload_n 0, 1) := by decide +kernel
theorem d_Mod_wantParts_253 : decode b_Mod_wantParts 253 = .ok (.iconst 1, 1) := by decide +kernel
theorem d_Mod_wantParts_254 : decode b_Mod_wantParts 254 = .ok (.iconst 0, 1) := by decide +kernel
theorem d_Mod_wantParts_255 : decode b_Mod_wantParts 255 = .ok (.invokevirtual 147, 3) := by decide +kernel
theorem d_Mod_wantParts_258 : decode b_Mod_wantParts 258 = .ok (.ifCond .eq 34, 3) := by decide +kernel
theorem d_Mod_wantParts_261 : decode b_Mod_wantParts 261 = .ok (.aload_n 0, 1) := by decide +kernel
theorem d_Mod_wantParts_262 : decode b_Mod_wantParts 262 = .ok (.bipush 40, 2) := by decide +kernel
theorem d_Mod_wantParts_264 : decode b_Mod_wantParts 264 = .ok (.invokevirtual 138, 3) := by decide +kernel
theorem d_Mod_wantParts_267 : decode b_Mod_wantParts 267 = .ok (.ifCond .eq 25, 3) := by decide +kernel
theorem d_Mod_wantParts_270 : decode b_Mod_wantParts 270 = .ok (.aload_n 0, 1) := by decide +kernel
theorem d_Mod_wantParts_271 : decode b_Mod_wantParts 271 = .ok (.bipush 16, 2) := by decide +kernel
theorem d_Mod_wantParts_273 : decode b_Mod_wantParts 273 = .ok (.invokevirtual 141, 3) := by decide +kernel
theorem d_Mod_wantParts_276 : decode b_Mod_wantParts 276 = .ok (.ifCond .eq 16, 3) := by decide +kernel
theorem d_Mod_wantParts_279 : decode b_Mod_wantParts 279 = .ok (.aload_n 0, 1) := by decide +kernel
theorem d_Mod_wantParts_280 : decode b_Mod_wantParts 280 = .ok (.bipush 41, 2) := by decide +kernel
theorem d_Mod_wantParts_282 : decode b_Mod_wantParts 282 = .ok (.invokevirtual 138, 3) := by decide +kernel
theorem d_Mod_wantParts_285 : decode b_Mod_wantParts 285 = .ok (.ifCond .eq 7, 3) := by decide +kernel
theorem d_Mod_wantParts_288 : decode b_Mod_wantParts 288 = .ok (.iconst 1, 1) := by decide +kernel
theorem d_Mod_wantParts_289 : decode b_Mod_wantParts 289 = .ok (.goto 4, 3) := by decide +kernel
theorem d_Mod_wantParts_292 : decode b_Mod_wantParts 292 = .ok (.iconst 0, 1) := by decide +kernel
theorem d_Mod_wantParts_293 : decode b_Mod_wantParts 293 = .ok (.ireturn, 1) := by decide +kernel
theorem d_Mod_wantParts_294 : decode b_Mod_wantParts 294 = .ok (.aload_n 0, 1) := by decide +kernel
theorem d_Mod_wantParts_295 : decode b_Mod_wantParts 295 = .ok (.bipush 12, 2) := by decide +kernel
theorem d_Mod_wantParts_297 : decode b_Mod_wantParts 297 = .ok (.invokevirtual 141, 3) := by decide +kernel
theorem d_Mod_wantParts_300 : decode b_Mod_wantParts 300 = .ok (.ifCond .eq 50, 3) := by decide +kernel
theorem d_Mod_wantParts_303 : decode b_Mod_wantParts 303 = .ok (.aload_n 0, 1) := by decide +kernel
theorem d_Mod_wantParts_304 : decode b_Mod_wantParts 304 = .ok (.invokevirtual 144, 3) := by decide +kernel
theorem d_Mod_wantParts_307 : decode b_Mod_wantParts 307 = .ok (.ifCond .eq 43, 3) := by decide +kernel
theorem d_Mod_wantParts_310 : decode b_Mod_wantParts 310 = .ok (.aload_n 0, 1) := by decide +kernel
theorem d_Mod_wantParts_311 : decode b_Mod_wantParts 311 = .ok (.iconst 1, 1) := by decide +kernel
theorem d_Mod_wantParts_312 : decode b_Mod_wantParts 312 = .ok (.iconst 0, 1) := by decide +kernel
theorem d_Mod_wantParts_313 : decode b_Mod_wantParts 313 = .ok (.invokevirtual 147, 3) := by decide +kernel
theorem d_Mod_wantParts_316 : decode b_Mod_wantParts 316 = .ok (.ifCond .eq 34, 3) := by decide +kernel
theorem d_Mod_wantParts_319 : decode b_Mod_wantParts 319 = .ok (.aload_n 0, 1) := by decide +kernel
theorem d_Mod_wantParts_320 : decode b_Mod_wantParts 320 = .ok (.bipush 40, 2) := by decide +kernel
theorem d_Mod_wantParts_322 : decode b_Mod_wantParts 322 = .ok (.invokevirtual 138, 3) := by decide +kernel
theorem d_Mod_wantParts_325 : decode b_Mod_wantParts 325 = .ok (.ifCond .eq 25, 3) := by decide +kernel
theorem d_Mod_wantParts_328 : decode b_Mod_wantParts 328 = .ok (.aload_n 0, 1) := by decide +kernel
theorem d_Mod_wantParts_329 : decode b_Mod_wantParts 329 = .ok (.bipush 16, 2) := by decide +kernel
theorem d_Mod_wantParts_331 : decode b_Mod_wantParts 331 = .ok (.invokevirtual 141, 3) := by decide +kernel
theorem d_Mod_wantParts_334 : decode b_Mod_wantParts 334 = .ok (.ifCond .eq 16, 3) := by decide +kernel
theorem d_Mod_wantParts_337 : decode b_Mod_wantParts 337 = .ok (.aload_n 0, 1) := by decide +kernel
theorem d_Mod_wantParts_338 : decode b_Mod_wantParts 338 = .ok (.bipush 41, 2) := by decide +kernel
theorem d_Mod_wantParts_340 : decode b_Mod_wantParts 340 = .ok (.invokevirtual 138, 3) := by decide +kernel
theorem d_Mod_wantParts_343 : decode b_Mod_wantParts 343 = .ok (.ifCond .eq 7, 3) := by decide +kernel
theorem d_Mod_wantParts_346 : decode b_Mod_wantParts 346 = .ok (.iconst 1, 1) := by decide +kernel
theorem d_Mod_wantParts_347 : decode b_Mod_wantParts 347 = .ok (.goto 4, 3) := by decide +kernel
theorem d_Mod_wantParts_350 : decode b_Mod_wantParts 350 = .ok (.iconst 0, 1) := by decide +kernel
theorem d_Mod_wantParts_351 : decode b_Mod_wantParts 351 = .ok (.ireturn, 1) := by decide +kernel
theorem d_Mod_wantParts_352 : decode b_Mod_wantParts 352 = .ok (.aload_n 0, 1) := by decide +kernel
theorem d_Mod_wantParts_353 : decode b_Mod_wantParts 353 = .ok (.bipush 16, 2) := by decide +kernel
theorem d_Mod_wantParts_355 : decode b_Mod_wantParts 355 = .ok (.invokevirtual 141, 3) := by decide +kernel
theorem d_Mod_wantParts_358 : decode b_Mod_wantParts 358 = .ok (.ifCond .eq 39, 3) := by decide +kernel
theorem d_Mod_wantParts_361 : decode b_Mod_wantParts 361 = .ok (.aload_n 0, 1) := by decide +kernel
theorem d_Mod_wantParts_362 : decode b_Mod_wantParts 362 = .ok (.invokevirtual 144, 3) := by decide +kernel
theorem d_Mod_wantParts_365 : decode b_Mod_wantParts 365 = .ok (.ifCond .eq 32, 3) := by decide +kernel
theorem d_Mod_wantParts_368 : decode b_Mod_wantParts 368 = .ok (.aload_n 0, 1) := by decide +kernel
theorem d_Mod_wantParts_369 : decode b_Mod_wantParts 369 = .ok (.bipush 12, 2) := by decide +kernel
theorem d_Mod_wantParts_371 : decode b_Mod_wantParts 371 = .ok (.invokevirtual 141, 3) := by decide +kernel
theorem d_Mod_wantParts_374 : decode b_Mod_wantParts 374 = .ok (.ifCond .eq 23, 3) := by decide +kernel
theorem d_Mod_wantParts_377 : decode b_Mod_wantParts 377 = .ok (.aload_n 0, 1) := by decide +kernel
theorem d_Mod_wantParts_378 : decode b_Mod_wantParts 378 = .ok (.invokevirtual 144, 3) := by decide +kernel
theorem d_Mod_wantParts_381 : decode b_Mod_wantParts 381 = .ok (.ifCond .eq 16, 3) := by decide +kernel
theorem d_Mod_wantParts_384 : decode b_Mod_wantParts 384 = .ok (.aload_n 0, 1) := by decide +kernel
theorem d_Mod_wantParts_385 : decode b_Mod_wantParts 385 = .ok (.iconst 2, 1) := by decide +kernel
theorem d_Mod_wantParts_386 : decode b_Mod_wantParts 386 = .ok (.iconst 0, 1) := by decide +kernel
theorem d_Mod_wantParts_387 : decode b_Mod_wantParts 387 = .ok (.invokevirtual 147, 3) := by decide +kernel
theorem d_Mod_wantParts_390 : decode b_Mod_wantParts 390 = .ok (.ifCond .eq 7, 3) := by decide +kernel
theorem d_Mod_wantParts_393 : decode b_Mod_wantParts 393 = .ok (.iconst 1, 1) := by decide +kernel
theorem d_Mod_wantParts_394 : decode b_Mod_wantParts 394 = .ok (.goto 4, 3) := by decide +kernel
theorem d_Mod_wantParts_397 : decode b_Mod_wantParts 397 = .ok (.iconst 0, 1) := by decide +kernel
theorem d_Mod_wantParts_398 : decode b_Mod_wantParts 398 = .ok (.ireturn, 1) := by decide +kernel
theorem d_Mod_wantParts_399 : decode b_Mod_wantParts 399 = .ok (.aload_n 0, 1) := by decide +kernel
theorem d_Mod_wantParts_400 : decode b_Mod_wantParts 400 = .ok (.bipush 20, 2) := by decide +kernel
theorem d_Mod_wantParts_402 : decode b_Mod_wantParts 402 = .ok (.invokevirtual 141, 3) := by decide +kernel
theorem d_Mod_wantParts_405 : decode b_Mod_wantParts 405 = .ok (.ifCond .eq 23, 3) := by decide +kernel
theorem d_Mod_wantParts_408 : decode b_Mod_wantParts 408 = .ok (.aload_n 0, 1) := by decide +kernel
theorem d_Mod_wantParts_409 : decode b_Mod_wantParts 409 = .ok (.invokevirtual 144, 3) := by decide +kernel
theorem d_Mod_wantParts_412 : decode b_Mod_wantParts 412 = .ok (.ifCond .eq 16, 3) := by decide +kernel
theorem d_Mod_wantParts_415 : decode b_Mod_wantParts 415 = .ok (.aload_n 0, 1) := by decide +kernel
theorem d_Mod_wantParts_416 : decode b_Mod_wantParts 416 = .ok (.iconst 2, 1) := by decide +kernel
theorem d_Mod_wantParts_417 : decode b_Mod_wantParts 417 = .ok (.iconst 0, 1) := by decide +kernel
theorem d_Mod_wantParts_418 : decode b_Mod_wantParts 418 = .ok (.invokevirtual 147, 3) := by decide +kernel
theorem d_Mod_wantParts_421 : decode b_Mod_wantParts 421 = .ok (.ifCond .eq 7, 3) := by decide +kernel
theorem d_Mod_wantParts_424 : decode b_Mod_wantParts 424 = .ok (.iconst 1, 1) := by decide +kernel
theorem d_Mod_wantParts_425 : decode b_Mod_wantParts 425 = .ok (.goto 4, 3) := by decide +kernel
theorem d_Mod_wantParts_428 : decode b_Mod_wantParts 428 = .ok (.iconst 0, 1) := by decide +kernel
theorem d_Mod_wantParts_429 : decode b_Mod_wantParts 429 = .ok (.ireturn, 1) := by decide +kernel
theorem d_Mod_wantParts_430 : decode b_Mod_wantParts 430 = .ok (.aload_n 0, 1) := by decide +kernel
theorem d_Mod_wantParts_431 : decode b_Mod_wantParts 431 = .ok (.bipush 20, 2) := by decide +kernel
theorem d_Mod_wantParts_433 : decode b_Mod_wantParts 433 = .ok (.invokevirtual 141, 3) := by decide +kernel
theorem d_Mod_wantParts_436 : decode b_Mod_wantParts 436 = .ok (.ifCond .eq 57, 3) := by decide +kernel
theorem d_Mod_wantParts_439 : decode b_Mod_wantParts 439 = .ok (.aload_n 0, 1) := by decide +kernel
theorem d_Mod_wantParts_440 : decode b_Mod_wantParts 440 = .ok (.invokevirtual 144, 3) := by decide +kernel
theorem d_Mod_wantParts_443 : decode b_Mod_wantParts 443 = .ok (.ifCond .eq 50, 3) := by decide +kernel
theorem d_Mod_wantParts_446 : decode b_Mod_wantParts 446 = .ok (.aload_n 0, 1) := by decide +kernel
theorem d_Mod_wantParts_447 : decode b_Mod_wantParts 447 = .ok (.bipush 12, 2) := by decide +kernel
theorem d_Mod_wantParts_449 : decode b_Mod_wantParts 449 = .ok (.invokevirtual 141, 3) := by decide +kernel
theorem d_Mod_wantParts_452 : decode b_Mod_wantParts 452 = .ok (.ifCond .eq 41, 3) := by decide +kernel
theorem d_Mod_wantParts_455 : decode b_Mod_wantParts 455 = .ok (.aload_n 0, 1) := by decide +kernel
theorem d_Mod_wantParts_456 : decode b_Mod_wantParts 456 = .ok (.invokevirtual 144, 3) := by decide +kernel
theorem d_Mod_wantParts_459 : decode b_Mod_wantParts 459 = .ok (.ifCond .eq 34, 3) := by decide +kernel
theorem d_Mod_wantParts_462 : decode b_Mod_wantParts 462 = .ok (.aload_n 0, 1) := by decide +kernel
theorem d_Mod_wantParts_463 : decode b_Mod_wantParts 463 = .ok (.bipush 40, 2) := by decide +kernel
theorem d_Mod_wantParts_465 : decode b_Mod_wantParts 465 = .ok (.invokevirtual 138, 3) := by decide +kernel
theorem d_Mod_wantParts_468 : decode b_Mod_wantParts 468 = .ok (.ifCond .eq 25, 3) := by decide +kernel
theorem d_Mod_wantParts_471 : decode b_Mod_wantParts 471 = .ok (.aload_n 0, 1) := by decide +kernel
theorem d_Mod_wantParts_472 : decode b_Mod_wantParts 472 = .ok (.bipush 16, 2) := by decide +kernel
theorem d_Mod_wantParts_474 : decode b_Mod_wantParts 474 = .ok (.invokevirtual 141, 3) := by decide +kernel
theorem d_Mod_wantParts_477 : decode b_Mod_wantParts 477 = .ok (.ifCond .eq 16, 3) := by decide +kernel
theorem d_Mod_wantParts_480 : decode b_Mod_wantParts 480 = .ok (.aload_n 0, 1) := by decide +kernel
theorem d_Mod_wantParts_481 : decode b_Mod_wantParts 481 = .ok (.bipush 41, 2) := by decide +kernel
theorem d_Mod_wantParts_483 : decode b_Mod_wantParts 483 = .ok (.invokevirtual 138, 3) := by decide +kernel
theorem d_Mod_wantParts_486 : decode b_Mod_wantParts 486 = .ok (.ifCond .eq 7, 3) := by decide +kernel
theorem d_Mod_wantParts_489 : decode b_Mod_wantParts 489 = .ok (.iconst 1, 1) := by decide +kernel
theorem d_Mod_wantParts_490 : decode b_Mod_wantParts 490 = .ok (.goto 4, 3) := by decide +kernel
theorem d_Mod_wantParts_493 : decode b_Mod_wantParts 493 = .ok (.iconst 0, 1) := by decide +kernel
theorem d_Mod_wantParts_494 : decode b_Mod_wantParts 494 = .ok (.ireturn, 1) := by decide +kernel
theorem d_Mod_wantParts_495 : decode b_Mod_wantParts 495 = .ok (.aload_n 0, 1) := by decide +kernel
theorem d_Mod_wantParts_496 : decode b_Mod_wantParts 496 = .ok (.bipush 32, 2) := by decide +kernel
theorem d_Mod_wantParts_498 : decode b_Mod_wantParts 498 = .ok (.iconst 0, 1) := by decide +kernel
theorem d_Mod_wantParts_499 : decode b_Mod_wantParts 499 = .ok (.invokevirtual 147, 3) := by decide +kernel
theorem d_Mod_wantParts_502 : decode b_Mod_wantParts 502 = .ok (.ireturn, 1) := by decide +kernel
theorem d_Mod_wantParts_503 : decode b_Mod_wantParts 503 = .ok (.aload_n 0, 1) := by decide +kernel
theorem d_Mod_wantParts_504 : decode b_Mod_wantParts 504 = .ok (.iload_n 1, 1) := by decide +kernel
theorem d_Mod_wantParts_505 : decode b_Mod_wantParts 505 = .ok (.iconst 1, 1) := by decide +kernel
theorem d_Mod_wantParts_506 : decode b_Mod_wantParts 506 = .ok (.invokevirtual 147, 3) := by decide +kernel
theorem d_Mod_wantParts_509 : decode b_Mod_wantParts 509 = .ok (.ireturn, 1) := by decide +kernel
theorem d_Mod_wantParts_510 : decode b_Mod_wantParts 510 = .ok (.aload_n 0, 1) := by decide +kernel
theorem d_Mod_wantParts_511 : decode b_Mod_wantParts 511 = .ok (.bipush 20, 2) := by decide +kernel
theorem d_Mod_wantParts_513 : decode b_Mod_wantParts 513 = .ok (.invokevirtual 141, 3) := by decide +kernel
theorem d_Mod_wantParts_516 : decode b_Mod_wantParts 516 = .ok (.ifCond .eq 39, 3) := by decide +kernel
theorem d_Mod_wantParts_519 : decode b_Mod_wantParts 519 = .ok (.aload_n 0, 1) := by decide +kernel
theorem d_Mod_wantParts_520 : decode b_Mod_wantParts 520 = .ok (.invokevirtual 144, 3) := by decide +kernel
theorem d_Mod_wantParts_523 : decode b_Mod_wantParts 523 = .ok (.ifCond .eq 32, 3) := by decide +kernel
theorem d_Mod_wantParts_526 : decode b_Mod_wantParts 526 = .ok (.aload_n 0, 1) := by decide +kernel
theorem d_Mod_wantParts_527 : decode b_Mod_wantParts 527 = .ok (.bipush 16, 2) := by decide +kernel
theorem d_Mod_wantParts_529 : decode b_Mod_wantParts 529 = .ok (.invokevirtual 141, 3) := by decide +kernel
theorem d_Mod_wantParts_532 : decode b_Mod_wantParts 532 = .ok (.ifCond .eq 23, 3) := by decide +kernel
theorem d_Mod_wantParts_535 : decode b_Mod_wantParts 535 = .ok (.aload_n 0, 1) := by decide +kernel
theorem d_Mod_wantParts_536 : decode b_Mod_wantParts 536 = .ok (.invokevirtual 144, 3) := by decide +kernel
theorem d_Mod_wantParts_539 : decode b_Mod_wantParts 539 = .ok (.ifCond .eq 16, 3) := by decide +kernel
theorem d_Mod_wantParts_542 : decode b_Mod_wantParts 542 = .ok (.aload_n 0, 1) := by decide +kernel
theorem d_Mod_wantParts_543 : decode b_Mod_wantParts 543 = .ok (.bipush 12, 2) := by decide +kernel
theorem d_Mod_wantParts_545 : decode b_Mod_wantParts 545 = .ok (.invokevirtual 141, 3) := by decide +kernel
theorem d_Mod_wantParts_548 : decode b_Mod_wantParts 548 = .ok (.ifCond .eq 7, 3) := by decide +kernel
theorem d_Mod_wantParts_551 : decode b_Mod_wantParts 551 = .ok (.iconst 1, 1) := by decide +kernel
theorem d_Mod_wantParts_552 : decode b_Mod_wantParts 552 = .ok (.goto 4, 3) := by decide +kernel
theorem d_Mod_wantParts_555 : decode b_Mod_wantParts 555 = .ok (.iconst 0, 1) := by decide +kernel
theorem d_Mod_wantParts_556 : decode b_Mod_wantParts 556 = .ok (.ireturn, 1) := by decide +kernel
theorem d_Mod_readLabels_0 : decode b_Mod_readLabels 0 = .ok (.aload_n 0, 1) := by decide +kernel
theorem d_Mod_readLabels_1 : decode b_Mod_readLabels 1 = .ok (.getfield 13, 3) := by decide +kernel
theorem d_Mod_readLabels_4 : decode b_Mod_readLabels 4 = .ok (.aload_n 0, 1) := by decide +kernel
theorem d_Mod_readLabels_5 : decode b_Mod_readLabels 5 = .ok (.getfield 96, 3) := by decide +kernel
theorem d_Mod_readLabels_8 : decode b_Mod_readLabels 8 = .ok (.iaload, 1) := by decide +kernel
theorem d_Mod_readLabels_9 : decode b_Mod_readLabels 9 = .ok (.iconst 1, 1) := by decide +kernel
theorem d_Mod_readLabels_10 : decode b_Mod_readLabels 10 = .ok (.if_icmp .ne 139, 3) := by decide +kernel
theorem d_Mod_readLabels_13 : decode b_Mod_readLabels 13 = .ok (.aload_n 0, 1) := by decide +kernel
theorem d_Mod_readLabels_14 : decode b_Mod_readLabels 14 = .ok (.getfield 13, 3) := by decide +kernel
theorem d_Mod_readLabels_17 : decode b_Mod_readLabels 17 = .ok (.aload_n 0, 1) := by decide +kernel
theorem d_Mod_readLabels_18 : decode b_Mod_readLabels 18 = .ok (.getfield 96, 3) := by decide +kernel
theorem d_Mod_readLabels_21 : decode b_Mod_readLabels 21 = .ok (.iconst 1, 1) := by decide +kernel
theorem d_Mod_readLabels_22 : decode b_Mod_readLabels 22 = .ok (.iadd, 1) := by decide +kernel
theorem d_Mod_readLabels_23 : decode b_Mod_readLabels 23 = .ok (.iaload, 1) := by decide +kernel
theorem d_Mod_readLabels_24 : decode b_Mod_readLabels 24 = .ok (.iconst 3, 1) := by decide +kernel
theorem d_Mod_readLabels_25 : decode b_Mod_readLabels 25 = .ok (.if_icmp .ne 124, 3) := by decide +kernel
theorem d_Mod_readLabels_28 : decode b_Mod_readLabels 28 = .ok (.aload_n 0, 1) := by decide +kernel
theorem d_Mod_readLabels_29 : decode b_Mod_readLabels 29 = .ok (.getfield 19, 3) := by decide +kernel
theorem d_Mod_readLabels_32 : decode b_Mod_readLabels 32 = .ok (.aload_n 0, 1) := by decide +kernel
theorem d_Mod_readLabels_33 : decode b_Mod_readLabels 33 = .ok (.getfield 96, 3) := by decide +kernel
theorem d_Mod_readLabels_36 : decode b_Mod_readLabels 36 = .ok (.iconst 1, 1) := by decide +kernel
theorem d_Mod_readLabels_37 : decode b_Mod_readLabels 37 = .ok (.iadd, 1) := by decide +kernel
theorem d_Mod_readLabels_38 : decode b_Mod_readLabels 38 = .ok (.laload, 1) := by decide +kernel
theorem d_Mod_readLabels_39 : decode b_Mod_readLabels 39 = .ok (.ldc2_w 151, 3) := by decide +kernel
theorem d_Mod_readLabels_42 : decode b_Mod_readLabels 42 = .ok (.lcmp, 1) := by decide +kernel
theorem d_Mod_readLabels_43 : decode b_Mod_readLabels 43 = .ok (.ifCond .ne 106, 3) := by decide +kernel
theorem d_Mod_readLabels_46 : decode b_Mod_readLabels 46 = .ok (.iconst 0, 1) := by decide +kernel
theorem d_Mod_readLabels_47 : decode b_Mod_readLabels 47 = .ok (.istore_n 1, 1) := by decide +kernel
theorem d_Mod_readLabels_48 : decode b_Mod_readLabels 48 = .ok (.iload_n 1, 1) := by decide +kernel
theorem d_Mod_readLabels_49 : decode b_Mod_readLabels 49 = .ok (.aload_n 0, 1) := by decide +kernel
theorem d_Mod_readLabels_50 : decode b_Mod_readLabels 50 = .ok (.getfield 153, 3) := by decide +kernel
theorem d_Mod_readLabels_53 : decode b_Mod_readLabels 53 = .ok (.if_icmp .ge 42, 3) := by decide +kernel
theorem d_Mod_readLabels_56 : decode b_Mod_readLabels 56 = .ok (.aload_n 0, 1) := by decide +kernel
theorem d_Mod_readLabels_57 : decode b_Mod_readLabels 57 = .ok (.getfield 23, 3) := by decide +kernel
theorem d_Mod_readLabels_60 : decode b_Mod_readLabels 60 = .ok (.iload_n 1, 1) := by decide +kernel
theorem d_Mod_readLabels_61 : decode b_Mod_readLabels 61 = .ok (.laload, 1) := by decide +kernel
theorem d_Mod_readLabels_62 : decode b_Mod_readLabels 62 = .ok (.aload_n 0, 1) := by decide +kernel
theorem d_Mod_readLabels_63 : decode b_Mod_readLabels 63 = .ok (.getfield 19, 3) := by decide +kernel
theorem d_Mod_readLabels_66 : decode b_Mod_readLabels 66 = .ok (.aload_n 0, 1) := by decide +kernel
theorem d_Mod_readLabels_67 : decode b_Mod_readLabels 67 = .ok (.getfield 96, 3) := by decide +kernel
theorem d_Mod_readLabels_70 : decode b_Mod_readLabels 70 = .ok (.laload, 1) := by decide +kernel
theorem d_Mod_readLabels_71 : decode b_Mod_readLabels 71 = .ok (.lcmp, 1) := by decide +kernel
theorem d_Mod_readLabels_72 : decode b_Mod_readLabels 72 = .ok (.ifCond .ne 17, 3) := by decide +kernel
theorem d_Mod_readLabels_75 : decode b_Mod_readLabels 75 = .ok (.aload_n 0, 1) := by decide +kernel
theorem d_Mod_readLabels_76 : decode b_Mod_readLabels 76 = .ok (.iconst 2, 1) := by decide +kernel

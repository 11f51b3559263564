theorem d_Mod_wn2_309 : decode b_Mod_wn2 309 = .ok (.if_icmp .ge 21, 3) := by decide +kernel
theorem d_Mod_wn2_312 : decode b_Mod_wn2 312 = .ok (.aload_n 0, 1) := by decide +kernel
theorem d_Mod_wn2_313 : decode b_Mod_wn2 313 = .ok (.dup, 1) := by decide +kernel
theorem d_Mod_wn2_314 : decode b_Mod_wn2 314 = .ok (.getfield 115, 3) := by decide +kernel
theorem d_Mod_wn2_317 : decode b_Mod_wn2 317 = .ok (.aload_n 0, 1) := by decide +kernel
theorem d_Mod_wn2_318 : decode b_Mod_wn2 318 = .ok (.getfield 124, 3) := by decide +kernel
theorem d_Mod_wn2_321 : decode b_Mod_wn2 321 = .ok (.l2i, 1) := by decide +kernel
theorem d_Mod_wn2_322 : decode b_Mod_wn2 322 = .ok (.sipush 4095, 3) := by decide +kernel
theorem d_Mod_wn2_325 : decode b_Mod_wn2 325 = .ok (.iand, 1) := by decide +kernel
theorem d_Mod_wn2_326 : decode b_Mod_wn2 326 = .ok (.ior, 1) := by decide +kernel
theorem d_Mod_wn2_327 : decode b_Mod_wn2 327 = .ok (.putfield 115, 3) := by decide +kernel
theorem d_Mod_wn2_330 : decode b_Mod_wn2 330 = .ok (.iconst 1, 1) := by decide +kernel
theorem d_Mod_wn2_331 : decode b_Mod_wn2 331 = .ok (.ireturn, 1) := by decide +kernel
theorem d_Mod_wn32_0 : decode b_Mod_wn32 0 = .ok (.aload_n 0, 1) := by decide +kernel
theorem d_Mod_wn32_1 : decode b_Mod_wn32 1 = .ok (.getfield 96, 3) := by decide +kernel
theorem d_Mod_wn32_4 : decode b_Mod_wn32 4 = .ok (.istore_n 3, 1) := by decide +kernel
theorem d_Mod_wn32_5 : decode b_Mod_wn32 5 = .ok (.iload_n 2, 1) := by decide +kernel
theorem d_Mod_wn32_6 : decode b_Mod_wn32 6 = .ok (.ifCond .ne 16, 3) := by decide +kernel
theorem d_Mod_wn32_9 : decode b_Mod_wn32 9 = .ok (.aload_n 0, 1) := by decide +kernel
theorem d_Mod_wn32_10 : decode b_Mod_wn32 10 = .ok (.bipush 45, 2) := by decide +kernel
theorem d_Mod_wn32_12 : decode b_Mod_wn32 12 = .ok (.invokevirtual 118, 3) := by decide +kernel
theorem d_Mod_wn32_15 : decode b_Mod_wn32 15 = .ok (.ifCond .eq 7, 3) := by decide +kernel
theorem d_Mod_wn32_18 : decode b_Mod_wn32 18 = .ok (.iconst 1, 1) := by decide +kernel
theorem d_Mod_wn32_19 : decode b_Mod_wn32 19 = .ok (.goto 4, 3) := by decide +kernel
theorem d_Mod_wn32_22 : decode b_Mod_wn32 22 = .ok (.iconst 0, 1) := by decide +kernel
theorem d_Mod_wn32_23 : decode b_Mod_wn32 23 = .ok (.istore 4, 2) := by decide +kernel
theorem d_Mod_wn32_25 : decode b_Mod_wn32 25 = .ok (.iload 4, 2) := by decide +kernel
theorem d_Mod_wn32_27 : decode b_Mod_wn32 27 = .ok (.ifCond .eq 13, 3) := by decide +kernel
theorem d_Mod_wn32_30 : decode b_Mod_wn32 30 = .ok (.aload_n 0, 1) := by decide +kernel
theorem d_Mod_wn32_31 : decode b_Mod_wn32 31 = .ok (.dup, 1) := by decide +kernel
theorem d_Mod_wn32_32 : decode b_Mod_wn32 32 = .ok (.getfield 96, 3) := by decide +kernel
theorem d_Mod_wn32_35 : decode b_Mod_wn32 35 = .ok (.iconst 1, 1) := by decide +kernel
theorem d_Mod_wn32_36 : decode b_Mod_wn32 36 = .ok (.iadd, 1) := by decide +kernel
theorem d_Mod_wn32_37 : decode b_Mod_wn32 37 = .ok (.putfield 96, 3) := by decide +kernel
theorem d_Mod_wn32_40 : decode b_Mod_wn32 40 = .ok (.iload_n 2, 1) := by decide +kernel
theorem d_Mod_wn32_41 : decode b_Mod_wn32 41 = .ok (.ifCond .ne 79, 3) := by decide +kernel
theorem d_Mod_wn32_44 : decode b_Mod_wn32 44 = .ok (.iload 4, 2) := by decide +kernel
theorem d_Mod_wn32_46 : decode b_Mod_wn32 46 = .ok (.ifCond .ne 74, 3) := by decide +kernel
theorem d_Mod_wn32_49 : decode b_Mod_wn32 49 = .ok (.aload_n 0, 1) := by decide +kernel
theorem d_Mod_wn32_50 : decode b_Mod_wn32 50 = .ok (.getfield 13, 3) := by decide +kernel
theorem d_Mod_wn32_53 : decode b_Mod_wn32 53 = .ok (.aload_n 0, 1) := by decide +kernel
theorem d_Mod_wn32_54 : decode b_Mod_wn32 54 = .ok (.getfield 96, 3) := by decide +kernel
theorem d_Mod_wn32_57 : decode b_Mod_wn32 57 = .ok (.iaload, 1) := by decide +kernel
theorem d_Mod_wn32_58 : decode b_Mod_wn32 58 = .ok (.iconst 1, 1) := by decide +kernel
theorem d_Mod_wn32_59 : decode b_Mod_wn32 59 = .ok (.if_icmp .ne 61, 3) := by decide +kernel
theorem d_Mod_wn32_62 : decode b_Mod_wn32 62 = .ok (.aload_n 0, 1) := by decide +kernel
theorem d_Mod_wn32_63 : decode b_Mod_wn32 63 = .ok (.getfield 35, 3) := by decide +kernel
theorem d_Mod_wn32_66 : decode b_Mod_wn32 66 = .ok (.aload_n 0, 1) := by decide +kernel
theorem d_Mod_wn32_67 : decode b_Mod_wn32 67 = .ok (.getfield 121, 3) := by decide +kernel
theorem d_Mod_wn32_70 : decode b_Mod_wn32 70 = .ok (.iload_n 1, 1) := by decide +kernel
theorem d_Mod_wn32_71 : decode b_Mod_wn32 71 = .ok (.iastore, 1) := by decide +kernel
theorem d_Mod_wn32_72 : decode b_Mod_wn32 72 = .ok (.aload_n 0, 1) := by decide +kernel
theorem d_Mod_wn32_73 : decode b_Mod_wn32 73 = .ok (.getfield 38, 3) := by decide +kernel
theorem d_Mod_wn32_76 : decode b_Mod_wn32 76 = .ok (.aload_n 0, 1) := by decide +kernel
theorem d_Mod_wn32_77 : decode b_Mod_wn32 77 = .ok (.getfield 121, 3) := by decide +kernel
theorem d_Mod_wn32_80 : decode b_Mod_wn32 80 = .ok (.aload_n 0, 1) := by decide +kernel
theorem d_Mod_wn32_81 : decode b_Mod_wn32 81 = .ok (.getfield 19, 3) := by decide +kernel
theorem d_Mod_wn32_84 : decode b_Mod_wn32 84 = .ok (.aload_n 0, 1) := by decide +kernel
theorem d_Mod_wn32_85 : decode b_Mod_wn32 85 = .ok (.getfield 96, 3) := by decide +kernel
theorem d_Mod_wn32_88 : decode b_Mod_wn32 88 = .ok (.laload, 1) := by decide +kernel
theorem d_Mod_wn32_89 : decode b_Mod_wn32 89 = .ok (.lastore, 1) := by decide +kernel
theorem d_Mod_wn32_90 : decode b_Mod_wn32 90 = .ok (.aload_n 0, 1) := by decide +kernel
theorem d_Mod_wn32_91 : decode b_Mod_wn32 91 = .ok (.getfield 41, 3) := by decide +kernel
theorem d_Mod_wn32_94 : decode b_Mod_wn32 94 = .ok (.aload_n 0, 1) := by decide +kernel
theorem d_Mod_wn32_95 : decode b_Mod_wn32 95 = .ok (.getfield 121, 3) := by decide +kernel
theorem d_Mod_wn32_98 : decode b_Mod_wn32 98 = .ok (.aload_n 0, 1) := by decide +kernel
theorem d_Mod_wn32_99 : decode b_Mod_wn32 99 = .ok (.getfield 16, 3) := by decide +kernel
theorem d_Mod_wn32_102 : decode b_Mod_wn32 102 = .ok (.aload_n 0, 1) := by decide +kernel
theorem d_Mod_wn32_103 : decode b_Mod_wn32 103 = .ok (.getfield 96, 3) := by decide +kernel
theorem d_Mod_wn32_106 : decode b_Mod_wn32 106 = .ok (.iaload, 1) := by decide +kernel
theorem d_Mod_wn32_107 : decode b_Mod_wn32 107 = .ok (.iastore, 1) := by decide +kernel
theorem d_Mod_wn32_108 : decode b_Mod_wn32 108 = .ok (.aload_n 0, 1) := by decide +kernel
theorem d_Mod_wn32_109 : decode b_Mod_wn32 109 = .ok (.dup, 1) := by decide +kernel
theorem d_Mod_wn32_110 : decode b_Mod_wn32 110 = .ok (.getfield 96, 3) := by decide +kernel
theorem d_Mod_wn32_113 : decode b_Mod_wn32 113 = .ok (.iconst 1, 1) := by decide +kernel
theorem d_Mod_wn32_114 : decode b_Mod_wn32 114 = .ok (.iadd, 1) := by decide +kernel
theorem d_Mod_wn32_115 : decode b_Mod_wn32 115 = .ok (.putfield 96, 3) := by decide +kernel
theorem d_Mod_wn32_118 : decode b_Mod_wn32 118 = .ok (.iconst 1, 1) := by decide +kernel
theorem d_Mod_wn32_119 : decode b_Mod_wn32 119 = .ok (.ireturn, 1) := by decide +kernel
theorem d_Mod_wn32_120 : decode b_Mod_wn32 120 = .ok (.aload_n 0, 1) := by decide +kernel
theorem d_Mod_wn32_121 : decode b_Mod_wn32 121 = .ok (.getfield 13, 3) := by decide +kernel
theorem d_Mod_wn32_124 : decode b_Mod_wn32 124 = .ok (.aload_n 0, 1) := by decide +kernel
theorem d_Mod_wn32_125 : decode b_Mod_wn32 125 = .ok (.getfield 96, 3) := by decide +kernel
theorem d_Mod_wn32_128 : decode b_Mod_wn32 128 = .ok (.iaload, 1) := by decide +kernel
theorem d_Mod_wn32_129 : decode b_Mod_wn32 129 = .ok (.iconst 2, 1) := by decide +kernel
theorem d_Mod_wn32_130 : decode b_Mod_wn32 130 = .ok (.if_icmp .eq 8, 3) := by decide +kernel
theorem d_Mod_wn32_133 : decode b_Mod_wn32 133 = .ok (.aload_n 0, 1) := by decide +kernel
theorem d_Mod_wn32_134 : decode b_Mod_wn32 134 = .ok (.invokevirtual 103, 3) := by decide +kernel
theorem d_Mod_wn32_137 : decode b_Mod_wn32 137 = .ok (.ireturn, 1) := by decide +kernel
theorem d_Mod_wn32_138 : decode b_Mod_wn32 138 = .ok (.aload_n 0, 1) := by decide +kernel
theorem d_Mod_wn32_139 : decode b_Mod_wn32 139 = .ok (.iload 4, 2) := by decide +kernel
theorem d_Mod_wn32_141 : decode b_Mod_wn32 141 = .ok (.ifCond .eq 16, 3) := by decide +kernel
theorem d_Mod_wn32_144 : decode b_Mod_wn32 144 = .ok (.aload_n 0, 1) := by decide +kernel
theorem d_Mod_wn32_145 : decode b_Mod_wn32 145 = .ok (.getfield 19, 3) := by decide +kernel
theorem d_Mod_wn32_148 : decode b_Mod_wn32 148 = .ok (.aload_n 0, 1) := by decide +kernel
theorem d_Mod_wn32_149 : decode b_Mod_wn32 149 = .ok (.getfield 96, 3) := by decide +kernel
theorem d_Mod_wn32_152 : decode b_Mod_wn32 152 = .ok (.laload, 1) := by decide +kernel
theorem d_Mod_wn32_153 : decode b_Mod_wn32 153 = .ok (.lneg, 1) := by decide +kernel
theorem d_Mod_wn32_154 : decode b_Mod_wn32 154 = .ok (.goto 12, 3) := by decide +kernel
theorem d_Mod_wn32_157 : decode b_Mod_wn32 157 = .ok (.aload_n 0, 1) := by decide +kernel
theorem d_Mod_wn32_158 : decode b_Mod_wn32 158 = .ok (.getfield 19, 3) := by decide +kernel
theorem d_Mod_wn32_161 : decode b_Mod_wn32 161 = .ok (.aload_n 0, 1) := by decide +kernel
theorem d_Mod_wn32_162 : decode b_Mod_wn32 162 = .ok (.getfield 96, 3) := by decide +kernel
theorem d_Mod_wn32_165 : decode b_Mod_wn32 165 = .ok (.laload, 1) := by decide +kernel
theorem d_Mod_wn32_166 : decode b_Mod_wn32 166 = .ok (.putfield 124, 3) := by decide +kernel
theorem d_Mod_wn32_169 : decode b_Mod_wn32 169 = .ok (.aload_n 0, 1) := by decide +kernel
theorem d_Mod_wn32_170 : decode b_Mod_wn32 170 = .ok (.getfield 35, 3) := by decide +kernel
theorem d_Mod_wn32_173 : decode b_Mod_wn32 173 = .ok (.aload_n 0, 1) := by decide +kernel
theorem d_Mod_wn32_174 : decode b_Mod_wn32 174 = .ok (.getfield 121, 3) := by decide +kernel
theorem d_Mod_wn32_177 : decode b_Mod_wn32 177 = .ok (.iconst 0, 1) := by decide +kernel
theorem d_Mod_wn32_178 : decode b_Mod_wn32 178 = .ok (.iastore, 1) := by decide +kernel
theorem d_Mod_wn32_179 : decode b_Mod_wn32 179 = .ok (.iload_n 1, 1) := by decide +kernel
theorem d_Mod_wn32_180 : decode b_Mod_wn32 180 = .ok (.bipush 32, 2) := by decide +kernel
theorem d_Mod_wn32_182 : decode b_Mod_wn32 182 = .ok (.if_icmp .ne 9, 3) := by decide +kernel
theorem d_Mod_wn32_185 : decode b_Mod_wn32 185 = .ok (.ldc2_w 128, 3) := by decide +kernel
theorem d_Mod_wn32_188 : decode b_Mod_wn32 188 = .ok (.goto 16, 3) := by decide +kernel
theorem d_Mod_wn32_191 : decode b_Mod_wn32 191 = .ok (.iload_n 1, 1) := by decide +kernel
theorem d_Mod_wn32_192 : decode b_Mod_wn32 192 = .ok (.bipush 32, 2) := by decide +kernel
theorem d_Mod_wn32_194 : decode b_Mod_wn32 194 = .ok (.if_icmp .le 7, 3) := by decide +kernel
theorem d_Mod_wn32_197 : decode b_Mod_wn32 197 = .ok (.lconst 0, 1) := by decide +kernel
theorem d_Mod_wn32_198 : decode b_Mod_wn32 198 = .ok (.goto 6, 3) := by decide +kernel
theorem d_Mod_wn32_201 : decode b_Mod_wn32 201 = .ok (.ldc2_w 130, 3) := by decide +kernel
theorem d_Mod_wn32_204 : decode b_Mod_wn32 204 = .ok (.lstore 5, 2) := by decide +kernel
theorem d_Mod_wn32_206 : decode b_Mod_wn32 206 = .ok (.iload_n 1, 1) := by decide +kernel
theorem d_Mod_wn32_207 : decode b_Mod_wn32 207 = .ok (.bipush 32, 2) := by decide +kernel
theorem d_Mod_wn32_209 : decode b_Mod_wn32 209 = .ok (.if_icmp .ne 9, 3) := by decide +kernel
theorem d_Mod_wn32_212 : decode b_Mod_wn32 212 = .ok (.ldc2_w 132, 3) := by decide +kernel
theorem d_Mod_wn32_215 : decode b_Mod_wn32 215 = .ok (.goto 30, 3) := by decide +kernel
theorem d_Mod_wn32_218 : decode b_Mod_wn32 218 = .ok (.iload_n 1, 1) := by decide +kernel
theorem d_Mod_wn32_219 : decode b_Mod_wn32 219 = .ok (.bipush 33, 2) := by decide +kernel
theorem d_Mod_wn32_221 : decode b_Mod_wn32 221 = .ok (.if_icmp .ne 9, 3) := by decide +kernel
theorem d_Mod_wn32_224 : decode b_Mod_wn32 224 = .ok (.ldc2_w 66, 3) := by decide +kernel
theorem d_Mod_wn32_227 : decode b_Mod_wn32 227 = .ok (.goto 18, 3) := by decide +kernel
theorem d_Mod_wn32_230 : decode b_Mod_wn32 230 = .ok (.iload_n 1, 1) := by decide +kernel
theorem d_Mod_wn32_231 : decode b_Mod_wn32 231 = .ok (.bipush 34, 2) := by decide +kernel
theorem d_Mod_wn32_233 : decode b_Mod_wn32 233 = .ok (.if_icmp .ne 9, 3) := by decide +kernel
theorem d_Mod_wn32_236 : decode b_Mod_wn32 236 = .ok (.ldc2_w 134, 3) := by decide +kernel
theorem d_Mod_wn32_239 : decode b_Mod_wn32 239 = .ok (.goto 6, 3) := by decide +kernel
theorem d_Mod_wn32_242 : decode b_Mod_wn32 242 = .ok (.ldc2_w 136, 3) := by decide +kernel
theorem d_Mod_wn32_245 : decode b_Mod_wn32 245 = .ok (.lstore 7, 2) := by decide +kernel
theorem d_Mod_wn32_247 : decode b_Mod_wn32 247 = .ok (.aload_n 0, 1) := by decide +kernel
theorem d_Mod_wn32_248 : decode b_Mod_wn32 248 = .ok (.getfield 124, 3) := by decide +kernel
theorem d_Mod_wn32_251 : decode b_Mod_wn32 251 = .ok (.lload 5, 2) := by decide +kernel
theorem d_Mod_wn32_253 : decode b_Mod_wn32 253 = .ok (.lcmp, 1) := by decide +kernel
theorem d_Mod_wn32_254 : decode b_Mod_wn32 254 = .ok (.ifCond .lt 13, 3) := by decide +kernel
theorem d_Mod_wn32_257 : decode b_Mod_wn32 257 = .ok (.aload_n 0, 1) := by decide +kernel
theorem d_Mod_wn32_258 : decode b_Mod_wn32 258 = .ok (.getfield 124, 3) := by decide +kernel
theorem d_Mod_wn32_261 : decode b_Mod_wn32 261 = .ok (.lload 7, 2) := by decide +kernel
theorem d_Mod_wn32_263 : decode b_Mod_wn32 263 = .ok (.lcmp, 1) := by decide +kernel
theorem d_Mod_wn32_264 : decode b_Mod_wn32 264 = .ok (.ifCond .le 14, 3) := by decide +kernel
theorem d_Mod_wn32_267 : decode b_Mod_wn32 267 = .ok (.aload_n 0, 1) := by decide +kernel
theorem d_Mod_wn32_268 : decode b_Mod_wn32 268 = .ok (.iconst 3, 1) := by decide +kernel
theorem d_Mod_wn32_269 : decode b_Mod_wn32 269 = .ok (.aload_n 0, 1) := by decide +kernel
theorem d_Mod_wn32_270 : decode b_Mod_wn32 270 = .ok (.getfield 16, 3) := by decide +kernel
theorem d_Mod_wn32_273 : decode b_Mod_wn32 273 = .ok (.iload_n 3, 1) := by decide +kernel
theorem d_Mod_wn32_274 : decode b_Mod_wn32 274 = .ok (.iaload, 1) := by decide +kernel
theorem d_Mod_wn32_275 : decode b_Mod_wn32 275 = .ok (.invokevirtual 99, 3) := by decide +kernel
theorem d_Mod_wn32_278 : decode b_Mod_wn32 278 = .ok (.aload_n 0, 1) := by decide +kernel
theorem d_Mod_wn32_279 : decode b_Mod_wn32 279 = .ok (.dup, 1) := by decide +kernel
theorem d_Mod_wn32_280 : decode b_Mod_wn32 280 = .ok (.getfield 96, 3) := by decide +kernel
theorem d_Mod_wn32_283 : decode b_Mod_wn32 283 = .ok (.iconst 1, 1) := by decide +kernel
theorem d_Mod_wn32_284 : decode b_Mod_wn32 284 = .ok (.iadd, 1) := by decide +kernel
theorem d_Mod_wn32_285 : decode b_Mod_wn32 285 = .ok (.putfield 96, 3) := by decide +kernel
theorem d_Mod_wn32_288 : decode b_Mod_wn32 288 = .ok (.iload_n 1, 1) := by decide +kernel
theorem d_Mod_wn32_289 : decode b_Mod_wn32 289 = .ok (.bipush 32, 2) := by decide +kernel
theorem d_Mod_wn32_291 : decode b_Mod_wn32 291 = .ok (.if_icmp .ne 15, 3) := by decide +kernel
theorem d_Mod_wn32_294 : decode b_Mod_wn32 294 = .ok (.aload_n 0, 1) := by decide +kernel
theorem d_Mod_wn32_295 : decode b_Mod_wn32 295 = .ok (.aload_n 0, 1) := by decide +kernel
theorem d_Mod_wn32_296 : decode b_Mod_wn32 296 = .ok (.getfield 124, 3) := by decide +kernel
theorem d_Mod_wn32_299 : decode b_Mod_wn32 299 = .ok (.l2i, 1) := by decide +kernel
theorem d_Mod_wn32_300 : decode b_Mod_wn32 300 = .ok (.putfield 115, 3) := by decide +kernel
theorem d_Mod_wn32_303 : decode b_Mod_wn32 303 = .ok (.goto 27, 3) := by decide +kernel
theorem d_Mod_wn32_306 : decode b_Mod_wn32 306 = .ok (.iload_n 1, 1) := by decide +kernel
theorem d_Mod_wn32_307 : decode b_Mod_wn32 307 = .ok (.bipush 32, 2) := by decide +kernel
theorem d_Mod_wn32_309 : decode b_Mod_wn32 309 = .ok (.if_icmp .ge 21, 3) := by decide +kernel
theorem d_Mod_wn32_312 : decode b_Mod_wn32 312 = .ok (.aload_n 0, 1) := by decide +kernel
theorem d_Mod_wn32_313 : decode b_Mod_wn32 313 = .ok (.dup, 1) := by decide +kernel
theorem d_Mod_wn32_314 : decode b_Mod_wn32 314 = .ok (.getfield 115, 3) := by decide +kernel
theorem d_Mod_wn32_317 : decode b_Mod_wn32 317 = .ok (.aload_n 0, 1) := by decide +kernel
theorem d_Mod_wn32_318 : decode b_Mod_wn32 318 = .ok (.getfield 124, 3) := by decide +kernel
theorem d_Mod_wn32_321 : decode b_Mod_wn32 321 = .ok (.l2i, 1) := by decide +kernel
theorem d_Mod_wn32_322 : decode b_Mod_wn32 322 = .ok (.sipush 4095, 3) := by decide +kernel
theorem d_Mod_wn32_325 : decode b_Mod_wn32 325 = .ok (.iand, 1) := by decide +kernel
theorem d_Mod_wn32_326 : decode b_Mod_wn32 326 = .ok (.ior, 1) := by decide +kernel
theorem d_Mod_wn32_327 : decode b_Mod_wn32 327 = .ok (.putfield 115, 3) := by decide +kernel
theorem d_Mod_wn32_330 : decode b_Mod_wn32 330 = .ok (.iconst 1, 1) := by decide +kernel
theorem d_Mod_wn32_331 : decode b_Mod_wn32 331 = .ok (.ireturn, 1) := by decide +kernel
theorem d_Mod_wn33_0 : decode b_Mod_wn33 0 = .ok (.aload_n 0, 1) := by decide +kernel
theorem d_Mod_wn33_1 : decode b_Mod_wn33 1 = .ok (.getfield 96, 3) := by decide +kernel
theorem d_Mod_wn33_4 : decode b_Mod_wn33 4 = .ok (.istore_n 3, 1) := by decide +kernel
theorem d_Mod_wn33_5 : decode b_Mod_wn33 5 = .ok (.iload_n 2, 1) := by decide +kernel
theorem d_Mod_wn33_6 : decode b_Mod_wn33 6 = .ok (.ifCond .ne 16, 3) := by decide +kernel
theorem d_Mod_wn33_9 : decode b_Mod_wn33 9 = .ok (.aload_n 0, 1) := by decide +kernel
theorem d_Mod_wn33_10 : decode b_Mod_wn33 10 = .ok (.bipush 45, 2) := by decide +kernel
theorem d_Mod_wn33_12 : decode b_Mod_wn33 12 = .ok (.invokevirtual 118, 3) := by decide +kernel
theorem d_Mod_wn33_15 : decode b_Mod_wn33 15 = .ok (.ifCond .eq 7, 3) := by decide +kernel
theorem d_Mod_wn33_18 : decode b_Mod_wn33 18 = .ok (.iconst 1, 1) := by decide +kernel
theorem d_Mod_wn33_19 : decode b_Mod_wn33 19 = .ok (.goto 4, 3) := by decide +kernel
theorem d_Mod_wn33_22 : decode b_Mod_wn33 22 = .ok (.iconst 0, 1) := by decide +kernel
theorem d_Mod_wn33_23 : decode b_Mod_wn33 23 = .ok (.istore 4, 2) := by decide +kernel
theorem d_Mod_wn33_25 : decode b_Mod_wn33 25 = .ok (.iload 4, 2) := by decide +kernel
theorem d_Mod_wn33_27 : decode b_Mod_wn33 27 = .ok (.ifCond .eq 13, 3) := by decide +kernel
theorem d_Mod_wn33_30 : decode b_Mod_wn33 30 = .ok (.aload_n 0, 1) := by decide +kernel
theorem d_Mod_wn33_31 : decode b_Mod_wn33 31 = .ok (.dup, 1) := by decide +kernel
theorem d_Mod_wn33_32 : decode b_Mod_wn33 32 = .ok (.getfield 96, 3) := by decide +kernel
theorem d_Mod_wn33_35 : decode b_Mod_wn33 35 = .ok (.iconst 1, 1) := by decide +kernel
theorem d_Mod_wn33_36 : decode b_Mod_wn33 36 = .ok (.iadd, 1) := by decide +kernel
theorem d_Mod_wn33_37 : decode b_Mod_wn33 37 = .ok (.putfield 96, 3) := by decide +kernel
theorem d_Mod_wn33_40 : decode b_Mod_wn33 40 = .ok (.iload_n 2, 1) := by decide +kernel
theorem d_Mod_wn33_41 : decode b_Mod_wn33 41 = .ok (.ifCond .ne 79, 3) := by decide +kernel
theorem d_Mod_wn33_44 : decode b_Mod_wn33 44 = .ok (.iload 4, 2) := by decide +kernel
theorem d_Mod_wn33_46 : decode b_Mod_wn33 46 = .ok (.ifCond .ne 74, 3) := by decide +kernel
theorem d_Mod_wn33_49 : decode b_Mod_wn33 49 = .ok (.aload_n 0, 1) := by decide +kernel
theorem d_Mod_wn33_50 : decode b_Mod_wn33 50 = .ok (.getfield 13, 3) := by decide +kernel
theorem d_Mod_wn33_53 : decode b_Mod_wn33 53 = .ok (.aload_n 0, 1) := by decide +kernel
theorem d_Mod_wn33_54 : decode b_Mod_wn33 54 = .ok (.getfield 96, 3) := by decide +kernel
theorem d_Mod_wn33_57 : decode b_Mod_wn33 57 = .ok (.iaload, 1) := by decide +kernel
theorem d_Mod_wn33_58 : decode b_Mod_wn33 58 = .ok (.iconst 1, 1) := by decide +kernel
theorem d_Mod_wn33_59 : decode b_Mod_wn33 59 = .ok (.if_icmp .ne 61, 3) := by decide +kernel
theorem d_Mod_wn33_62 : decode b_Mod_wn33 62 = .ok (.aload_n 0, 1) := by decide +kernel
theorem d_Mod_wn33_63 : decode b_Mod_wn33 63 = .ok (.getfield 35, 3) := by decide +kernel
theorem d_Mod_wn33_66 : decode b_Mod_wn33 66 = .ok (.aload_n 0, 1) := by decide +kernel
theorem d_Mod_wn33_67 : decode b_Mod_wn33 67 = .ok (.getfield 121, 3) := by decide +kernel
theorem d_Mod_wn33_70 : decode b_Mod_wn33 70 = .ok (.iload_n 1, 1) := by decide +kernel
theorem d_Mod_wn33_71 : decode b_Mod_wn33 71 = .ok (.iastore, 1) := by decide +kernel
theorem d_Mod_wn33_72 : decode b_Mod_wn33 72 = .ok (.aload_n 0, 1) := by decide +kernel
theorem d_Mod_wn33_73 : decode b_Mod_wn33 73 = .ok (.getfield 38, 3) := by decide +kernel
theorem d_Mod_wn33_76 : decode b_Mod_wn33 76 = .ok (.aload_n 0, 1) := by decide +kernel
theorem d_Mod_wn33_77 : decode b_Mod_wn33 77 = .ok (.getfield 121, 3) := by decide +kernel
theorem d_Mod_wn33_80 : decode b_Mod_wn33 80 = .ok (.aload_n 0, 1) := by decide +kernel
theorem d_Mod_wn33_81 : decode b_Mod_wn33 81 = .ok (.getfield 19, 3) := by decide +kernel
theorem d_Mod_wn33_84 : decode b_Mod_wn33 84 = .ok (.aload_n 0, 1) := by decide +kernel
theorem d_Mod_wn33_85 : decode b_Mod_wn33 85 = .ok (.getfield 96, 3) := by decide +kernel
theorem d_Mod_wn33_88 : decode b_Mod_wn33 88 = .ok (.laload, 1) := by decide +kernel
theorem d_Mod_wn33_89 : decode b_Mod_wn33 89 = .ok (.lastore, 1) := by decide +kernel
theorem d_Mod_wn33_90 : decode b_Mod_wn33 90 = .ok (.aload_n 0, 1) := by decide +kernel
theorem d_Mod_wn33_91 : decode b_Mod_wn33 91 = .ok (.getfield 41, 3) := by decide +kernel
theorem d_Mod_wn33_94 : decode b_Mod_wn33 94 = .ok (.aload_n 0, 1) := by decide +kernel
theorem d_Mod_wn33_95 : decode b_Mod_wn33 95 = .ok (.getfield 121, 3) := by decide +kernel
theorem d_Mod_wn33_98 : decode b_Mod_wn33 98 = .ok (.aload_n 0, 1) := by decide +kernel
theorem d_Mod_wn33_99 : decode b_Mod_wn33 99 = .ok (.getfield 16, 3) := by decide +kernel
theorem d_Mod_wn33_102 : decode b_Mod_wn33 102 = .ok (.aload_n 0, 1) := by decide +kernel
theorem d_Mod_wn33_103 : decode b_Mod_wn33 103 = .ok (.getfield 96, 3) := by decide +kernel
theorem d_Mod_wn33_106 : decode b_Mod_wn33 106 = .ok (.iaload, 1) := by decide +kernel
theorem d_Mod_wn33_107 : decode b_Mod_wn33 107 = .ok (.iastore, 1) := by decide +kernel
theorem d_Mod_wn33_108 : decode b_Mod_wn33 108 = .ok (.aload_n 0, 1) := by decide +kernel
theorem d_Mod_wn33_109 : decode b_Mod_wn33 109 = .ok (.dup, 1) := by decide +kernel
theorem d_Mod_wn33_110 : decode b_Mod_wn33 110 = .ok (.getfield 96, 3) := by decide +kernel
theorem d_Mod_wn33_113 : decode b_Mod_wn33 113 = .ok (.iconst 1, 1) := by decide +kernel
theorem d_Mod_wn33_114 : decode b_Mod_wn33 114 = .ok (.iadd, 1) := by decide +kernel
theorem d_Mod_wn33_115 : decode b_Mod_wn33 115 = .ok (.putfield 96, 3) := by decide +kernel
theorem d_Mod_wn33_118 : decode b_Mod_wn33 118 = .ok (.iconst 1, 1) := by decide +kernel
theorem d_Mod_wn33_119 : decode b_Mod_wn33 119 = .ok (.ireturn, 1) := by decide +kernel
theorem d_Mod_wn33_120 : decode b_Mod_wn33 120 = .ok (.aload_n 0, 1) := by decide +kernel
theorem d_Mod_wn33_121 : decode b_Mod_wn33 121 = .ok (.getfield 13, 3) := by decide +kernel
theorem d_Mod_wn33_124 : decode b_Mod_wn33 124 = .ok (.aload_n 0, 1) := by decide +kernel
theorem d_Mod_wn33_125 : decode b_Mod_wn33 125 = .ok (.getfield 96, 3) := by decide +kernel
theorem d_Mod_wn33_128 : decode b_Mod_wn33 128 = .ok (.iaload, 1) := by decide +kernel
theorem d_Mod_wn33_129 : decode b_Mod_wn33 129 = .ok (.iconst 2, 1) := by decide +kernel
theorem d_Mod_wn33_130 : decode b_Mod_wn33 130 = .ok (.if_icmp .eq 8, 3) := by decide +kernel

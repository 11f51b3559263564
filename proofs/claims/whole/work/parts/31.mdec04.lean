theorem d_Mod_wn1_137 : decode b_Mod_wn1 137 = .ok (.ireturn, 1) := by decide +kernel
theorem d_Mod_wn1_138 : decode b_Mod_wn1 138 = .ok (.aload_n 0, 1) := by decide +kernel
theorem d_Mod_wn1_139 : decode b_Mod_wn1 139 = .ok (.iload 4, 2) := by decide +kernel
theorem d_Mod_wn1_141 : decode b_Mod_wn1 141 = .ok (.ifCond .eq 16, 3) := by decide +kernel
theorem d_Mod_wn1_144 : decode b_Mod_wn1 144 = .ok (.aload_n 0, 1) := by decide +kernel
theorem d_Mod_wn1_145 : decode b_Mod_wn1 145 = .ok (.getfield 19, 3) := by decide +kernel
theorem d_Mod_wn1_148 : decode b_Mod_wn1 148 = .ok (.aload_n 0, 1) := by decide +kernel
theorem d_Mod_wn1_149 : decode b_Mod_wn1 149 = .ok (.getfield 96, 3) := by decide +kernel
theorem d_Mod_wn1_152 : decode b_Mod_wn1 152 = .ok (.laload, 1) := by decide +kernel
theorem d_Mod_wn1_153 : decode b_Mod_wn1 153 = .ok (.lneg, 1) := by decide +kernel
theorem d_Mod_wn1_154 : decode b_Mod_wn1 154 = .ok (.goto 12, 3) := by decide +kernel
theorem d_Mod_wn1_157 : decode b_Mod_wn1 157 = .ok (.aload_n 0, 1) := by decide +kernel
theorem d_Mod_wn1_158 : decode b_Mod_wn1 158 = .ok (.getfield 19, 3) := by decide +kernel
theorem d_Mod_wn1_161 : decode b_Mod_wn1 161 = .ok (.aload_n 0, 1) := by decide +kernel
theorem d_Mod_wn1_162 : decode b_Mod_wn1 162 = .ok (.getfield 96, 3) := by decide +kernel
theorem d_Mod_wn1_165 : decode b_Mod_wn1 165 = .ok (.laload, 1) := by decide +kernel
theorem d_Mod_wn1_166 : decode b_Mod_wn1 166 = .ok (.putfield 124, 3) := by decide +kernel
theorem d_Mod_wn1_169 : decode b_Mod_wn1 169 = .ok (.aload_n 0, 1) := by decide +kernel
theorem d_Mod_wn1_170 : decode b_Mod_wn1 170 = .ok (.getfield 35, 3) := by decide +kernel
theorem d_Mod_wn1_173 : decode b_Mod_wn1 173 = .ok (.aload_n 0, 1) := by decide +kernel
theorem d_Mod_wn1_174 : decode b_Mod_wn1 174 = .ok (.getfield 121, 3) := by decide +kernel
theorem d_Mod_wn1_177 : decode b_Mod_wn1 177 = .ok (.iconst 0, 1) := by decide +kernel
theorem d_Mod_wn1_178 : decode b_Mod_wn1 178 = .ok (.iastore, 1) := by decide +kernel
theorem d_Mod_wn1_179 : decode b_Mod_wn1 179 = .ok (.iload_n 1, 1) := by decide +kernel
theorem d_Mod_wn1_180 : decode b_Mod_wn1 180 = .ok (.bipush 32, 2) := by decide +kernel
theorem d_Mod_wn1_182 : decode b_Mod_wn1 182 = .ok (.if_icmp .ne 9, 3) := by decide +kernel
theorem d_Mod_wn1_185 : decode b_Mod_wn1 185 = .ok (.ldc2_w 128, 3) := by decide +kernel
theorem d_Mod_wn1_188 : decode b_Mod_wn1 188 = .ok (.goto 16, 3) := by decide +kernel
theorem d_Mod_wn1_191 : decode b_Mod_wn1 191 = .ok (.iload_n 1, 1) := by decide +kernel
theorem d_Mod_wn1_192 : decode b_Mod_wn1 192 = .ok (.bipush 32, 2) := by decide +kernel
theorem d_Mod_wn1_194 : decode b_Mod_wn1 194 = .ok (.if_icmp .le 7, 3) := by decide +kernel
theorem d_Mod_wn1_197 : decode b_Mod_wn1 197 = .ok (.lconst 0, 1) := by decide +kernel
theorem d_Mod_wn1_198 : decode b_Mod_wn1 198 = .ok (.goto 6, 3) := by decide +kernel
theorem d_Mod_wn1_201 : decode b_Mod_wn1 201 = .ok (.ldc2_w 130, 3) := by decide +kernel
theorem d_Mod_wn1_204 : decode b_Mod_wn1 204 = .ok (.lstore 5, 2) := by decide +kernel
theorem d_Mod_wn1_206 : decode b_Mod_wn1 206 = .ok (.iload_n 1, 1) := by decide +kernel
theorem d_Mod_wn1_207 : decode b_Mod_wn1 207 = .ok (.bipush 32, 2) := by decide +kernel
theorem d_Mod_wn1_209 : decode b_Mod_wn1 209 = .ok (.if_icmp .ne 9, 3) := by decide +kernel
theorem d_Mod_wn1_212 : decode b_Mod_wn1 212 = .ok (.ldc2_w 132, 3) := by decide +kernel
theorem d_Mod_wn1_215 : decode b_Mod_wn1 215 = .ok (.goto 30, 3) := by decide +kernel
theorem d_Mod_wn1_218 : decode b_Mod_wn1 218 = .ok (.iload_n 1, 1) := by decide +kernel
theorem d_Mod_wn1_219 : decode b_Mod_wn1 219 = .ok (.bipush 33, 2) := by decide +kernel
theorem d_Mod_wn1_221 : decode b_Mod_wn1 221 = .ok (.if_icmp .ne 9, 3) := by decide +kernel
theorem d_Mod_wn1_224 : decode b_Mod_wn1 224 = .ok (.ldc2_w 66, 3) := by decide +kernel
theorem d_Mod_wn1_227 : decode b_Mod_wn1 227 = .ok (.goto 18, 3) := by decide +kernel
theorem d_Mod_wn1_230 : decode b_Mod_wn1 230 = .ok (.iload_n 1, 1) := by decide +kernel
theorem d_Mod_wn1_231 : decode b_Mod_wn1 231 = .ok (.bipush 34, 2) := by decide +kernel
theorem d_Mod_wn1_233 : decode b_Mod_wn1 233 = .ok (.if_icmp .ne 9, 3) := by decide +kernel
theorem d_Mod_wn1_236 : decode b_Mod_wn1 236 = .ok (.ldc2_w 134, 3) := by decide +kernel
theorem d_Mod_wn1_239 : decode b_Mod_wn1 239 = .ok (.goto 6, 3) := by decide +kernel
theorem d_Mod_wn1_242 : decode b_Mod_wn1 242 = .ok (.ldc2_w 136, 3) := by decide +kernel
theorem d_Mod_wn1_245 : decode b_Mod_wn1 245 = .ok (.lstore 7, 2) := by decide +kernel
theorem d_Mod_wn1_247 : decode b_Mod_wn1 247 = .ok (.aload_n 0, 1) := by decide +kernel
theorem d_Mod_wn1_248 : decode b_Mod_wn1 248 = .ok (.getfield 124, 3) := by decide +kernel
theorem d_Mod_wn1_251 : decode b_Mod_wn1 251 = .ok (.lload 5, 2) := by decide +kernel
theorem d_Mod_wn1_253 : decode b_Mod_wn1 253 = .ok (.lcmp, 1) := by decide +kernel
theorem d_Mod_wn1_254 : decode b_Mod_wn1 254 = .ok (.ifCond .lt 13, 3) := by decide +kernel
theorem d_Mod_wn1_257 : decode b_Mod_wn1 257 = .ok (.aload_n 0, 1) := by decide +kernel
theorem d_Mod_wn1_258 : decode b_Mod_wn1 258 = .ok (.getfield 124, 3) := by decide +kernel
theorem d_Mod_wn1_261 : decode b_Mod_wn1 261 = .ok (.lload 7, 2) := by decide +kernel
theorem d_Mod_wn1_263 : decode b_Mod_wn1 263 = .ok (.lcmp, 1) := by decide +kernel
theorem d_Mod_wn1_264 : decode b_Mod_wn1 264 = .ok (.ifCond .le 14, 3) := by decide +kernel
theorem d_Mod_wn1_267 : decode b_Mod_wn1 267 = .ok (.aload_n 0, 1) := by decide +kernel
theorem d_Mod_wn1_268 : decode b_Mod_wn1 268 = .ok (.iconst 3, 1) := by decide +kernel
theorem d_Mod_wn1_269 : decode b_Mod_wn1 269 = .ok (.aload_n 0, 1) := by decide +kernel
theorem d_Mod_wn1_270 : decode b_Mod_wn1 270 = .ok (.getfield 16, 3) := by decide +kernel
theorem d_Mod_wn1_273 : decode b_Mod_wn1 273 = .ok (.iload_n 3, 1) := by decide +kernel
theorem d_Mod_wn1_274 : decode b_Mod_wn1 274 = .ok (.iaload, 1) := by decide +kernel
theorem d_Mod_wn1_275 : decode b_Mod_wn1 275 = .ok (.invokevirtual 99, 3) := by decide +kernel
theorem d_Mod_wn1_278 : decode b_Mod_wn1 278 = .ok (.aload_n 0, 1) := by decide +kernel
theorem d_Mod_wn1_279 : decode b_Mod_wn1 279 = .ok (.dup, 1) := by decide +kernel
theorem d_Mod_wn1_280 : decode b_Mod_wn1 280 = .ok (.getfield 96, 3) := by decide +kernel
theorem d_Mod_wn1_283 : decode b_Mod_wn1 283 = .ok (.iconst 1, 1) := by decide +kernel
theorem d_Mod_wn1_284 : decode b_Mod_wn1 284 = .ok (.iadd, 1) := by decide +kernel
theorem d_Mod_wn1_285 : decode b_Mod_wn1 285 = .ok (.putfield 96, 3) := by decide +kernel
theorem d_Mod_wn1_288 : decode b_Mod_wn1 288 = .ok (.iload_n 1, 1) := by decide +kernel
theorem d_Mod_wn1_289 : decode b_Mod_wn1 289 = .ok (.bipush 32, 2) := by decide +kernel
theorem d_Mod_wn1_291 : decode b_Mod_wn1 291 = .ok (.if_icmp .ne 15, 3) := by decide +kernel
theorem d_Mod_wn1_294 : decode b_Mod_wn1 294 = .ok (.aload_n 0, 1) := by decide +kernel
theorem d_Mod_wn1_295 : decode b_Mod_wn1 295 = .ok (.aload_n 0, 1) := by decide +kernel
theorem d_Mod_wn1_296 : decode b_Mod_wn1 296 = .ok (.getfield 124, 3) := by decide +kernel
theorem d_Mod_wn1_299 : decode b_Mod_wn1 299 = .ok (.l2i, 1) := by decide +kernel
theorem d_Mod_wn1_300 : decode b_Mod_wn1 300 = .ok (.putfield 115, 3) := by decide +kernel
theorem d_Mod_wn1_303 : decode b_Mod_wn1 303 = .ok (.goto 27, 3) := by decide +kernel
theorem d_Mod_wn1_306 : decode b_Mod_wn1 306 = .ok (.iload_n 1, 1) := by decide +kernel
theorem d_Mod_wn1_307 : decode b_Mod_wn1 307 = .ok (.bipush 32, 2) := by decide +kernel
theorem d_Mod_wn1_309 : decode b_Mod_wn1 309 = .ok (.if_icmp .ge 21, 3) := by decide +kernel
theorem d_Mod_wn1_312 : decode b_Mod_wn1 312 = .ok (.aload_n 0, 1) := by decide +kernel
theorem d_Mod_wn1_313 : decode b_Mod_wn1 313 = .ok (.dup, 1) := by decide +kernel
theorem d_Mod_wn1_314 : decode b_Mod_wn1 314 = .ok (.getfield 115, 3) := by decide +kernel
theorem d_Mod_wn1_317 : decode b_Mod_wn1 317 = .ok (.aload_n 0, 1) := by decide +kernel
theorem d_Mod_wn1_318 : decode b_Mod_wn1 318 = .ok (.getfield 124, 3) := by decide +kernel
theorem d_Mod_wn1_321 : decode b_Mod_wn1 321 = .ok (.l2i, 1) := by decide +kernel
theorem d_Mod_wn1_322 : decode b_Mod_wn1 322 = .ok (.sipush 4095, 3) := by decide +kernel
theorem d_Mod_wn1_325 : decode b_Mod_wn1 325 = .ok (.iand, 1) := by decide +kernel
theorem d_Mod_wn1_326 : decode b_Mod_wn1 326 = .ok (.ior, 1) := by decide +kernel
theorem d_Mod_wn1_327 : decode b_Mod_wn1 327 = .ok (.putfield 115, 3) := by decide +kernel
theorem d_Mod_wn1_330 : decode b_Mod_wn1 330 = .ok (.iconst 1, 1) := by decide +kernel
theorem d_Mod_wn1_331 : decode b_Mod_wn1 331 = .ok (.ireturn, 1) := by decide +kernel
theorem d_Mod_wn2_0 : decode b_Mod_wn2 0 = .ok (.aload_n 0, 1) := by decide +kernel
theorem d_Mod_wn2_1 : decode b_Mod_wn2 1 = .ok (.getfield 96, 3) := by decide +kernel
theorem d_Mod_wn2_4 : decode b_Mod_wn2 4 = .ok (.istore_n 3, 1) := by decide +kernel
theorem d_Mod_wn2_5 : decode b_Mod_wn2 5 = .ok (.iload_n 2, 1) := by decide +kernel
theorem d_Mod_wn2_6 : decode b_Mod_wn2 6 = .ok (.ifCond .ne 16, 3) := by decide +kernel
theorem d_Mod_wn2_9 : decode b_Mod_wn2 9 = .ok (.aload_n 0, 1) := by decide +kernel
theorem d_Mod_wn2_10 : decode b_Mod_wn2 10 = .ok (.bipush 45, 2) := by decide +kernel
theorem d_Mod_wn2_12 : decode b_Mod_wn2 12 = .ok (.invokevirtual 118, 3) := by decide +kernel
theorem d_Mod_wn2_15 : decode b_Mod_wn2 15 = .ok (.ifCond .eq 7, 3) := by decide +kernel
theorem d_Mod_wn2_18 : decode b_Mod_wn2 18 = .ok (.iconst 1, 1) := by decide +kernel
theorem d_Mod_wn2_19 : decode b_Mod_wn2 19 = .ok (.goto 4, 3) := by decide +kernel
theorem d_Mod_wn2_22 : decode b_Mod_wn2 22 = .ok (.iconst 0, 1) := by decide +kernel
theorem d_Mod_wn2_23 : decode b_Mod_wn2 23 = .ok (.istore 4, 2) := by decide +kernel
theorem d_Mod_wn2_25 : decode b_Mod_wn2 25 = .ok (.iload 4, 2) := by decide +kernel
theorem d_Mod_wn2_27 : decode b_Mod_wn2 27 = .ok (.ifCond .eq 13, 3) := by decide +kernel
theorem d_Mod_wn2_30 : decode b_Mod_wn2 30 = .ok (.aload_n 0, 1) := by decide +kernel
theorem d_Mod_wn2_31 : decode b_Mod_wn2 31 = .ok (.dup, 1) := by decide +kernel
theorem d_Mod_wn2_32 : decode b_Mod_wn2 32 = .ok (.getfield 96, 3) := by decide +kernel
theorem d_Mod_wn2_35 : decode b_Mod_wn2 35 = .ok (.iconst 1, 1) := by decide +kernel
theorem d_Mod_wn2_36 : decode b_Mod_wn2 36 = .ok (.iadd, 1) := by decide +kernel
theorem d_Mod_wn2_37 : decode b_Mod_wn2 37 = .ok (.putfield 96, 3) := by decide +kernel
theorem d_Mod_wn2_40 : decode b_Mod_wn2 40 = .ok (.iload_n 2, 1) := by decide +kernel
theorem d_Mod_wn2_41 : decode b_Mod_wn2 41 = .ok (.ifCond .ne 79, 3) := by decide +kernel
theorem d_Mod_wn2_44 : decode b_Mod_wn2 44 = .ok (.iload 4, 2) := by decide +kernel
theorem d_Mod_wn2_46 : decode b_Mod_wn2 46 = .ok (.ifCond .ne 74, 3) := by decide +kernel
theorem d_Mod_wn2_49 : decode b_Mod_wn2 49 = .ok (.aload_n 0, 1) := by decide +kernel
theorem d_Mod_wn2_50 : decode b_Mod_wn2 50 = .ok (.getfield 13, 3) := by decide +kernel
theorem d_Mod_wn2_53 : decode b_Mod_wn2 53 = .ok (.aload_n 0, 1) := by decide +kernel
theorem d_Mod_wn2_54 : decode b_Mod_wn2 54 = .ok (.getfield 96, 3) := by decide +kernel
theorem d_Mod_wn2_57 : decode b_Mod_wn2 57 = .ok (.iaload, 1) := by decide +kernel
theorem d_Mod_wn2_58 : decode b_Mod_wn2 58 = .ok (.iconst 1, 1) := by decide +kernel
theorem d_Mod_wn2_59 : decode b_Mod_wn2 59 = .ok (.if_icmp .ne 61, 3) := by decide +kernel
theorem d_Mod_wn2_62 : decode b_Mod_wn2 62 = .ok (.aload_n 0, 1) := by decide +kernel
theorem d_Mod_wn2_63 : decode b_Mod_wn2 63 = .ok (.getfield 35, 3) := by decide +kernel
theorem d_Mod_wn2_66 : decode b_Mod_wn2 66 = .ok (.aload_n 0, 1) := by decide +kernel
theorem d_Mod_wn2_67 : decode b_Mod_wn2 67 = .ok (.getfield 121, 3) := by decide +kernel
theorem d_Mod_wn2_70 : decode b_Mod_wn2 70 = .ok (.iload_n 1, 1) := by decide +kernel
theorem d_Mod_wn2_71 : decode b_Mod_wn2 71 = .ok (.iastore, 1) := by decide +kernel
theorem d_Mod_wn2_72 : decode b_Mod_wn2 72 = .ok (.aload_n 0, 1) := by decide +kernel
theorem d_Mod_wn2_73 : decode b_Mod_wn2 73 = .ok (.getfield 38, 3) := by decide +kernel
theorem d_Mod_wn2_76 : decode b_Mod_wn2 76 = .ok (.aload_n 0, 1) := by decide +kernel
theorem d_Mod_wn2_77 : decode b_Mod_wn2 77 = .ok (.getfield 121, 3) := by decide +kernel
theorem d_Mod_wn2_80 : decode b_Mod_wn2 80 = .ok (.aload_n 0, 1) := by decide +kernel
theorem d_Mod_wn2_81 : decode b_Mod_wn2 81 = .ok (.getfield 19, 3) := by decide +kernel
theorem d_Mod_wn2_84 : decode b_Mod_wn2 84 = .ok (.aload_n 0, 1) := by decide +kernel
theorem d_Mod_wn2_85 : decode b_Mod_wn2 85 = .ok (.getfield 96, 3) := by decide +kernel
theorem d_Mod_wn2_88 : decode b_Mod_wn2 88 = .ok (.laload, 1) := by decide +kernel
theorem d_Mod_wn2_89 : decode b_Mod_wn2 89 = .ok (.lastore, 1) := by decide +kernel
theorem d_Mod_wn2_90 : decode b_Mod_wn2 90 = .ok (.aload_n 0, 1) := by decide +kernel
theorem d_Mod_wn2_91 : decode b_Mod_wn2 91 = .ok (.getfield 41, 3) := by decide +kernel
theorem d_Mod_wn2_94 : decode b_Mod_wn2 94 = .ok (.aload_n 0, 1) := by decide +kernel
theorem d_Mod_wn2_95 : decode b_Mod_wn2 95 = .ok (.getfield 121, 3) := by decide +kernel
theorem d_Mod_wn2_98 : decode b_Mod_wn2 98 = .ok (.aload_n 0, 1) := by decide +kernel
theorem d_Mod_wn2_99 : decode b_Mod_wn2 99 = .ok (.getfield 16, 3) := by decide +kernel
theorem d_Mod_wn2_102 : decode b_Mod_wn2 102 = .ok (.aload_n 0, 1) := by decide +kernel
theorem d_Mod_wn2_103 : decode b_Mod_wn2 103 = .ok (.getfield 96, 3) := by decide +kernel
theorem d_Mod_wn2_106 : decode b_Mod_wn2 106 = .ok (.iaload, 1) := by decide +kernel
theorem d_Mod_wn2_107 : decode b_Mod_wn2 107 = .ok (.iastore, 1) := by decide +kernel
theorem d_Mod_wn2_108 : decode b_Mod_wn2 108 = .ok (.aload_n 0, 1) := by decide +kernel
theorem d_Mod_wn2_109 : decode b_Mod_wn2 109 = .ok (.dup, 1) := by decide +kernel
theorem d_Mod_wn2_110 : decode b_Mod_wn2 110 = .ok (.getfield 96, 3) := by decide +kernel
theorem d_Mod_wn2_113 : decode b_Mod_wn2 113 = .ok (.iconst 1, 1) := by decide +kernel
theorem d_Mod_wn2_114 : decode b_Mod_wn2 114 = .ok (.iadd, 1) := by decide +kernel
theorem d_Mod_wn2_115 : decode b_Mod_wn2 115 = .ok (.putfield 96, 3) := by decide +kernel
theorem d_Mod_wn2_118 : decode b_Mod_wn2 118 = .ok (.iconst 1, 1) := by decide +kernel
theorem d_Mod_wn2_119 : decode b_Mod_wn2 119 = .ok (.ireturn, 1) := by decide +kernel
theorem d_Mod_wn2_120 : decode b_Mod_wn2 120 = .ok (.aload_n 0, 1) := by decide +kernel
theorem d_Mod_wn2_121 : decode b_Mod_wn2 121 = .ok (.getfield 13, 3) := by decide +kernel
theorem d_Mod_wn2_124 : decode b_Mod_wn2 124 = .ok (.aload_n 0, 1) := by decide +kernel
theorem d_Mod_wn2_125 : decode b_Mod_wn2 125 = .ok (.getfield 96, 3) := by decide +kernel
theorem d_Mod_wn2_128 : decode b_Mod_wn2 128 = .ok (.iaload, 1) := by decide +kernel
theorem d_Mod_wn2_129 : decode b_Mod_wn2 129 = .ok (.iconst 2, 1) := by decide +kernel
theorem d_Mod_wn2_130 : decode b_Mod_wn2 130 = .ok (.if_icmp .eq 8, 3) := by decide +kernel
theorem d_Mod_wn2_133 : decode b_Mod_wn2 133 = .ok (.aload_n 0, 1) := by decide +kernel
theorem d_Mod_wn2_134 : decode b_Mod_wn2 134 = .ok (.invokevirtual 103, 3) := by decide +kernel
theorem d_Mod_wn2_137 : decode b_Mod_wn2 137 = .ok (.ireturn, 1) := by decide +kernel
theorem d_Mod_wn2_138 : decode b_Mod_wn2 138 = .ok (.aload_n 0, 1) := by decide +kernel
theorem d_Mod_wn2_139 : decode b_Mod_wn2 139 = .ok (.iload 4, 2) := by decide +kernel
theorem d_Mod_wn2_141 : decode b_Mod_wn2 141 = .ok (.ifCond .eq 16, 3) := by decide +kernel
theorem d_Mod_wn2_144 : decode b_Mod_wn2 144 = .ok (.aload_n 0, 1) := by decide +kernel
theorem d_Mod_wn2_145 : decode b_Mod_wn2 145 = .ok (.getfield 19, 3) := by decide +kernel
theorem d_Mod_wn2_148 : decode b_Mod_wn2 148 = .ok (.aload_n 0, 1) := by decide +kernel
theorem d_Mod_wn2_149 : decode b_Mod_wn2 149 = .ok (.getfield 96, 3) := by decide +kernel
theorem d_Mod_wn2_152 : decode b_Mod_wn2 152 = .ok (.laload, 1) := by decide +kernel
theorem d_Mod_wn2_153 : decode b_Mod_wn2 153 = .ok (.lneg, 1) := by decide +kernel
theorem d_Mod_wn2_154 : decode b_Mod_wn2 154 = .ok (.goto 12, 3) := by decide +kernel
theorem d_Mod_wn2_157 : decode b_Mod_wn2 157 = .ok (.aload_n 0, 1) := by decide +kernel
theorem d_Mod_wn2_158 : decode b_Mod_wn2 158 = .ok (.getfield 19, 3) := by decide +kernel
theorem d_Mod_wn2_161 : decode b_Mod_wn2 161 = .ok (.aload_n 0, 1) := by decide +kernel
theorem d_Mod_wn2_162 : decode b_Mod_wn2 162 = .ok (.getfield 96, 3) := by decide +kernel
theorem d_Mod_wn2_165 : decode b_Mod_wn2 165 = .ok (.laload, 1) := by decide +kernel
theorem d_Mod_wn2_166 : decode b_Mod_wn2 166 = .ok (.putfield 124, 3) := by decide +kernel
theorem d_Mod_wn2_169 : decode b_Mod_wn2 169 = .ok (.aload_n 0, 1) := by decide +kernel
theorem d_Mod_wn2_170 : decode b_Mod_wn2 170 = .ok (.getfield 35, 3) := by decide +kernel
theorem d_Mod_wn2_173 : decode b_Mod_wn2 173 = .ok (.aload_n 0, 1) := by decide +kernel
theorem d_Mod_wn2_174 : decode b_Mod_wn2 174 = .ok (.getfield 121, 3) := by decide +kernel
theorem d_Mod_wn2_177 : decode b_Mod_wn2 177 = .ok (.iconst 0, 1) := by decide +kernel
theorem d_Mod_wn2_178 : decode b_Mod_wn2 178 = .ok (.iastore, 1) := by decide +kernel
theorem d_Mod_wn2_179 : decode b_Mod_wn2 179 = .ok (.iload_n 1, 1) := by decide +kernel
theorem d_Mod_wn2_180 : decode b_Mod_wn2 180 = .ok (.bipush 32, 2) := by decide +kernel
theorem d_Mod_wn2_182 : decode b_Mod_wn2 182 = .ok (.if_icmp .ne 9, 3) := by decide +kernel
theorem d_Mod_wn2_185 : decode b_Mod_wn2 185 = .ok (.ldc2_w 128, 3) := by decide +kernel
theorem d_Mod_wn2_188 : decode b_Mod_wn2 188 = .ok (.goto 16, 3) := by decide +kernel
theorem d_Mod_wn2_191 : decode b_Mod_wn2 191 = .ok (.iload_n 1, 1) := by decide +kernel
theorem d_Mod_wn2_192 : decode b_Mod_wn2 192 = .ok (.bipush 32, 2) := by decide +kernel
theorem d_Mod_wn2_194 : decode b_Mod_wn2 194 = .ok (.if_icmp .le 7, 3) := by decide +kernel
theorem d_Mod_wn2_197 : decode b_Mod_wn2 197 = .ok (.lconst 0, 1) := by decide +kernel
theorem d_Mod_wn2_198 : decode b_Mod_wn2 198 = .ok (.goto 6, 3) := by decide +kernel
theorem d_Mod_wn2_201 : decode b_Mod_wn2 201 = .ok (.ldc2_w 130, 3) := by decide +kernel
theorem d_Mod_wn2_204 : decode b_Mod_wn2 204 = .ok (.lstore 5, 2) := by decide +kernel
theorem d_Mod_wn2_206 : decode b_Mod_wn2 206 = .ok (.iload_n 1, 1) := by decide +kernel
theorem d_Mod_wn2_207 : decode b_Mod_wn2 207 = .ok (.bipush 32, 2) := by decide +kernel
theorem d_Mod_wn2_209 : decode b_Mod_wn2 209 = .ok (.if_icmp .ne 9, 3) := by decide +kernel
theorem d_Mod_wn2_212 : decode b_Mod_wn2 212 = .ok (.ldc2_w 132, 3) := by decide +kernel
theorem d_Mod_wn2_215 : decode b_Mod_wn2 215 = .ok (.goto 30, 3) := by decide +kernel
theorem d_Mod_wn2_218 : decode b_Mod_wn2 218 = .ok (.iload_n 1, 1) := by decide +kernel
theorem d_Mod_wn2_219 : decode b_Mod_wn2 219 = .ok (.bipush 33, 2) := by decide +kernel
theorem d_Mod_wn2_221 : decode b_Mod_wn2 221 = .ok (.if_icmp .ne 9, 3) := by decide +kernel
theorem d_Mod_wn2_224 : decode b_Mod_wn2 224 = .ok (.ldc2_w 66, 3) := by decide +kernel
theorem d_Mod_wn2_227 : decode b_Mod_wn2 227 = .ok (.goto 18, 3) := by decide +kernel
theorem d_Mod_wn2_230 : decode b_Mod_wn2 230 = .ok (.iload_n 1, 1) := by decide +kernel
theorem d_Mod_wn2_231 : decode b_Mod_wn2 231 = .ok (.bipush 34, 2) := by decide +kernel
theorem d_Mod_wn2_233 : decode b_Mod_wn2 233 = .ok (.if_icmp .ne 9, 3) := by decide +kernel
theorem d_Mod_wn2_236 : decode b_Mod_wn2 236 = .ok (.ldc2_w 134, 3) := by decide +kernel
theorem d_Mod_wn2_239 : decode b_Mod_wn2 239 = .ok (.goto 6, 3) := by decide +kernel
theorem d_Mod_wn2_242 : decode b_Mod_wn2 242 = .ok (.ldc2_w 136, 3) := by decide +kernel
theorem d_Mod_wn2_245 : decode b_Mod_wn2 245 = .ok (.lstore 7, 2) := by decide +kernel
theorem d_Mod_wn2_247 : decode b_Mod_wn2 247 = .ok (.aload_n 0, 1) := by decide +kernel
theorem d_Mod_wn2_248 : decode b_Mod_wn2 248 = .ok (.getfield 124, 3) := by decide +kernel
theorem d_Mod_wn2_251 : decode b_Mod_wn2 251 = .ok (.lload 5, 2) := by decide +kernel
theorem d_Mod_wn2_253 : decode b_Mod_wn2 253 = .ok (.lcmp, 1) := by decide +kernel
theorem d_Mod_wn2_254 : decode b_Mod_wn2 254 = .ok (.ifCond .lt 13, 3) := by decide +kernel
theorem d_Mod_wn2_257 : decode b_Mod_wn2 257 = .ok (.aload_n 0, 1) := by decide +kernel
theorem d_Mod_wn2_258 : decode b_Mod_wn2 258 = .ok (.getfield 124, 3) := by decide +kernel
theorem d_Mod_wn2_261 : decode b_Mod_wn2 261 = .ok (.lload 7, 2) := by decide +kernel
theorem d_Mod_wn2_263 : decode b_Mod_wn2 263 = .ok (.lcmp, 1) := by decide +kernel
theorem d_Mod_wn2_264 : decode b_Mod_wn2 264 = .ok (.ifCond .le 14, 3) := by decide +kernel
theorem d_Mod_wn2_267 : decode b_Mod_wn2 267 = .ok (.aload_n 0, 1) := by decide +kernel
theorem d_Mod_wn2_268 : decode b_Mod_wn2 268 = .ok (.iconst 3, 1) := by decide +kernel
theorem d_Mod_wn2_269 : decode b_Mod_wn2 269 = .ok (.aload_n 0, 1) := by decide +kernel
theorem d_Mod_wn2_270 : decode b_Mod_wn2 270 = .ok (.getfield 16, 3) := by decide +kernel
theorem d_Mod_wn2_273 : decode b_Mod_wn2 273 = .ok (.iload_n 3, 1) := by decide +kernel
theorem d_Mod_wn2_274 : decode b_Mod_wn2 274 = .ok (.iaload, 1) := by decide +kernel
theorem d_Mod_wn2_275 : decode b_Mod_wn2 275 = .ok (.invokevirtual 99, 3) := by decide +kernel
theorem d_Mod_wn2_278 : decode b_Mod_wn2 278 = .ok (.aload_n 0, 1) := by decide +kernel
theorem d_Mod_wn2_279 : decode b_Mod_wn2 279 = .ok (.dup, 1) := by decide +kernel
theorem d_Mod_wn2_280 : decode b_Mod_wn2 280 = .ok (.getfield 96, 3) := by decide +kernel
theorem d_Mod_wn2_283 : decode b_Mod_wn2 283 = .ok (.iconst 1, 1) := by decide +kernel
theorem d_Mod_wn2_284 : decode b_Mod_wn2 284 = .ok (.iadd, 1) := by decide +kernel
theorem d_Mod_wn2_285 : decode b_Mod_wn2 285 = .ok (.putfield 96, 3) := by decide +kernel
theorem d_Mod_wn2_288 : decode b_Mod_wn2 288 = .ok (.iload_n 1, 1) := by decide +kernel
theorem d_Mod_wn2_289 : decode b_Mod_wn2 289 = .ok (.bipush 32, 2) := by decide +kernel
theorem d_Mod_wn2_291 : decode b_Mod_wn2 291 = .ok (.if_icmp .ne 15, 3) := by decide +kernel
theorem d_Mod_wn2_294 : decode b_Mod_wn2 294 = .ok (.aload_n 0, 1) := by decide +kernel
theorem d_Mod_wn2_295 : decode b_Mod_wn2 295 = .ok (.aload_n 0, 1) := by decide +kernel
theorem d_Mod_wn2_296 : decode b_Mod_wn2 296 = .ok (.getfield 124, 3) := by decide +kernel
theorem d_Mod_wn2_299 : decode b_Mod_wn2 299 = .ok (.l2i, 1) := by decide +kernel
theorem d_Mod_wn2_300 : decode b_Mod_wn2 300 = .ok (.putfield 115, 3) := by decide +kernel
theorem d_Mod_wn2_303 : decode b_Mod_wn2 303 = .ok (.goto 27, 3) := by decide +kernel
theorem d_Mod_wn2_306 : decode b_Mod_wn2 306 = .ok (.iload_n 1, 1) := by decide +kernel
theorem d_Mod_wn2_307 : decode b_Mod_wn2 307 = .ok (.bipush 32, 2) := by decide +kernel

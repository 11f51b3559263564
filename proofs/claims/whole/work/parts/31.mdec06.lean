theorem d_Mod_wn33_133 : decode b_Mod_wn33 133 = .ok (.aload_n 0, 1) := by decide +kernel
theorem d_Mod_wn33_134 : decode b_Mod_wn33 134 = .ok (.invokevirtual 103, 3) := by decide +kernel
theorem d_Mod_wn33_137 : decode b_Mod_wn33 137 = .ok (.ireturn, 1) := by decide +kernel
theorem d_Mod_wn33_138 : decode b_Mod_wn33 138 = .ok (.aload_n 0, 1) := by decide +kernel
theorem d_Mod_wn33_139 : decode b_Mod_wn33 139 = .ok (.iload 4, 2) := by decide +kernel
theorem d_Mod_wn33_141 : decode b_Mod_wn33 141 = .ok (.ifCond .eq 16, 3) := by decide +kernel
theorem d_Mod_wn33_144 : decode b_Mod_wn33 144 = .ok (.aload_n 0, 1) := by decide +kernel
theorem d_Mod_wn33_145 : decode b_Mod_wn33 145 = .ok (.getfield 19, 3) := by decide +kernel
theorem d_Mod_wn33_148 : decode b_Mod_wn33 148 = .ok (.aload_n 0, 1) := by decide +kernel
theorem d_Mod_wn33_149 : decode b_Mod_wn33 149 = .ok (.getfield 96, 3) := by decide +kernel
theorem d_Mod_wn33_152 : decode b_Mod_wn33 152 = .ok (.laload, 1) := by decide +kernel
theorem d_Mod_wn33_153 : decode b_Mod_wn33 153 = .ok (.lneg, 1) := by decide +kernel
theorem d_Mod_wn33_154 : decode b_Mod_wn33 154 = .ok (.goto 12, 3) := by decide +kernel
theorem d_Mod_wn33_157 : decode b_Mod_wn33 157 = .ok (.aload_n 0, 1) := by decide +kernel
theorem d_Mod_wn33_158 : decode b_Mod_wn33 158 = .ok (.getfield 19, 3) := by decide +kernel
theorem d_Mod_wn33_161 : decode b_Mod_wn33 161 = .ok (.aload_n 0, 1) := by decide +kernel
theorem d_Mod_wn33_162 : decode b_Mod_wn33 162 = .ok (.getfield 96, 3) := by decide +kernel
theorem d_Mod_wn33_165 : decode b_Mod_wn33 165 = .ok (.laload, 1) := by decide +kernel
theorem d_Mod_wn33_166 : decode b_Mod_wn33 166 = .ok (.putfield 124, 3) := by decide +kernel
theorem d_Mod_wn33_169 : decode b_Mod_wn33 169 = .ok (.aload_n 0, 1) := by decide +kernel
theorem d_Mod_wn33_170 : decode b_Mod_wn33 170 = .ok (.getfield 35, 3) := by decide +kernel
theorem d_Mod_wn33_173 : decode b_Mod_wn33 173 = .ok (.aload_n 0, 1) := by decide +kernel
theorem d_Mod_wn33_174 : decode b_Mod_wn33 174 = .ok (.getfield 121, 3) := by decide +kernel
theorem d_Mod_wn33_177 : decode b_Mod_wn33 177 = .ok (.iconst 0, 1) := by decide +kernel
theorem d_Mod_wn33_178 : decode b_Mod_wn33 178 = .ok (.iastore, 1) := by decide +kernel
theorem d_Mod_wn33_179 : decode b_Mod_wn33 179 = .ok (.iload_n 1, 1) := by decide +kernel
theorem d_Mod_wn33_180 : decode b_Mod_wn33 180 = .ok (.bipush 32, 2) := by decide +kernel
theorem d_Mod_wn33_182 : decode b_Mod_wn33 182 = .ok (.if_icmp .ne 9, 3) := by decide +kernel
theorem d_Mod_wn33_185 : decode b_Mod_wn33 185 = .ok (.ldc2_w 128, 3) := by decide +kernel
theorem d_Mod_wn33_188 : decode b_Mod_wn33 188 = .ok (.goto 16, 3) := by decide +kernel
theorem d_Mod_wn33_191 : decode b_Mod_wn33 191 = .ok (.iload_n 1, 1) := by decide +kernel
theorem d_Mod_wn33_192 : decode b_Mod_wn33 192 = .ok (.bipush 32, 2) := by decide +kernel
theorem d_Mod_wn33_194 : decode b_Mod_wn33 194 = .ok (.if_icmp .le 7, 3) := by decide +kernel
theorem d_Mod_wn33_197 : decode b_Mod_wn33 197 = .ok (.lconst 0, 1) := by decide +kernel
theorem d_Mod_wn33_198 : decode b_Mod_wn33 198 = .ok (.goto 6, 3) := by decide +kernel
theorem d_Mod_wn33_201 : decode b_Mod_wn33 201 = .ok (.ldc2_w 130, 3) := by decide +kernel
theorem d_Mod_wn33_204 : decode b_Mod_wn33 204 = .ok (.lstore 5, 2) := by decide +kernel
theorem d_Mod_wn33_206 : decode b_Mod_wn33 206 = .ok (.iload_n 1, 1) := by decide +kernel
theorem d_Mod_wn33_207 : decode b_Mod_wn33 207 = .ok (.bipush 32, 2) := by decide +kernel
theorem d_Mod_wn33_209 : decode b_Mod_wn33 209 = .ok (.if_icmp .ne 9, 3) := by decide +kernel
theorem d_Mod_wn33_212 : decode b_Mod_wn33 212 = .ok (.ldc2_w 132, 3) := by decide +kernel
theorem d_Mod_wn33_215 : decode b_Mod_wn33 215 = .ok (.goto 30, 3) := by decide +kernel
theorem d_Mod_wn33_218 : decode b_Mod_wn33 218 = .ok (.iload_n 1, 1) := by decide +kernel
theorem d_Mod_wn33_219 : decode b_Mod_wn33 219 = .ok (.bipush 33, 2) := by decide +kernel
theorem d_Mod_wn33_221 : decode b_Mod_wn33 221 = .ok (.if_icmp .ne 9, 3) := by decide +kernel
theorem d_Mod_wn33_224 : decode b_Mod_wn33 224 = .ok (.ldc2_w 66, 3) := by decide +kernel
theorem d_Mod_wn33_227 : decode b_Mod_wn33 227 = .ok (.goto 18, 3) := by decide +kernel
theorem d_Mod_wn33_230 : decode b_Mod_wn33 230 = .ok (.iload_n 1, 1) := by decide +kernel
theorem d_Mod_wn33_231 : decode b_Mod_wn33 231 = .ok (.bipush 34, 2) := by decide +kernel
theorem d_Mod_wn33_233 : decode b_Mod_wn33 233 = .ok (.if_icmp .ne 9, 3) := by decide +kernel
theorem d_Mod_wn33_236 : decode b_Mod_wn33 236 = .ok (.ldc2_w 134, 3) := by decide +kernel
theorem d_Mod_wn33_239 : decode b_Mod_wn33 239 = .ok (.goto 6, 3) := by decide +kernel
theorem d_Mod_wn33_242 : decode b_Mod_wn33 242 = .ok (.ldc2_w 136, 3) := by decide +kernel
theorem d_Mod_wn33_245 : decode b_Mod_wn33 245 = .ok (.lstore 7, 2) := by decide +kernel
theorem d_Mod_wn33_247 : decode b_Mod_wn33 247 = .ok (.aload_n 0, 1) := by decide +kernel
theorem d_Mod_wn33_248 : decode b_Mod_wn33 248 = .ok (.getfield 124, 3) := by decide +kernel
theorem d_Mod_wn33_251 : decode b_Mod_wn33 251 = .ok (.lload 5, 2) := by decide +kernel
theorem d_Mod_wn33_253 : decode b_Mod_wn33 253 = .ok (.lcmp, 1) := by decide +kernel
theorem d_Mod_wn33_254 : decode b_Mod_wn33 254 = .ok (.ifCond .lt 13, 3) := by decide +kernel
theorem d_Mod_wn33_257 : decode b_Mod_wn33 257 = .ok (.aload_n 0, 1) := by decide +kernel
theorem d_Mod_wn33_258 : decode b_Mod_wn33 258 = .ok (.getfield 124, 3) := by decide +kernel
theorem d_Mod_wn33_261 : decode b_Mod_wn33 261 = .ok (.lload 7, 2) := by decide +kernel
theorem d_Mod_wn33_263 : decode b_Mod_wn33 263 = .ok (.lcmp, 1) := by decide +kernel
theorem d_Mod_wn33_264 : decode b_Mod_wn33 264 = .ok (.ifCond .le 14, 3) := by decide +kernel
theorem d_Mod_wn33_267 : decode b_Mod_wn33 267 = .ok (.aload_n 0, 1) := by decide +kernel
theorem d_Mod_wn33_268 : decode b_Mod_wn33 268 = .ok (.iconst 3, 1) := by decide +kernel
theorem d_Mod_wn33_269 : decode b_Mod_wn33 269 = .ok (.aload_n 0, 1) := by decide +kernel
theorem d_Mod_wn33_270 : decode b_Mod_wn33 270 = .ok (.getfield 16, 3) := by decide +kernel
theorem d_Mod_wn33_273 : decode b_Mod_wn33 273 = .ok (.iload_n 3, 1) := by decide +kernel
theorem d_Mod_wn33_274 : decode b_Mod_wn33 274 = .ok (.iaload, 1) := by decide +kernel
theorem d_Mod_wn33_275 : decode b_Mod_wn33 275 = .ok (.invokevirtual 99, 3) := by decide +kernel
theorem d_Mod_wn33_278 : decode b_Mod_wn33 278 = .ok (.aload_n 0, 1) := by decide +kernel
theorem d_Mod_wn33_279 : decode b_Mod_wn33 279 = .ok (.dup, 1) := by decide +kernel
theorem d_Mod_wn33_280 : decode b_Mod_wn33 280 = .ok (.getfield 96, 3) := by decide +kernel
theorem d_Mod_wn33_283 : decode b_Mod_wn33 283 = .ok (.iconst 1, 1) := by decide +kernel
theorem d_Mod_wn33_284 : decode b_Mod_wn33 284 = .ok (.iadd, 1) := by decide +kernel
theorem d_Mod_wn33_285 : decode b_Mod_wn33 285 = .ok (.putfield 96, 3) := by decide +kernel
theorem d_Mod_wn33_288 : decode b_Mod_wn33 288 = .ok (.iload_n 1, 1) := by decide +kernel
theorem d_Mod_wn33_289 : decode b_Mod_wn33 289 = .ok (.bipush 32, 2) := by decide +kernel
theorem d_Mod_wn33_291 : decode b_Mod_wn33 291 = .ok (.if_icmp .ne 15, 3) := by decide +kernel
theorem d_Mod_wn33_294 : decode b_Mod_wn33 294 = .ok (.aload_n 0, 1) := by decide +kernel
theorem d_Mod_wn33_295 : decode b_Mod_wn33 295 = .ok (.aload_n 0, 1) := by decide +kernel
theorem d_Mod_wn33_296 : decode b_Mod_wn33 296 = .ok (.getfield 124, 3) := by decide +kernel
theorem d_Mod_wn33_299 : decode b_Mod_wn33 299 = .ok (.l2i, 1) := by decide +kernel
theorem d_Mod_wn33_300 : decode b_Mod_wn33 300 = .ok (.putfield 115, 3) := by decide +kernel
theorem d_Mod_wn33_303 : decode b_Mod_wn33 303 = .ok (.goto 27, 3) := by decide +kernel
theorem d_Mod_wn33_306 : decode b_Mod_wn33 306 = .ok (.iload_n 1, 1) := by decide +kernel
theorem d_Mod_wn33_307 : decode b_Mod_wn33 307 = .ok (.bipush 32, 2) := by decide +kernel
theorem d_Mod_wn33_309 : decode b_Mod_wn33 309 = .ok (.if_icmp .ge 21, 3) := by decide +kernel
theorem d_Mod_wn33_312 : decode b_Mod_wn33 312 = .ok (.aload_n 0, 1) := by decide +kernel
theorem d_Mod_wn33_313 : decode b_Mod_wn33 313 = .ok (.dup, 1) := by decide +kernel
theorem d_Mod_wn33_314 : decode b_Mod_wn33 314 = .ok (.getfield 115, 3) := by decide +kernel
theorem d_Mod_wn33_317 : decode b_Mod_wn33 317 = .ok (.aload_n 0, 1) := by decide +kernel
theorem d_Mod_wn33_318 : decode b_Mod_wn33 318 = .ok (.getfield 124, 3) := by decide +kernel
theorem d_Mod_wn33_321 : decode b_Mod_wn33 321 = .ok (.l2i, 1) := by decide +kernel
theorem d_Mod_wn33_322 : decode b_Mod_wn33 322 = .ok (.sipush 4095, 3) := by decide +kernel
theorem d_Mod_wn33_325 : decode b_Mod_wn33 325 = .ok (.iand, 1) := by decide +kernel
theorem d_Mod_wn33_326 : decode b_Mod_wn33 326 = .ok (.ior, 1) := by decide +kernel
theorem d_Mod_wn33_327 : decode b_Mod_wn33 327 = .ok (.putfield 115, 3) := by decide +kernel
theorem d_Mod_wn33_330 : decode b_Mod_wn33 330 = .ok (.iconst 1, 1) := by decide +kernel
theorem d_Mod_wn33_331 : decode b_Mod_wn33 331 = .ok (.ireturn, 1) := by decide +kernel
theorem d_Mod_wn34_0 : decode b_Mod_wn34 0 = .ok (.aload_n 0, 1) := by decide +kernel
theorem d_Mod_wn34_1 : decode b_Mod_wn34 1 = .ok (.getfield 96, 3) := by decide +kernel
theorem d_Mod_wn34_4 : decode b_Mod_wn34 4 = .ok (.istore_n 3, 1) := by decide +kernel
theorem d_Mod_wn34_5 : decode b_Mod_wn34 5 = .ok (.iload_n 2, 1) := by decide +kernel
theorem d_Mod_wn34_6 : decode b_Mod_wn34 6 = .ok (.ifCond .ne 16, 3) := by decide +kernel
theorem d_Mod_wn34_9 : decode b_Mod_wn34 9 = .ok (.aload_n 0, 1) := by decide +kernel
theorem d_Mod_wn34_10 : decode b_Mod_wn34 10 = .ok (.bipush 45, 2) := by decide +kernel
theorem d_Mod_wn34_12 : decode b_Mod_wn34 12 = .ok (.invokevirtual 118, 3) := by decide +kernel
theorem d_Mod_wn34_15 : decode b_Mod_wn34 15 = .ok (.ifCond .eq 7, 3) := by decide +kernel
theorem d_Mod_wn34_18 : decode b_Mod_wn34 18 = .ok (.iconst 1, 1) := by decide +kernel
theorem d_Mod_wn34_19 : decode b_Mod_wn34 19 = .ok (.goto 4, 3) := by decide +kernel
theorem d_Mod_wn34_22 : decode b_Mod_wn34 22 = .ok (.iconst 0, 1) := by decide +kernel
theorem d_Mod_wn34_23 : decode b_Mod_wn34 23 = .ok (.istore 4, 2) := by decide +kernel
theorem d_Mod_wn34_25 : decode b_Mod_wn34 25 = .ok (.iload 4, 2) := by decide +kernel
theorem d_Mod_wn34_27 : decode b_Mod_wn34 27 = .ok (.ifCond .eq 13, 3) := by decide +kernel
theorem d_Mod_wn34_30 : decode b_Mod_wn34 30 = .ok (.aload_n 0, 1) := by decide +kernel
theorem d_Mod_wn34_31 : decode b_Mod_wn34 31 = .ok (.dup, 1) := by decide +kernel
theorem d_Mod_wn34_32 : decode b_Mod_wn34 32 = .ok (.getfield 96, 3) := by decide +kernel
theorem d_Mod_wn34_35 : decode b_Mod_wn34 35 = .ok (.iconst 1, 1) := by decide +kernel
theorem d_Mod_wn34_36 : decode b_Mod_wn34 36 = .ok (.iadd, 1) := by decide +kernel
theorem d_Mod_wn34_37 : decode b_Mod_wn34 37 = .ok (.putfield 96, 3) := by decide +kernel
theorem d_Mod_wn34_40 : decode b_Mod_wn34 40 = .ok (.iload_n 2, 1) := by decide +kernel
theorem d_Mod_wn34_41 : decode b_Mod_wn34 41 = .ok (.ifCond .ne 79, 3) := by decide +kernel
theorem d_Mod_wn34_44 : decode b_Mod_wn34 44 = .ok (.iload 4, 2) := by decide +kernel
theorem d_Mod_wn34_46 : decode b_Mod_wn34 46 = .ok (.ifCond .ne 74, 3) := by decide +kernel
theorem d_Mod_wn34_49 : decode b_Mod_wn34 49 = .ok (.aload_n 0, 1) := by decide +kernel
theorem d_Mod_wn34_50 : decode b_Mod_wn34 50 = .ok (.getfield 13, 3) := by decide +kernel
theorem d_Mod_wn34_53 : decode b_Mod_wn34 53 = .ok (.aload_n 0, 1) := by decide +kernel
theorem d_Mod_wn34_54 : decode b_Mod_wn34 54 = .ok (.getfield 96, 3) := by decide +kernel
theorem d_Mod_wn34_57 : decode b_Mod_wn34 57 = .ok (.iaload, 1) := by decide +kernel
theorem d_Mod_wn34_58 : decode b_Mod_wn34 58 = .ok (.iconst 1, 1) := by decide +kernel
theorem d_Mod_wn34_59 : decode b_Mod_wn34 59 = .ok (.if_icmp .ne 61, 3) := by decide +kernel
theorem d_Mod_wn34_62 : decode b_Mod_wn34 62 = .ok (.aload_n 0, 1) := by decide +kernel
theorem d_Mod_wn34_63 : decode b_Mod_wn34 63 = .ok (.getfield 35, 3) := by decide +kernel
theorem d_Mod_wn34_66 : decode b_Mod_wn34 66 = .ok (.aload_n 0, 1) := by decide +kernel
theorem d_Mod_wn34_67 : decode b_Mod_wn34 67 = .ok (.getfield 121, 3) := by decide +kernel
theorem d_Mod_wn34_70 : decode b_Mod_wn34 70 = .ok (.iload_n 1, 1) := by decide +kernel
theorem d_Mod_wn34_71 : decode b_Mod_wn34 71 = .ok (.iastore, 1) := by decide +kernel
theorem d_Mod_wn34_72 : decode b_Mod_wn34 72 = .ok (.aload_n 0, 1) := by decide +kernel
theorem d_Mod_wn34_73 : decode b_Mod_wn34 73 = .ok (.getfield 38, 3) := by decide +kernel
theorem d_Mod_wn34_76 : decode b_Mod_wn34 76 = .ok (.aload_n 0, 1) := by decide +kernel
theorem d_Mod_wn34_77 : decode b_Mod_wn34 77 = .ok (.getfield 121, 3) := by decide +kernel
theorem d_Mod_wn34_80 : decode b_Mod_wn34 80 = .ok (.aload_n 0, 1) := by decide +kernel
theorem d_Mod_wn34_81 : decode b_Mod_wn34 81 = .ok (.getfield 19, 3) := by decide +kernel
theorem d_Mod_wn34_84 : decode b_Mod_wn34 84 = .ok (.aload_n 0, 1) := by decide +kernel
theorem d_Mod_wn34_85 : decode b_Mod_wn34 85 = .ok (.getfield 96, 3) := by decide +kernel
theorem d_Mod_wn34_88 : decode b_Mod_wn34 88 = .ok (.laload, 1) := by decide +kernel
theorem d_Mod_wn34_89 : decode b_Mod_wn34 89 = .ok (.lastore, 1) := by decide +kernel
theorem d_Mod_wn34_90 : decode b_Mod_wn34 90 = .ok (.aload_n 0, 1) := by decide +kernel
theorem d_Mod_wn34_91 : decode b_Mod_wn34 91 = .ok (.getfield 41, 3) := by decide +kernel
theorem d_Mod_wn34_94 : decode b_Mod_wn34 94 = .ok (.aload_n 0, 1) := by decide +kernel
theorem d_Mod_wn34_95 : decode b_Mod_wn34 95 = .ok (.getfield 121, 3) := by decide +kernel
theorem d_Mod_wn34_98 : decode b_Mod_wn34 98 = .ok (.aload_n 0, 1) := by decide +kernel
theorem d_Mod_wn34_99 : decode b_Mod_wn34 99 = .ok (.getfield 16, 3) := by decide +kernel
theorem d_Mod_wn34_102 : decode b_Mod_wn34 102 = .ok (.aload_n 0, 1) := by decide +kernel
theorem d_Mod_wn34_103 : decode b_Mod_wn34 103 = .ok (.getfield 96, 3) := by decide +kernel
theorem d_Mod_wn34_106 : decode b_Mod_wn34 106 = .ok (.iaload, 1) := by decide +kernel
theorem d_Mod_wn34_107 : decode b_Mod_wn34 107 = .ok (.iastore, 1) := by decide +kernel
theorem d_Mod_wn34_108 : decode b_Mod_wn34 108 = .ok (.aload_n 0, 1) := by decide +kernel
theorem d_Mod_wn34_109 : decode b_Mod_wn34 109 = .ok (.dup, 1) := by decide +kernel
theorem d_Mod_wn34_110 : decode b_Mod_wn34 110 = .ok (.getfield 96, 3) := by decide +kernel
theorem d_Mod_wn34_113 : decode b_Mod_wn34 113 = .ok (.iconst 1, 1) := by decide +kernel
theorem d_Mod_wn34_114 : decode b_Mod_wn34 114 = .ok (.iadd, 1) := by decide +kernel
theorem d_Mod_wn34_115 : decode b_Mod_wn34 115 = .ok (.putfield 96, 3) := by decide +kernel
theorem d_Mod_wn34_118 : decode b_Mod_wn34 118 = .ok (.iconst 1, 1) := by decide +kernel
theorem d_Mod_wn34_119 : decode b_Mod_wn34 119 = .ok (.ireturn, 1) := by decide +kernel
theorem d_Mod_wn34_120 : decode b_Mod_wn34 120 = .ok (.aload_n 0, 1) := by decide +kernel
theorem d_Mod_wn34_121 : decode b_Mod_wn34 121 = .ok (.getfield 13, 3) := by decide +kernel
theorem d_Mod_wn34_124 : decode b_Mod_wn34 124 = .ok (.aload_n 0, 1) := by decide +kernel
theorem d_Mod_wn34_125 : decode b_Mod_wn34 125 = .ok (.getfield 96, 3) := by decide +kernel
theorem d_Mod_wn34_128 : decode b_Mod_wn34 128 = .ok (.iaload, 1) := by decide +kernel
theorem d_Mod_wn34_129 : decode b_Mod_wn34 129 = .ok (.iconst 2, 1) := by decide +kernel
theorem d_Mod_wn34_130 : decode b_Mod_wn34 130 = .ok (.if_icmp .eq 8, 3) := by decide +kernel
theorem d_Mod_wn34_133 : decode b_Mod_wn34 133 = .ok (.aload_n 0, 1) := by decide +kernel
theorem d_Mod_wn34_134 : decode b_Mod_wn34 134 = .ok (.invokevirtual 103, 3) := by decide +kernel
theorem d_Mod_wn34_137 : decode b_Mod_wn34 137 = .ok (.ireturn, 1) := by decide +kernel
theorem d_Mod_wn34_138 : decode b_Mod_wn34 138 = .ok (.aload_n 0, 1) := by decide +kernel
theorem d_Mod_wn34_139 : decode b_Mod_wn34 139 = .ok (.iload 4, 2) := by decide +kernel
theorem d_Mod_wn34_141 : decode b_Mod_wn34 141 = .ok (.ifCond .eq 16, 3) := by decide +kernel
theorem d_Mod_wn34_144 : decode b_Mod_wn34 144 = .ok (.aload_n 0, 1) := by decide +kernel
theorem d_Mod_wn34_145 : decode b_Mod_wn34 145 = .ok (.getfield 19, 3) := by decide +kernel
theorem d_Mod_wn34_148 : decode b_Mod_wn34 148 = .ok (.aload_n 0, 1) := by decide +kernel
theorem d_Mod_wn34_149 : decode b_Mod_wn34 149 = .ok (.getfield 96, 3) := by decide +kernel
theorem d_Mod_wn34_152 : decode b_Mod_wn34 152 = .ok (.laload, 1) := by decide +kernel
theorem d_Mod_wn34_153 : decode b_Mod_wn34 153 = .ok (.lneg, 1) := by decide +kernel
theorem d_Mod_wn34_154 : decode b_Mod_wn34 154 = .ok (.goto 12, 3) := by decide +kernel
theorem d_Mod_wn34_157 : decode b_Mod_wn34 157 = .ok (.aload_n 0, 1) := by decide +kernel
theorem d_Mod_wn34_158 : decode b_Mod_wn34 158 = .ok (.getfield 19, 3) := by decide +kernel
theorem d_Mod_wn34_161 : decode b_Mod_wn34 161 = .ok (.aload_n 0, 1) := by decide +kernel
theorem d_Mod_wn34_162 : decode b_Mod_wn34 162 = .ok (.getfield 96, 3) := by decide +kernel
theorem d_Mod_wn34_165 : decode b_Mod_wn34 165 = .ok (.laload, 1) := by decide +kernel
theorem d_Mod_wn34_166 : decode b_Mod_wn34 166 = .ok (.putfield 124, 3) := by decide +kernel
theorem d_Mod_wn34_169 : decode b_Mod_wn34 169 = .ok (.aload_n 0, 1) := by decide +kernel
theorem d_Mod_wn34_170 : decode b_Mod_wn34 170 = .ok (.getfield 35, 3) := by decide +kernel
theorem d_Mod_wn34_173 : decode b_Mod_wn34 173 = .ok (.aload_n 0, 1) := by decide +kernel
theorem d_Mod_wn34_174 : decode b_Mod_wn34 174 = .ok (.getfield 121, 3) := by decide +kernel
theorem d_Mod_wn34_177 : decode b_Mod_wn34 177 = .ok (.iconst 0, 1) := by decide +kernel
theorem d_Mod_wn34_178 : decode b_Mod_wn34 178 = .ok (.iastore, 1) := by decide +kernel
theorem d_Mod_wn34_179 : decode b_Mod_wn34 179 = .ok (.iload_n 1, 1) := by decide +kernel
theorem d_Mod_wn34_180 : decode b_Mod_wn34 180 = .ok (.bipush 32, 2) := by decide +kernel
theorem d_Mod_wn34_182 : decode b_Mod_wn34 182 = .ok (.if_icmp .ne 9, 3) := by decide +kernel
theorem d_Mod_wn34_185 : decode b_Mod_wn34 185 = .ok (.ldc2_w 128, 3) := by decide +kernel
theorem d_Mod_wn34_188 : decode b_Mod_wn34 188 = .ok (.goto 16, 3) := by decide +kernel
theorem d_Mod_wn34_191 : decode b_Mod_wn34 191 = .ok (.iload_n 1, 1) := by decide +kernel
theorem d_Mod_wn34_192 : decode b_Mod_wn34 192 = .ok (.bipush 32, 2) := by decide +kernel
theorem d_Mod_wn34_194 : decode b_Mod_wn34 194 = .ok (.if_icmp .le 7, 3) := by decide +kernel
theorem d_Mod_wn34_197 : decode b_Mod_wn34 197 = .ok (.lconst 0, 1) := by decide +kernel
theorem d_Mod_wn34_198 : decode b_Mod_wn34 198 = .ok (.goto 6, 3) := by decide +kernel
theorem d_Mod_wn34_201 : decode b_Mod_wn34 201 = .ok (.ldc2_w 130, 3) := by decide +kernel
theorem d_Mod_wn34_204 : decode b_Mod_wn34 204 = .ok (.lstore 5, 2) := by decide +kernel
theorem d_Mod_wn34_206 : decode b_Mod_wn34 206 = .ok (.iload_n 1, 1) := by decide +kernel
theorem d_Mod_wn34_207 : decode b_Mod_wn34 207 = .ok (.bipush 32, 2) := by decide +kernel
theorem d_Mod_wn34_209 : decode b_Mod_wn34 209 = .ok (.if_icmp .ne 9, 3) := by decide +kernel
theorem d_Mod_wn34_212 : decode b_Mod_wn34 212 = .ok (.ldc2_w 132, 3) := by decide +kernel
theorem d_Mod_wn34_215 : decode b_Mod_wn34 215 = .ok (.goto 30, 3) := by decide +kernel
theorem d_Mod_wn34_218 : decode b_Mod_wn34 218 = .ok (.iload_n 1, 1) := by decide +kernel
theorem d_Mod_wn34_219 : decode b_Mod_wn34 219 = .ok (.bipush 33, 2) := by decide +kernel
theorem d_Mod_wn34_221 : decode b_Mod_wn34 221 = .ok (.if_icmp .ne 9, 3) := by decide +kernel
theorem d_Mod_wn34_224 : decode b_Mod_wn34 224 = .ok (.ldc2_w 66, 3) := by decide +kernel
theorem d_Mod_wn34_227 : decode b_Mod_wn34 227 = .ok (.goto 18, 3) := by decide +kernel
theorem d_Mod_wn34_230 : decode b_Mod_wn34 230 = .ok (.iload_n 1, 1) := by decide +kernel
theorem d_Mod_wn34_231 : decode b_Mod_wn34 231 = .ok (.bipush 34, 2) := by decide +kernel
theorem d_Mod_wn34_233 : decode b_Mod_wn34 233 = .ok (.if_icmp .ne 9, 3) := by decide +kernel
theorem d_Mod_wn34_236 : decode b_Mod_wn34 236 = .ok (.ldc2_w 134, 3) := by decide +kernel
theorem d_Mod_wn34_239 : decode b_Mod_wn34 239 = .ok (.goto 6, 3) := by decide +kernel
theorem d_Mod_wn34_242 : decode b_Mod_wn34 242 = .ok (.ldc2_w 136, 3) := by decide +kernel
theorem d_Mod_wn34_245 : decode b_Mod_wn34 245 = .ok (.lstore 7, 2) := by decide +kernel
theorem d_Mod_wn34_247 : decode b_Mod_wn34 247 = .ok (.aload_n 0, 1) := by decide +kernel
theorem d_Mod_wn34_248 : decode b_Mod_wn34 248 = .ok (.getfield 124, 3) := by decide +kernel
theorem d_Mod_wn34_251 : decode b_Mod_wn34 251 = .ok (.lload 5, 2) := by decide +kernel
theorem d_Mod_wn34_253 : decode b_Mod_wn34 253 = .ok (.lcmp, 1) := by decide +kernel
theorem d_Mod_wn34_254 : decode b_Mod_wn34 254 = .ok (.ifCond .lt 13, 3) := by decide +kernel
theorem d_Mod_wn34_257 : decode b_Mod_wn34 257 = .ok (.aload_n 0, 1) := by decide +kernel
theorem d_Mod_wn34_258 : decode b_Mod_wn34 258 = .ok (.getfield 124, 3) := by decide +kernel
theorem d_Mod_wn34_261 : decode b_Mod_wn34 261 = .ok (.lload 7, 2) := by decide +kernel
theorem d_Mod_wn34_263 : decode b_Mod_wn34 263 = .ok (.lcmp, 1) := by decide +kernel
theorem d_Mod_wn34_264 : decode b_Mod_wn34 264 = .ok (.ifCond .le 14, 3) := by decide +kernel
theorem d_Mod_wn34_267 : decode b_Mod_wn34 267 = .ok (.aload_n 0, 1) := by decide +kernel
theorem d_Mod_wn34_268 : decode b_Mod_wn34 268 = .ok (.iconst 3, 1) := by decide +kernel
theorem d_Mod_wn34_269 : decode b_Mod_wn34 269 = .ok (.aload_n 0, 1) := by decide +kernel
theorem d_Mod_wn34_270 : decode b_Mod_wn34 270 = .ok (.getfield 16, 3) := by decide +kernel
theorem d_Mod_wn34_273 : decode b_Mod_wn34 273 = .ok (.iload_n 3, 1) := by decide +kernel
theorem d_Mod_wn34_274 : decode b_Mod_wn34 274 = .ok (.iaload, 1) := by decide +kernel
theorem d_Mod_wn34_275 : decode b_Mod_wn34 275 = .ok (.invokevirtual 99, 3) := by decide +kernel
theorem d_Mod_wn34_278 : decode b_Mod_wn34 278 = .ok (.aload_n 0, 1) := by decide +kernel
theorem d_Mod_wn34_279 : decode b_Mod_wn34 279 = .ok (.dup, 1) := by decide +kernel
theorem d_Mod_wn34_280 : decode b_Mod_wn34 280 = .ok (.getfield 96, 3) := by decide +kernel
theorem d_Mod_wn34_283 : decode b_Mod_wn34 283 = .ok (.iconst 1, 1) := by decide +kernel
theorem d_Mod_wn34_284 : decode b_Mod_wn34 284 = .ok (.iadd, 1) := by decide +kernel
theorem d_Mod_wn34_285 : decode b_Mod_wn34 285 = .ok (.putfield 96, 3) := by decide +kernel
theorem d_Mod_wn34_288 : decode b_Mod_wn34 288 = .ok (.iload_n 1, 1) := by decide +kernel
theorem d_Mod_wn34_289 : decode b_Mod_wn34 289 = .ok (.bipush 32, 2) := by decide +kernel
theorem d_Mod_wn34_291 : decode b_Mod_wn34 291 = .ok (.if_icmp .ne 15, 3) := by decide +kernel
theorem d_Mod_wn34_294 : decode b_Mod_wn34 294 = .ok (.aload_n 0, 1) := by decide +kernel
theorem d_Mod_wn34_295 : decode b_Mod_wn34 295 = .ok (.aload_n 0, 1) := by decide +kernel
theorem d_Mod_wn34_296 : decode b_Mod_wn34 296 = .ok (.getfield 124, 3) := by decide +kernel
theorem d_Mod_wn34_299 : decode b_Mod_wn34 299 = .ok (.l2i, 1) := by decide +kernel
theorem d_Mod_wn34_300 : decode b_Mod_wn34 300 = .ok (.putfield 115, 3) := by decide +kernel
theorem d_Mod_wn34_303 : decode b_Mod_wn34 303 = .ok (.goto 27, 3) := by decide +kernel

theorem d_Mod_init_86 : decode b_Mod_init 86 = .ok (.sipush 250, 3) := by decide +kernel
theorem d_Mod_init_89 : decode b_Mod_init 89 = .ok (.newarray .long, 2) := by decide +kernel
theorem d_Mod_init_91 : decode b_Mod_init 91 = .ok (.putfield 38, 3) := by decide +kernel
theorem d_Mod_init_94 : decode b_Mod_init 94 = .ok (.aload_n 0, 1) := by decide +kernel
theorem d_Mod_init_95 : decode b_Mod_init 95 = .ok (.sipush 250, 3) := by decide +kernel
theorem d_Mod_init_98 : decode b_Mod_init 98 = .ok (.newarray .int, 2) := by decide +kernel
theorem d_Mod_init_100 : decode b_Mod_init 100 = .ok (.putfield 41, 3) := by decide +kernel
theorem d_Mod_init_103 : decode b_Mod_init 103 = .ok (.aload_n 0, 1) := by decide +kernel
theorem d_Mod_init_104 : decode b_Mod_init 104 = .ok (.iconst 4, 1) := by decide +kernel
theorem d_Mod_init_105 : decode b_Mod_init 105 = .ok (.newarray .int, 2) := by decide +kernel
theorem d_Mod_init_107 : decode b_Mod_init 107 = .ok (.putfield 44, 3) := by decide +kernel
theorem d_Mod_init_110 : decode b_Mod_init 110 = .ok (.aload_n 0, 1) := by decide +kernel
theorem d_Mod_init_111 : decode b_Mod_init 111 = .ok (.sipush 256, 3) := by decide +kernel
theorem d_Mod_init_114 : decode b_Mod_init 114 = .ok (.newarray .int, 2) := by decide +kernel
theorem d_Mod_init_116 : decode b_Mod_init 116 = .ok (.putfield 47, 3) := by decide +kernel
theorem d_Mod_init_119 : decode b_Mod_init 119 = .ok (.aload_n 0, 1) := by decide +kernel
theorem d_Mod_init_120 : decode b_Mod_init 120 = .ok (.iconst 4, 1) := by decide +kernel
theorem d_Mod_init_121 : decode b_Mod_init 121 = .ok (.newarray .int, 2) := by decide +kernel
theorem d_Mod_init_123 : decode b_Mod_init 123 = .ok (.putfield 50, 3) := by decide +kernel
theorem d_Mod_init_126 : decode b_Mod_init 126 = .ok (.aload_n 0, 1) := by decide +kernel
theorem d_Mod_init_127 : decode b_Mod_init 127 = .ok (.sipush 250, 3) := by decide +kernel
theorem d_Mod_init_130 : decode b_Mod_init 130 = .ok (.newarray .long, 2) := by decide +kernel
theorem d_Mod_init_132 : decode b_Mod_init 132 = .ok (.putfield 53, 3) := by decide +kernel
theorem d_Mod_init_135 : decode b_Mod_init 135 = .ok (.aload_n 0, 1) := by decide +kernel
theorem d_Mod_init_136 : decode b_Mod_init 136 = .ok (.sipush 250, 3) := by decide +kernel
theorem d_Mod_init_139 : decode b_Mod_init 139 = .ok (.newarray .int, 2) := by decide +kernel
theorem d_Mod_init_141 : decode b_Mod_init 141 = .ok (.putfield 56, 3) := by decide +kernel
theorem d_Mod_init_144 : decode b_Mod_init 144 = .ok (.return_, 1) := by decide +kernel
theorem d_Mod_tokenize_0 : decode b_Mod_tokenize 0 = .ok (.aload_n 0, 1) := by decide +kernel
theorem d_Mod_tokenize_1 : decode b_Mod_tokenize 1 = .ok (.iconst 0, 1) := by decide +kernel
theorem d_Mod_tokenize_2 : decode b_Mod_tokenize 2 = .ok (.putfield 68, 3) := by decide +kernel
theorem d_Mod_tokenize_5 : decode b_Mod_tokenize 5 = .ok (.iconst 0, 1) := by decide +kernel
theorem d_Mod_tokenize_6 : decode b_Mod_tokenize 6 = .ok (.istore_n 1, 1) := by decide +kernel
theorem d_Mod_tokenize_7 : decode b_Mod_tokenize 7 = .ok (.iconst 1, 1) := by decide +kernel
theorem d_Mod_tokenize_8 : decode b_Mod_tokenize 8 = .ok (.istore_n 2, 1) := by decide +kernel
theorem d_Mod_tokenize_9 : decode b_Mod_tokenize 9 = .ok (.iload_n 2, 1) := by decide +kernel
theorem d_Mod_tokenize_10 : decode b_Mod_tokenize 10 = .ok (.ifCond .eq 280, 3) := by decide +kernel
theorem d_Mod_tokenize_13 : decode b_Mod_tokenize 13 = .ok (.iload_n 1, 1) := by decide +kernel
theorem d_Mod_tokenize_14 : decode b_Mod_tokenize 14 = .ok (.aload_n 0, 1) := by decide +kernel
theorem d_Mod_tokenize_15 : decode b_Mod_tokenize 15 = .ok (.getfield 63, 3) := by decide +kernel
theorem d_Mod_tokenize_18 : decode b_Mod_tokenize 18 = .ok (.if_icmp .ge 272, 3) := by decide +kernel
theorem d_Mod_tokenize_21 : decode b_Mod_tokenize 21 = .ok (.aload_n 0, 1) := by decide +kernel
theorem d_Mod_tokenize_22 : decode b_Mod_tokenize 22 = .ok (.getfield 7, 3) := by decide +kernel
theorem d_Mod_tokenize_25 : decode b_Mod_tokenize 25 = .ok (.iload_n 1, 1) := by decide +kernel
theorem d_Mod_tokenize_26 : decode b_Mod_tokenize 26 = .ok (.iaload, 1) := by decide +kernel
theorem d_Mod_tokenize_27 : decode b_Mod_tokenize 27 = .ok (.bipush 32, 2) := by decide +kernel
theorem d_Mod_tokenize_29 : decode b_Mod_tokenize 29 = .ok (.if_icmp .ne 9, 3) := by decide +kernel
theorem d_Mod_tokenize_32 : decode b_Mod_tokenize 32 = .ok (.iinc 1 1, 3) := by decide +kernel
theorem d_Mod_tokenize_35 : decode b_Mod_tokenize 35 = .ok (.goto (-26), 3) := by decide +kernel
theorem d_Mod_tokenize_38 : decode b_Mod_tokenize 38 = .ok (.iload_n 1, 1) := by decide +kernel
theorem d_Mod_tokenize_39 : decode b_Mod_tokenize 39 = .ok (.istore_n 3, 1) := by decide +kernel
theorem d_Mod_tokenize_40 : decode b_Mod_tokenize 40 = .ok (.aload_n 0, 1) := by decide +kernel
theorem d_Mod_tokenize_41 : decode b_Mod_tokenize 41 = .ok (.getfield 7, 3) := by decide +kernel
theorem d_Mod_tokenize_44 : decode b_Mod_tokenize 44 = .ok (.iload_n 1, 1) := by decide +kernel
theorem d_Mod_tokenize_45 : decode b_Mod_tokenize 45 = .ok (.iaload, 1) := by decide +kernel
theorem d_Mod_tokenize_46 : decode b_Mod_tokenize 46 = .ok (.istore 4, 2) := by decide +kernel
theorem d_Mod_tokenize_48 : decode b_Mod_tokenize 48 = .ok (.iload 4, 2) := by decide +kernel
theorem d_Mod_tokenize_50 : decode b_Mod_tokenize 50 = .ok (.i2l, 1) := by decide +kernel
theorem d_Mod_tokenize_51 : decode b_Mod_tokenize 51 = .ok (.lstore 5, 2) := by decide +kernel
theorem d_Mod_tokenize_53 : decode b_Mod_tokenize 53 = .ok (.iload 4, 2) := by decide +kernel
theorem d_Mod_tokenize_55 : decode b_Mod_tokenize 55 = .ok (.bipush 58, 2) := by decide +kernel
theorem d_Mod_tokenize_57 : decode b_Mod_tokenize 57 = .ok (.if_icmp .eq 38, 3) := by decide +kernel
theorem d_Mod_tokenize_60 : decode b_Mod_tokenize 60 = .ok (.iload 4, 2) := by decide +kernel
theorem d_Mod_tokenize_62 : decode b_Mod_tokenize 62 = .ok (.bipush 59, 2) := by decide +kernel
theorem d_Mod_tokenize_64 : decode b_Mod_tokenize 64 = .ok (.if_icmp .eq 31, 3) := by decide +kernel
theorem d_Mod_tokenize_67 : decode b_Mod_tokenize 67 = .ok (.iload 4, 2) := by decide +kernel
theorem d_Mod_tokenize_69 : decode b_Mod_tokenize 69 = .ok (.bipush 44, 2) := by decide +kernel
theorem d_Mod_tokenize_71 : decode b_Mod_tokenize 71 = .ok (.if_icmp .eq 24, 3) := by decide +kernel
theorem d_Mod_tokenize_74 : decode b_Mod_tokenize 74 = .ok (.iload 4, 2) := by decide +kernel
theorem d_Mod_tokenize_76 : decode b_Mod_tokenize 76 = .ok (.bipush 40, 2) := by decide +kernel
theorem d_Mod_tokenize_78 : decode b_Mod_tokenize 78 = .ok (.if_icmp .eq 17, 3) := by decide +kernel
theorem d_Mod_tokenize_81 : decode b_Mod_tokenize 81 = .ok (.iload 4, 2) := by decide +kernel
theorem d_Mod_tokenize_83 : decode b_Mod_tokenize 83 = .ok (.bipush 41, 2) := by decide +kernel
theorem d_Mod_tokenize_85 : decode b_Mod_tokenize 85 = .ok (.if_icmp .eq 10, 3) := by decide +kernel
theorem d_Mod_tokenize_88 : decode b_Mod_tokenize 88 = .ok (.iload 4, 2) := by decide +kernel
theorem d_Mod_tokenize_90 : decode b_Mod_tokenize 90 = .ok (.bipush 45, 2) := by decide +kernel
theorem d_Mod_tokenize_92 : decode b_Mod_tokenize 92 = .ok (.if_icmp .ne 7, 3) := by decide +kernel
theorem d_Mod_tokenize_95 : decode b_Mod_tokenize 95 = .ok (.iconst 3, 1) := by decide +kernel
theorem d_Mod_tokenize_96 : decode b_Mod_tokenize 96 = .ok (.goto 4, 3) := by decide +kernel
theorem d_Mod_tokenize_99 : decode b_Mod_tokenize 99 = .ok (.iconst 4, 1) := by decide +kernel
theorem d_Mod_tokenize_100 : decode b_Mod_tokenize 100 = .ok (.istore 7, 2) := by decide +kernel
theorem d_Mod_tokenize_102 : decode b_Mod_tokenize 102 = .ok (.iinc 1 1, 3) := by decide +kernel
theorem d_Mod_tokenize_105 : decode b_Mod_tokenize 105 = .ok (.iload 4, 2) := by decide +kernel
theorem d_Mod_tokenize_107 : decode b_Mod_tokenize 107 = .ok (.invokestatic 71, 3) := by decide +kernel
theorem d_Mod_tokenize_110 : decode b_Mod_tokenize 110 = .ok (.ifCond .eq 78, 3) := by decide +kernel
theorem d_Mod_tokenize_113 : decode b_Mod_tokenize 113 = .ok (.iload 4, 2) := by decide +kernel
theorem d_Mod_tokenize_115 : decode b_Mod_tokenize 115 = .ok (.bipush 48, 2) := by decide +kernel
theorem d_Mod_tokenize_117 : decode b_Mod_tokenize 117 = .ok (.isub, 1) := by decide +kernel
theorem d_Mod_tokenize_118 : decode b_Mod_tokenize 118 = .ok (.i2l, 1) := by decide +kernel
theorem d_Mod_tokenize_119 : decode b_Mod_tokenize 119 = .ok (.lstore 5, 2) := by decide +kernel
theorem d_Mod_tokenize_121 : decode b_Mod_tokenize 121 = .ok (.aload_n 0, 1) := by decide +kernel
theorem d_Mod_tokenize_122 : decode b_Mod_tokenize 122 = .ok (.iload_n 1, 1) := by decide +kernel
theorem d_Mod_tokenize_123 : decode b_Mod_tokenize 123 = .ok (.invokevirtual 75, 3) := by decide +kernel
theorem d_Mod_tokenize_126 : decode b_Mod_tokenize 126 = .ok (.invokestatic 71, 3) := by decide +kernel
theorem d_Mod_tokenize_129 : decode b_Mod_tokenize 129 = .ok (.ifCond .eq 41, 3) := by decide +kernel
theorem d_Mod_tokenize_132 : decode b_Mod_tokenize 132 = .ok (.iload_n 1, 1) := by decide +kernel
theorem d_Mod_tokenize_133 : decode b_Mod_tokenize 133 = .ok (.iload_n 3, 1) := by decide +kernel
theorem d_Mod_tokenize_134 : decode b_Mod_tokenize 134 = .ok (.isub, 1) := by decide +kernel
theorem d_Mod_tokenize_135 : decode b_Mod_tokenize 135 = .ok (.bipush 10, 2) := by decide +kernel
theorem d_Mod_tokenize_137 : decode b_Mod_tokenize 137 = .ok (.if_icmp .ge 23, 3) := by decide +kernel
theorem d_Mod_tokenize_140 : decode b_Mod_tokenize 140 = .ok (.ldc2_w 79, 3) := by decide +kernel
theorem d_Mod_tokenize_143 : decode b_Mod_tokenize 143 = .ok (.lload 5, 2) := by decide +kernel
theorem d_Mod_tokenize_145 : decode b_Mod_tokenize 145 = .ok (.lmul, 1) := by decide +kernel
theorem d_Mod_tokenize_146 : decode b_Mod_tokenize 146 = .ok (.aload_n 0, 1) := by decide +kernel
theorem d_Mod_tokenize_147 : decode b_Mod_tokenize 147 = .ok (.iload_n 1, 1) := by decide +kernel
theorem d_Mod_tokenize_148 : decode b_Mod_tokenize 148 = .ok (.invokevirtual 75, 3) := by decide +kernel
theorem d_Mod_tokenize_151 : decode b_Mod_tokenize 151 = .ok (.i2l, 1) := by decide +kernel
theorem d_Mod_tokenize_152 : decode b_Mod_tokenize 152 = .ok (.ladd, 1) := by decide +kernel
theorem d_Mod_tokenize_153 : decode b_Mod_tokenize 153 = .ok (.ldc2_w 81, 3) := by decide +kernel
theorem d_Mod_tokenize_156 : decode b_Mod_tokenize 156 = .ok (.lsub, 1) := by decide +kernel
theorem d_Mod_tokenize_157 : decode b_Mod_tokenize 157 = .ok (.goto 5, 3) := by decide +kernel
theorem d_Mod_tokenize_160 : decode b_Mod_tokenize 160 = .ok (.lload 5, 2) := by decide +kernel
theorem d_Mod_tokenize_162 : decode b_Mod_tokenize 162 = .ok (.lstore 5, 2) := by decide +kernel
theorem d_Mod_tokenize_164 : decode b_Mod_tokenize 164 = .ok (.iinc 1 1, 3) := by decide +kernel
theorem d_Mod_tokenize_167 : decode b_Mod_tokenize 167 = .ok (.goto (-46), 3) := by decide +kernel
theorem d_Mod_tokenize_170 : decode b_Mod_tokenize 170 = .ok (.iload_n 1, 1) := by decide +kernel
theorem d_Mod_tokenize_171 : decode b_Mod_tokenize 171 = .ok (.iload_n 3, 1) := by decide +kernel
theorem d_Mod_tokenize_172 : decode b_Mod_tokenize 172 = .ok (.isub, 1) := by decide +kernel
theorem d_Mod_tokenize_173 : decode b_Mod_tokenize 173 = .ok (.bipush 10, 2) := by decide +kernel
theorem d_Mod_tokenize_175 : decode b_Mod_tokenize 175 = .ok (.if_icmp .le 7, 3) := by decide +kernel
theorem d_Mod_tokenize_178 : decode b_Mod_tokenize 178 = .ok (.iconst 4, 1) := by decide +kernel
theorem d_Mod_tokenize_179 : decode b_Mod_tokenize 179 = .ok (.goto 4, 3) := by decide +kernel
theorem d_Mod_tokenize_182 : decode b_Mod_tokenize 182 = .ok (.iconst 2, 1) := by decide +kernel
theorem d_Mod_tokenize_183 : decode b_Mod_tokenize 183 = .ok (.istore 7, 2) := by decide +kernel
theorem d_Mod_tokenize_185 : decode b_Mod_tokenize 185 = .ok (.goto 81, 3) := by decide +kernel
theorem d_Mod_tokenize_188 : decode b_Mod_tokenize 188 = .ok (.iload 4, 2) := by decide +kernel
theorem d_Mod_tokenize_190 : decode b_Mod_tokenize 190 = .ok (.invokestatic 83, 3) := by decide +kernel
theorem d_Mod_tokenize_193 : decode b_Mod_tokenize 193 = .ok (.ifCond .eq 73, 3) := by decide +kernel
theorem d_Mod_tokenize_196 : decode b_Mod_tokenize 196 = .ok (.aload_n 0, 1) := by decide +kernel
theorem d_Mod_tokenize_197 : decode b_Mod_tokenize 197 = .ok (.iload_n 1, 1) := by decide +kernel
theorem d_Mod_tokenize_198 : decode b_Mod_tokenize 198 = .ok (.invokevirtual 75, 3) := by decide +kernel
theorem d_Mod_tokenize_201 : decode b_Mod_tokenize 201 = .ok (.invokestatic 83, 3) := by decide +kernel
theorem d_Mod_tokenize_204 : decode b_Mod_tokenize 204 = .ok (.ifCond .ne 14, 3) := by decide +kernel
theorem d_Mod_tokenize_207 : decode b_Mod_tokenize 207 = .ok (.aload_n 0, 1) := by decide +kernel
theorem d_Mod_tokenize_208 : decode b_Mod_tokenize 208 = .ok (.iload_n 1, 1) := by decide +kernel
theorem d_Mod_tokenize_209 : decode b_Mod_tokenize 209 = .ok (.invokevirtual 75, 3) := by decide +kernel
theorem d_Mod_tokenize_212 : decode b_Mod_tokenize 212 = .ok (.invokestatic 71, 3) := by decide +kernel
theorem d_Mod_tokenize_215 : decode b_Mod_tokenize 215 = .ok (.ifCond .eq 36, 3) := by decide +kernel
theorem d_Mod_tokenize_218 : decode b_Mod_tokenize 218 = .ok (.iload_n 1, 1) := by decide +kernel
theorem d_Mod_tokenize_219 : decode b_Mod_tokenize 219 = .ok (.iload_n 3, 1) := by decide +kernel
theorem d_Mod_tokenize_220 : decode b_Mod_tokenize 220 = .ok (.isub, 1) := by decide +kernel
theorem d_Mod_tokenize_221 : decode b_Mod_tokenize 221 = .ok (.bipush 6, 2) := by decide +kernel
theorem d_Mod_tokenize_223 : decode b_Mod_tokenize 223 = .ok (.if_icmp .ge 18, 3) := by decide +kernel
theorem d_Mod_tokenize_226 : decode b_Mod_tokenize 226 = .ok (.lload 5, 2) := by decide +kernel
theorem d_Mod_tokenize_228 : decode b_Mod_tokenize 228 = .ok (.bipush 8, 2) := by decide +kernel
theorem d_Mod_tokenize_230 : decode b_Mod_tokenize 230 = .ok (.lshl, 1) := by decide +kernel
theorem d_Mod_tokenize_231 : decode b_Mod_tokenize 231 = .ok (.aload_n 0, 1) := by decide +kernel
theorem d_Mod_tokenize_232 : decode b_Mod_tokenize 232 = .ok (.iload_n 1, 1) := by decide +kernel
theorem d_Mod_tokenize_233 : decode b_Mod_tokenize 233 = .ok (.invokevirtual 75, 3) := by decide +kernel
theorem d_Mod_tokenize_236 : decode b_Mod_tokenize 236 = .ok (.i2l, 1) := by decide +kernel
theorem d_Mod_tokenize_237 : decode b_Mod_tokenize 237 = .ok (.lor, 1) := by decide +kernel
theorem d_Mod_tokenize_238 : decode b_Mod_tokenize 238 = .ok (.goto 5, 3) := by decide +kernel
theorem d_Mod_tokenize_241 : decode b_Mod_tokenize 241 = .ok (.lload 5, 2) := by decide +kernel
theorem d_Mod_tokenize_243 : decode b_Mod_tokenize 243 = .ok (.lstore 5, 2) := by decide +kernel
theorem d_Mod_tokenize_245 : decode b_Mod_tokenize 245 = .ok (.iinc 1 1, 3) := by decide +kernel
theorem d_Mod_tokenize_248 : decode b_Mod_tokenize 248 = .ok (.goto (-52), 3) := by decide +kernel
theorem d_Mod_tokenize_251 : decode b_Mod_tokenize 251 = .ok (.iload_n 1, 1) := by decide +kernel
theorem d_Mod_tokenize_252 : decode b_Mod_tokenize 252 = .ok (.iload_n 3, 1) := by decide +kernel
theorem d_Mod_tokenize_253 : decode b_Mod_tokenize 253 = .ok (.isub, 1) := by decide +kernel
theorem d_Mod_tokenize_254 : decode b_Mod_tokenize 254 = .ok (.bipush 6, 2) := by decide +kernel
theorem d_Mod_tokenize_256 : decode b_Mod_tokenize 256 = .ok (.if_icmp .le 7, 3) := by decide +kernel
theorem d_Mod_tokenize_259 : decode b_Mod_tokenize 259 = .ok (.iconst 4, 1) := by decide +kernel
theorem d_Mod_tokenize_260 : decode b_Mod_tokenize 260 = .ok (.goto 4, 3) := by decide +kernel
theorem d_Mod_tokenize_263 : decode b_Mod_tokenize 263 = .ok (.iconst 1, 1) := by decide +kernel
theorem d_Mod_tokenize_264 : decode b_Mod_tokenize 264 = .ok (.istore 7, 2) := by decide +kernel
theorem d_Mod_tokenize_266 : decode b_Mod_tokenize 266 = .ok (.aload_n 0, 1) := by decide +kernel
theorem d_Mod_tokenize_267 : decode b_Mod_tokenize 267 = .ok (.iload 7, 2) := by decide +kernel
theorem d_Mod_tokenize_269 : decode b_Mod_tokenize 269 = .ok (.iload_n 3, 1) := by decide +kernel
theorem d_Mod_tokenize_270 : decode b_Mod_tokenize 270 = .ok (.lload 5, 2) := by decide +kernel
theorem d_Mod_tokenize_272 : decode b_Mod_tokenize 272 = .ok (.invokevirtual 86, 3) := by decide +kernel
theorem d_Mod_tokenize_275 : decode b_Mod_tokenize 275 = .ok (.iload 7, 2) := by decide +kernel
theorem d_Mod_tokenize_277 : decode b_Mod_tokenize 277 = .ok (.iconst 4, 1) := by decide +kernel
theorem d_Mod_tokenize_278 : decode b_Mod_tokenize 278 = .ok (.if_icmp .eq 7, 3) := by decide +kernel
theorem d_Mod_tokenize_281 : decode b_Mod_tokenize 281 = .ok (.iconst 1, 1) := by decide +kernel
theorem d_Mod_tokenize_282 : decode b_Mod_tokenize 282 = .ok (.goto 4, 3) := by decide +kernel
theorem d_Mod_tokenize_285 : decode b_Mod_tokenize 285 = .ok (.iconst 0, 1) := by decide +kernel
theorem d_Mod_tokenize_286 : decode b_Mod_tokenize 286 = .ok (.istore_n 2, 1) := by decide +kernel
theorem d_Mod_tokenize_287 : decode b_Mod_tokenize 287 = .ok (.goto (-278), 3) := by decide +kernel
theorem d_Mod_tokenize_290 : decode b_Mod_tokenize 290 = .ok (.aload_n 0, 1) := by decide +kernel
theorem d_Mod_tokenize_291 : decode b_Mod_tokenize 291 = .ok (.iconst 0, 1) := by decide +kernel
theorem d_Mod_tokenize_292 : decode b_Mod_tokenize 292 = .ok (.aload_n 0, 1) := by decide +kernel
theorem d_Mod_tokenize_293 : decode b_Mod_tokenize 293 = .ok (.getfield 63, 3) := by decide +kernel
theorem d_Mod_tokenize_296 : decode b_Mod_tokenize 296 = .ok (.lconst 0, 1) := by decide +kernel
theorem d_Mod_tokenize_297 : decode b_Mod_tokenize 297 = .ok (.invokevirtual 86, 3) := by decide +kernel
theorem d_Mod_tokenize_300 : decode b_Mod_tokenize 300 = .ok (.return_, 1) := by decide +kernel
theorem d_Mod_wn1_0 : decode b_Mod_wn1 0 = .ok (.aload_n 0, 1) := by decide +kernel
theorem d_Mod_wn1_1 : decode b_Mod_wn1 1 = .ok (.getfield 96, 3) := by decide +kernel
theorem d_Mod_wn1_4 : decode b_Mod_wn1 4 = .ok (.istore_n 3, 1) := by decide +kernel
theorem d_Mod_wn1_5 : decode b_Mod_wn1 5 = .ok (.iload_n 2, 1) := by decide +kernel
theorem d_Mod_wn1_6 : decode b_Mod_wn1 6 = .ok (.ifCond .ne 16, 3) := by decide +kernel
theorem d_Mod_wn1_9 : decode b_Mod_wn1 9 = .ok (.aload_n 0, 1) := by decide +kernel
theorem d_Mod_wn1_10 : decode b_Mod_wn1 10 = .ok (.bipush 45, 2) := by decide +kernel
theorem d_Mod_wn1_12 : decode b_Mod_wn1 12 = .ok (.invokevirtual 118, 3) := by decide +kernel
theorem d_Mod_wn1_15 : decode b_Mod_wn1 15 = .ok (.ifCond .eq 7, 3) := by decide +kernel
theorem d_Mod_wn1_18 : decode b_Mod_wn1 18 = .ok (.iconst 1, 1) := by decide +kernel
theorem d_Mod_wn1_19 : decode b_Mod_wn1 19 = .ok (.goto 4, 3) := by decide +kernel
theorem d_Mod_wn1_22 : decode b_Mod_wn1 22 = .ok (.iconst 0, 1) := by decide +kernel
theorem d_Mod_wn1_23 : decode b_Mod_wn1 23 = .ok (.istore 4, 2) := by decide +kernel
theorem d_Mod_wn1_25 : decode b_Mod_wn1 25 = .ok (.iload 4, 2) := by decide +kernel
theorem d_Mod_wn1_27 : decode b_Mod_wn1 27 = .ok (.ifCond .eq 13, 3) := by decide +kernel
theorem d_Mod_wn1_30 : decode b_Mod_wn1 30 = .ok (.aload_n 0, 1) := by decide +kernel
theorem d_Mod_wn1_31 : decode b_Mod_wn1 31 = .ok (.dup, 1) := by decide +kernel
theorem d_Mod_wn1_32 : decode b_Mod_wn1 32 = .ok (.getfield 96, 3) := by decide +kernel
theorem d_Mod_wn1_35 : decode b_Mod_wn1 35 = .ok (.iconst 1, 1) := by decide +kernel
theorem d_Mod_wn1_36 : decode b_Mod_wn1 36 = .ok (.iadd, 1) := by decide +kernel
theorem d_Mod_wn1_37 : decode b_Mod_wn1 37 = .ok (.putfield 96, 3) := by decide +kernel
theorem d_Mod_wn1_40 : decode b_Mod_wn1 40 = .ok (.iload_n 2, 1) := by decide +kernel
theorem d_Mod_wn1_41 : decode b_Mod_wn1 41 = .ok (.ifCond .ne 79, 3) := by decide +kernel
theorem d_Mod_wn1_44 : decode b_Mod_wn1 44 = .ok (.iload 4, 2) := by decide +kernel
theorem d_Mod_wn1_46 : decode b_Mod_wn1 46 = .ok (.ifCond .ne 74, 3) := by decide +kernel
theorem d_Mod_wn1_49 : decode b_Mod_wn1 49 = .ok (.aload_n 0, 1) := by decide +kernel
theorem d_Mod_wn1_50 : decode b_Mod_wn1 50 = .ok (.getfield 13, 3) := by decide +kernel
theorem d_Mod_wn1_53 : decode b_Mod_wn1 53 = .ok (.aload_n 0, 1) := by decide +kernel
theorem d_Mod_wn1_54 : decode b_Mod_wn1 54 = .ok (.getfield 96, 3) := by decide +kernel
theorem d_Mod_wn1_57 : decode b_Mod_wn1 57 = .ok (.iaload, 1) := by decide +kernel
theorem d_Mod_wn1_58 : decode b_Mod_wn1 58 = .ok (.iconst 1, 1) := by decide +kernel
theorem d_Mod_wn1_59 : decode b_Mod_wn1 59 = .ok (.if_icmp .ne 61, 3) := by decide +kernel
theorem d_Mod_wn1_62 : decode b_Mod_wn1 62 = .ok (.aload_n 0, 1) := by decide +kernel
theorem d_Mod_wn1_63 : decode b_Mod_wn1 63 = .ok (.getfield 35, 3) := by decide +kernel
theorem d_Mod_wn1_66 : decode b_Mod_wn1 66 = .ok (.aload_n 0, 1) := by decide +kernel
theorem d_Mod_wn1_67 : decode b_Mod_wn1 67 = .ok (.getfield 121, 3) := by decide +kernel
theorem d_Mod_wn1_70 : decode b_Mod_wn1 70 = .ok (.iload_n 1, 1) := by decide +kernel
theorem d_Mod_wn1_71 : decode b_Mod_wn1 71 = .ok (.iastore, 1) := by decide +kernel
theorem d_Mod_wn1_72 : decode b_Mod_wn1 72 = .ok (.aload_n 0, 1) := by decide +kernel
theorem d_Mod_wn1_73 : decode b_Mod_wn1 73 = .ok (.getfield 38, 3) := by decide +kernel
theorem d_Mod_wn1_76 : decode b_Mod_wn1 76 = .ok (.aload_n 0, 1) := by decide +kernel
theorem d_Mod_wn1_77 : decode b_Mod_wn1 77 = .ok (.getfield 121, 3) := by decide +kernel
theorem d_Mod_wn1_80 : decode b_Mod_wn1 80 = .ok (.aload_n 0, 1) := by decide +kernel
theorem d_Mod_wn1_81 : decode b_Mod_wn1 81 = .ok (.getfield 19, 3) := by decide +kernel
theorem d_Mod_wn1_84 : decode b_Mod_wn1 84 = .ok (.aload_n 0, 1) := by decide +kernel
theorem d_Mod_wn1_85 : decode b_Mod_wn1 85 = .ok (.getfield 96, 3) := by decide +kernel
theorem d_Mod_wn1_88 : decode b_Mod_wn1 88 = .ok (.laload, 1) := by decide +kernel
theorem d_Mod_wn1_89 : decode b_Mod_wn1 89 = .ok (.lastore, 1) := by decide +kernel
theorem d_Mod_wn1_90 : decode b_Mod_wn1 90 = .ok (.aload_n 0, 1) := by decide +kernel
theorem d_Mod_wn1_91 : decode b_Mod_wn1 91 = .ok (.getfield 41, 3) := by decide +kernel
theorem d_Mod_wn1_94 : decode b_Mod_wn1 94 = .ok (.aload_n 0, 1) := by decide +kernel
theorem d_Mod_wn1_95 : decode b_Mod_wn1 95 = .ok (.getfield 121, 3) := by decide +kernel
theorem d_Mod_wn1_98 : decode b_Mod_wn1 98 = .ok (.aload_n 0, 1) := by decide +kernel
theorem d_Mod_wn1_99 : decode b_Mod_wn1 99 = .ok (.getfield 16, 3) := by decide +kernel
theorem d_Mod_wn1_102 : decode b_Mod_wn1 102 = .ok (.aload_n 0, 1) := by decide +kernel
theorem d_Mod_wn1_103 : decode b_Mod_wn1 103 = .ok (.getfield 96, 3) := by decide +kernel
theorem d_Mod_wn1_106 : decode b_Mod_wn1 106 = .ok (.iaload, 1) := by decide +kernel
theorem d_Mod_wn1_107 : decode b_Mod_wn1 107 = .ok (.iastore, 1) := by decide +kernel
theorem d_Mod_wn1_108 : decode b_Mod_wn1 108 = .ok (.aload_n 0, 1) := by decide +kernel
theorem d_Mod_wn1_109 : decode b_Mod_wn1 109 = .ok (.dup, 1) := by decide +kernel
theorem d_Mod_wn1_110 : decode b_Mod_wn1 110 = .ok (.getfield 96, 3) := by decide +kernel
theorem d_Mod_wn1_113 : decode b_Mod_wn1 113 = .ok (.iconst 1, 1) := by decide +kernel
theorem d_Mod_wn1_114 : decode b_Mod_wn1 114 = .ok (.iadd, 1) := by decide +kernel
theorem d_Mod_wn1_115 : decode b_Mod_wn1 115 = .ok (.putfield 96, 3) := by decide +kernel
theorem d_Mod_wn1_118 : decode b_Mod_wn1 118 = .ok (.iconst 1, 1) := by decide +kernel
theorem d_Mod_wn1_119 : decode b_Mod_wn1 119 = .ok (.ireturn, 1) := by decide +kernel
theorem d_Mod_wn1_120 : decode b_Mod_wn1 120 = .ok (.aload_n 0, 1) := by decide +kernel
theorem d_Mod_wn1_121 : decode b_Mod_wn1 121 = .ok (.getfield 13, 3) := by decide +kernel
theorem d_Mod_wn1_124 : decode b_Mod_wn1 124 = .ok (.aload_n 0, 1) := by decide +kernel
theorem d_Mod_wn1_125 : decode b_Mod_wn1 125 = .ok (.getfield 96, 3) := by decide +kernel
theorem d_Mod_wn1_128 : decode b_Mod_wn1 128 = .ok (.iaload, 1) := by decide +kernel
theorem d_Mod_wn1_129 : decode b_Mod_wn1 129 = .ok (.iconst 2, 1) := by decide +kernel
theorem d_Mod_wn1_130 : decode b_Mod_wn1 130 = .ok (.if_icmp .eq 8, 3) := by decide +kernel
theorem d_Mod_wn1_133 : decode b_Mod_wn1 133 = .ok (.aload_n 0, 1) := by decide +kernel
theorem d_Mod_wn1_134 : decode b_Mod_wn1 134 = .ok (.invokevirtual 103, 3) := by decide +kernel

theorem d_Mod_named_43 : decode b_Mod_named 43 = .ok (.ifCond .ne 8, 3) := by decide +kernel
theorem d_Mod_named_46 : decode b_Mod_named 46 = .ok (.lload 5, 2) := by decide +kernel
theorem d_Mod_named_48 : decode b_Mod_named 48 = .ok (.goto 11, 3) := by decide +kernel
theorem d_Mod_named_51 : decode b_Mod_named 51 = .ok (.lload 5, 2) := by decide +kernel
theorem d_Mod_named_53 : decode b_Mod_named 53 = .ok (.bipush 8, 2) := by decide +kernel
theorem d_Mod_named_55 : decode b_Mod_named 55 = .ok (.lshl, 1) := by decide +kernel
theorem d_Mod_named_56 : decode b_Mod_named 56 = .ok (.iload_n 3, 1) := by decide +kernel
theorem d_Mod_named_57 : decode b_Mod_named 57 = .ok (.i2l, 1) := by decide +kernel
theorem d_Mod_named_58 : decode b_Mod_named 58 = .ok (.lor, 1) := by decide +kernel
theorem d_Mod_named_59 : decode b_Mod_named 59 = .ok (.lstore 5, 2) := by decide +kernel
theorem d_Mod_named_61 : decode b_Mod_named 61 = .ok (.iload 4, 2) := by decide +kernel
theorem d_Mod_named_63 : decode b_Mod_named 63 = .ok (.ifCond .ne 8, 3) := by decide +kernel
theorem d_Mod_named_66 : decode b_Mod_named 66 = .ok (.lload 5, 2) := by decide +kernel
theorem d_Mod_named_68 : decode b_Mod_named 68 = .ok (.goto 12, 3) := by decide +kernel
theorem d_Mod_named_71 : decode b_Mod_named 71 = .ok (.lload 5, 2) := by decide +kernel
theorem d_Mod_named_73 : decode b_Mod_named 73 = .ok (.bipush 8, 2) := by decide +kernel
theorem d_Mod_named_75 : decode b_Mod_named 75 = .ok (.lshl, 1) := by decide +kernel
theorem d_Mod_named_76 : decode b_Mod_named 76 = .ok (.iload 4, 2) := by decide +kernel
theorem d_Mod_named_78 : decode b_Mod_named 78 = .ok (.i2l, 1) := by decide +kernel
theorem d_Mod_named_79 : decode b_Mod_named 79 = .ok (.lor, 1) := by decide +kernel
theorem d_Mod_named_80 : decode b_Mod_named 80 = .ok (.lreturn, 1) := by decide +kernel
theorem d_Mod_opOf_0 : decode b_Mod_opOf 0 = .ok (.lload_n 0, 1) := by decide +kernel
theorem d_Mod_opOf_1 : decode b_Mod_opOf 1 = .ok (.bipush 104, 2) := by decide +kernel
theorem d_Mod_opOf_3 : decode b_Mod_opOf 3 = .ok (.bipush 97, 2) := by decide +kernel
theorem d_Mod_opOf_5 : decode b_Mod_opOf 5 = .ok (.bipush 108, 2) := by decide +kernel
theorem d_Mod_opOf_7 : decode b_Mod_opOf 7 = .ok (.bipush 116, 2) := by decide +kernel
theorem d_Mod_opOf_9 : decode b_Mod_opOf 9 = .ok (.iconst 0, 1) := by decide +kernel
theorem d_Mod_opOf_10 : decode b_Mod_opOf 10 = .ok (.invokestatic 107, 3) := by decide +kernel
theorem d_Mod_opOf_13 : decode b_Mod_opOf 13 = .ok (.lcmp, 1) := by decide +kernel
theorem d_Mod_opOf_14 : decode b_Mod_opOf 14 = .ok (.ifCond .ne 5, 3) := by decide +kernel
theorem d_Mod_opOf_17 : decode b_Mod_opOf 17 = .ok (.iconst 0, 1) := by decide +kernel
theorem d_Mod_opOf_18 : decode b_Mod_opOf 18 = .ok (.ireturn, 1) := by decide +kernel
theorem d_Mod_opOf_19 : decode b_Mod_opOf 19 = .ok (.lload_n 0, 1) := by decide +kernel
theorem d_Mod_opOf_20 : decode b_Mod_opOf 20 = .ok (.bipush 97, 2) := by decide +kernel
theorem d_Mod_opOf_22 : decode b_Mod_opOf 22 = .ok (.bipush 100, 2) := by decide +kernel
theorem d_Mod_opOf_24 : decode b_Mod_opOf 24 = .ok (.bipush 100, 2) := by decide +kernel
theorem d_Mod_opOf_26 : decode b_Mod_opOf 26 = .ok (.bipush 105, 2) := by decide +kernel
theorem d_Mod_opOf_28 : decode b_Mod_opOf 28 = .ok (.iconst 0, 1) := by decide +kernel
theorem d_Mod_opOf_29 : decode b_Mod_opOf 29 = .ok (.invokestatic 107, 3) := by decide +kernel
theorem d_Mod_opOf_32 : decode b_Mod_opOf 32 = .ok (.lcmp, 1) := by decide +kernel
theorem d_Mod_opOf_33 : decode b_Mod_opOf 33 = .ok (.ifCond .ne 5, 3) := by decide +kernel
theorem d_Mod_opOf_36 : decode b_Mod_opOf 36 = .ok (.iconst 1, 1) := by decide +kernel
theorem d_Mod_opOf_37 : decode b_Mod_opOf 37 = .ok (.ireturn, 1) := by decide +kernel
theorem d_Mod_opOf_38 : decode b_Mod_opOf 38 = .ok (.lload_n 0, 1) := by decide +kernel
theorem d_Mod_opOf_39 : decode b_Mod_opOf 39 = .ok (.bipush 97, 2) := by decide +kernel
theorem d_Mod_opOf_41 : decode b_Mod_opOf 41 = .ok (.bipush 100, 2) := by decide +kernel
theorem d_Mod_opOf_43 : decode b_Mod_opOf 43 = .ok (.bipush 100, 2) := by decide +kernel
theorem d_Mod_opOf_45 : decode b_Mod_opOf 45 = .ok (.iconst 0, 1) := by decide +kernel
theorem d_Mod_opOf_46 : decode b_Mod_opOf 46 = .ok (.iconst 0, 1) := by decide +kernel
theorem d_Mod_opOf_47 : decode b_Mod_opOf 47 = .ok (.invokestatic 107, 3) := by decide +kernel
theorem d_Mod_opOf_50 : decode b_Mod_opOf 50 = .ok (.lcmp, 1) := by decide +kernel
theorem d_Mod_opOf_51 : decode b_Mod_opOf 51 = .ok (.ifCond .ne 5, 3) := by decide +kernel
theorem d_Mod_opOf_54 : decode b_Mod_opOf 54 = .ok (.iconst 2, 1) := by decide +kernel
theorem d_Mod_opOf_55 : decode b_Mod_opOf 55 = .ok (.ireturn, 1) := by decide +kernel
theorem d_Mod_opOf_56 : decode b_Mod_opOf 56 = .ok (.lload_n 0, 1) := by decide +kernel
theorem d_Mod_opOf_57 : decode b_Mod_opOf 57 = .ok (.bipush 115, 2) := by decide +kernel
theorem d_Mod_opOf_59 : decode b_Mod_opOf 59 = .ok (.bipush 117, 2) := by decide +kernel
theorem d_Mod_opOf_61 : decode b_Mod_opOf 61 = .ok (.bipush 98, 2) := by decide +kernel
theorem d_Mod_opOf_63 : decode b_Mod_opOf 63 = .ok (.iconst 0, 1) := by decide +kernel
theorem d_Mod_opOf_64 : decode b_Mod_opOf 64 = .ok (.iconst 0, 1) := by decide +kernel
theorem d_Mod_opOf_65 : decode b_Mod_opOf 65 = .ok (.invokestatic 107, 3) := by decide +kernel
theorem d_Mod_opOf_68 : decode b_Mod_opOf 68 = .ok (.lcmp, 1) := by decide +kernel
theorem d_Mod_opOf_69 : decode b_Mod_opOf 69 = .ok (.ifCond .ne 5, 3) := by decide +kernel
theorem d_Mod_opOf_72 : decode b_Mod_opOf 72 = .ok (.iconst 3, 1) := by decide +kernel
theorem d_Mod_opOf_73 : decode b_Mod_opOf 73 = .ok (.ireturn, 1) := by decide +kernel
theorem d_Mod_opOf_74 : decode b_Mod_opOf 74 = .ok (.lload_n 0, 1) := by decide +kernel
theorem d_Mod_opOf_75 : decode b_Mod_opOf 75 = .ok (.bipush 97, 2) := by decide +kernel
theorem d_Mod_opOf_77 : decode b_Mod_opOf 77 = .ok (.bipush 110, 2) := by decide +kernel
theorem d_Mod_opOf_79 : decode b_Mod_opOf 79 = .ok (.bipush 100, 2) := by decide +kernel
theorem d_Mod_opOf_81 : decode b_Mod_opOf 81 = .ok (.iconst 0, 1) := by decide +kernel
theorem d_Mod_opOf_82 : decode b_Mod_opOf 82 = .ok (.iconst 0, 1) := by decide +kernel
theorem d_Mod_opOf_83 : decode b_Mod_opOf 83 = .ok (.invokestatic 107, 3) := by decide +kernel
theorem d_Mod_opOf_86 : decode b_Mod_opOf 86 = .ok (.lcmp, 1) := by decide +kernel
theorem d_Mod_opOf_87 : decode b_Mod_opOf 87 = .ok (.ifCond .ne 5, 3) := by decide +kernel
theorem d_Mod_opOf_90 : decode b_Mod_opOf 90 = .ok (.iconst 4, 1) := by decide +kernel
theorem d_Mod_opOf_91 : decode b_Mod_opOf 91 = .ok (.ireturn, 1) := by decide +kernel
theorem d_Mod_opOf_92 : decode b_Mod_opOf 92 = .ok (.lload_n 0, 1) := by decide +kernel
theorem d_Mod_opOf_93 : decode b_Mod_opOf 93 = .ok (.bipush 111, 2) := by decide +kernel
theorem d_Mod_opOf_95 : decode b_Mod_opOf 95 = .ok (.bipush 114, 2) := by decide +kernel
theorem d_Mod_opOf_97 : decode b_Mod_opOf 97 = .ok (.iconst 0, 1) := by decide +kernel
theorem d_Mod_opOf_98 : decode b_Mod_opOf 98 = .ok (.iconst 0, 1) := by decide +kernel
theorem d_Mod_opOf_99 : decode b_Mod_opOf 99 = .ok (.iconst 0, 1) := by decide +kernel
theorem d_Mod_opOf_100 : decode b_Mod_opOf 100 = .ok (.invokestatic 107, 3) := by decide +kernel
theorem d_Mod_opOf_103 : decode b_Mod_opOf 103 = .ok (.lcmp, 1) := by decide +kernel
theorem d_Mod_opOf_104 : decode b_Mod_opOf 104 = .ok (.ifCond .ne 5, 3) := by decide +kernel
theorem d_Mod_opOf_107 : decode b_Mod_opOf 107 = .ok (.iconst 5, 1) := by decide +kernel
theorem d_Mod_opOf_108 : decode b_Mod_opOf 108 = .ok (.ireturn, 1) := by decide +kernel
theorem d_Mod_opOf_109 : decode b_Mod_opOf 109 = .ok (.lload_n 0, 1) := by decide +kernel
theorem d_Mod_opOf_110 : decode b_Mod_opOf 110 = .ok (.bipush 120, 2) := by decide +kernel
theorem d_Mod_opOf_112 : decode b_Mod_opOf 112 = .ok (.bipush 111, 2) := by decide +kernel
theorem d_Mod_opOf_114 : decode b_Mod_opOf 114 = .ok (.bipush 114, 2) := by decide +kernel
theorem d_Mod_opOf_116 : decode b_Mod_opOf 116 = .ok (.iconst 0, 1) := by decide +kernel
theorem d_Mod_opOf_117 : decode b_Mod_opOf 117 = .ok (.iconst 0, 1) := by decide +kernel
theorem d_Mod_opOf_118 : decode b_Mod_opOf 118 = .ok (.invokestatic 107, 3) := by decide +kernel
theorem d_Mod_opOf_121 : decode b_Mod_opOf 121 = .ok (.lcmp, 1) := by decide +kernel
theorem d_Mod_opOf_122 : decode b_Mod_opOf 122 = .ok (.ifCond .ne 6, 3) := by decide +kernel
theorem d_Mod_opOf_125 : decode b_Mod_opOf 125 = .ok (.bipush 6, 2) := by decide +kernel
theorem d_Mod_opOf_127 : decode b_Mod_opOf 127 = .ok (.ireturn, 1) := by decide +kernel
theorem d_Mod_opOf_128 : decode b_Mod_opOf 128 = .ok (.lload_n 0, 1) := by decide +kernel
theorem d_Mod_opOf_129 : decode b_Mod_opOf 129 = .ok (.bipush 115, 2) := by decide +kernel
theorem d_Mod_opOf_131 : decode b_Mod_opOf 131 = .ok (.bipush 108, 2) := by decide +kernel
theorem d_Mod_opOf_133 : decode b_Mod_opOf 133 = .ok (.bipush 116, 2) := by decide +kernel
theorem d_Mod_opOf_135 : decode b_Mod_opOf 135 = .ok (.iconst 0, 1) := by decide +kernel
theorem d_Mod_opOf_136 : decode b_Mod_opOf 136 = .ok (.iconst 0, 1) := by decide +kernel
theorem d_Mod_opOf_137 : decode b_Mod_opOf 137 = .ok (.invokestatic 107, 3) := by decide +kernel
theorem d_Mod_opOf_140 : decode b_Mod_opOf 140 = .ok (.lcmp, 1) := by decide +kernel
theorem d_Mod_opOf_141 : decode b_Mod_opOf 141 = .ok (.ifCond .ne 6, 3) := by decide +kernel
theorem d_Mod_opOf_144 : decode b_Mod_opOf 144 = .ok (.bipush 7, 2) := by decide +kernel
theorem d_Mod_opOf_146 : decode b_Mod_opOf 146 = .ok (.ireturn, 1) := by decide +kernel
theorem d_Mod_opOf_147 : decode b_Mod_opOf 147 = .ok (.lload_n 0, 1) := by decide +kernel
theorem d_Mod_opOf_148 : decode b_Mod_opOf 148 = .ok (.bipush 115, 2) := by decide +kernel
theorem d_Mod_opOf_150 : decode b_Mod_opOf 150 = .ok (.bipush 108, 2) := by decide +kernel
theorem d_Mod_opOf_152 : decode b_Mod_opOf 152 = .ok (.bipush 108, 2) := by decide +kernel
theorem d_Mod_opOf_154 : decode b_Mod_opOf 154 = .ok (.iconst 0, 1) := by decide +kernel
theorem d_Mod_opOf_155 : decode b_Mod_opOf 155 = .ok (.iconst 0, 1) := by decide +kernel
theorem d_Mod_opOf_156 : decode b_Mod_opOf 156 = .ok (.invokestatic 107, 3) := by decide +kernel
theorem d_Mod_opOf_159 : decode b_Mod_opOf 159 = .ok (.lcmp, 1) := by decide +kernel
theorem d_Mod_opOf_160 : decode b_Mod_opOf 160 = .ok (.ifCond .ne 6, 3) := by decide +kernel
theorem d_Mod_opOf_163 : decode b_Mod_opOf 163 = .ok (.bipush 8, 2) := by decide +kernel
theorem d_Mod_opOf_165 : decode b_Mod_opOf 165 = .ok (.ireturn, 1) := by decide +kernel
theorem d_Mod_opOf_166 : decode b_Mod_opOf 166 = .ok (.lload_n 0, 1) := by decide +kernel
theorem d_Mod_opOf_167 : decode b_Mod_opOf 167 = .ok (.bipush 115, 2) := by decide +kernel
theorem d_Mod_opOf_169 : decode b_Mod_opOf 169 = .ok (.bipush 114, 2) := by decide +kernel
theorem d_Mod_opOf_171 : decode b_Mod_opOf 171 = .ok (.bipush 97, 2) := by decide +kernel
theorem d_Mod_opOf_173 : decode b_Mod_opOf 173 = .ok (.iconst 0, 1) := by decide +kernel
theorem d_Mod_opOf_174 : decode b_Mod_opOf 174 = .ok (.iconst 0, 1) := by decide +kernel
theorem d_Mod_opOf_175 : decode b_Mod_opOf 175 = .ok (.invokestatic 107, 3) := by decide +kernel
theorem d_Mod_opOf_178 : decode b_Mod_opOf 178 = .ok (.lcmp, 1) := by decide +kernel
theorem d_Mod_opOf_179 : decode b_Mod_opOf 179 = .ok (.ifCond .ne 6, 3) := by decide +kernel
theorem d_Mod_opOf_182 : decode b_Mod_opOf 182 = .ok (.bipush 9, 2) := by decide +kernel
theorem d_Mod_opOf_184 : decode b_Mod_opOf 184 = .ok (.ireturn, 1) := by decide +kernel
theorem d_Mod_opOf_185 : decode b_Mod_opOf 185 = .ok (.lload_n 0, 1) := by decide +kernel
theorem d_Mod_opOf_186 : decode b_Mod_opOf 186 = .ok (.bipush 108, 2) := by decide +kernel
theorem d_Mod_opOf_188 : decode b_Mod_opOf 188 = .ok (.bipush 117, 2) := by decide +kernel
theorem d_Mod_opOf_190 : decode b_Mod_opOf 190 = .ok (.bipush 105, 2) := by decide +kernel
theorem d_Mod_opOf_192 : decode b_Mod_opOf 192 = .ok (.iconst 0, 1) := by decide +kernel
theorem d_Mod_opOf_193 : decode b_Mod_opOf 193 = .ok (.iconst 0, 1) := by decide +kernel
theorem d_Mod_opOf_194 : decode b_Mod_opOf 194 = .ok (.invokestatic 107, 3) := by decide +kernel
theorem d_Mod_opOf_197 : decode b_Mod_opOf 197 = .ok (.lcmp, 1) := by decide +kernel
theorem d_Mod_opOf_198 : decode b_Mod_opOf 198 = .ok (.ifCond .ne 6, 3) := by decide +kernel
theorem d_Mod_opOf_201 : decode b_Mod_opOf 201 = .ok (.bipush 10, 2) := by decide +kernel
theorem d_Mod_opOf_203 : decode b_Mod_opOf 203 = .ok (.ireturn, 1) := by decide +kernel
theorem d_Mod_opOf_204 : decode b_Mod_opOf 204 = .ok (.lload_n 0, 1) := by decide +kernel
theorem d_Mod_opOf_205 : decode b_Mod_opOf 205 = .ok (.bipush 108, 2) := by decide +kernel
theorem d_Mod_opOf_207 : decode b_Mod_opOf 207 = .ok (.bipush 119, 2) := by decide +kernel
theorem d_Mod_opOf_209 : decode b_Mod_opOf 209 = .ok (.iconst 0, 1) := by decide +kernel
theorem d_Mod_opOf_210 : decode b_Mod_opOf 210 = .ok (.iconst 0, 1) := by decide +kernel
theorem d_Mod_opOf_211 : decode b_Mod_opOf 211 = .ok (.iconst 0, 1) := by decide +kernel
theorem d_Mod_opOf_212 : decode b_Mod_opOf 212 = .ok (.invokestatic 107, 3) := by decide +kernel
theorem d_Mod_opOf_215 : decode b_Mod_opOf 215 = .ok (.lcmp, 1) := by decide +kernel
theorem d_Mod_opOf_216 : decode b_Mod_opOf 216 = .ok (.ifCond .ne 6, 3) := by decide +kernel
theorem d_Mod_opOf_219 : decode b_Mod_opOf 219 = .ok (.bipush 11, 2) := by decide +kernel
theorem d_Mod_opOf_221 : decode b_Mod_opOf 221 = .ok (.ireturn, 1) := by decide +kernel
theorem d_Mod_opOf_222 : decode b_Mod_opOf 222 = .ok (.lload_n 0, 1) := by decide +kernel
theorem d_Mod_opOf_223 : decode b_Mod_opOf 223 = .ok (.bipush 115, 2) := by decide +kernel
theorem d_Mod_opOf_225 : decode b_Mod_opOf 225 = .ok (.bipush 119, 2) := by decide +kernel
theorem d_Mod_opOf_227 : decode b_Mod_opOf 227 = .ok (.iconst 0, 1) := by decide +kernel
theorem d_Mod_opOf_228 : decode b_Mod_opOf 228 = .ok (.iconst 0, 1) := by decide +kernel
theorem d_Mod_opOf_229 : decode b_Mod_opOf 229 = .ok (.iconst 0, 1) := by decide +kernel
theorem d_Mod_opOf_230 : decode b_Mod_opOf 230 = .ok (.invokestatic 107, 3) := by decide +kernel
theorem d_Mod_opOf_233 : decode b_Mod_opOf 233 = .ok (.lcmp, 1) := by decide +kernel
theorem d_Mod_opOf_234 : decode b_Mod_opOf 234 = .ok (.ifCond .ne 6, 3) := by decide +kernel
theorem d_Mod_opOf_237 : decode b_Mod_opOf 237 = .ok (.bipush 12, 2) := by decide +kernel
theorem d_Mod_opOf_239 : decode b_Mod_opOf 239 = .ok (.ireturn, 1) := by decide +kernel
theorem d_Mod_opOf_240 : decode b_Mod_opOf 240 = .ok (.lload_n 0, 1) := by decide +kernel
theorem d_Mod_opOf_241 : decode b_Mod_opOf 241 = .ok (.bipush 98, 2) := by decide +kernel
theorem d_Mod_opOf_243 : decode b_Mod_opOf 243 = .ok (.bipush 101, 2) := by decide +kernel
theorem d_Mod_opOf_245 : decode b_Mod_opOf 245 = .ok (.bipush 113, 2) := by decide +kernel
theorem d_Mod_opOf_247 : decode b_Mod_opOf 247 = .ok (.iconst 0, 1) := by decide +kernel
theorem d_Mod_opOf_248 : decode b_Mod_opOf 248 = .ok (.iconst 0, 1) := by decide +kernel
theorem d_Mod_opOf_249 : decode b_Mod_opOf 249 = .ok (.invokestatic 107, 3) := by decide +kernel
theorem d_Mod_opOf_252 : decode b_Mod_opOf 252 = .ok (.lcmp, 1) := by decide +kernel
theorem d_Mod_opOf_253 : decode b_Mod_opOf 253 = .ok (.ifCond .ne 6, 3) := by decide +kernel
theorem d_Mod_opOf_256 : decode b_Mod_opOf 256 = .ok (.bipush 13, 2) := by decide +kernel
theorem d_Mod_opOf_258 : decode b_Mod_opOf 258 = .ok (.ireturn, 1) := by decide +kernel
theorem d_Mod_opOf_259 : decode b_Mod_opOf 259 = .ok (.lload_n 0, 1) := by decide +kernel
theorem d_Mod_opOf_260 : decode b_Mod_opOf 260 = .ok (.bipush 98, 2) := by decide +kernel
theorem d_Mod_opOf_262 : decode b_Mod_opOf 262 = .ok (.bipush 110, 2) := by decide +kernel
theorem d_Mod_opOf_264 : decode b_Mod_opOf 264 = .ok (.bipush 101, 2) := by decide +kernel
theorem d_Mod_opOf_266 : decode b_Mod_opOf 266 = .ok (.iconst 0, 1) := by decide +kernel
theorem d_Mod_opOf_267 : decode b_Mod_opOf 267 = .ok (.iconst 0, 1) := by decide +kernel
theorem d_Mod_opOf_268 : decode b_Mod_opOf 268 = .ok (.invokestatic 107, 3) := by decide +kernel
theorem d_Mod_opOf_271 : decode b_Mod_opOf 271 = .ok (.lcmp, 1) := by decide +kernel
theorem d_Mod_opOf_272 : decode b_Mod_opOf 272 = .ok (.ifCond .ne 6, 3) := by decide +kernel
theorem d_Mod_opOf_275 : decode b_Mod_opOf 275 = .ok (.bipush 14, 2) := by decide +kernel
theorem d_Mod_opOf_277 : decode b_Mod_opOf 277 = .ok (.ireturn, 1) := by decide +kernel
theorem d_Mod_opOf_278 : decode b_Mod_opOf 278 = .ok (.lload_n 0, 1) := by decide +kernel
theorem d_Mod_opOf_279 : decode b_Mod_opOf 279 = .ok (.bipush 98, 2) := by decide +kernel
theorem d_Mod_opOf_281 : decode b_Mod_opOf 281 = .ok (.bipush 108, 2) := by decide +kernel
theorem d_Mod_opOf_283 : decode b_Mod_opOf 283 = .ok (.bipush 116, 2) := by decide +kernel
theorem d_Mod_opOf_285 : decode b_Mod_opOf 285 = .ok (.iconst 0, 1) := by decide +kernel
theorem d_Mod_opOf_286 : decode b_Mod_opOf 286 = .ok (.iconst 0, 1) := by decide +kernel
theorem d_Mod_opOf_287 : decode b_Mod_opOf 287 = .ok (.invokestatic 107, 3) := by decide +kernel
theorem d_Mod_opOf_290 : decode b_Mod_opOf 290 = .ok (.lcmp, 1) := by decide +kernel
theorem d_Mod_opOf_291 : decode b_Mod_opOf 291 = .ok (.ifCond .ne 6, 3) := by decide +kernel
theorem d_Mod_opOf_294 : decode b_Mod_opOf 294 = .ok (.bipush 15, 2) := by decide +kernel
theorem d_Mod_opOf_296 : decode b_Mod_opOf 296 = .ok (.ireturn, 1) := by decide +kernel
theorem d_Mod_opOf_297 : decode b_Mod_opOf 297 = .ok (.lload_n 0, 1) := by decide +kernel
theorem d_Mod_opOf_298 : decode b_Mod_opOf 298 = .ok (.bipush 106, 2) := by decide +kernel
theorem d_Mod_opOf_300 : decode b_Mod_opOf 300 = .ok (.bipush 97, 2) := by decide +kernel
theorem d_Mod_opOf_302 : decode b_Mod_opOf 302 = .ok (.bipush 108, 2) := by decide +kernel
theorem d_Mod_opOf_304 : decode b_Mod_opOf 304 = .ok (.iconst 0, 1) := by decide +kernel
theorem d_Mod_opOf_305 : decode b_Mod_opOf 305 = .ok (.iconst 0, 1) := by decide +kernel
theorem d_Mod_opOf_306 : decode b_Mod_opOf 306 = .ok (.invokestatic 107, 3) := by decide +kernel
theorem d_Mod_opOf_309 : decode b_Mod_opOf 309 = .ok (.lcmp, 1) := by decide +kernel
theorem d_Mod_opOf_310 : decode b_Mod_opOf 310 = .ok (.ifCond .ne 6, 3) := by decide +kernel
theorem d_Mod_opOf_313 : decode b_Mod_opOf 313 = .ok (.bipush 16, 2) := by decide +kernel
theorem d_Mod_opOf_315 : decode b_Mod_opOf 315 = .ok (.ireturn, 1) := by decide +kernel
theorem d_Mod_opOf_316 : decode b_Mod_opOf 316 = .ok (.lload_n 0, 1) := by decide +kernel
theorem d_Mod_opOf_317 : decode b_Mod_opOf 317 = .ok (.bipush 106, 2) := by decide +kernel
theorem d_Mod_opOf_319 : decode b_Mod_opOf 319 = .ok (.bipush 97, 2) := by decide +kernel
theorem d_Mod_opOf_321 : decode b_Mod_opOf 321 = .ok (.bipush 108, 2) := by decide +kernel
theorem d_Mod_opOf_323 : decode b_Mod_opOf 323 = .ok (.bipush 114, 2) := by decide +kernel
theorem d_Mod_opOf_325 : decode b_Mod_opOf 325 = .ok (.iconst 0, 1) := by decide +kernel
theorem d_Mod_opOf_326 : decode b_Mod_opOf 326 = .ok (.invokestatic 107, 3) := by decide +kernel
theorem d_Mod_opOf_329 : decode b_Mod_opOf 329 = .ok (.lcmp, 1) := by decide +kernel
theorem d_Mod_opOf_330 : decode b_Mod_opOf 330 = .ok (.ifCond .ne 6, 3) := by decide +kernel
theorem d_Mod_opOf_333 : decode b_Mod_opOf 333 = .ok (.bipush 17, 2) := by decide +kernel
theorem d_Mod_opOf_335 : decode b_Mod_opOf 335 = .ok (.ireturn, 1) := by decide +kernel
theorem d_Mod_opOf_336 : decode b_Mod_opOf 336 = .ok (.lload_n 0, 1) := by decide +kernel
theorem d_Mod_opOf_337 : decode b_Mod_opOf 337 = .ok (.bipush 115, 2) := by decide +kernel
theorem d_Mod_opOf_339 : decode b_Mod_opOf 339 = .ok (.bipush 119, 2) := by decide +kernel
theorem d_Mod_opOf_341 : decode b_Mod_opOf 341 = .ok (.bipush 97, 2) := by decide +kernel
theorem d_Mod_opOf_343 : decode b_Mod_opOf 343 = .ok (.bipush 112, 2) := by decide +kernel
theorem d_Mod_opOf_345 : decode b_Mod_opOf 345 = .ok (.iconst 0, 1) := by decide +kernel
theorem d_Mod_opOf_346 : decode b_Mod_opOf 346 = .ok (.invokestatic 107, 3) := by decide +kernel
theorem d_Mod_opOf_349 : decode b_Mod_opOf 349 = .ok (.lcmp, 1) := by decide +kernel
theorem d_Mod_opOf_350 : decode b_Mod_opOf 350 = .ok (.ifCond .ne 6, 3) := by decide +kernel
theorem d_Mod_opOf_353 : decode b_Mod_opOf 353 = .ok (.bipush 18, 2) := by decide +kernel
theorem d_Mod_opOf_355 : decode b_Mod_opOf 355 = .ok (.ireturn, 1) := by decide +kernel
theorem d_Mod_opOf_356 : decode b_Mod_opOf 356 = .ok (.lload_n 0, 1) := by decide +kernel
theorem d_Mod_opOf_357 : decode b_Mod_opOf 357 = .ok (.bipush 102, 2) := by decide +kernel
theorem d_Mod_opOf_359 : decode b_Mod_opOf 359 = .ok (.bipush 97, 2) := by decide +kernel
theorem d_Mod_opOf_361 : decode b_Mod_opOf 361 = .ok (.bipush 100, 2) := by decide +kernel
theorem d_Mod_opOf_363 : decode b_Mod_opOf 363 = .ok (.bipush 100, 2) := by decide +kernel
theorem d_Mod_opOf_365 : decode b_Mod_opOf 365 = .ok (.iconst 0, 1) := by decide +kernel
theorem d_Mod_opOf_366 : decode b_Mod_opOf 366 = .ok (.invokestatic 107, 3) := by decide +kernel
theorem d_Mod_opOf_369 : decode b_Mod_opOf 369 = .ok (.lcmp, 1) := by decide +kernel
theorem d_Mod_opOf_370 : decode b_Mod_opOf 370 = .ok (.ifCond .ne 6, 3) := by decide +kernel
theorem d_Mod_opOf_373 : decode b_Mod_opOf 373 = .ok (.bipush 19, 2) := by decide +kernel
theorem d_Mod_opOf_375 : decode b_Mod_opOf 375 = .ok (.ireturn, 1) := by decide +kernel
theorem d_Mod_opOf_376 : decode b_Mod_opOf 376 = .ok (.lload_n 0, 1) := by decide +kernel
theorem d_Mod_opOf_377 : decode b_Mod_opOf 377 = .ok (.bipush 102, 2) := by decide +kernel
theorem d_Mod_opOf_379 : decode b_Mod_opOf 379 = .ok (.bipush 109, 2) := by decide +kernel
theorem d_Mod_opOf_381 : decode b_Mod_opOf 381 = .ok (.bipush 97, 2) := by decide +kernel
theorem d_Mod_opOf_383 : decode b_Mod_opOf 383 = .ok (.bipush 120, 2) := by decide +kernel
theorem d_Mod_opOf_385 : decode b_Mod_opOf 385 = .ok (.iconst 0, 1) := by decide +kernel
theorem d_Mod_opOf_386 : decode b_Mod_opOf 386 = .ok (.invokestatic 107, 3) := by decide +kernel
theorem d_Mod_opOf_389 : decode b_Mod_opOf 389 = .ok (.lcmp, 1) := by decide +kernel
theorem d_Mod_opOf_390 : decode b_Mod_opOf 390 = .ok (.ifCond .ne 6, 3) := by decide +kernel
theorem d_Mod_opOf_393 : decode b_Mod_opOf 393 = .ok (.bipush 20, 2) := by decide +kernel
theorem d_Mod_opOf_395 : decode b_Mod_opOf 395 = .ok (.ireturn, 1) := by decide +kernel
theorem d_Mod_opOf_396 : decode b_Mod_opOf 396 = .ok (.lload_n 0, 1) := by decide +kernel
theorem d_Mod_opOf_397 : decode b_Mod_opOf 397 = .ok (.bipush 102, 2) := by decide +kernel
theorem d_Mod_opOf_399 : decode b_Mod_opOf 399 = .ok (.bipush 101, 2) := by decide +kernel
theorem d_Mod_opOf_401 : decode b_Mod_opOf 401 = .ok (.bipush 110, 2) := by decide +kernel
theorem d_Mod_opOf_403 : decode b_Mod_opOf 403 = .ok (.bipush 99, 2) := by decide +kernel
theorem d_Mod_opOf_405 : decode b_Mod_opOf 405 = .ok (.bipush 101, 2) := by decide +kernel
theorem d_Mod_opOf_407 : decode b_Mod_opOf 407 = .ok (.invokestatic 107, 3) := by decide +kernel
theorem d_Mod_opOf_410 : decode b_Mod_opOf 410 = .ok (.lcmp, 1) := by decide +kernel

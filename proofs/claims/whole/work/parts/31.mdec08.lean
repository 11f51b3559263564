theorem d_Mod_readLabels_77 : decode b_Mod_readLabels 77 = .ok (.aload_n 0, 1) := by decide +kernel
theorem d_Mod_readLabels_78 : decode b_Mod_readLabels 78 = .ok (.getfield 16, 3) := by decide +kernel
theorem d_Mod_readLabels_81 : decode b_Mod_readLabels 81 = .ok (.aload_n 0, 1) := by decide +kernel
theorem d_Mod_readLabels_82 : decode b_Mod_readLabels 82 = .ok (.getfield 96, 3) := by decide +kernel
theorem d_Mod_readLabels_85 : decode b_Mod_readLabels 85 = .ok (.iaload, 1) := by decide +kernel
theorem d_Mod_readLabels_86 : decode b_Mod_readLabels 86 = .ok (.invokevirtual 99, 3) := by decide +kernel
theorem d_Mod_readLabels_89 : decode b_Mod_readLabels 89 = .ok (.iinc 1 1, 3) := by decide +kernel
theorem d_Mod_readLabels_92 : decode b_Mod_readLabels 92 = .ok (.goto (-44), 3) := by decide +kernel
theorem d_Mod_readLabels_95 : decode b_Mod_readLabels 95 = .ok (.aload_n 0, 1) := by decide +kernel
theorem d_Mod_readLabels_96 : decode b_Mod_readLabels 96 = .ok (.getfield 23, 3) := by decide +kernel
theorem d_Mod_readLabels_99 : decode b_Mod_readLabels 99 = .ok (.aload_n 0, 1) := by decide +kernel
theorem d_Mod_readLabels_100 : decode b_Mod_readLabels 100 = .ok (.getfield 153, 3) := by decide +kernel
theorem d_Mod_readLabels_103 : decode b_Mod_readLabels 103 = .ok (.aload_n 0, 1) := by decide +kernel
theorem d_Mod_readLabels_104 : decode b_Mod_readLabels 104 = .ok (.getfield 19, 3) := by decide +kernel
theorem d_Mod_readLabels_107 : decode b_Mod_readLabels 107 = .ok (.aload_n 0, 1) := by decide +kernel
theorem d_Mod_readLabels_108 : decode b_Mod_readLabels 108 = .ok (.getfield 96, 3) := by decide +kernel
theorem d_Mod_readLabels_111 : decode b_Mod_readLabels 111 = .ok (.laload, 1) := by decide +kernel
theorem d_Mod_readLabels_112 : decode b_Mod_readLabels 112 = .ok (.lastore, 1) := by decide +kernel
theorem d_Mod_readLabels_113 : decode b_Mod_readLabels 113 = .ok (.aload_n 0, 1) := by decide +kernel
theorem d_Mod_readLabels_114 : decode b_Mod_readLabels 114 = .ok (.getfield 26, 3) := by decide +kernel
theorem d_Mod_readLabels_117 : decode b_Mod_readLabels 117 = .ok (.aload_n 0, 1) := by decide +kernel
theorem d_Mod_readLabels_118 : decode b_Mod_readLabels 118 = .ok (.getfield 153, 3) := by decide +kernel
theorem d_Mod_readLabels_121 : decode b_Mod_readLabels 121 = .ok (.aload_n 0, 1) := by decide +kernel
theorem d_Mod_readLabels_122 : decode b_Mod_readLabels 122 = .ok (.getfield 156, 3) := by decide +kernel
theorem d_Mod_readLabels_125 : decode b_Mod_readLabels 125 = .ok (.iastore, 1) := by decide +kernel
theorem d_Mod_readLabels_126 : decode b_Mod_readLabels 126 = .ok (.aload_n 0, 1) := by decide +kernel
theorem d_Mod_readLabels_127 : decode b_Mod_readLabels 127 = .ok (.dup, 1) := by decide +kernel
theorem d_Mod_readLabels_128 : decode b_Mod_readLabels 128 = .ok (.getfield 153, 3) := by decide +kernel
theorem d_Mod_readLabels_131 : decode b_Mod_readLabels 131 = .ok (.iconst 1, 1) := by decide +kernel
theorem d_Mod_readLabels_132 : decode b_Mod_readLabels 132 = .ok (.iadd, 1) := by decide +kernel
theorem d_Mod_readLabels_133 : decode b_Mod_readLabels 133 = .ok (.putfield 153, 3) := by decide +kernel
theorem d_Mod_readLabels_136 : decode b_Mod_readLabels 136 = .ok (.aload_n 0, 1) := by decide +kernel
theorem d_Mod_readLabels_137 : decode b_Mod_readLabels 137 = .ok (.dup, 1) := by decide +kernel
theorem d_Mod_readLabels_138 : decode b_Mod_readLabels 138 = .ok (.getfield 96, 3) := by decide +kernel
theorem d_Mod_readLabels_141 : decode b_Mod_readLabels 141 = .ok (.iconst 2, 1) := by decide +kernel
theorem d_Mod_readLabels_142 : decode b_Mod_readLabels 142 = .ok (.iadd, 1) := by decide +kernel
theorem d_Mod_readLabels_143 : decode b_Mod_readLabels 143 = .ok (.putfield 96, 3) := by decide +kernel
theorem d_Mod_readLabels_146 : decode b_Mod_readLabels 146 = .ok (.goto (-146), 3) := by decide +kernel
theorem d_Mod_readLabels_149 : decode b_Mod_readLabels 149 = .ok (.iconst 1, 1) := by decide +kernel
theorem d_Mod_readLabels_150 : decode b_Mod_readLabels 150 = .ok (.ireturn, 1) := by decide +kernel
theorem d_Mod_readStatement_0 : decode b_Mod_readStatement 0 = .ok (.aload_n 0, 1) := by decide +kernel
theorem d_Mod_readStatement_1 : decode b_Mod_readStatement 1 = .ok (.invokevirtual 159, 3) := by decide +kernel
theorem d_Mod_readStatement_4 : decode b_Mod_readStatement 4 = .ok (.pop, 1) := by decide +kernel
theorem d_Mod_readStatement_5 : decode b_Mod_readStatement 5 = .ok (.aload_n 0, 1) := by decide +kernel
theorem d_Mod_readStatement_6 : decode b_Mod_readStatement 6 = .ok (.getfield 13, 3) := by decide +kernel
theorem d_Mod_readStatement_9 : decode b_Mod_readStatement 9 = .ok (.aload_n 0, 1) := by decide +kernel
theorem d_Mod_readStatement_10 : decode b_Mod_readStatement 10 = .ok (.getfield 96, 3) := by decide +kernel
theorem d_Mod_readStatement_13 : decode b_Mod_readStatement 13 = .ok (.iaload, 1) := by decide +kernel
theorem d_Mod_readStatement_14 : decode b_Mod_readStatement 14 = .ok (.iconst 1, 1) := by decide +kernel
theorem d_Mod_readStatement_15 : decode b_Mod_readStatement 15 = .ok (.if_icmp .ne 178, 3) := by decide +kernel
theorem d_Mod_readStatement_18 : decode b_Mod_readStatement 18 = .ok (.aload_n 0, 1) := by decide +kernel
theorem d_Mod_readStatement_19 : decode b_Mod_readStatement 19 = .ok (.getfield 96, 3) := by decide +kernel
theorem d_Mod_readStatement_22 : decode b_Mod_readStatement 22 = .ok (.istore_n 1, 1) := by decide +kernel
theorem d_Mod_readStatement_23 : decode b_Mod_readStatement 23 = .ok (.aload_n 0, 1) := by decide +kernel
theorem d_Mod_readStatement_24 : decode b_Mod_readStatement 24 = .ok (.getfield 19, 3) := by decide +kernel
theorem d_Mod_readStatement_27 : decode b_Mod_readStatement 27 = .ok (.aload_n 0, 1) := by decide +kernel
theorem d_Mod_readStatement_28 : decode b_Mod_readStatement 28 = .ok (.getfield 96, 3) := by decide +kernel
theorem d_Mod_readStatement_31 : decode b_Mod_readStatement 31 = .ok (.laload, 1) := by decide +kernel
theorem d_Mod_readStatement_32 : decode b_Mod_readStatement 32 = .ok (.invokestatic 162, 3) := by decide +kernel
theorem d_Mod_readStatement_35 : decode b_Mod_readStatement 35 = .ok (.istore_n 2, 1) := by decide +kernel
theorem d_Mod_readStatement_36 : decode b_Mod_readStatement 36 = .ok (.iload_n 2, 1) := by decide +kernel
theorem d_Mod_readStatement_37 : decode b_Mod_readStatement 37 = .ok (.iconst (-1), 1) := by decide +kernel
theorem d_Mod_readStatement_38 : decode b_Mod_readStatement 38 = .ok (.if_icmp .ne 33, 3) := by decide +kernel
theorem d_Mod_readStatement_41 : decode b_Mod_readStatement 41 = .ok (.aload_n 0, 1) := by decide +kernel
theorem d_Mod_readStatement_42 : decode b_Mod_readStatement 42 = .ok (.getfield 13, 3) := by decide +kernel
theorem d_Mod_readStatement_45 : decode b_Mod_readStatement 45 = .ok (.aload_n 0, 1) := by decide +kernel
theorem d_Mod_readStatement_46 : decode b_Mod_readStatement 46 = .ok (.getfield 96, 3) := by decide +kernel
theorem d_Mod_readStatement_49 : decode b_Mod_readStatement 49 = .ok (.iconst 1, 1) := by decide +kernel
theorem d_Mod_readStatement_50 : decode b_Mod_readStatement 50 = .ok (.iadd, 1) := by decide +kernel
theorem d_Mod_readStatement_51 : decode b_Mod_readStatement 51 = .ok (.iaload, 1) := by decide +kernel
theorem d_Mod_readStatement_52 : decode b_Mod_readStatement 52 = .ok (.iconst 4, 1) := by decide +kernel
theorem d_Mod_readStatement_53 : decode b_Mod_readStatement 53 = .ok (.if_icmp .ne 13, 3) := by decide +kernel
theorem d_Mod_readStatement_56 : decode b_Mod_readStatement 56 = .ok (.aload_n 0, 1) := by decide +kernel
theorem d_Mod_readStatement_57 : decode b_Mod_readStatement 57 = .ok (.dup, 1) := by decide +kernel
theorem d_Mod_readStatement_58 : decode b_Mod_readStatement 58 = .ok (.getfield 96, 3) := by decide +kernel
theorem d_Mod_readStatement_61 : decode b_Mod_readStatement 61 = .ok (.iconst 1, 1) := by decide +kernel
theorem d_Mod_readStatement_62 : decode b_Mod_readStatement 62 = .ok (.iadd, 1) := by decide +kernel
theorem d_Mod_readStatement_63 : decode b_Mod_readStatement 63 = .ok (.putfield 96, 3) := by decide +kernel
theorem d_Mod_readStatement_66 : decode b_Mod_readStatement 66 = .ok (.aload_n 0, 1) := by decide +kernel
theorem d_Mod_readStatement_67 : decode b_Mod_readStatement 67 = .ok (.invokevirtual 103, 3) := by decide +kernel
theorem d_Mod_readStatement_70 : decode b_Mod_readStatement 70 = .ok (.ireturn, 1) := by decide +kernel
theorem d_Mod_readStatement_71 : decode b_Mod_readStatement 71 = .ok (.aload_n 0, 1) := by decide +kernel
theorem d_Mod_readStatement_72 : decode b_Mod_readStatement 72 = .ok (.dup, 1) := by decide +kernel
theorem d_Mod_readStatement_73 : decode b_Mod_readStatement 73 = .ok (.getfield 96, 3) := by decide +kernel
theorem d_Mod_readStatement_76 : decode b_Mod_readStatement 76 = .ok (.iconst 1, 1) := by decide +kernel
theorem d_Mod_readStatement_77 : decode b_Mod_readStatement 77 = .ok (.iadd, 1) := by decide +kernel
theorem d_Mod_readStatement_78 : decode b_Mod_readStatement 78 = .ok (.putfield 96, 3) := by decide +kernel
theorem d_Mod_readStatement_81 : decode b_Mod_readStatement 81 = .ok (.aload_n 0, 1) := by decide +kernel
theorem d_Mod_readStatement_82 : decode b_Mod_readStatement 82 = .ok (.iload_n 2, 1) := by decide +kernel
theorem d_Mod_readStatement_83 : decode b_Mod_readStatement 83 = .ok (.bipush 32, 2) := by decide +kernel
theorem d_Mod_readStatement_85 : decode b_Mod_readStatement 85 = .ok (.if_icmp .ge 10, 3) := by decide +kernel
theorem d_Mod_readStatement_88 : decode b_Mod_readStatement 88 = .ok (.iload_n 2, 1) := by decide +kernel
theorem d_Mod_readStatement_89 : decode b_Mod_readStatement 89 = .ok (.bipush 24, 2) := by decide +kernel
theorem d_Mod_readStatement_91 : decode b_Mod_readStatement 91 = .ok (.ishl, 1) := by decide +kernel
theorem d_Mod_readStatement_92 : decode b_Mod_readStatement 92 = .ok (.goto 4, 3) := by decide +kernel
theorem d_Mod_readStatement_95 : decode b_Mod_readStatement 95 = .ok (.iconst 0, 1) := by decide +kernel
theorem d_Mod_readStatement_96 : decode b_Mod_readStatement 96 = .ok (.putfield 115, 3) := by decide +kernel
theorem d_Mod_readStatement_99 : decode b_Mod_readStatement 99 = .ok (.aload_n 0, 1) := by decide +kernel
theorem d_Mod_readStatement_100 : decode b_Mod_readStatement 100 = .ok (.getfield 35, 3) := by decide +kernel
theorem d_Mod_readStatement_103 : decode b_Mod_readStatement 103 = .ok (.aload_n 0, 1) := by decide +kernel
theorem d_Mod_readStatement_104 : decode b_Mod_readStatement 104 = .ok (.getfield 121, 3) := by decide +kernel
theorem d_Mod_readStatement_107 : decode b_Mod_readStatement 107 = .ok (.iconst 0, 1) := by decide +kernel
theorem d_Mod_readStatement_108 : decode b_Mod_readStatement 108 = .ok (.iastore, 1) := by decide +kernel
theorem d_Mod_readStatement_109 : decode b_Mod_readStatement 109 = .ok (.aload_n 0, 1) := by decide +kernel
theorem d_Mod_readStatement_110 : decode b_Mod_readStatement 110 = .ok (.iload_n 2, 1) := by decide +kernel
theorem d_Mod_readStatement_111 : decode b_Mod_readStatement 111 = .ok (.invokevirtual 166, 3) := by decide +kernel
theorem d_Mod_readStatement_114 : decode b_Mod_readStatement 114 = .ok (.ifCond .ne 5, 3) := by decide +kernel
theorem d_Mod_readStatement_117 : decode b_Mod_readStatement 117 = .ok (.iconst 0, 1) := by decide +kernel
theorem d_Mod_readStatement_118 : decode b_Mod_readStatement 118 = .ok (.ireturn, 1) := by decide +kernel
theorem d_Mod_readStatement_119 : decode b_Mod_readStatement 119 = .ok (.iload_n 2, 1) := by decide +kernel
theorem d_Mod_readStatement_120 : decode b_Mod_readStatement 120 = .ok (.bipush 33, 2) := by decide +kernel
theorem d_Mod_readStatement_122 : decode b_Mod_readStatement 122 = .ok (.if_icmp .ge 11, 3) := by decide +kernel
theorem d_Mod_readStatement_125 : decode b_Mod_readStatement 125 = .ok (.aload_n 0, 1) := by decide +kernel
theorem d_Mod_readStatement_126 : decode b_Mod_readStatement 126 = .ok (.iload_n 1, 1) := by decide +kernel
theorem d_Mod_readStatement_127 : decode b_Mod_readStatement 127 = .ok (.invokevirtual 169, 3) := by decide +kernel
theorem d_Mod_readStatement_130 : decode b_Mod_readStatement 130 = .ok (.goto 63, 3) := by decide +kernel
theorem d_Mod_readStatement_133 : decode b_Mod_readStatement 133 = .ok (.iload_n 2, 1) := by decide +kernel
theorem d_Mod_readStatement_134 : decode b_Mod_readStatement 134 = .ok (.bipush 33, 2) := by decide +kernel
theorem d_Mod_readStatement_136 : decode b_Mod_readStatement 136 = .ok (.if_icmp .ne 32, 3) := by decide +kernel
theorem d_Mod_readStatement_139 : decode b_Mod_readStatement 139 = .ok (.aload_n 0, 1) := by decide +kernel
theorem d_Mod_readStatement_140 : decode b_Mod_readStatement 140 = .ok (.aload_n 0, 1) := by decide +kernel
theorem d_Mod_readStatement_141 : decode b_Mod_readStatement 141 = .ok (.getfield 124, 3) := by decide +kernel
theorem d_Mod_readStatement_144 : decode b_Mod_readStatement 144 = .ok (.ldc2_w 173, 3) := by decide +kernel
theorem d_Mod_readStatement_147 : decode b_Mod_readStatement 147 = .ok (.lcmp, 1) := by decide +kernel
theorem d_Mod_readStatement_148 : decode b_Mod_readStatement 148 = .ok (.ifCond .ge 11, 3) := by decide +kernel
theorem d_Mod_readStatement_151 : decode b_Mod_readStatement 151 = .ok (.aload_n 0, 1) := by decide +kernel
theorem d_Mod_readStatement_152 : decode b_Mod_readStatement 152 = .ok (.getfield 124, 3) := by decide +kernel
theorem d_Mod_readStatement_155 : decode b_Mod_readStatement 155 = .ok (.l2i, 1) := by decide +kernel
theorem d_Mod_readStatement_156 : decode b_Mod_readStatement 156 = .ok (.goto 6, 3) := by decide +kernel
theorem d_Mod_readStatement_159 : decode b_Mod_readStatement 159 = .ok (.sipush 256, 3) := by decide +kernel
theorem d_Mod_readStatement_162 : decode b_Mod_readStatement 162 = .ok (.putfield 156, 3) := by decide +kernel
theorem d_Mod_readStatement_165 : decode b_Mod_readStatement 165 = .ok (.goto 28, 3) := by decide +kernel
theorem d_Mod_readStatement_168 : decode b_Mod_readStatement 168 = .ok (.aload_n 0, 1) := by decide +kernel
theorem d_Mod_readStatement_169 : decode b_Mod_readStatement 169 = .ok (.getfield 124, 3) := by decide +kernel
theorem d_Mod_readStatement_172 : decode b_Mod_readStatement 172 = .ok (.ldc2_w 175, 3) := by decide +kernel
theorem d_Mod_readStatement_175 : decode b_Mod_readStatement 175 = .ok (.lcmp, 1) := by decide +kernel
theorem d_Mod_readStatement_176 : decode b_Mod_readStatement 176 = .ok (.ifCond .ge 17, 3) := by decide +kernel
theorem d_Mod_readStatement_179 : decode b_Mod_readStatement 179 = .ok (.aload_n 0, 1) := by decide +kernel
theorem d_Mod_readStatement_180 : decode b_Mod_readStatement 180 = .ok (.getfield 44, 3) := by decide +kernel
theorem d_Mod_readStatement_183 : decode b_Mod_readStatement 183 = .ok (.aload_n 0, 1) := by decide +kernel
theorem d_Mod_readStatement_184 : decode b_Mod_readStatement 184 = .ok (.getfield 124, 3) := by decide +kernel
theorem d_Mod_readStatement_187 : decode b_Mod_readStatement 187 = .ok (.l2i, 1) := by decide +kernel
theorem d_Mod_readStatement_188 : decode b_Mod_readStatement 188 = .ok (.aload_n 0, 1) := by decide +kernel
theorem d_Mod_readStatement_189 : decode b_Mod_readStatement 189 = .ok (.getfield 156, 3) := by decide +kernel
theorem d_Mod_readStatement_192 : decode b_Mod_readStatement 192 = .ok (.iastore, 1) := by decide +kernel
theorem d_Mod_readStatement_193 : decode b_Mod_readStatement 193 = .ok (.aload_n 0, 1) := by decide +kernel
theorem d_Mod_readStatement_194 : decode b_Mod_readStatement 194 = .ok (.bipush 59, 2) := by decide +kernel
theorem d_Mod_readStatement_196 : decode b_Mod_readStatement 196 = .ok (.invokevirtual 138, 3) := by decide +kernel
theorem d_Mod_readStatement_199 : decode b_Mod_readStatement 199 = .ok (.ireturn, 1) := by decide +kernel
theorem d_Mod_resolve_0 : decode b_Mod_resolve 0 = .ok (.iconst 0, 1) := by decide +kernel
theorem d_Mod_resolve_1 : decode b_Mod_resolve 1 = .ok (.istore_n 2, 1) := by decide +kernel
theorem d_Mod_resolve_2 : decode b_Mod_resolve 2 = .ok (.iload_n 2, 1) := by decide +kernel
theorem d_Mod_resolve_3 : decode b_Mod_resolve 3 = .ok (.aload_n 0, 1) := by decide +kernel
theorem d_Mod_resolve_4 : decode b_Mod_resolve 4 = .ok (.getfield 153, 3) := by decide +kernel
theorem d_Mod_resolve_7 : decode b_Mod_resolve 7 = .ok (.if_icmp .ge 25, 3) := by decide +kernel
theorem d_Mod_resolve_10 : decode b_Mod_resolve 10 = .ok (.aload_n 0, 1) := by decide +kernel
theorem d_Mod_resolve_11 : decode b_Mod_resolve 11 = .ok (.getfield 23, 3) := by decide +kernel
theorem d_Mod_resolve_14 : decode b_Mod_resolve 14 = .ok (.iload_n 2, 1) := by decide +kernel
theorem d_Mod_resolve_15 : decode b_Mod_resolve 15 = .ok (.laload, 1) := by decide +kernel
theorem d_Mod_resolve_16 : decode b_Mod_resolve 16 = .ok (.aload_n 0, 1) := by decide +kernel
theorem d_Mod_resolve_17 : decode b_Mod_resolve 17 = .ok (.getfield 38, 3) := by decide +kernel
theorem d_Mod_resolve_20 : decode b_Mod_resolve 20 = .ok (.iload_n 1, 1) := by decide +kernel
theorem d_Mod_resolve_21 : decode b_Mod_resolve 21 = .ok (.laload, 1) := by decide +kernel
theorem d_Mod_resolve_22 : decode b_Mod_resolve 22 = .ok (.lcmp, 1) := by decide +kernel
theorem d_Mod_resolve_23 : decode b_Mod_resolve 23 = .ok (.ifCond .eq 9, 3) := by decide +kernel
theorem d_Mod_resolve_26 : decode b_Mod_resolve 26 = .ok (.iinc 2 1, 3) := by decide +kernel
theorem d_Mod_resolve_29 : decode b_Mod_resolve 29 = .ok (.goto (-27), 3) := by decide +kernel
theorem d_Mod_resolve_32 : decode b_Mod_resolve 32 = .ok (.iload_n 2, 1) := by decide +kernel
theorem d_Mod_resolve_33 : decode b_Mod_resolve 33 = .ok (.aload_n 0, 1) := by decide +kernel
theorem d_Mod_resolve_34 : decode b_Mod_resolve 34 = .ok (.getfield 153, 3) := by decide +kernel
theorem d_Mod_resolve_37 : decode b_Mod_resolve 37 = .ok (.if_icmp .ne 15, 3) := by decide +kernel
theorem d_Mod_resolve_40 : decode b_Mod_resolve 40 = .ok (.aload_n 0, 1) := by decide +kernel
theorem d_Mod_resolve_41 : decode b_Mod_resolve 41 = .ok (.iconst 2, 1) := by decide +kernel
theorem d_Mod_resolve_42 : decode b_Mod_resolve 42 = .ok (.aload_n 0, 1) := by decide +kernel
theorem d_Mod_resolve_43 : decode b_Mod_resolve 43 = .ok (.getfield 41, 3) := by decide +kernel
theorem d_Mod_resolve_46 : decode b_Mod_resolve 46 = .ok (.iload_n 1, 1) := by decide +kernel
theorem d_Mod_resolve_47 : decode b_Mod_resolve 47 = .ok (.iaload, 1) := by decide +kernel
theorem d_Mod_resolve_48 : decode b_Mod_resolve 48 = .ok (.invokevirtual 99, 3) := by decide +kernel
theorem d_Mod_resolve_51 : decode b_Mod_resolve 51 = .ok (.return_, 1) := by decide +kernel
theorem d_Mod_resolve_52 : decode b_Mod_resolve 52 = .ok (.aload_n 0, 1) := by decide +kernel
theorem d_Mod_resolve_53 : decode b_Mod_resolve 53 = .ok (.getfield 26, 3) := by decide +kernel
theorem d_Mod_resolve_56 : decode b_Mod_resolve 56 = .ok (.iload_n 2, 1) := by decide +kernel
theorem d_Mod_resolve_57 : decode b_Mod_resolve 57 = .ok (.iaload, 1) := by decide +kernel
theorem d_Mod_resolve_58 : decode b_Mod_resolve 58 = .ok (.aload_n 0, 1) := by decide +kernel
theorem d_Mod_resolve_59 : decode b_Mod_resolve 59 = .ok (.getfield 35, 3) := by decide +kernel
theorem d_Mod_resolve_62 : decode b_Mod_resolve 62 = .ok (.iload_n 1, 1) := by decide +kernel
theorem d_Mod_resolve_63 : decode b_Mod_resolve 63 = .ok (.iaload, 1) := by decide +kernel
theorem d_Mod_resolve_64 : decode b_Mod_resolve 64 = .ok (.iconst 2, 1) := by decide +kernel
theorem d_Mod_resolve_65 : decode b_Mod_resolve 65 = .ok (.if_icmp .ne 12, 3) := by decide +kernel
theorem d_Mod_resolve_68 : decode b_Mod_resolve 68 = .ok (.aload_n 0, 1) := by decide +kernel
theorem d_Mod_resolve_69 : decode b_Mod_resolve 69 = .ok (.getfield 29, 3) := by decide +kernel
theorem d_Mod_resolve_72 : decode b_Mod_resolve 72 = .ok (.iload_n 1, 1) := by decide +kernel
theorem d_Mod_resolve_73 : decode b_Mod_resolve 73 = .ok (.iaload, 1) := by decide +kernel
theorem d_Mod_resolve_74 : decode b_Mod_resolve 74 = .ok (.goto 4, 3) := by decide +kernel
theorem d_Mod_resolve_77 : decode b_Mod_resolve 77 = .ok (.iconst 0, 1) := by decide +kernel
theorem d_Mod_resolve_78 : decode b_Mod_resolve 78 = .ok (.isub, 1) := by decide +kernel
theorem d_Mod_resolve_79 : decode b_Mod_resolve 79 = .ok (.istore_n 3, 1) := by decide +kernel
theorem d_Mod_resolve_80 : decode b_Mod_resolve 80 = .ok (.aload_n 0, 1) := by decide +kernel
theorem d_Mod_resolve_81 : decode b_Mod_resolve 81 = .ok (.getfield 35, 3) := by decide +kernel
theorem d_Mod_resolve_84 : decode b_Mod_resolve 84 = .ok (.iload_n 1, 1) := by decide +kernel
theorem d_Mod_resolve_85 : decode b_Mod_resolve 85 = .ok (.iaload, 1) := by decide +kernel
theorem d_Mod_resolve_86 : decode b_Mod_resolve 86 = .ok (.bipush 32, 2) := by decide +kernel
theorem d_Mod_resolve_88 : decode b_Mod_resolve 88 = .ok (.if_icmp .ne 13, 3) := by decide +kernel
theorem d_Mod_resolve_91 : decode b_Mod_resolve 91 = .ok (.aload_n 0, 1) := by decide +kernel
theorem d_Mod_resolve_92 : decode b_Mod_resolve 92 = .ok (.getfield 32, 3) := by decide +kernel
theorem d_Mod_resolve_95 : decode b_Mod_resolve 95 = .ok (.iload_n 1, 1) := by decide +kernel
theorem d_Mod_resolve_96 : decode b_Mod_resolve 96 = .ok (.iload_n 3, 1) := by decide +kernel
theorem d_Mod_resolve_97 : decode b_Mod_resolve 97 = .ok (.iastore, 1) := by decide +kernel
theorem d_Mod_resolve_98 : decode b_Mod_resolve 98 = .ok (.goto 17, 3) := by decide +kernel
theorem d_Mod_resolve_101 : decode b_Mod_resolve 101 = .ok (.aload_n 0, 1) := by decide +kernel
theorem d_Mod_resolve_102 : decode b_Mod_resolve 102 = .ok (.getfield 32, 3) := by decide +kernel
theorem d_Mod_resolve_105 : decode b_Mod_resolve 105 = .ok (.iload_n 1, 1) := by decide +kernel
theorem d_Mod_resolve_106 : decode b_Mod_resolve 106 = .ok (.dup2, 1) := by decide +kernel
theorem d_Mod_resolve_107 : decode b_Mod_resolve 107 = .ok (.iaload, 1) := by decide +kernel
theorem d_Mod_resolve_108 : decode b_Mod_resolve 108 = .ok (.iload_n 3, 1) := by decide +kernel
theorem d_Mod_resolve_109 : decode b_Mod_resolve 109 = .ok (.sipush 4095, 3) := by decide +kernel
theorem d_Mod_resolve_112 : decode b_Mod_resolve 112 = .ok (.iand, 1) := by decide +kernel
theorem d_Mod_resolve_113 : decode b_Mod_resolve 113 = .ok (.ior, 1) := by decide +kernel
theorem d_Mod_resolve_114 : decode b_Mod_resolve 114 = .ok (.iastore, 1) := by decide +kernel
theorem d_Mod_resolve_115 : decode b_Mod_resolve 115 = .ok (.return_, 1) := by decide +kernel
theorem d_Mod_readAll_0 : decode b_Mod_readAll 0 = .ok (.aload_n 0, 1) := by decide +kernel
theorem d_Mod_readAll_1 : decode b_Mod_readAll 1 = .ok (.invokevirtual 177, 3) := by decide +kernel
theorem d_Mod_readAll_4 : decode b_Mod_readAll 4 = .ok (.aload_n 0, 1) := by decide +kernel
theorem d_Mod_readAll_5 : decode b_Mod_readAll 5 = .ok (.iconst 0, 1) := by decide +kernel
theorem d_Mod_readAll_6 : decode b_Mod_readAll 6 = .ok (.putfield 96, 3) := by decide +kernel
theorem d_Mod_readAll_9 : decode b_Mod_readAll 9 = .ok (.aload_n 0, 1) := by decide +kernel
theorem d_Mod_readAll_10 : decode b_Mod_readAll 10 = .ok (.iconst 0, 1) := by decide +kernel
theorem d_Mod_readAll_11 : decode b_Mod_readAll 11 = .ok (.putfield 153, 3) := by decide +kernel
theorem d_Mod_readAll_14 : decode b_Mod_readAll 14 = .ok (.aload_n 0, 1) := by decide +kernel
theorem d_Mod_readAll_15 : decode b_Mod_readAll 15 = .ok (.iconst 0, 1) := by decide +kernel
theorem d_Mod_readAll_16 : decode b_Mod_readAll 16 = .ok (.putfield 121, 3) := by decide +kernel
theorem d_Mod_readAll_19 : decode b_Mod_readAll 19 = .ok (.aload_n 0, 1) := by decide +kernel
theorem d_Mod_readAll_20 : decode b_Mod_readAll 20 = .ok (.iconst 0, 1) := by decide +kernel
theorem d_Mod_readAll_21 : decode b_Mod_readAll 21 = .ok (.putfield 156, 3) := by decide +kernel
theorem d_Mod_readAll_24 : decode b_Mod_readAll 24 = .ok (.iconst 0, 1) := by decide +kernel
theorem d_Mod_readAll_25 : decode b_Mod_readAll 25 = .ok (.istore_n 1, 1) := by decide +kernel
theorem d_Mod_readAll_26 : decode b_Mod_readAll 26 = .ok (.iload_n 1, 1) := by decide +kernel
theorem d_Mod_readAll_27 : decode b_Mod_readAll 27 = .ok (.iconst 4, 1) := by decide +kernel
theorem d_Mod_readAll_28 : decode b_Mod_readAll 28 = .ok (.if_icmp .ge 16, 3) := by decide +kernel
theorem d_Mod_readAll_31 : decode b_Mod_readAll 31 = .ok (.aload_n 0, 1) := by decide +kernel
theorem d_Mod_readAll_32 : decode b_Mod_readAll 32 = .ok (.getfield 44, 3) := by decide +kernel
theorem d_Mod_readAll_35 : decode b_Mod_readAll 35 = .ok (.iload_n 1, 1) := by decide +kernel
theorem d_Mod_readAll_36 : decode b_Mod_readAll 36 = .ok (.iconst 0, 1) := by decide +kernel
theorem d_Mod_readAll_37 : decode b_Mod_readAll 37 = .ok (.iastore, 1) := by decide +kernel
theorem d_Mod_readAll_38 : decode b_Mod_readAll 38 = .ok (.iinc 1 1, 3) := by decide +kernel
theorem d_Mod_readAll_41 : decode b_Mod_readAll 41 = .ok (.goto (-15), 3) := by decide +kernel
theorem d_Mod_readAll_44 : decode b_Mod_readAll 44 = .ok (.iconst 1, 1) := by decide +kernel
theorem d_Mod_readAll_45 : decode b_Mod_readAll 45 = .ok (.istore_n 1, 1) := by decide +kernel
theorem d_Mod_readAll_46 : decode b_Mod_readAll 46 = .ok (.iload_n 1, 1) := by decide +kernel
theorem d_Mod_readAll_47 : decode b_Mod_readAll 47 = .ok (.ifCond .eq 23, 3) := by decide +kernel
theorem d_Mod_readAll_50 : decode b_Mod_readAll 50 = .ok (.aload_n 0, 1) := by decide +kernel
theorem d_Mod_readAll_51 : decode b_Mod_readAll 51 = .ok (.getfield 13, 3) := by decide +kernel
theorem d_Mod_readAll_54 : decode b_Mod_readAll 54 = .ok (.aload_n 0, 1) := by decide +kernel
theorem d_Mod_readAll_55 : decode b_Mod_readAll 55 = .ok (.getfield 96, 3) := by decide +kernel
theorem d_Mod_readAll_58 : decode b_Mod_readAll 58 = .ok (.iaload, 1) := by decide +kernel
theorem d_Mod_readAll_59 : decode b_Mod_readAll 59 = .ok (.ifCond .eq 11, 3) := by decide +kernel
theorem d_Mod_readAll_62 : decode b_Mod_readAll 62 = .ok (.aload_n 0, 1) := by decide +kernel
theorem d_Mod_readAll_63 : decode b_Mod_readAll 63 = .ok (.invokevirtual 180, 3) := by decide +kernel
theorem d_Mod_readAll_66 : decode b_Mod_readAll 66 = .ok (.istore_n 1, 1) := by decide +kernel
theorem d_Mod_readAll_67 : decode b_Mod_readAll 67 = .ok (.goto (-21), 3) := by decide +kernel

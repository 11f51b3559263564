theorem d_Mod_readAll_70 : decode b_Mod_readAll 70 = .ok (.iload_n 1, 1) := by decide +kernel
theorem d_Mod_readAll_71 : decode b_Mod_readAll 71 = .ok (.ifCond .ne 4, 3) := by decide +kernel
theorem d_Mod_readAll_74 : decode b_Mod_readAll 74 = .ok (.return_, 1) := by decide +kernel
theorem d_Mod_readAll_75 : decode b_Mod_readAll 75 = .ok (.iconst 0, 1) := by decide +kernel
theorem d_Mod_readAll_76 : decode b_Mod_readAll 76 = .ok (.istore_n 2, 1) := by decide +kernel
theorem d_Mod_readAll_77 : decode b_Mod_readAll 77 = .ok (.iload_n 2, 1) := by decide +kernel
theorem d_Mod_readAll_78 : decode b_Mod_readAll 78 = .ok (.aload_n 0, 1) := by decide +kernel
theorem d_Mod_readAll_79 : decode b_Mod_readAll 79 = .ok (.getfield 121, 3) := by decide +kernel
theorem d_Mod_readAll_82 : decode b_Mod_readAll 82 = .ok (.if_icmp .ge 23, 3) := by decide +kernel
theorem d_Mod_readAll_85 : decode b_Mod_readAll 85 = .ok (.aload_n 0, 1) := by decide +kernel
theorem d_Mod_readAll_86 : decode b_Mod_readAll 86 = .ok (.getfield 35, 3) := by decide +kernel
theorem d_Mod_readAll_89 : decode b_Mod_readAll 89 = .ok (.iload_n 2, 1) := by decide +kernel
theorem d_Mod_readAll_90 : decode b_Mod_readAll 90 = .ok (.iaload, 1) := by decide +kernel
theorem d_Mod_readAll_91 : decode b_Mod_readAll 91 = .ok (.ifCond .le 8, 3) := by decide +kernel
theorem d_Mod_readAll_94 : decode b_Mod_readAll 94 = .ok (.aload_n 0, 1) := by decide +kernel
theorem d_Mod_readAll_95 : decode b_Mod_readAll 95 = .ok (.iload_n 2, 1) := by decide +kernel
theorem d_Mod_readAll_96 : decode b_Mod_readAll 96 = .ok (.invokevirtual 183, 3) := by decide +kernel
theorem d_Mod_readAll_99 : decode b_Mod_readAll 99 = .ok (.iinc 2 1, 3) := by decide +kernel
theorem d_Mod_readAll_102 : decode b_Mod_readAll 102 = .ok (.goto (-25), 3) := by decide +kernel
theorem d_Mod_readAll_105 : decode b_Mod_readAll 105 = .ok (.return_, 1) := by decide +kernel
theorem d_Mod_assemble_0 : decode b_Mod_assemble 0 = .ok (.aload_n 0, 1) := by decide +kernel
theorem d_Mod_assemble_1 : decode b_Mod_assemble 1 = .ok (.iconst 0, 1) := by decide +kernel
theorem d_Mod_assemble_2 : decode b_Mod_assemble 2 = .ok (.putfield 90, 3) := by decide +kernel
theorem d_Mod_assemble_5 : decode b_Mod_assemble 5 = .ok (.aload_n 0, 1) := by decide +kernel
theorem d_Mod_assemble_6 : decode b_Mod_assemble 6 = .ok (.iconst 0, 1) := by decide +kernel
theorem d_Mod_assemble_7 : decode b_Mod_assemble 7 = .ok (.putfield 93, 3) := by decide +kernel
theorem d_Mod_assemble_10 : decode b_Mod_assemble 10 = .ok (.aload_n 0, 1) := by decide +kernel
theorem d_Mod_assemble_11 : decode b_Mod_assemble 11 = .ok (.invokevirtual 186, 3) := by decide +kernel
theorem d_Mod_assemble_14 : decode b_Mod_assemble 14 = .ok (.aload_n 0, 1) := by decide +kernel
theorem d_Mod_assemble_15 : decode b_Mod_assemble 15 = .ok (.iconst 0, 1) := by decide +kernel
theorem d_Mod_assemble_16 : decode b_Mod_assemble 16 = .ok (.putfield 63, 3) := by decide +kernel
theorem d_Mod_assemble_19 : decode b_Mod_assemble 19 = .ok (.aload_n 0, 1) := by decide +kernel
theorem d_Mod_assemble_20 : decode b_Mod_assemble 20 = .ok (.getfield 90, 3) := by decide +kernel
theorem d_Mod_assemble_23 : decode b_Mod_assemble 23 = .ok (.ifCond .eq 9, 3) := by decide +kernel
theorem d_Mod_assemble_26 : decode b_Mod_assemble 26 = .ok (.aload_n 0, 1) := by decide +kernel
theorem d_Mod_assemble_27 : decode b_Mod_assemble 27 = .ok (.iconst 1, 1) := by decide +kernel
theorem d_Mod_assemble_28 : decode b_Mod_assemble 28 = .ok (.invokevirtual 189, 3) := by decide +kernel
theorem d_Mod_assemble_31 : decode b_Mod_assemble 31 = .ok (.ireturn, 1) := by decide +kernel
theorem d_Mod_assemble_32 : decode b_Mod_assemble 32 = .ok (.aload_n 0, 1) := by decide +kernel
theorem d_Mod_assemble_33 : decode b_Mod_assemble 33 = .ok (.iconst 0, 1) := by decide +kernel
theorem d_Mod_assemble_34 : decode b_Mod_assemble 34 = .ok (.putfield 59, 3) := by decide +kernel
theorem d_Mod_assemble_37 : decode b_Mod_assemble 37 = .ok (.iconst 0, 1) := by decide +kernel
theorem d_Mod_assemble_38 : decode b_Mod_assemble 38 = .ok (.istore_n 1, 1) := by decide +kernel
theorem d_Mod_assemble_39 : decode b_Mod_assemble 39 = .ok (.iload_n 1, 1) := by decide +kernel
theorem d_Mod_assemble_40 : decode b_Mod_assemble 40 = .ok (.sipush 256, 3) := by decide +kernel
theorem d_Mod_assemble_43 : decode b_Mod_assemble 43 = .ok (.if_icmp .ge 16, 3) := by decide +kernel
theorem d_Mod_assemble_46 : decode b_Mod_assemble 46 = .ok (.aload_n 0, 1) := by decide +kernel
theorem d_Mod_assemble_47 : decode b_Mod_assemble 47 = .ok (.getfield 47, 3) := by decide +kernel
theorem d_Mod_assemble_50 : decode b_Mod_assemble 50 = .ok (.iload_n 1, 1) := by decide +kernel
theorem d_Mod_assemble_51 : decode b_Mod_assemble 51 = .ok (.iconst 0, 1) := by decide +kernel
theorem d_Mod_assemble_52 : decode b_Mod_assemble 52 = .ok (.iastore, 1) := by decide +kernel
theorem d_Mod_assemble_53 : decode b_Mod_assemble 53 = .ok (.iinc 1 1, 3) := by decide +kernel
theorem d_Mod_assemble_56 : decode b_Mod_assemble 56 = .ok (.goto (-17), 3) := by decide +kernel
theorem d_Mod_assemble_59 : decode b_Mod_assemble 59 = .ok (.iconst 0, 1) := by decide +kernel
theorem d_Mod_assemble_60 : decode b_Mod_assemble 60 = .ok (.istore_n 1, 1) := by decide +kernel
theorem d_Mod_assemble_61 : decode b_Mod_assemble 61 = .ok (.iload_n 1, 1) := by decide +kernel
theorem d_Mod_assemble_62 : decode b_Mod_assemble 62 = .ok (.aload_n 0, 1) := by decide +kernel
theorem d_Mod_assemble_63 : decode b_Mod_assemble 63 = .ok (.getfield 121, 3) := by decide +kernel
theorem d_Mod_assemble_66 : decode b_Mod_assemble 66 = .ok (.if_icmp .ge 26, 3) := by decide +kernel
theorem d_Mod_assemble_69 : decode b_Mod_assemble 69 = .ok (.aload_n 0, 1) := by decide +kernel
theorem d_Mod_assemble_70 : decode b_Mod_assemble 70 = .ok (.getfield 47, 3) := by decide +kernel
theorem d_Mod_assemble_73 : decode b_Mod_assemble 73 = .ok (.aload_n 0, 1) := by decide +kernel
theorem d_Mod_assemble_74 : decode b_Mod_assemble 74 = .ok (.getfield 29, 3) := by decide +kernel
theorem d_Mod_assemble_77 : decode b_Mod_assemble 77 = .ok (.iload_n 1, 1) := by decide +kernel
theorem d_Mod_assemble_78 : decode b_Mod_assemble 78 = .ok (.iaload, 1) := by decide +kernel
theorem d_Mod_assemble_79 : decode b_Mod_assemble 79 = .ok (.aload_n 0, 1) := by decide +kernel
theorem d_Mod_assemble_80 : decode b_Mod_assemble 80 = .ok (.getfield 32, 3) := by decide +kernel
theorem d_Mod_assemble_83 : decode b_Mod_assemble 83 = .ok (.iload_n 1, 1) := by decide +kernel
theorem d_Mod_assemble_84 : decode b_Mod_assemble 84 = .ok (.iaload, 1) := by decide +kernel
theorem d_Mod_assemble_85 : decode b_Mod_assemble 85 = .ok (.iastore, 1) := by decide +kernel
theorem d_Mod_assemble_86 : decode b_Mod_assemble 86 = .ok (.iinc 1 1, 3) := by decide +kernel
theorem d_Mod_assemble_89 : decode b_Mod_assemble 89 = .ok (.goto (-28), 3) := by decide +kernel
theorem d_Mod_assemble_92 : decode b_Mod_assemble 92 = .ok (.iconst 0, 1) := by decide +kernel
theorem d_Mod_assemble_93 : decode b_Mod_assemble 93 = .ok (.istore_n 1, 1) := by decide +kernel
theorem d_Mod_assemble_94 : decode b_Mod_assemble 94 = .ok (.iload_n 1, 1) := by decide +kernel
theorem d_Mod_assemble_95 : decode b_Mod_assemble 95 = .ok (.iconst 4, 1) := by decide +kernel
theorem d_Mod_assemble_96 : decode b_Mod_assemble 96 = .ok (.if_icmp .ge 25, 3) := by decide +kernel
theorem d_Mod_assemble_99 : decode b_Mod_assemble 99 = .ok (.aload_n 0, 1) := by decide +kernel
theorem d_Mod_assemble_100 : decode b_Mod_assemble 100 = .ok (.getfield 50, 3) := by decide +kernel
theorem d_Mod_assemble_103 : decode b_Mod_assemble 103 = .ok (.iload_n 1, 1) := by decide +kernel
theorem d_Mod_assemble_104 : decode b_Mod_assemble 104 = .ok (.aload_n 0, 1) := by decide +kernel
theorem d_Mod_assemble_105 : decode b_Mod_assemble 105 = .ok (.getfield 44, 3) := by decide +kernel
theorem d_Mod_assemble_108 : decode b_Mod_assemble 108 = .ok (.iload_n 1, 1) := by decide +kernel
theorem d_Mod_assemble_109 : decode b_Mod_assemble 109 = .ok (.iaload, 1) := by decide +kernel
theorem d_Mod_assemble_110 : decode b_Mod_assemble 110 = .ok (.sipush 255, 3) := by decide +kernel
theorem d_Mod_assemble_113 : decode b_Mod_assemble 113 = .ok (.iand, 1) := by decide +kernel
theorem d_Mod_assemble_114 : decode b_Mod_assemble 114 = .ok (.iastore, 1) := by decide +kernel
theorem d_Mod_assemble_115 : decode b_Mod_assemble 115 = .ok (.iinc 1 1, 3) := by decide +kernel
theorem d_Mod_assemble_118 : decode b_Mod_assemble 118 = .ok (.goto (-24), 3) := by decide +kernel
theorem d_Mod_assemble_121 : decode b_Mod_assemble 121 = .ok (.aload_n 0, 1) := by decide +kernel
theorem d_Mod_assemble_122 : decode b_Mod_assemble 122 = .ok (.aload_n 0, 1) := by decide +kernel
theorem d_Mod_assemble_123 : decode b_Mod_assemble 123 = .ok (.getfield 153, 3) := by decide +kernel
theorem d_Mod_assemble_126 : decode b_Mod_assemble 126 = .ok (.putfield 192, 3) := by decide +kernel
theorem d_Mod_assemble_129 : decode b_Mod_assemble 129 = .ok (.iconst 0, 1) := by decide +kernel
theorem d_Mod_assemble_130 : decode b_Mod_assemble 130 = .ok (.istore_n 1, 1) := by decide +kernel
theorem d_Mod_assemble_131 : decode b_Mod_assemble 131 = .ok (.iload_n 1, 1) := by decide +kernel
theorem d_Mod_assemble_132 : decode b_Mod_assemble 132 = .ok (.aload_n 0, 1) := by decide +kernel
theorem d_Mod_assemble_133 : decode b_Mod_assemble 133 = .ok (.getfield 153, 3) := by decide +kernel
theorem d_Mod_assemble_136 : decode b_Mod_assemble 136 = .ok (.if_icmp .ge 33, 3) := by decide +kernel
theorem d_Mod_assemble_139 : decode b_Mod_assemble 139 = .ok (.aload_n 0, 1) := by decide +kernel
theorem d_Mod_assemble_140 : decode b_Mod_assemble 140 = .ok (.getfield 53, 3) := by decide +kernel
theorem d_Mod_assemble_143 : decode b_Mod_assemble 143 = .ok (.iload_n 1, 1) := by decide +kernel
theorem d_Mod_assemble_144 : decode b_Mod_assemble 144 = .ok (.aload_n 0, 1) := by decide +kernel
theorem d_Mod_assemble_145 : decode b_Mod_assemble 145 = .ok (.getfield 23, 3) := by decide +kernel
theorem d_Mod_assemble_148 : decode b_Mod_assemble 148 = .ok (.iload_n 1, 1) := by decide +kernel
theorem d_Mod_assemble_149 : decode b_Mod_assemble 149 = .ok (.laload, 1) := by decide +kernel
theorem d_Mod_assemble_150 : decode b_Mod_assemble 150 = .ok (.lastore, 1) := by decide +kernel
theorem d_Mod_assemble_151 : decode b_Mod_assemble 151 = .ok (.aload_n 0, 1) := by decide +kernel
theorem d_Mod_assemble_152 : decode b_Mod_assemble 152 = .ok (.getfield 56, 3) := by decide +kernel
theorem d_Mod_assemble_155 : decode b_Mod_assemble 155 = .ok (.iload_n 1, 1) := by decide +kernel
theorem d_Mod_assemble_156 : decode b_Mod_assemble 156 = .ok (.aload_n 0, 1) := by decide +kernel
theorem d_Mod_assemble_157 : decode b_Mod_assemble 157 = .ok (.getfield 26, 3) := by decide +kernel
theorem d_Mod_assemble_160 : decode b_Mod_assemble 160 = .ok (.iload_n 1, 1) := by decide +kernel
theorem d_Mod_assemble_161 : decode b_Mod_assemble 161 = .ok (.iaload, 1) := by decide +kernel
theorem d_Mod_assemble_162 : decode b_Mod_assemble 162 = .ok (.iastore, 1) := by decide +kernel
theorem d_Mod_assemble_163 : decode b_Mod_assemble 163 = .ok (.iinc 1 1, 3) := by decide +kernel
theorem d_Mod_assemble_166 : decode b_Mod_assemble 166 = .ok (.goto (-35), 3) := by decide +kernel
theorem d_Mod_assemble_169 : decode b_Mod_assemble 169 = .ok (.aload_n 0, 1) := by decide +kernel
theorem d_Mod_assemble_170 : decode b_Mod_assemble 170 = .ok (.aload_n 0, 1) := by decide +kernel
theorem d_Mod_assemble_171 : decode b_Mod_assemble 171 = .ok (.getfield 121, 3) := by decide +kernel
theorem d_Mod_assemble_174 : decode b_Mod_assemble 174 = .ok (.putfield 195, 3) := by decide +kernel
theorem d_Mod_assemble_177 : decode b_Mod_assemble 177 = .ok (.aload_n 0, 1) := by decide +kernel
theorem d_Mod_assemble_178 : decode b_Mod_assemble 178 = .ok (.getfield 121, 3) := by decide +kernel
theorem d_Mod_assemble_181 : decode b_Mod_assemble 181 = .ok (.ireturn, 1) := by decide +kernel

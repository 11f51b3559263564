theorem d_Mod_readLabels_77 : decode b_Mod_readLabels 77 = .ok (.aload_n 0, 1) := by decide +kernel
theorem d_Mod_readLabels_78 : decode b_Mod_readLabels 78 = .ok (.getfield 16, 3) := by decide +kernel
theorem d_Mod_readLabels_81 : decode b_Mod_readLabels 81 = .ok (.aload_n 0, 1) := by decide +kernel
theorem d_Mod_readLabels_82 : decode b_Mod_readLabels 82 = .ok (.getfield 96, 3) := by decide +kernel
theorem d_Mod_readLabels_85 : decode b_Mod_readLabels 85 = .ok (.iaload, 1) := by decide +kernel
theorem d_Mod_readLabels_86 : decode b_Mod_readLabels 86 = .ok (.invokevirtual 99, 3) := by decide +kernel
theorem d_Mod_readLabels_89 : decode b_Mod_readLabels 89 = .ok (.iinc 1 1, 3) := by decide +kernel
theorem d_Mod_readLabels_92 : decode b_Mod_readLabels 92 = .ok (.goto (-44), 3) := by decide +kernel
theorem d_Mod_readLabels_95 : decode b_Mod_readLabels 95 = .ok (.aload_n 0, 1) := by decide +kernel
theorem d_Mod_readLabels_96 : decode b_Mod_readLabels 96 = .ok (.getfield 23, 3) := by decide +kernel
theorem d_Mod_readLabels_99 : decode b_Mod_readLabels 99 = .ok (.aload_n 0, 1) := by decide +kernel
theorem d_Mod_readLabels_100 : decode b_Mod_readLabels 100 = .ok (.getfield 153, 3) := by decide +kernel
theorem d_Mod_readLabels_103 : decode b_Mod_readLabels 103 = .ok (.aload_n 0, 1) := by decide +kernel
theorem d_Mod_readLabels_104 : decode b_Mod_readLabels 104 = .ok (.getfield 19, 3) := by decide +kernel
theorem d_Mod_readLabels_107 : decode b_Mod_readLabels 107 = .ok (.aload_n 0, 1) := by decide +kernel
theorem d_Mod_readLabels_108 : decode b_Mod_readLabels 108 = .ok (.getfield 96, 3) := by decide +kernel
theorem d_Mod_readLabels_111 : decode b_Mod_readLabels 111 = .ok (.laload, 1) := by decide +kernel
theorem d_Mod_readLabels_112 : decode b_Mod_readLabels 112 = .ok (.lastore, 1) := by decide +kernel
theorem d_Mod_readLabels_113 : decode b_Mod_readLabels 113 = .ok (.aload_n 0, 1) := by decide +kernel
theorem d_Mod_readLabels_114 : decode b_Mod_readLabels 114 = .ok (.getfield 26, 3) := by decide +kernel
theorem d_Mod_readLabels_117 : decode b_Mod_readLabels 117 = .ok (.aload_n 0, 1) := by decide +kernel
theorem d_Mod_readLabels_118 : decode b_Mod_readLabels 118 = .ok (.getfield 153, 3) := by decide +kernel
theorem d_Mod_readLabels_121 : decode b_Mod_readLabels 121 = .ok (.aload_n 0, 1) := by decide +kernel
theorem d_Mod_readLabels_122 : decode b_Mod_readLabels 122 = .ok (.getfield 156, 3) := by decide +kernel
theorem d_Mod_readLabels_125 : decode b_Mod_readLabels 125 = .ok (.iastore, 1) := by decide +kernel
theorem d_Mod_readLabels_126 : decode b_Mod_readLabels 126 = .ok (.aload_n 0, 1) := by decide +kernel
theorem d_Mod_readLabels_127 : decode b_Mod_readLabels 127 = .ok (.dup, 1) := by decide +kernel
theorem d_Mod_readLabels_128 : decode b_Mod_readLabels 128 = .ok (.getfield 153, 3) := by decide +kernel
theorem d_Mod_readLabels_131 : decode b_Mod_readLabels 131 = .ok (.iconst 1, 1) := by decide +kernel
theorem d_Mod_readLabels_132 : decode b_Mod_readLabels 132 = .ok (.iadd, 1) := by decide +kernel
theorem d_Mod_readLabels_133 : decode b_Mod_readLabels 133 = .ok (.putfield 153, 3) := by decide +kernel
theorem d_Mod_readLabels_136 : decode b_Mod_readLabels 136 = .ok (.aload_n 0, 1) := by decide +kernel
theorem d_Mod_readLabels_137 : decode b_Mod_readLabels 137 = .ok (.dup, 1) := by decide +kernel
theorem d_Mod_readLabels_138 : decode b_Mod_readLabels 138 = .ok (.getfield 96, 3) := by decide +kernel
theorem d_Mod_readLabels_141 : decode b_Mod_readLabels 141 = .ok (.iconst 2, 1) := by decide +kernel
theorem d_Mod_readLabels_142 : decode b_Mod_readLabels 142 = .ok (.iadd, 1) := by decide +kernel
theorem d_Mod_readLabels_143 : decode b_Mod_readLabels 143 = .ok (.putfield 96, 3) := by decide +kernel
theorem d_Mod_readLabels_146 : decode b_Mod_readLabels 146 = .ok (.goto (-146), 3) := by decide +kernel
theorem d_Mod_readLabels_149 : decode b_Mod_readLabels 149 = .ok (.iconst 1, 1) := by decide +kernel
theorem d_Mod_readLabels_150 : decode b_Mod_readLabels 150 = .ok (.ireturn, 1) := by decide +kernel

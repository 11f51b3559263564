theorem d_Tokens_scanName_87 : decode b_Tokens_scanName 87 = .ok (.goto 4, 3) := by decide +kernel
theorem d_Tokens_scanName_90 : decode b_Tokens_scanName 90 = .ok (.iconst 1, 1) := by decide +kernel
theorem d_Tokens_scanName_91 : decode b_Tokens_scanName 91 = .ok (.iload_n 2, 1) := by decide +kernel
theorem d_Tokens_scanName_92 : decode b_Tokens_scanName 92 = .ok (.lload_n 3, 1) := by decide +kernel
theorem d_Tokens_scanName_93 : decode b_Tokens_scanName 93 = .ok (.invokevirtual 57, 3) := by decide +kernel
theorem d_Tokens_scanName_96 : decode b_Tokens_scanName 96 = .ok (.return_, 1) := by decide +kernel
theorem d_Tokens_scanNumber_0 : decode b_Tokens_scanNumber 0 = .ok (.aload_n 0, 1) := by decide +kernel
theorem d_Tokens_scanNumber_1 : decode b_Tokens_scanNumber 1 = .ok (.getfield 29, 3) := by decide +kernel
theorem d_Tokens_scanNumber_4 : decode b_Tokens_scanNumber 4 = .ok (.istore_n 2, 1) := by decide +kernel
theorem d_Tokens_scanNumber_5 : decode b_Tokens_scanNumber 5 = .ok (.lconst 0, 1) := by decide +kernel
theorem d_Tokens_scanNumber_6 : decode b_Tokens_scanNumber 6 = .ok (.lstore_n 3, 1) := by decide +kernel
theorem d_Tokens_scanNumber_7 : decode b_Tokens_scanNumber 7 = .ok (.aload_n 0, 1) := by decide +kernel
theorem d_Tokens_scanNumber_8 : decode b_Tokens_scanNumber 8 = .ok (.getfield 29, 3) := by decide +kernel
theorem d_Tokens_scanNumber_11 : decode b_Tokens_scanNumber 11 = .ok (.aload_n 0, 1) := by decide +kernel
theorem d_Tokens_scanNumber_12 : decode b_Tokens_scanNumber 12 = .ok (.getfield 26, 3) := by decide +kernel
theorem d_Tokens_scanNumber_15 : decode b_Tokens_scanNumber 15 = .ok (.if_icmp .ge 49, 3) := by decide +kernel
theorem d_Tokens_scanNumber_18 : decode b_Tokens_scanNumber 18 = .ok (.aload_n 1, 1) := by decide +kernel
theorem d_Tokens_scanNumber_19 : decode b_Tokens_scanNumber 19 = .ok (.aload_n 0, 1) := by decide +kernel
theorem d_Tokens_scanNumber_20 : decode b_Tokens_scanNumber 20 = .ok (.getfield 29, 3) := by decide +kernel
theorem d_Tokens_scanNumber_23 : decode b_Tokens_scanNumber 23 = .ok (.invokevirtual 36, 3) := by decide +kernel
theorem d_Tokens_scanNumber_26 : decode b_Tokens_scanNumber 26 = .ok (.invokestatic 48, 3) := by decide +kernel
theorem d_Tokens_scanNumber_29 : decode b_Tokens_scanNumber 29 = .ok (.ifCond .eq 35, 3) := by decide +kernel
theorem d_Tokens_scanNumber_32 : decode b_Tokens_scanNumber 32 = .ok (.lload_n 3, 1) := by decide +kernel
theorem d_Tokens_scanNumber_33 : decode b_Tokens_scanNumber 33 = .ok (.ldc2_w 61, 3) := by decide +kernel
theorem d_Tokens_scanNumber_36 : decode b_Tokens_scanNumber 36 = .ok (.lmul, 1) := by decide +kernel
theorem d_Tokens_scanNumber_37 : decode b_Tokens_scanNumber 37 = .ok (.aload_n 1, 1) := by decide +kernel
theorem d_Tokens_scanNumber_38 : decode b_Tokens_scanNumber 38 = .ok (.aload_n 0, 1) := by decide +kernel
theorem d_Tokens_scanNumber_39 : decode b_Tokens_scanNumber 39 = .ok (.getfield 29, 3) := by decide +kernel
theorem d_Tokens_scanNumber_42 : decode b_Tokens_scanNumber 42 = .ok (.invokevirtual 36, 3) := by decide +kernel
theorem d_Tokens_scanNumber_45 : decode b_Tokens_scanNumber 45 = .ok (.bipush 48, 2) := by decide +kernel
theorem d_Tokens_scanNumber_47 : decode b_Tokens_scanNumber 47 = .ok (.isub, 1) := by decide +kernel
theorem d_Tokens_scanNumber_48 : decode b_Tokens_scanNumber 48 = .ok (.i2l, 1) := by decide +kernel
theorem d_Tokens_scanNumber_49 : decode b_Tokens_scanNumber 49 = .ok (.ladd, 1) := by decide +kernel
theorem d_Tokens_scanNumber_50 : decode b_Tokens_scanNumber 50 = .ok (.lstore_n 3, 1) := by decide +kernel
theorem d_Tokens_scanNumber_51 : decode b_Tokens_scanNumber 51 = .ok (.aload_n 0, 1) := by decide +kernel
theorem d_Tokens_scanNumber_52 : decode b_Tokens_scanNumber 52 = .ok (.dup, 1) := by decide +kernel
theorem d_Tokens_scanNumber_53 : decode b_Tokens_scanNumber 53 = .ok (.getfield 29, 3) := by decide +kernel
theorem d_Tokens_scanNumber_56 : decode b_Tokens_scanNumber 56 = .ok (.iconst 1, 1) := by decide +kernel
theorem d_Tokens_scanNumber_57 : decode b_Tokens_scanNumber 57 = .ok (.iadd, 1) := by decide +kernel
theorem d_Tokens_scanNumber_58 : decode b_Tokens_scanNumber 58 = .ok (.putfield 29, 3) := by decide +kernel
theorem d_Tokens_scanNumber_61 : decode b_Tokens_scanNumber 61 = .ok (.goto (-54), 3) := by decide +kernel
theorem d_Tokens_scanNumber_64 : decode b_Tokens_scanNumber 64 = .ok (.aload_n 0, 1) := by decide +kernel
theorem d_Tokens_scanNumber_65 : decode b_Tokens_scanNumber 65 = .ok (.aload_n 0, 1) := by decide +kernel
theorem d_Tokens_scanNumber_66 : decode b_Tokens_scanNumber 66 = .ok (.getfield 29, 3) := by decide +kernel
theorem d_Tokens_scanNumber_69 : decode b_Tokens_scanNumber 69 = .ok (.iload_n 2, 1) := by decide +kernel
theorem d_Tokens_scanNumber_70 : decode b_Tokens_scanNumber 70 = .ok (.isub, 1) := by decide +kernel
theorem d_Tokens_scanNumber_71 : decode b_Tokens_scanNumber 71 = .ok (.bipush 10, 2) := by decide +kernel
theorem d_Tokens_scanNumber_73 : decode b_Tokens_scanNumber 73 = .ok (.if_icmp .gt 7, 3) := by decide +kernel
theorem d_Tokens_scanNumber_76 : decode b_Tokens_scanNumber 76 = .ok (.iconst 3, 1) := by decide +kernel
theorem d_Tokens_scanNumber_77 : decode b_Tokens_scanNumber 77 = .ok (.goto 4, 3) := by decide +kernel
theorem d_Tokens_scanNumber_80 : decode b_Tokens_scanNumber 80 = .ok (.iconst 1, 1) := by decide +kernel
theorem d_Tokens_scanNumber_81 : decode b_Tokens_scanNumber 81 = .ok (.iload_n 2, 1) := by decide +kernel
theorem d_Tokens_scanNumber_82 : decode b_Tokens_scanNumber 82 = .ok (.lload_n 3, 1) := by decide +kernel
theorem d_Tokens_scanNumber_83 : decode b_Tokens_scanNumber 83 = .ok (.invokevirtual 57, 3) := by decide +kernel
theorem d_Tokens_scanNumber_86 : decode b_Tokens_scanNumber 86 = .ok (.return_, 1) := by decide +kernel
theorem d_Tokens_scan_0 : decode b_Tokens_scan 0 = .ok (.aload_n 0, 1) := by decide +kernel
theorem d_Tokens_scan_1 : decode b_Tokens_scan 1 = .ok (.iconst 0, 1) := by decide +kernel
theorem d_Tokens_scan_2 : decode b_Tokens_scan 2 = .ok (.putfield 22, 3) := by decide +kernel
theorem d_Tokens_scan_5 : decode b_Tokens_scan 5 = .ok (.aload_n 0, 1) := by decide +kernel
theorem d_Tokens_scan_6 : decode b_Tokens_scan 6 = .ok (.iconst 0, 1) := by decide +kernel
theorem d_Tokens_scan_7 : decode b_Tokens_scan 7 = .ok (.putfield 29, 3) := by decide +kernel
theorem d_Tokens_scan_10 : decode b_Tokens_scan 10 = .ok (.aload_n 0, 1) := by decide +kernel
theorem d_Tokens_scan_11 : decode b_Tokens_scan 11 = .ok (.aload_n 1, 1) := by decide +kernel
theorem d_Tokens_scan_12 : decode b_Tokens_scan 12 = .ok (.invokevirtual 32, 3) := by decide +kernel
theorem d_Tokens_scan_15 : decode b_Tokens_scan 15 = .ok (.putfield 26, 3) := by decide +kernel
theorem d_Tokens_scan_18 : decode b_Tokens_scan 18 = .ok (.iconst 0, 1) := by decide +kernel
theorem d_Tokens_scan_19 : decode b_Tokens_scan 19 = .ok (.istore_n 2, 1) := by decide +kernel
theorem d_Tokens_scan_20 : decode b_Tokens_scan 20 = .ok (.iload_n 2, 1) := by decide +kernel
theorem d_Tokens_scan_21 : decode b_Tokens_scan 21 = .ok (.sipush 480, 3) := by decide +kernel
theorem d_Tokens_scan_24 : decode b_Tokens_scan 24 = .ok (.if_icmp .ge 111, 3) := by decide +kernel
theorem d_Tokens_scan_27 : decode b_Tokens_scan 27 = .ok (.aload_n 0, 1) := by decide +kernel
theorem d_Tokens_scan_28 : decode b_Tokens_scan 28 = .ok (.getfield 29, 3) := by decide +kernel
theorem d_Tokens_scan_31 : decode b_Tokens_scan 31 = .ok (.aload_n 0, 1) := by decide +kernel
theorem d_Tokens_scan_32 : decode b_Tokens_scan 32 = .ok (.getfield 26, 3) := by decide +kernel
theorem d_Tokens_scan_35 : decode b_Tokens_scan 35 = .ok (.if_icmp .ge 100, 3) := by decide +kernel
theorem d_Tokens_scan_38 : decode b_Tokens_scan 38 = .ok (.aload_n 1, 1) := by decide +kernel
theorem d_Tokens_scan_39 : decode b_Tokens_scan 39 = .ok (.aload_n 0, 1) := by decide +kernel
theorem d_Tokens_scan_40 : decode b_Tokens_scan 40 = .ok (.getfield 29, 3) := by decide +kernel
theorem d_Tokens_scan_43 : decode b_Tokens_scan 43 = .ok (.invokevirtual 36, 3) := by decide +kernel
theorem d_Tokens_scan_46 : decode b_Tokens_scan 46 = .ok (.istore_n 3, 1) := by decide +kernel
theorem d_Tokens_scan_47 : decode b_Tokens_scan 47 = .ok (.iload_n 3, 1) := by decide +kernel
theorem d_Tokens_scan_48 : decode b_Tokens_scan 48 = .ok (.bipush 32, 2) := by decide +kernel
theorem d_Tokens_scan_50 : decode b_Tokens_scan 50 = .ok (.if_icmp .ne 16, 3) := by decide +kernel
theorem d_Tokens_scan_53 : decode b_Tokens_scan 53 = .ok (.aload_n 0, 1) := by decide +kernel
theorem d_Tokens_scan_54 : decode b_Tokens_scan 54 = .ok (.dup, 1) := by decide +kernel
theorem d_Tokens_scan_55 : decode b_Tokens_scan 55 = .ok (.getfield 29, 3) := by decide +kernel
theorem d_Tokens_scan_58 : decode b_Tokens_scan 58 = .ok (.iconst 1, 1) := by decide +kernel
theorem d_Tokens_scan_59 : decode b_Tokens_scan 59 = .ok (.iadd, 1) := by decide +kernel
theorem d_Tokens_scan_60 : decode b_Tokens_scan 60 = .ok (.putfield 29, 3) := by decide +kernel
theorem d_Tokens_scan_63 : decode b_Tokens_scan 63 = .ok (.goto 66, 3) := by decide +kernel
theorem d_Tokens_scan_66 : decode b_Tokens_scan 66 = .ok (.iload_n 3, 1) := by decide +kernel
theorem d_Tokens_scan_67 : decode b_Tokens_scan 67 = .ok (.invokestatic 40, 3) := by decide +kernel
theorem d_Tokens_scan_70 : decode b_Tokens_scan 70 = .ok (.ifCond .eq 11, 3) := by decide +kernel
theorem d_Tokens_scan_73 : decode b_Tokens_scan 73 = .ok (.aload_n 0, 1) := by decide +kernel
theorem d_Tokens_scan_74 : decode b_Tokens_scan 74 = .ok (.aload_n 1, 1) := by decide +kernel
theorem d_Tokens_scan_75 : decode b_Tokens_scan 75 = .ok (.invokevirtual 44, 3) := by decide +kernel
theorem d_Tokens_scan_78 : decode b_Tokens_scan 78 = .ok (.goto 51, 3) := by decide +kernel
theorem d_Tokens_scan_81 : decode b_Tokens_scan 81 = .ok (.iload_n 3, 1) := by decide +kernel
theorem d_Tokens_scan_82 : decode b_Tokens_scan 82 = .ok (.invokestatic 48, 3) := by decide +kernel
theorem d_Tokens_scan_85 : decode b_Tokens_scan 85 = .ok (.ifCond .eq 11, 3) := by decide +kernel
theorem d_Tokens_scan_88 : decode b_Tokens_scan 88 = .ok (.aload_n 0, 1) := by decide +kernel
theorem d_Tokens_scan_89 : decode b_Tokens_scan 89 = .ok (.aload_n 1, 1) := by decide +kernel
theorem d_Tokens_scan_90 : decode b_Tokens_scan 90 = .ok (.invokevirtual 51, 3) := by decide +kernel
theorem d_Tokens_scan_93 : decode b_Tokens_scan 93 = .ok (.goto 36, 3) := by decide +kernel
theorem d_Tokens_scan_96 : decode b_Tokens_scan 96 = .ok (.aload_n 0, 1) := by decide +kernel
theorem d_Tokens_scan_97 : decode b_Tokens_scan 97 = .ok (.dup, 1) := by decide +kernel
theorem d_Tokens_scan_98 : decode b_Tokens_scan 98 = .ok (.getfield 29, 3) := by decide +kernel
theorem d_Tokens_scan_101 : decode b_Tokens_scan 101 = .ok (.iconst 1, 1) := by decide +kernel
theorem d_Tokens_scan_102 : decode b_Tokens_scan 102 = .ok (.iadd, 1) := by decide +kernel
theorem d_Tokens_scan_103 : decode b_Tokens_scan 103 = .ok (.putfield 29, 3) := by decide +kernel
theorem d_Tokens_scan_106 : decode b_Tokens_scan 106 = .ok (.aload_n 0, 1) := by decide +kernel
theorem d_Tokens_scan_107 : decode b_Tokens_scan 107 = .ok (.iload_n 3, 1) := by decide +kernel
theorem d_Tokens_scan_108 : decode b_Tokens_scan 108 = .ok (.invokestatic 54, 3) := by decide +kernel
theorem d_Tokens_scan_111 : decode b_Tokens_scan 111 = .ok (.ifCond .eq 7, 3) := by decide +kernel
theorem d_Tokens_scan_114 : decode b_Tokens_scan 114 = .ok (.iload_n 3, 1) := by decide +kernel
theorem d_Tokens_scan_115 : decode b_Tokens_scan 115 = .ok (.goto 4, 3) := by decide +kernel
theorem d_Tokens_scan_118 : decode b_Tokens_scan 118 = .ok (.iconst 1, 1) := by decide +kernel
theorem d_Tokens_scan_119 : decode b_Tokens_scan 119 = .ok (.aload_n 0, 1) := by decide +kernel
theorem d_Tokens_scan_120 : decode b_Tokens_scan 120 = .ok (.getfield 29, 3) := by decide +kernel
theorem d_Tokens_scan_123 : decode b_Tokens_scan 123 = .ok (.iconst 1, 1) := by decide +kernel
theorem d_Tokens_scan_124 : decode b_Tokens_scan 124 = .ok (.isub, 1) := by decide +kernel
theorem d_Tokens_scan_125 : decode b_Tokens_scan 125 = .ok (.lconst 0, 1) := by decide +kernel
theorem d_Tokens_scan_126 : decode b_Tokens_scan 126 = .ok (.invokevirtual 57, 3) := by decide +kernel
theorem d_Tokens_scan_129 : decode b_Tokens_scan 129 = .ok (.iinc 2 1, 3) := by decide +kernel
theorem d_Tokens_scan_132 : decode b_Tokens_scan 132 = .ok (.goto (-112), 3) := by decide +kernel
theorem d_Tokens_scan_135 : decode b_Tokens_scan 135 = .ok (.return_, 1) := by decide +kernel
theorem d_Arrays_fill_0 : decode b_Arrays_fill 0 = .ok (.iconst 0, 1) := by decide +kernel
theorem d_Arrays_fill_1 : decode b_Arrays_fill 1 = .ok (.istore_n 2, 1) := by decide +kernel
theorem d_Arrays_fill_2 : decode b_Arrays_fill 2 = .ok (.aload_n 0, 1) := by decide +kernel
theorem d_Arrays_fill_3 : decode b_Arrays_fill 3 = .ok (.arraylength, 1) := by decide +kernel
theorem d_Arrays_fill_4 : decode b_Arrays_fill 4 = .ok (.istore_n 3, 1) := by decide +kernel
theorem d_Arrays_fill_5 : decode b_Arrays_fill 5 = .ok (.iload_n 2, 1) := by decide +kernel
theorem d_Arrays_fill_6 : decode b_Arrays_fill 6 = .ok (.iload_n 3, 1) := by decide +kernel
theorem d_Arrays_fill_7 : decode b_Arrays_fill 7 = .ok (.if_icmp .ge 13, 3) := by decide +kernel
theorem d_Arrays_fill_10 : decode b_Arrays_fill 10 = .ok (.aload_n 0, 1) := by decide +kernel
theorem d_Arrays_fill_11 : decode b_Arrays_fill 11 = .ok (.iload_n 2, 1) := by decide +kernel
theorem d_Arrays_fill_12 : decode b_Arrays_fill 12 = .ok (.iload_n 1, 1) := by decide +kernel
theorem d_Arrays_fill_13 : decode b_Arrays_fill 13 = .ok (.iastore, 1) := by decide +kernel
theorem d_Arrays_fill_14 : decode b_Arrays_fill 14 = .ok (.iinc 2 1, 3) := by decide +kernel
theorem d_Arrays_fill_17 : decode b_Arrays_fill 17 = .ok (.goto (-12), 3) := by decide +kernel
theorem d_Arrays_fill_20 : decode b_Arrays_fill 20 = .ok (.return_, 1) := by decide +kernel
theorem d_Program_clear_0 : decode b_Program_clear 0 = .ok (.aload_n 0, 1) := by decide +kernel
theorem d_Program_clear_1 : decode b_Program_clear 1 = .ok (.getfield 13, 3) := by decide +kernel
theorem d_Program_clear_4 : decode b_Program_clear 4 = .ok (.iconst 0, 1) := by decide +kernel
theorem d_Program_clear_5 : decode b_Program_clear 5 = .ok (.invokestatic 34, 3) := by decide +kernel
theorem d_Program_clear_8 : decode b_Program_clear 8 = .ok (.aload_n 0, 1) := by decide +kernel
theorem d_Program_clear_9 : decode b_Program_clear 9 = .ok (.getfield 17, 3) := by decide +kernel
theorem d_Program_clear_12 : decode b_Program_clear 12 = .ok (.iconst 0, 1) := by decide +kernel
theorem d_Program_clear_13 : decode b_Program_clear 13 = .ok (.invokestatic 34, 3) := by decide +kernel
theorem d_Program_clear_16 : decode b_Program_clear 16 = .ok (.aload_n 0, 1) := by decide +kernel
theorem d_Program_clear_17 : decode b_Program_clear 17 = .ok (.iconst 0, 1) := by decide +kernel
theorem d_Program_clear_18 : decode b_Program_clear 18 = .ok (.putfield 27, 3) := by decide +kernel
theorem d_Program_clear_21 : decode b_Program_clear 21 = .ok (.aload_n 0, 1) := by decide +kernel
theorem d_Program_clear_22 : decode b_Program_clear 22 = .ok (.iconst 0, 1) := by decide +kernel
theorem d_Program_clear_23 : decode b_Program_clear 23 = .ok (.putfield 31, 3) := by decide +kernel
theorem d_Program_clear_26 : decode b_Program_clear 26 = .ok (.return_, 1) := by decide +kernel
theorem d_Program_put_0 : decode b_Program_put 0 = .ok (.iload_n 1, 1) := by decide +kernel
theorem d_Program_put_1 : decode b_Program_put 1 = .ok (.ifCond .lt 17, 3) := by decide +kernel
theorem d_Program_put_4 : decode b_Program_put 4 = .ok (.iload_n 1, 1) := by decide +kernel
theorem d_Program_put_5 : decode b_Program_put 5 = .ok (.sipush 256, 3) := by decide +kernel
theorem d_Program_put_8 : decode b_Program_put 8 = .ok (.if_icmp .ge 10, 3) := by decide +kernel
theorem d_Program_put_11 : decode b_Program_put 11 = .ok (.aload_n 0, 1) := by decide +kernel
theorem d_Program_put_12 : decode b_Program_put 12 = .ok (.getfield 13, 3) := by decide +kernel
theorem d_Program_put_15 : decode b_Program_put 15 = .ok (.iload_n 1, 1) := by decide +kernel
theorem d_Program_put_16 : decode b_Program_put 16 = .ok (.iload_n 2, 1) := by decide +kernel
theorem d_Program_put_17 : decode b_Program_put 17 = .ok (.iastore, 1) := by decide +kernel
theorem d_Program_put_18 : decode b_Program_put 18 = .ok (.return_, 1) := by decide +kernel
theorem d_Program_begin_0 : decode b_Program_begin 0 = .ok (.iload_n 1, 1) := by decide +kernel
theorem d_Program_begin_1 : decode b_Program_begin 1 = .ok (.ifCond .lt 26, 3) := by decide +kernel
theorem d_Program_begin_4 : decode b_Program_begin 4 = .ok (.iload_n 1, 1) := by decide +kernel
theorem d_Program_begin_5 : decode b_Program_begin 5 = .ok (.iconst 4, 1) := by decide +kernel
theorem d_Program_begin_6 : decode b_Program_begin 6 = .ok (.if_icmp .ge 21, 3) := by decide +kernel
theorem d_Program_begin_9 : decode b_Program_begin 9 = .ok (.aload_n 0, 1) := by decide +kernel
theorem d_Program_begin_10 : decode b_Program_begin 10 = .ok (.getfield 17, 3) := by decide +kernel
theorem d_Program_begin_13 : decode b_Program_begin 13 = .ok (.iload_n 1, 1) := by decide +kernel
theorem d_Program_begin_14 : decode b_Program_begin 14 = .ok (.iload_n 2, 1) := by decide +kernel
theorem d_Program_begin_15 : decode b_Program_begin 15 = .ok (.sipush 256, 3) := by decide +kernel
theorem d_Program_begin_18 : decode b_Program_begin 18 = .ok (.if_icmp .ge 7, 3) := by decide +kernel
theorem d_Program_begin_21 : decode b_Program_begin 21 = .ok (.iload_n 2, 1) := by decide +kernel
theorem d_Program_begin_22 : decode b_Program_begin 22 = .ok (.goto 4, 3) := by decide +kernel
theorem d_Program_begin_25 : decode b_Program_begin 25 = .ok (.iconst 0, 1) := by decide +kernel
theorem d_Program_begin_26 : decode b_Program_begin 26 = .ok (.iastore, 1) := by decide +kernel
theorem d_Program_begin_27 : decode b_Program_begin 27 = .ok (.return_, 1) := by decide +kernel
theorem d_Program_addressOf_0 : decode b_Program_addressOf 0 = .ok (.iconst 0, 1) := by decide +kernel
theorem d_Program_addressOf_1 : decode b_Program_addressOf 1 = .ok (.istore_n 3, 1) := by decide +kernel
theorem d_Program_addressOf_2 : decode b_Program_addressOf 2 = .ok (.iload_n 3, 1) := by decide +kernel
theorem d_Program_addressOf_3 : decode b_Program_addressOf 3 = .ok (.aload_n 0, 1) := by decide +kernel
theorem d_Program_addressOf_4 : decode b_Program_addressOf 4 = .ok (.getfield 27, 3) := by decide +kernel
theorem d_Program_addressOf_7 : decode b_Program_addressOf 7 = .ok (.if_icmp .ge 34, 3) := by decide +kernel
theorem d_Program_addressOf_10 : decode b_Program_addressOf 10 = .ok (.iload_n 3, 1) := by decide +kernel
theorem d_Program_addressOf_11 : decode b_Program_addressOf 11 = .ok (.sipush 240, 3) := by decide +kernel
theorem d_Program_addressOf_14 : decode b_Program_addressOf 14 = .ok (.if_icmp .ge 27, 3) := by decide +kernel
theorem d_Program_addressOf_17 : decode b_Program_addressOf 17 = .ok (.aload_n 0, 1) := by decide +kernel
theorem d_Program_addressOf_18 : decode b_Program_addressOf 18 = .ok (.getfield 20, 3) := by decide +kernel
theorem d_Program_addressOf_21 : decode b_Program_addressOf 21 = .ok (.iload_n 3, 1) := by decide +kernel
theorem d_Program_addressOf_22 : decode b_Program_addressOf 22 = .ok (.laload, 1) := by decide +kernel
theorem d_Program_addressOf_23 : decode b_Program_addressOf 23 = .ok (.lload_n 1, 1) := by decide +kernel
theorem d_Program_addressOf_24 : decode b_Program_addressOf 24 = .ok (.lcmp, 1) := by decide +kernel
theorem d_Program_addressOf_25 : decode b_Program_addressOf 25 = .ok (.ifCond .ne 10, 3) := by decide +kernel
theorem d_Program_addressOf_28 : decode b_Program_addressOf 28 = .ok (.aload_n 0, 1) := by decide +kernel
theorem d_Program_addressOf_29 : decode b_Program_addressOf 29 = .ok (.getfield 24, 3) := by decide +kernel
theorem d_Program_addressOf_32 : decode b_Program_addressOf 32 = .ok (.iload_n 3, 1) := by decide +kernel
theorem d_Program_addressOf_33 : decode b_Program_addressOf 33 = .ok (.iaload, 1) := by decide +kernel
theorem d_Program_addressOf_34 : decode b_Program_addressOf 34 = .ok (.ireturn, 1) := by decide +kernel
theorem d_Program_addressOf_35 : decode b_Program_addressOf 35 = .ok (.iinc 3 1, 3) := by decide +kernel
theorem d_Program_addressOf_38 : decode b_Program_addressOf 38 = .ok (.goto (-36), 3) := by decide +kernel
theorem d_Program_addressOf_41 : decode b_Program_addressOf 41 = .ok (.iconst (-1), 1) := by decide +kernel
theorem d_Program_addressOf_42 : decode b_Program_addressOf 42 = .ok (.ireturn, 1) := by decide +kernel
theorem d_Program_add_0 : decode b_Program_add 0 = .ok (.aload_n 0, 1) := by decide +kernel
theorem d_Program_add_1 : decode b_Program_add 1 = .ok (.lload_n 1, 1) := by decide +kernel
theorem d_Program_add_2 : decode b_Program_add 2 = .ok (.invokevirtual 40, 3) := by decide +kernel
theorem d_Program_add_5 : decode b_Program_add 5 = .ok (.iconst (-1), 1) := by decide +kernel
theorem d_Program_add_6 : decode b_Program_add 6 = .ok (.if_icmp .ne 13, 3) := by decide +kernel
theorem d_Program_add_9 : decode b_Program_add 9 = .ok (.aload_n 0, 1) := by decide +kernel
theorem d_Program_add_10 : decode b_Program_add 10 = .ok (.getfield 27, 3) := by decide +kernel
theorem d_Program_add_13 : decode b_Program_add 13 = .ok (.sipush 240, 3) := by decide +kernel
theorem d_Program_add_16 : decode b_Program_add 16 = .ok (.if_icmp .lt 5, 3) := by decide +kernel
theorem d_Program_add_19 : decode b_Program_add 19 = .ok (.iconst 0, 1) := by decide +kernel
theorem d_Program_add_20 : decode b_Program_add 20 = .ok (.ireturn, 1) := by decide +kernel
theorem d_Program_add_21 : decode b_Program_add 21 = .ok (.aload_n 0, 1) := by decide +kernel
theorem d_Program_add_22 : decode b_Program_add 22 = .ok (.getfield 20, 3) := by decide +kernel
theorem d_Program_add_25 : decode b_Program_add 25 = .ok (.aload_n 0, 1) := by decide +kernel
theorem d_Program_add_26 : decode b_Program_add 26 = .ok (.getfield 27, 3) := by decide +kernel
theorem d_Program_add_29 : decode b_Program_add 29 = .ok (.lload_n 1, 1) := by decide +kernel
theorem d_Program_add_30 : decode b_Program_add 30 = .ok (.lastore, 1) := by decide +kernel
theorem d_Program_add_31 : decode b_Program_add 31 = .ok (.aload_n 0, 1) := by decide +kernel
theorem d_Program_add_32 : decode b_Program_add 32 = .ok (.getfield 24, 3) := by decide +kernel
theorem d_Program_add_35 : decode b_Program_add 35 = .ok (.aload_n 0, 1) := by decide +kernel
theorem d_Program_add_36 : decode b_Program_add 36 = .ok (.getfield 27, 3) := by decide +kernel
theorem d_Program_add_39 : decode b_Program_add 39 = .ok (.iload_n 3, 1) := by decide +kernel
theorem d_Program_add_40 : decode b_Program_add 40 = .ok (.iastore, 1) := by decide +kernel
theorem d_Program_add_41 : decode b_Program_add 41 = .ok (.aload_n 0, 1) := by decide +kernel
theorem d_Program_add_42 : decode b_Program_add 42 = .ok (.dup, 1) := by decide +kernel
theorem d_Program_add_43 : decode b_Program_add 43 = .ok (.getfield 27, 3) := by decide +kernel
theorem d_Program_add_46 : decode b_Program_add 46 = .ok (.iconst 1, 1) := by decide +kernel
theorem d_Program_add_47 : decode b_Program_add 47 = .ok (.iadd, 1) := by decide +kernel
theorem d_Program_add_48 : decode b_Program_add 48 = .ok (.putfield 27, 3) := by decide +kernel
theorem d_Program_add_51 : decode b_Program_add 51 = .ok (.iconst 1, 1) := by decide +kernel
theorem d_Program_add_52 : decode b_Program_add 52 = .ok (.ireturn, 1) := by decide +kernel
theorem d_Fault_clear_0 : decode b_Fault_clear 0 = .ok (.aload_n 0, 1) := by decide +kernel
theorem d_Fault_clear_1 : decode b_Fault_clear 1 = .ok (.iconst 0, 1) := by decide +kernel
theorem d_Fault_clear_2 : decode b_Fault_clear 2 = .ok (.putfield 7, 3) := by decide +kernel
theorem d_Fault_clear_5 : decode b_Fault_clear 5 = .ok (.aload_n 0, 1) := by decide +kernel
theorem d_Fault_clear_6 : decode b_Fault_clear 6 = .ok (.iconst 0, 1) := by decide +kernel
theorem d_Fault_clear_7 : decode b_Fault_clear 7 = .ok (.putfield 13, 3) := by decide +kernel
theorem d_Fault_clear_10 : decode b_Fault_clear 10 = .ok (.return_, 1) := by decide +kernel
theorem d_Fault_refuse_0 : decode b_Fault_refuse 0 = .ok (.aload_n 0, 1) := by decide +kernel
theorem d_Fault_refuse_1 : decode b_Fault_refuse 1 = .ok (.iconst 1, 1) := by decide +kernel
theorem d_Fault_refuse_2 : decode b_Fault_refuse 2 = .ok (.putfield 7, 3) := by decide +kernel
theorem d_Fault_refuse_5 : decode b_Fault_refuse 5 = .ok (.aload_n 0, 1) := by decide +kernel
theorem d_Fault_refuse_6 : decode b_Fault_refuse 6 = .ok (.iload_n 1, 1) := by decide +kernel
theorem d_Fault_refuse_7 : decode b_Fault_refuse 7 = .ok (.putfield 13, 3) := by decide +kernel
theorem d_Fault_refuse_10 : decode b_Fault_refuse 10 = .ok (.iconst 0, 1) := by decide +kernel
theorem d_Fault_refuse_11 : decode b_Fault_refuse 11 = .ok (.ireturn, 1) := by decide +kernel
theorem d_Fault_note_0 : decode b_Fault_note 0 = .ok (.aload_n 0, 1) := by decide +kernel
theorem d_Fault_note_1 : decode b_Fault_note 1 = .ok (.getfield 7, 3) := by decide +kernel
theorem d_Fault_note_4 : decode b_Fault_note 4 = .ok (.ifCond .eq 27, 3) := by decide +kernel
theorem d_Fault_note_7 : decode b_Fault_note 7 = .ok (.iload_n 2, 1) := by decide +kernel
theorem d_Fault_note_8 : decode b_Fault_note 8 = .ok (.aload_n 0, 1) := by decide +kernel
theorem d_Fault_note_9 : decode b_Fault_note 9 = .ok (.getfield 13, 3) := by decide +kernel

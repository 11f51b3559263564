theorem d_Order_fits_16 : decode b_Order_fits 16 = .ok (.lcmp, 1) := by decide +kernel
theorem d_Order_fits_17 : decode b_Order_fits 17 = .ok (.ifCond .gt 7, 3) := by decide +kernel
theorem d_Order_fits_20 : decode b_Order_fits 20 = .ok (.iconst 1, 1) := by decide +kernel
theorem d_Order_fits_21 : decode b_Order_fits 21 = .ok (.goto 4, 3) := by decide +kernel
theorem d_Order_fits_24 : decode b_Order_fits 24 = .ok (.iconst 0, 1) := by decide +kernel
theorem d_Order_fits_25 : decode b_Order_fits 25 = .ok (.ireturn, 1) := by decide +kernel
theorem d_String_coder_0 : decode b_String_coder 0 = .ok (.getstatic 38, 3) := by decide +kernel
theorem d_String_coder_3 : decode b_String_coder 3 = .ok (.ifCond .eq 10, 3) := by decide +kernel
theorem d_String_coder_6 : decode b_String_coder 6 = .ok (.aload_n 0, 1) := by decide +kernel
theorem d_String_coder_7 : decode b_String_coder 7 = .ok (.getfield 15, 3) := by decide +kernel
theorem d_String_coder_10 : decode b_String_coder 10 = .ok (.goto 4, 3) := by decide +kernel
theorem d_String_coder_13 : decode b_String_coder 13 = .ok (.iconst 1, 1) := by decide +kernel
theorem d_String_coder_14 : decode b_String_coder 14 = .ok (.ireturn, 1) := by decide +kernel
theorem d_String_isLatin1_0 : decode b_String_isLatin1 0 = .ok (.getstatic 38, 3) := by decide +kernel
theorem d_String_isLatin1_3 : decode b_String_isLatin1 3 = .ok (.ifCond .eq 14, 3) := by decide +kernel
theorem d_String_isLatin1_6 : decode b_String_isLatin1 6 = .ok (.aload_n 0, 1) := by decide +kernel
theorem d_String_isLatin1_7 : decode b_String_isLatin1 7 = .ok (.getfield 15, 3) := by decide +kernel
theorem d_String_isLatin1_10 : decode b_String_isLatin1 10 = .ok (.ifCond .ne 7, 3) := by decide +kernel
theorem d_String_isLatin1_13 : decode b_String_isLatin1 13 = .ok (.iconst 1, 1) := by decide +kernel
theorem d_String_isLatin1_14 : decode b_String_isLatin1 14 = .ok (.goto 4, 3) := by decide +kernel
theorem d_String_isLatin1_17 : decode b_String_isLatin1 17 = .ok (.iconst 0, 1) := by decide +kernel
theorem d_String_isLatin1_18 : decode b_String_isLatin1 18 = .ok (.ireturn, 1) := by decide +kernel
theorem d_String_length_0 : decode b_String_length 0 = .ok (.aload_n 0, 1) := by decide +kernel
theorem d_String_length_1 : decode b_String_length 1 = .ok (.getfield 9, 3) := by decide +kernel
theorem d_String_length_4 : decode b_String_length 4 = .ok (.arraylength, 1) := by decide +kernel
theorem d_String_length_5 : decode b_String_length 5 = .ok (.aload_n 0, 1) := by decide +kernel
theorem d_String_length_6 : decode b_String_length 6 = .ok (.invokevirtual 335, 3) := by decide +kernel
theorem d_String_length_9 : decode b_String_length 9 = .ok (.ishr, 1) := by decide +kernel
theorem d_String_length_10 : decode b_String_length 10 = .ok (.ireturn, 1) := by decide +kernel
theorem d_Pre_checkN_0 : decode b_Pre_checkN 0 = .ok (.iload_n 0, 1) := by decide +kernel
theorem d_Pre_checkN_1 : decode b_Pre_checkN 1 = .ok (.ifCond .lt 8, 3) := by decide +kernel
theorem d_Pre_checkN_4 : decode b_Pre_checkN 4 = .ok (.iload_n 0, 1) := by decide +kernel
theorem d_Pre_checkN_5 : decode b_Pre_checkN 5 = .ok (.iload_n 1, 1) := by decide +kernel
theorem d_Pre_checkN_6 : decode b_Pre_checkN 6 = .ok (.if_icmp .lt 10, 3) := by decide +kernel
theorem d_Pre_checkN_9 : decode b_Pre_checkN 9 = .ok (.aload_n 2, 1) := by decide +kernel
theorem d_Pre_checkN_10 : decode b_Pre_checkN 10 = .ok (.iload_n 0, 1) := by decide +kernel
theorem d_Pre_checkN_11 : decode b_Pre_checkN 11 = .ok (.iload_n 1, 1) := by decide +kernel
theorem d_Pre_checkN_12 : decode b_Pre_checkN 12 = .ok (.invokestatic 95, 3) := by decide +kernel
theorem d_Pre_checkN_15 : decode b_Pre_checkN 15 = .ok (.athrow, 1) := by decide +kernel
theorem d_Pre_checkN_16 : decode b_Pre_checkN 16 = .ok (.iload_n 0, 1) := by decide +kernel
theorem d_Pre_checkN_17 : decode b_Pre_checkN 17 = .ok (.ireturn, 1) := by decide +kernel
theorem d_Pre_checkR_0 : decode b_Pre_checkR 0 = .ok (.iload_n 0, 1) := by decide +kernel
theorem d_Pre_checkR_1 : decode b_Pre_checkR 1 = .ok (.ifCond .lt 8, 3) := by decide +kernel
theorem d_Pre_checkR_4 : decode b_Pre_checkR 4 = .ok (.iload_n 0, 1) := by decide +kernel
theorem d_Pre_checkR_5 : decode b_Pre_checkR 5 = .ok (.iload_n 1, 1) := by decide +kernel
theorem d_Pre_checkR_6 : decode b_Pre_checkR 6 = .ok (.if_icmp .lt 10, 3) := by decide +kernel
theorem d_Pre_checkR_9 : decode b_Pre_checkR 9 = .ok (.aload_n 2, 1) := by decide +kernel
theorem d_Pre_checkR_10 : decode b_Pre_checkR 10 = .ok (.iload_n 0, 1) := by decide +kernel
theorem d_Pre_checkR_11 : decode b_Pre_checkR 11 = .ok (.iload_n 1, 1) := by decide +kernel
theorem d_Pre_checkR_12 : decode b_Pre_checkR 12 = .ok (.invokestatic 95, 3) := by decide +kernel
theorem d_Pre_checkR_15 : decode b_Pre_checkR 15 = .ok (.athrow, 1) := by decide +kernel
theorem d_Pre_checkR_16 : decode b_Pre_checkR 16 = .ok (.iload_n 0, 1) := by decide +kernel
theorem d_Pre_checkR_17 : decode b_Pre_checkR 17 = .ok (.ireturn, 1) := by decide +kernel
theorem d_String_checkIndex_0 : decode b_String_checkIndex 0 = .ok (.iload_n 0, 1) := by decide +kernel
theorem d_String_checkIndex_1 : decode b_String_checkIndex 1 = .ok (.iload_n 1, 1) := by decide +kernel
theorem d_String_checkIndex_2 : decode b_String_checkIndex 2 = .ok (.getstatic 1053, 3) := by decide +kernel
theorem d_String_checkIndex_5 : decode b_String_checkIndex 5 = .ok (.invokestatic 1059, 3) := by decide +kernel
theorem d_String_checkIndex_8 : decode b_String_checkIndex 8 = .ok (.pop, 1) := by decide +kernel
theorem d_String_checkIndex_9 : decode b_String_checkIndex 9 = .ok (.return_, 1) := by decide +kernel
theorem d_Latin1_charAt_0 : decode b_Latin1_charAt 0 = .ok (.iload_n 1, 1) := by decide +kernel
theorem d_Latin1_charAt_1 : decode b_Latin1_charAt 1 = .ok (.aload_n 0, 1) := by decide +kernel
theorem d_Latin1_charAt_2 : decode b_Latin1_charAt 2 = .ok (.arraylength, 1) := by decide +kernel
theorem d_Latin1_charAt_3 : decode b_Latin1_charAt 3 = .ok (.invokestatic 9, 3) := by decide +kernel
theorem d_Latin1_charAt_6 : decode b_Latin1_charAt 6 = .ok (.aload_n 0, 1) := by decide +kernel
theorem d_Latin1_charAt_7 : decode b_Latin1_charAt 7 = .ok (.iload_n 1, 1) := by decide +kernel
theorem d_Latin1_charAt_8 : decode b_Latin1_charAt 8 = .ok (.baload, 1) := by decide +kernel
theorem d_Latin1_charAt_9 : decode b_Latin1_charAt 9 = .ok (.sipush 255, 3) := by decide +kernel
theorem d_Latin1_charAt_12 : decode b_Latin1_charAt 12 = .ok (.iand, 1) := by decide +kernel
theorem d_Latin1_charAt_13 : decode b_Latin1_charAt 13 = .ok (.i2c, 1) := by decide +kernel
theorem d_Latin1_charAt_14 : decode b_Latin1_charAt 14 = .ok (.ireturn, 1) := by decide +kernel
theorem d_String_charAt_0 : decode b_String_charAt 0 = .ok (.aload_n 0, 1) := by decide +kernel
theorem d_String_charAt_1 : decode b_String_charAt 1 = .ok (.invokevirtual 492, 3) := by decide +kernel
theorem d_String_charAt_4 : decode b_String_charAt 4 = .ok (.ifCond .eq 12, 3) := by decide +kernel
theorem d_String_charAt_7 : decode b_String_charAt 7 = .ok (.aload_n 0, 1) := by decide +kernel
theorem d_String_charAt_8 : decode b_String_charAt 8 = .ok (.getfield 9, 3) := by decide +kernel
theorem d_String_charAt_11 : decode b_String_charAt 11 = .ok (.iload_n 1, 1) := by decide +kernel
theorem d_String_charAt_12 : decode b_String_charAt 12 = .ok (.invokestatic 495, 3) := by decide +kernel
theorem d_String_charAt_15 : decode b_String_charAt 15 = .ok (.ireturn, 1) := by decide +kernel
theorem d_String_charAt_16 : decode b_String_charAt 16 = .ok (.aload_n 0, 1) := by decide +kernel
theorem d_String_charAt_17 : decode b_String_charAt 17 = .ok (.getfield 9, 3) := by decide +kernel
theorem d_String_charAt_20 : decode b_String_charAt 20 = .ok (.iload_n 1, 1) := by decide +kernel
theorem d_String_charAt_21 : decode b_String_charAt 21 = .ok (.invokestatic 498, 3) := by decide +kernel
theorem d_String_charAt_24 : decode b_String_charAt 24 = .ok (.ireturn, 1) := by decide +kernel
theorem d_Asm_readNumber_0 : decode b_Asm_readNumber 0 = .ok (.aload_n 0, 1) := by decide +kernel
theorem d_Asm_readNumber_1 : decode b_Asm_readNumber 1 = .ok (.getfield 21, 3) := by decide +kernel
theorem d_Asm_readNumber_4 : decode b_Asm_readNumber 4 = .ok (.aload_n 0, 1) := by decide +kernel
theorem d_Asm_readNumber_5 : decode b_Asm_readNumber 5 = .ok (.getfield 36, 3) := by decide +kernel
theorem d_Asm_readNumber_8 : decode b_Asm_readNumber 8 = .ok (.invokevirtual 94, 3) := by decide +kernel
theorem d_Asm_readNumber_11 : decode b_Asm_readNumber 11 = .ok (.istore_n 3, 1) := by decide +kernel
theorem d_Asm_readNumber_12 : decode b_Asm_readNumber 12 = .ok (.iload_n 2, 1) := by decide +kernel
theorem d_Asm_readNumber_13 : decode b_Asm_readNumber 13 = .ok (.ifCond .eq 23, 3) := by decide +kernel
theorem d_Asm_readNumber_16 : decode b_Asm_readNumber 16 = .ok (.aload_n 0, 1) := by decide +kernel
theorem d_Asm_readNumber_17 : decode b_Asm_readNumber 17 = .ok (.getfield 21, 3) := by decide +kernel
theorem d_Asm_readNumber_20 : decode b_Asm_readNumber 20 = .ok (.aload_n 0, 1) := by decide +kernel
theorem d_Asm_readNumber_21 : decode b_Asm_readNumber 21 = .ok (.getfield 36, 3) := by decide +kernel
theorem d_Asm_readNumber_24 : decode b_Asm_readNumber 24 = .ok (.invokevirtual 70, 3) := by decide +kernel
theorem d_Asm_readNumber_27 : decode b_Asm_readNumber 27 = .ok (.bipush 45, 2) := by decide +kernel
theorem d_Asm_readNumber_29 : decode b_Asm_readNumber 29 = .ok (.if_icmp .ne 7, 3) := by decide +kernel
theorem d_Asm_readNumber_32 : decode b_Asm_readNumber 32 = .ok (.iconst 1, 1) := by decide +kernel
theorem d_Asm_readNumber_33 : decode b_Asm_readNumber 33 = .ok (.goto 4, 3) := by decide +kernel
theorem d_Asm_readNumber_36 : decode b_Asm_readNumber 36 = .ok (.iconst 0, 1) := by decide +kernel
theorem d_Asm_readNumber_37 : decode b_Asm_readNumber 37 = .ok (.istore 4, 2) := by decide +kernel
theorem d_Asm_readNumber_39 : decode b_Asm_readNumber 39 = .ok (.iload 4, 2) := by decide +kernel
theorem d_Asm_readNumber_41 : decode b_Asm_readNumber 41 = .ok (.ifCond .eq 13, 3) := by decide +kernel
theorem d_Asm_readNumber_44 : decode b_Asm_readNumber 44 = .ok (.aload_n 0, 1) := by decide +kernel
theorem d_Asm_readNumber_45 : decode b_Asm_readNumber 45 = .ok (.dup, 1) := by decide +kernel
theorem d_Asm_readNumber_46 : decode b_Asm_readNumber 46 = .ok (.getfield 36, 3) := by decide +kernel
theorem d_Asm_readNumber_49 : decode b_Asm_readNumber 49 = .ok (.iconst 1, 1) := by decide +kernel
theorem d_Asm_readNumber_50 : decode b_Asm_readNumber 50 = .ok (.iadd, 1) := by decide +kernel
theorem d_Asm_readNumber_51 : decode b_Asm_readNumber 51 = .ok (.putfield 36, 3) := by decide +kernel
theorem d_Asm_readNumber_54 : decode b_Asm_readNumber 54 = .ok (.aload_n 0, 1) := by decide +kernel
theorem d_Asm_readNumber_55 : decode b_Asm_readNumber 55 = .ok (.getfield 21, 3) := by decide +kernel
theorem d_Asm_readNumber_58 : decode b_Asm_readNumber 58 = .ok (.aload_n 0, 1) := by decide +kernel
theorem d_Asm_readNumber_59 : decode b_Asm_readNumber 59 = .ok (.getfield 36, 3) := by decide +kernel
theorem d_Asm_readNumber_62 : decode b_Asm_readNumber 62 = .ok (.invokevirtual 70, 3) := by decide +kernel
theorem d_Asm_readNumber_65 : decode b_Asm_readNumber 65 = .ok (.iconst 3, 1) := by decide +kernel
theorem d_Asm_readNumber_66 : decode b_Asm_readNumber 66 = .ok (.if_icmp .eq 22, 3) := by decide +kernel
theorem d_Asm_readNumber_69 : decode b_Asm_readNumber 69 = .ok (.aload_n 0, 1) := by decide +kernel
theorem d_Asm_readNumber_70 : decode b_Asm_readNumber 70 = .ok (.getfield 12, 3) := by decide +kernel
theorem d_Asm_readNumber_73 : decode b_Asm_readNumber 73 = .ok (.aload_n 0, 1) := by decide +kernel
theorem d_Asm_readNumber_74 : decode b_Asm_readNumber 74 = .ok (.getfield 21, 3) := by decide +kernel
theorem d_Asm_readNumber_77 : decode b_Asm_readNumber 77 = .ok (.aload_n 0, 1) := by decide +kernel
theorem d_Asm_readNumber_78 : decode b_Asm_readNumber 78 = .ok (.getfield 36, 3) := by decide +kernel
theorem d_Asm_readNumber_81 : decode b_Asm_readNumber 81 = .ok (.invokevirtual 94, 3) := by decide +kernel
theorem d_Asm_readNumber_84 : decode b_Asm_readNumber 84 = .ok (.invokevirtual 107, 3) := by decide +kernel
theorem d_Asm_readNumber_87 : decode b_Asm_readNumber 87 = .ok (.ireturn, 1) := by decide +kernel
theorem d_Asm_readNumber_88 : decode b_Asm_readNumber 88 = .ok (.aload_n 0, 1) := by decide +kernel
theorem d_Asm_readNumber_89 : decode b_Asm_readNumber 89 = .ok (.iload 4, 2) := by decide +kernel
theorem d_Asm_readNumber_91 : decode b_Asm_readNumber 91 = .ok (.ifCond .eq 18, 3) := by decide +kernel
theorem d_Asm_readNumber_94 : decode b_Asm_readNumber 94 = .ok (.aload_n 0, 1) := by decide +kernel
theorem d_Asm_readNumber_95 : decode b_Asm_readNumber 95 = .ok (.getfield 21, 3) := by decide +kernel
theorem d_Asm_readNumber_98 : decode b_Asm_readNumber 98 = .ok (.aload_n 0, 1) := by decide +kernel
theorem d_Asm_readNumber_99 : decode b_Asm_readNumber 99 = .ok (.getfield 36, 3) := by decide +kernel
theorem d_Asm_readNumber_102 : decode b_Asm_readNumber 102 = .ok (.invokevirtual 87, 3) := by decide +kernel
theorem d_Asm_readNumber_105 : decode b_Asm_readNumber 105 = .ok (.lneg, 1) := by decide +kernel
theorem d_Asm_readNumber_106 : decode b_Asm_readNumber 106 = .ok (.goto 14, 3) := by decide +kernel
theorem d_Asm_readNumber_109 : decode b_Asm_readNumber 109 = .ok (.aload_n 0, 1) := by decide +kernel
theorem d_Asm_readNumber_110 : decode b_Asm_readNumber 110 = .ok (.getfield 21, 3) := by decide +kernel
theorem d_Asm_readNumber_113 : decode b_Asm_readNumber 113 = .ok (.aload_n 0, 1) := by decide +kernel
theorem d_Asm_readNumber_114 : decode b_Asm_readNumber 114 = .ok (.getfield 36, 3) := by decide +kernel
theorem d_Asm_readNumber_117 : decode b_Asm_readNumber 117 = .ok (.invokevirtual 87, 3) := by decide +kernel
theorem d_Asm_readNumber_120 : decode b_Asm_readNumber 120 = .ok (.putfield 46, 3) := by decide +kernel
theorem d_Asm_readNumber_123 : decode b_Asm_readNumber 123 = .ok (.aload_n 1, 1) := by decide +kernel
theorem d_Asm_readNumber_124 : decode b_Asm_readNumber 124 = .ok (.aload_n 0, 1) := by decide +kernel
theorem d_Asm_readNumber_125 : decode b_Asm_readNumber 125 = .ok (.getfield 46, 3) := by decide +kernel
theorem d_Asm_readNumber_128 : decode b_Asm_readNumber 128 = .ok (.invokevirtual 151, 3) := by decide +kernel
theorem d_Asm_readNumber_131 : decode b_Asm_readNumber 131 = .ok (.ifCond .ne 12, 3) := by decide +kernel
theorem d_Asm_readNumber_134 : decode b_Asm_readNumber 134 = .ok (.aload_n 0, 1) := by decide +kernel
theorem d_Asm_readNumber_135 : decode b_Asm_readNumber 135 = .ok (.getfield 12, 3) := by decide +kernel
theorem d_Asm_readNumber_138 : decode b_Asm_readNumber 138 = .ok (.iconst 3, 1) := by decide +kernel
theorem d_Asm_readNumber_139 : decode b_Asm_readNumber 139 = .ok (.iload_n 3, 1) := by decide +kernel
theorem d_Asm_readNumber_140 : decode b_Asm_readNumber 140 = .ok (.invokevirtual 97, 3) := by decide +kernel
theorem d_Asm_readNumber_143 : decode b_Asm_readNumber 143 = .ok (.aload_n 0, 1) := by decide +kernel
theorem d_Asm_readNumber_144 : decode b_Asm_readNumber 144 = .ok (.dup, 1) := by decide +kernel
theorem d_Asm_readNumber_145 : decode b_Asm_readNumber 145 = .ok (.getfield 36, 3) := by decide +kernel
theorem d_Asm_readNumber_148 : decode b_Asm_readNumber 148 = .ok (.iconst 1, 1) := by decide +kernel
theorem d_Asm_readNumber_149 : decode b_Asm_readNumber 149 = .ok (.iadd, 1) := by decide +kernel
theorem d_Asm_readNumber_150 : decode b_Asm_readNumber 150 = .ok (.putfield 36, 3) := by decide +kernel
theorem d_Asm_readNumber_153 : decode b_Asm_readNumber 153 = .ok (.iconst 1, 1) := by decide +kernel
theorem d_Asm_readNumber_154 : decode b_Asm_readNumber 154 = .ok (.ireturn, 1) := by decide +kernel
theorem d_Asm_carryOut_0 : decode b_Asm_carryOut 0 = .ok (.aload_n 1, 1) := by decide +kernel
theorem d_Asm_carryOut_1 : decode b_Asm_carryOut 1 = .ok (.getstatic 155, 3) := by decide +kernel
theorem d_Asm_carryOut_4 : decode b_Asm_carryOut 4 = .ok (.if_acmp .ne 32, 3) := by decide +kernel
theorem d_Asm_carryOut_7 : decode b_Asm_carryOut 7 = .ok (.aload_n 0, 1) := by decide +kernel
theorem d_Asm_carryOut_8 : decode b_Asm_carryOut 8 = .ok (.aload_n 1, 1) := by decide +kernel
theorem d_Asm_carryOut_9 : decode b_Asm_carryOut 9 = .ok (.aload_n 0, 1) := by decide +kernel
theorem d_Asm_carryOut_10 : decode b_Asm_carryOut 10 = .ok (.getfield 46, 3) := by decide +kernel
theorem d_Asm_carryOut_13 : decode b_Asm_carryOut 13 = .ok (.invokevirtual 151, 3) := by decide +kernel
theorem d_Asm_carryOut_16 : decode b_Asm_carryOut 16 = .ok (.ifCond .eq 11, 3) := by decide +kernel
theorem d_Asm_carryOut_19 : decode b_Asm_carryOut 19 = .ok (.aload_n 0, 1) := by decide +kernel
theorem d_Asm_carryOut_20 : decode b_Asm_carryOut 20 = .ok (.getfield 46, 3) := by decide +kernel
theorem d_Asm_carryOut_23 : decode b_Asm_carryOut 23 = .ok (.l2i, 1) := by decide +kernel
theorem d_Asm_carryOut_24 : decode b_Asm_carryOut 24 = .ok (.goto 6, 3) := by decide +kernel
theorem d_Asm_carryOut_27 : decode b_Asm_carryOut 27 = .ok (.sipush 256, 3) := by decide +kernel
theorem d_Asm_carryOut_30 : decode b_Asm_carryOut 30 = .ok (.putfield 40, 3) := by decide +kernel
theorem d_Asm_carryOut_33 : decode b_Asm_carryOut 33 = .ok (.goto 91, 3) := by decide +kernel
theorem d_Asm_carryOut_36 : decode b_Asm_carryOut 36 = .ok (.aload_n 1, 1) := by decide +kernel
theorem d_Asm_carryOut_37 : decode b_Asm_carryOut 37 = .ok (.getstatic 159, 3) := by decide +kernel
theorem d_Asm_carryOut_40 : decode b_Asm_carryOut 40 = .ok (.if_acmp .ne 37, 3) := by decide +kernel
theorem d_Asm_carryOut_43 : decode b_Asm_carryOut 43 = .ok (.aload_n 0, 1) := by decide +kernel
theorem d_Asm_carryOut_44 : decode b_Asm_carryOut 44 = .ok (.getfield 28, 3) := by decide +kernel
theorem d_Asm_carryOut_47 : decode b_Asm_carryOut 47 = .ok (.aload_n 1, 1) := by decide +kernel
theorem d_Asm_carryOut_48 : decode b_Asm_carryOut 48 = .ok (.aload_n 0, 1) := by decide +kernel
theorem d_Asm_carryOut_49 : decode b_Asm_carryOut 49 = .ok (.getfield 46, 3) := by decide +kernel
theorem d_Asm_carryOut_52 : decode b_Asm_carryOut 52 = .ok (.invokevirtual 151, 3) := by decide +kernel
theorem d_Asm_carryOut_55 : decode b_Asm_carryOut 55 = .ok (.ifCond .eq 11, 3) := by decide +kernel
theorem d_Asm_carryOut_58 : decode b_Asm_carryOut 58 = .ok (.aload_n 0, 1) := by decide +kernel
theorem d_Asm_carryOut_59 : decode b_Asm_carryOut 59 = .ok (.getfield 46, 3) := by decide +kernel
theorem d_Asm_carryOut_62 : decode b_Asm_carryOut 62 = .ok (.l2i, 1) := by decide +kernel
theorem d_Asm_carryOut_63 : decode b_Asm_carryOut 63 = .ok (.goto 4, 3) := by decide +kernel
theorem d_Asm_carryOut_66 : decode b_Asm_carryOut 66 = .ok (.iconst (-1), 1) := by decide +kernel
theorem d_Asm_carryOut_67 : decode b_Asm_carryOut 67 = .ok (.aload_n 0, 1) := by decide +kernel
theorem d_Asm_carryOut_68 : decode b_Asm_carryOut 68 = .ok (.getfield 40, 3) := by decide +kernel
theorem d_Asm_carryOut_71 : decode b_Asm_carryOut 71 = .ok (.invokevirtual 162, 3) := by decide +kernel
theorem d_Asm_carryOut_74 : decode b_Asm_carryOut 74 = .ok (.goto 50, 3) := by decide +kernel
theorem d_Asm_carryOut_77 : decode b_Asm_carryOut 77 = .ok (.aload_n 1, 1) := by decide +kernel
theorem d_Asm_carryOut_78 : decode b_Asm_carryOut 78 = .ok (.getstatic 165, 3) := by decide +kernel
theorem d_Asm_carryOut_81 : decode b_Asm_carryOut 81 = .ok (.if_acmp .ne 16, 3) := by decide +kernel
theorem d_Asm_carryOut_84 : decode b_Asm_carryOut 84 = .ok (.aload_n 0, 1) := by decide +kernel
theorem d_Asm_carryOut_85 : decode b_Asm_carryOut 85 = .ok (.aload_n 0, 1) := by decide +kernel
theorem d_Asm_carryOut_86 : decode b_Asm_carryOut 86 = .ok (.getfield 46, 3) := by decide +kernel
theorem d_Asm_carryOut_89 : decode b_Asm_carryOut 89 = .ok (.l2i, 1) := by decide +kernel
theorem d_Asm_carryOut_90 : decode b_Asm_carryOut 90 = .ok (.iload_n 2, 1) := by decide +kernel
theorem d_Asm_carryOut_91 : decode b_Asm_carryOut 91 = .ok (.invokevirtual 168, 3) := by decide +kernel
theorem d_Asm_carryOut_94 : decode b_Asm_carryOut 94 = .ok (.goto 30, 3) := by decide +kernel
theorem d_Asm_carryOut_97 : decode b_Asm_carryOut 97 = .ok (.aload_n 0, 1) := by decide +kernel
theorem d_Asm_carryOut_98 : decode b_Asm_carryOut 98 = .ok (.aload_n 1, 1) := by decide +kernel
theorem d_Asm_carryOut_99 : decode b_Asm_carryOut 99 = .ok (.getfield 171, 3) := by decide +kernel
theorem d_Asm_carryOut_102 : decode b_Asm_carryOut 102 = .ok (.bipush 24, 2) := by decide +kernel
theorem d_Asm_carryOut_104 : decode b_Asm_carryOut 104 = .ok (.ishl, 1) := by decide +kernel
theorem d_Asm_carryOut_105 : decode b_Asm_carryOut 105 = .ok (.aload_n 0, 1) := by decide +kernel
theorem d_Asm_carryOut_106 : decode b_Asm_carryOut 106 = .ok (.getfield 43, 3) := by decide +kernel
theorem d_Asm_carryOut_109 : decode b_Asm_carryOut 109 = .ok (.ior, 1) := by decide +kernel
theorem d_Asm_carryOut_110 : decode b_Asm_carryOut 110 = .ok (.aload_n 0, 1) := by decide +kernel
theorem d_Asm_carryOut_111 : decode b_Asm_carryOut 111 = .ok (.getfield 46, 3) := by decide +kernel
theorem d_Asm_carryOut_114 : decode b_Asm_carryOut 114 = .ok (.l2i, 1) := by decide +kernel
theorem d_Asm_carryOut_115 : decode b_Asm_carryOut 115 = .ok (.sipush 4095, 3) := by decide +kernel
theorem d_Asm_carryOut_118 : decode b_Asm_carryOut 118 = .ok (.iand, 1) := by decide +kernel
theorem d_Asm_carryOut_119 : decode b_Asm_carryOut 119 = .ok (.ior, 1) := by decide +kernel
theorem d_Asm_carryOut_120 : decode b_Asm_carryOut 120 = .ok (.iload_n 2, 1) := by decide +kernel
theorem d_Asm_carryOut_121 : decode b_Asm_carryOut 121 = .ok (.invokevirtual 168, 3) := by decide +kernel
theorem d_Asm_carryOut_124 : decode b_Asm_carryOut 124 = .ok (.return_, 1) := by decide +kernel
theorem d_Asm_readPart_0 : decode b_Asm_readPart 0 = .ok (.iload_n 2, 1) := by decide +kernel
theorem d_Asm_readPart_1 : decode b_Asm_readPart 1 = .ok (.lookupswitch 136 #[(97, 66), (98, 73), (100, 59), (110, 80), (111, 103), (117, 129)], 59) := by decide +kernel
theorem d_Asm_readPart_60 : decode b_Asm_readPart 60 = .ok (.aload_n 0, 1) := by decide +kernel
theorem d_Asm_readPart_61 : decode b_Asm_readPart 61 = .ok (.bipush 20, 2) := by decide +kernel
theorem d_Asm_readPart_63 : decode b_Asm_readPart 63 = .ok (.invokevirtual 133, 3) := by decide +kernel
theorem d_Asm_readPart_66 : decode b_Asm_readPart 66 = .ok (.ireturn, 1) := by decide +kernel
theorem d_Asm_readPart_67 : decode b_Asm_readPart 67 = .ok (.aload_n 0, 1) := by decide +kernel
theorem d_Asm_readPart_68 : decode b_Asm_readPart 68 = .ok (.bipush 16, 2) := by decide +kernel
theorem d_Asm_readPart_70 : decode b_Asm_readPart 70 = .ok (.invokevirtual 133, 3) := by decide +kernel
theorem d_Asm_readPart_73 : decode b_Asm_readPart 73 = .ok (.ireturn, 1) := by decide +kernel
theorem d_Asm_readPart_74 : decode b_Asm_readPart 74 = .ok (.aload_n 0, 1) := by decide +kernel
theorem d_Asm_readPart_75 : decode b_Asm_readPart 75 = .ok (.bipush 12, 2) := by decide +kernel
theorem d_Asm_readPart_77 : decode b_Asm_readPart 77 = .ok (.invokevirtual 133, 3) := by decide +kernel
theorem d_Asm_readPart_80 : decode b_Asm_readPart 80 = .ok (.ireturn, 1) := by decide +kernel
theorem d_Asm_readPart_81 : decode b_Asm_readPart 81 = .ok (.aload_n 0, 1) := by decide +kernel
theorem d_Asm_readPart_82 : decode b_Asm_readPart 82 = .ok (.iconst 0, 1) := by decide +kernel
theorem d_Asm_readPart_83 : decode b_Asm_readPart 83 = .ok (.invokevirtual 136, 3) := by decide +kernel
theorem d_Asm_readPart_86 : decode b_Asm_readPart 86 = .ok (.ifCond .ne 12, 3) := by decide +kernel
theorem d_Asm_readPart_89 : decode b_Asm_readPart 89 = .ok (.aload_n 0, 1) := by decide +kernel
theorem d_Asm_readPart_90 : decode b_Asm_readPart 90 = .ok (.aload_n 1, 1) := by decide +kernel
theorem d_Asm_readPart_91 : decode b_Asm_readPart 91 = .ok (.iconst 1, 1) := by decide +kernel
theorem d_Asm_readPart_92 : decode b_Asm_readPart 92 = .ok (.invokevirtual 139, 3) := by decide +kernel
theorem d_Asm_readPart_95 : decode b_Asm_readPart 95 = .ok (.ifCond .eq 7, 3) := by decide +kernel
theorem d_Asm_readPart_98 : decode b_Asm_readPart 98 = .ok (.iconst 1, 1) := by decide +kernel
theorem d_Asm_readPart_99 : decode b_Asm_readPart 99 = .ok (.goto 4, 3) := by decide +kernel
theorem d_Asm_readPart_102 : decode b_Asm_readPart 102 = .ok (.iconst 0, 1) := by decide +kernel
theorem d_Asm_readPart_103 : decode b_Asm_readPart 103 = .ok (.ireturn, 1) := by decide +kernel
theorem d_Asm_readPart_104 : decode b_Asm_readPart 104 = .ok (.aload_n 0, 1) := by decide +kernel
theorem d_Asm_readPart_105 : decode b_Asm_readPart 105 = .ok (.aload_n 0, 1) := by decide +kernel
theorem d_Asm_readPart_106 : decode b_Asm_readPart 106 = .ok (.getfield 40, 3) := by decide +kernel
theorem d_Asm_readPart_109 : decode b_Asm_readPart 109 = .ok (.invokevirtual 136, 3) := by decide +kernel
theorem d_Asm_readPart_112 : decode b_Asm_readPart 112 = .ok (.ifCond .ne 12, 3) := by decide +kernel
theorem d_Asm_readPart_115 : decode b_Asm_readPart 115 = .ok (.aload_n 0, 1) := by decide +kernel
theorem d_Asm_readPart_116 : decode b_Asm_readPart 116 = .ok (.aload_n 1, 1) := by decide +kernel
theorem d_Asm_readPart_117 : decode b_Asm_readPart 117 = .ok (.iconst 1, 1) := by decide +kernel
theorem d_Asm_readPart_118 : decode b_Asm_readPart 118 = .ok (.invokevirtual 139, 3) := by decide +kernel
theorem d_Asm_readPart_121 : decode b_Asm_readPart 121 = .ok (.ifCond .eq 7, 3) := by decide +kernel
theorem d_Asm_readPart_124 : decode b_Asm_readPart 124 = .ok (.iconst 1, 1) := by decide +kernel

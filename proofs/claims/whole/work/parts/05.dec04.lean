theorem d_Asm_readPart_125 : decode b_Asm_readPart 125 = .ok (.goto 4, 3) := by decide +kernel
theorem d_Asm_readPart_128 : decode b_Asm_readPart 128 = .ok (.iconst 0, 1) := by decide +kernel
theorem d_Asm_readPart_129 : decode b_Asm_readPart 129 = .ok (.ireturn, 1) := by decide +kernel
theorem d_Asm_readPart_130 : decode b_Asm_readPart 130 = .ok (.aload_n 0, 1) := by decide +kernel
theorem d_Asm_readPart_131 : decode b_Asm_readPart 131 = .ok (.aload_n 1, 1) := by decide +kernel
theorem d_Asm_readPart_132 : decode b_Asm_readPart 132 = .ok (.iconst 0, 1) := by decide +kernel
theorem d_Asm_readPart_133 : decode b_Asm_readPart 133 = .ok (.invokevirtual 139, 3) := by decide +kernel
theorem d_Asm_readPart_136 : decode b_Asm_readPart 136 = .ok (.ireturn, 1) := by decide +kernel
theorem d_Asm_readPart_137 : decode b_Asm_readPart 137 = .ok (.aload_n 0, 1) := by decide +kernel
theorem d_Asm_readPart_138 : decode b_Asm_readPart 138 = .ok (.iload_n 2, 1) := by decide +kernel
theorem d_Asm_readPart_139 : decode b_Asm_readPart 139 = .ok (.invokevirtual 80, 3) := by decide +kernel
theorem d_Asm_readPart_142 : decode b_Asm_readPart 142 = .ok (.ireturn, 1) := by decide +kernel
theorem d_Asm_readOrder_0 : decode b_Asm_readOrder 0 = .ok (.aload_n 0, 1) := by decide +kernel
theorem d_Asm_readOrder_1 : decode b_Asm_readOrder 1 = .ok (.getfield 21, 3) := by decide +kernel
theorem d_Asm_readOrder_4 : decode b_Asm_readOrder 4 = .ok (.aload_n 0, 1) := by decide +kernel
theorem d_Asm_readOrder_5 : decode b_Asm_readOrder 5 = .ok (.getfield 36, 3) := by decide +kernel
theorem d_Asm_readOrder_8 : decode b_Asm_readOrder 8 = .ok (.invokevirtual 94, 3) := by decide +kernel
theorem d_Asm_readOrder_11 : decode b_Asm_readOrder 11 = .ok (.istore_n 1, 1) := by decide +kernel
theorem d_Asm_readOrder_12 : decode b_Asm_readOrder 12 = .ok (.aload_n 0, 1) := by decide +kernel
theorem d_Asm_readOrder_13 : decode b_Asm_readOrder 13 = .ok (.getfield 21, 3) := by decide +kernel
theorem d_Asm_readOrder_16 : decode b_Asm_readOrder 16 = .ok (.aload_n 0, 1) := by decide +kernel
theorem d_Asm_readOrder_17 : decode b_Asm_readOrder 17 = .ok (.getfield 36, 3) := by decide +kernel
theorem d_Asm_readOrder_20 : decode b_Asm_readOrder 20 = .ok (.invokevirtual 87, 3) := by decide +kernel
theorem d_Asm_readOrder_23 : decode b_Asm_readOrder 23 = .ok (.invokestatic 101, 3) := by decide +kernel
theorem d_Asm_readOrder_26 : decode b_Asm_readOrder 26 = .ok (.astore_n 2, 1) := by decide +kernel
theorem d_Asm_readOrder_27 : decode b_Asm_readOrder 27 = .ok (.aload_n 0, 1) := by decide +kernel
theorem d_Asm_readOrder_28 : decode b_Asm_readOrder 28 = .ok (.dup, 1) := by decide +kernel
theorem d_Asm_readOrder_29 : decode b_Asm_readOrder 29 = .ok (.getfield 36, 3) := by decide +kernel
theorem d_Asm_readOrder_32 : decode b_Asm_readOrder 32 = .ok (.iconst 1, 1) := by decide +kernel
theorem d_Asm_readOrder_33 : decode b_Asm_readOrder 33 = .ok (.iadd, 1) := by decide +kernel
theorem d_Asm_readOrder_34 : decode b_Asm_readOrder 34 = .ok (.putfield 36, 3) := by decide +kernel
theorem d_Asm_readOrder_37 : decode b_Asm_readOrder 37 = .ok (.aload_n 2, 1) := by decide +kernel
theorem d_Asm_readOrder_38 : decode b_Asm_readOrder 38 = .ok (.ifnonnull 51, 3) := by decide +kernel
theorem d_Asm_readOrder_41 : decode b_Asm_readOrder 41 = .ok (.aload_n 0, 1) := by decide +kernel
theorem d_Asm_readOrder_42 : decode b_Asm_readOrder 42 = .ok (.getfield 21, 3) := by decide +kernel
theorem d_Asm_readOrder_45 : decode b_Asm_readOrder 45 = .ok (.aload_n 0, 1) := by decide +kernel
theorem d_Asm_readOrder_46 : decode b_Asm_readOrder 46 = .ok (.getfield 36, 3) := by decide +kernel
theorem d_Asm_readOrder_49 : decode b_Asm_readOrder 49 = .ok (.invokevirtual 70, 3) := by decide +kernel
theorem d_Asm_readOrder_52 : decode b_Asm_readOrder 52 = .ok (.iconst 1, 1) := by decide +kernel
theorem d_Asm_readOrder_53 : decode b_Asm_readOrder 53 = .ok (.if_icmp .ne 7, 3) := by decide +kernel
theorem d_Asm_readOrder_56 : decode b_Asm_readOrder 56 = .ok (.iconst 1, 1) := by decide +kernel
theorem d_Asm_readOrder_57 : decode b_Asm_readOrder 57 = .ok (.goto 4, 3) := by decide +kernel
theorem d_Asm_readOrder_60 : decode b_Asm_readOrder 60 = .ok (.iconst 0, 1) := by decide +kernel
theorem d_Asm_readOrder_61 : decode b_Asm_readOrder 61 = .ok (.istore_n 3, 1) := by decide +kernel
theorem d_Asm_readOrder_62 : decode b_Asm_readOrder 62 = .ok (.aload_n 0, 1) := by decide +kernel
theorem d_Asm_readOrder_63 : decode b_Asm_readOrder 63 = .ok (.getfield 12, 3) := by decide +kernel
theorem d_Asm_readOrder_66 : decode b_Asm_readOrder 66 = .ok (.iload_n 3, 1) := by decide +kernel
theorem d_Asm_readOrder_67 : decode b_Asm_readOrder 67 = .ok (.ifCond .eq 17, 3) := by decide +kernel
theorem d_Asm_readOrder_70 : decode b_Asm_readOrder 70 = .ok (.aload_n 0, 1) := by decide +kernel
theorem d_Asm_readOrder_71 : decode b_Asm_readOrder 71 = .ok (.getfield 21, 3) := by decide +kernel
theorem d_Asm_readOrder_74 : decode b_Asm_readOrder 74 = .ok (.aload_n 0, 1) := by decide +kernel
theorem d_Asm_readOrder_75 : decode b_Asm_readOrder 75 = .ok (.getfield 36, 3) := by decide +kernel
theorem d_Asm_readOrder_78 : decode b_Asm_readOrder 78 = .ok (.invokevirtual 94, 3) := by decide +kernel
theorem d_Asm_readOrder_81 : decode b_Asm_readOrder 81 = .ok (.goto 4, 3) := by decide +kernel
theorem d_Asm_readOrder_84 : decode b_Asm_readOrder 84 = .ok (.iload_n 1, 1) := by decide +kernel
theorem d_Asm_readOrder_85 : decode b_Asm_readOrder 85 = .ok (.invokevirtual 107, 3) := by decide +kernel
theorem d_Asm_readOrder_88 : decode b_Asm_readOrder 88 = .ok (.ireturn, 1) := by decide +kernel
theorem d_Asm_readOrder_89 : decode b_Asm_readOrder 89 = .ok (.aload_n 0, 1) := by decide +kernel
theorem d_Asm_readOrder_90 : decode b_Asm_readOrder 90 = .ok (.iconst 0, 1) := by decide +kernel
theorem d_Asm_readOrder_91 : decode b_Asm_readOrder 91 = .ok (.putfield 43, 3) := by decide +kernel
theorem d_Asm_readOrder_94 : decode b_Asm_readOrder 94 = .ok (.aload_n 0, 1) := by decide +kernel
theorem d_Asm_readOrder_95 : decode b_Asm_readOrder 95 = .ok (.lconst 0, 1) := by decide +kernel
theorem d_Asm_readOrder_96 : decode b_Asm_readOrder 96 = .ok (.putfield 46, 3) := by decide +kernel
theorem d_Asm_readOrder_99 : decode b_Asm_readOrder 99 = .ok (.iconst 0, 1) := by decide +kernel
theorem d_Asm_readOrder_100 : decode b_Asm_readOrder 100 = .ok (.istore_n 3, 1) := by decide +kernel
theorem d_Asm_readOrder_101 : decode b_Asm_readOrder 101 = .ok (.iload_n 3, 1) := by decide +kernel
theorem d_Asm_readOrder_102 : decode b_Asm_readOrder 102 = .ok (.aload_n 2, 1) := by decide +kernel
theorem d_Asm_readOrder_103 : decode b_Asm_readOrder 103 = .ok (.getfield 111, 3) := by decide +kernel
theorem d_Asm_readOrder_106 : decode b_Asm_readOrder 106 = .ok (.invokevirtual 115, 3) := by decide +kernel
theorem d_Asm_readOrder_109 : decode b_Asm_readOrder 109 = .ok (.if_icmp .ge 27, 3) := by decide +kernel
theorem d_Asm_readOrder_112 : decode b_Asm_readOrder 112 = .ok (.aload_n 0, 1) := by decide +kernel
theorem d_Asm_readOrder_113 : decode b_Asm_readOrder 113 = .ok (.aload_n 2, 1) := by decide +kernel
theorem d_Asm_readOrder_114 : decode b_Asm_readOrder 114 = .ok (.aload_n 2, 1) := by decide +kernel
theorem d_Asm_readOrder_115 : decode b_Asm_readOrder 115 = .ok (.getfield 111, 3) := by decide +kernel
theorem d_Asm_readOrder_118 : decode b_Asm_readOrder 118 = .ok (.iload_n 3, 1) := by decide +kernel
theorem d_Asm_readOrder_119 : decode b_Asm_readOrder 119 = .ok (.invokevirtual 121, 3) := by decide +kernel
theorem d_Asm_readOrder_122 : decode b_Asm_readOrder 122 = .ok (.invokevirtual 125, 3) := by decide +kernel
theorem d_Asm_readOrder_125 : decode b_Asm_readOrder 125 = .ok (.ifCond .ne 5, 3) := by decide +kernel
theorem d_Asm_readOrder_128 : decode b_Asm_readOrder 128 = .ok (.iconst 0, 1) := by decide +kernel
theorem d_Asm_readOrder_129 : decode b_Asm_readOrder 129 = .ok (.ireturn, 1) := by decide +kernel
theorem d_Asm_readOrder_130 : decode b_Asm_readOrder 130 = .ok (.iinc 3 1, 3) := by decide +kernel
theorem d_Asm_readOrder_133 : decode b_Asm_readOrder 133 = .ok (.goto (-32), 3) := by decide +kernel
theorem d_Asm_readOrder_136 : decode b_Asm_readOrder 136 = .ok (.aload_n 0, 1) := by decide +kernel
theorem d_Asm_readOrder_137 : decode b_Asm_readOrder 137 = .ok (.aload_n 2, 1) := by decide +kernel
theorem d_Asm_readOrder_138 : decode b_Asm_readOrder 138 = .ok (.iload_n 1, 1) := by decide +kernel
theorem d_Asm_readOrder_139 : decode b_Asm_readOrder 139 = .ok (.invokevirtual 129, 3) := by decide +kernel
theorem d_Asm_readOrder_142 : decode b_Asm_readOrder 142 = .ok (.iconst 1, 1) := by decide +kernel
theorem d_Asm_readOrder_143 : decode b_Asm_readOrder 143 = .ok (.ireturn, 1) := by decide +kernel
theorem d_Asm_pass_0 : decode b_Asm_pass 0 = .ok (.aload_n 0, 1) := by decide +kernel
theorem d_Asm_pass_1 : decode b_Asm_pass 1 = .ok (.iload_n 1, 1) := by decide +kernel
theorem d_Asm_pass_2 : decode b_Asm_pass 2 = .ok (.putfield 32, 3) := by decide +kernel
theorem d_Asm_pass_5 : decode b_Asm_pass 5 = .ok (.aload_n 0, 1) := by decide +kernel
theorem d_Asm_pass_6 : decode b_Asm_pass 6 = .ok (.iconst 0, 1) := by decide +kernel
theorem d_Asm_pass_7 : decode b_Asm_pass 7 = .ok (.putfield 36, 3) := by decide +kernel
theorem d_Asm_pass_10 : decode b_Asm_pass 10 = .ok (.aload_n 0, 1) := by decide +kernel
theorem d_Asm_pass_11 : decode b_Asm_pass 11 = .ok (.iconst 0, 1) := by decide +kernel
theorem d_Asm_pass_12 : decode b_Asm_pass 12 = .ok (.putfield 40, 3) := by decide +kernel
theorem d_Asm_pass_15 : decode b_Asm_pass 15 = .ok (.aload_n 0, 1) := by decide +kernel
theorem d_Asm_pass_16 : decode b_Asm_pass 16 = .ok (.getfield 28, 3) := by decide +kernel
theorem d_Asm_pass_19 : decode b_Asm_pass 19 = .ok (.iconst 0, 1) := by decide +kernel
theorem d_Asm_pass_20 : decode b_Asm_pass 20 = .ok (.putfield 65, 3) := by decide +kernel
theorem d_Asm_pass_23 : decode b_Asm_pass 23 = .ok (.iconst 0, 1) := by decide +kernel
theorem d_Asm_pass_24 : decode b_Asm_pass 24 = .ok (.istore_n 2, 1) := by decide +kernel
theorem d_Asm_pass_25 : decode b_Asm_pass 25 = .ok (.iload_n 2, 1) := by decide +kernel
theorem d_Asm_pass_26 : decode b_Asm_pass 26 = .ok (.sipush 480, 3) := by decide +kernel
theorem d_Asm_pass_29 : decode b_Asm_pass 29 = .ok (.if_icmp .ge 62, 3) := by decide +kernel
theorem d_Asm_pass_32 : decode b_Asm_pass 32 = .ok (.aload_n 0, 1) := by decide +kernel
theorem d_Asm_pass_33 : decode b_Asm_pass 33 = .ok (.getfield 21, 3) := by decide +kernel
theorem d_Asm_pass_36 : decode b_Asm_pass 36 = .ok (.aload_n 0, 1) := by decide +kernel
theorem d_Asm_pass_37 : decode b_Asm_pass 37 = .ok (.getfield 36, 3) := by decide +kernel
theorem d_Asm_pass_40 : decode b_Asm_pass 40 = .ok (.invokevirtual 70, 3) := by decide +kernel
theorem d_Asm_pass_43 : decode b_Asm_pass 43 = .ok (.ifCond .eq 48, 3) := by decide +kernel
theorem d_Asm_pass_46 : decode b_Asm_pass 46 = .ok (.aload_n 0, 1) := by decide +kernel
theorem d_Asm_pass_47 : decode b_Asm_pass 47 = .ok (.invokevirtual 73, 3) := by decide +kernel
theorem d_Asm_pass_50 : decode b_Asm_pass 50 = .ok (.aload_n 0, 1) := by decide +kernel
theorem d_Asm_pass_51 : decode b_Asm_pass 51 = .ok (.getfield 21, 3) := by decide +kernel
theorem d_Asm_pass_54 : decode b_Asm_pass 54 = .ok (.aload_n 0, 1) := by decide +kernel
theorem d_Asm_pass_55 : decode b_Asm_pass 55 = .ok (.getfield 36, 3) := by decide +kernel
theorem d_Asm_pass_58 : decode b_Asm_pass 58 = .ok (.invokevirtual 70, 3) := by decide +kernel
theorem d_Asm_pass_61 : decode b_Asm_pass 61 = .ok (.iconst 2, 1) := by decide +kernel
theorem d_Asm_pass_62 : decode b_Asm_pass 62 = .ok (.if_icmp .ne 12, 3) := by decide +kernel
theorem d_Asm_pass_65 : decode b_Asm_pass 65 = .ok (.aload_n 0, 1) := by decide +kernel
theorem d_Asm_pass_66 : decode b_Asm_pass 66 = .ok (.invokevirtual 76, 3) := by decide +kernel
theorem d_Asm_pass_69 : decode b_Asm_pass 69 = .ok (.ifCond .ne 5, 3) := by decide +kernel
theorem d_Asm_pass_72 : decode b_Asm_pass 72 = .ok (.iconst 0, 1) := by decide +kernel
theorem d_Asm_pass_73 : decode b_Asm_pass 73 = .ok (.ireturn, 1) := by decide +kernel
theorem d_Asm_pass_74 : decode b_Asm_pass 74 = .ok (.aload_n 0, 1) := by decide +kernel
theorem d_Asm_pass_75 : decode b_Asm_pass 75 = .ok (.bipush 59, 2) := by decide +kernel
theorem d_Asm_pass_77 : decode b_Asm_pass 77 = .ok (.invokevirtual 80, 3) := by decide +kernel
theorem d_Asm_pass_80 : decode b_Asm_pass 80 = .ok (.ifCond .ne 5, 3) := by decide +kernel
theorem d_Asm_pass_83 : decode b_Asm_pass 83 = .ok (.iconst 0, 1) := by decide +kernel
theorem d_Asm_pass_84 : decode b_Asm_pass 84 = .ok (.ireturn, 1) := by decide +kernel
theorem d_Asm_pass_85 : decode b_Asm_pass 85 = .ok (.iinc 2 1, 3) := by decide +kernel
theorem d_Asm_pass_88 : decode b_Asm_pass 88 = .ok (.goto (-63), 3) := by decide +kernel
theorem d_Asm_pass_91 : decode b_Asm_pass 91 = .ok (.iconst 1, 1) := by decide +kernel
theorem d_Asm_pass_92 : decode b_Asm_pass 92 = .ok (.ireturn, 1) := by decide +kernel
theorem d_Asm_run_0 : decode b_Asm_run 0 = .ok (.aload_n 0, 1) := by decide +kernel
theorem d_Asm_run_1 : decode b_Asm_run 1 = .ok (.getfield 12, 3) := by decide +kernel
theorem d_Asm_run_4 : decode b_Asm_run 4 = .ok (.invokevirtual 50, 3) := by decide +kernel
theorem d_Asm_run_7 : decode b_Asm_run 7 = .ok (.aload_n 0, 1) := by decide +kernel
theorem d_Asm_run_8 : decode b_Asm_run 8 = .ok (.getfield 28, 3) := by decide +kernel
theorem d_Asm_run_11 : decode b_Asm_run 11 = .ok (.invokevirtual 53, 3) := by decide +kernel
theorem d_Asm_run_14 : decode b_Asm_run 14 = .ok (.aload_n 0, 1) := by decide +kernel
theorem d_Asm_run_15 : decode b_Asm_run 15 = .ok (.getfield 21, 3) := by decide +kernel
theorem d_Asm_run_18 : decode b_Asm_run 18 = .ok (.aload_n 1, 1) := by decide +kernel
theorem d_Asm_run_19 : decode b_Asm_run 19 = .ok (.invokevirtual 54, 3) := by decide +kernel
theorem d_Asm_run_22 : decode b_Asm_run 22 = .ok (.aload_n 0, 1) := by decide +kernel
theorem d_Asm_run_23 : decode b_Asm_run 23 = .ok (.iconst 1, 1) := by decide +kernel
theorem d_Asm_run_24 : decode b_Asm_run 24 = .ok (.invokevirtual 58, 3) := by decide +kernel
theorem d_Asm_run_27 : decode b_Asm_run 27 = .ok (.ifCond .eq 9, 3) := by decide +kernel
theorem d_Asm_run_30 : decode b_Asm_run 30 = .ok (.aload_n 0, 1) := by decide +kernel
theorem d_Asm_run_31 : decode b_Asm_run 31 = .ok (.iconst 0, 1) := by decide +kernel
theorem d_Asm_run_32 : decode b_Asm_run 32 = .ok (.invokevirtual 58, 3) := by decide +kernel
theorem d_Asm_run_35 : decode b_Asm_run 35 = .ok (.pop, 1) := by decide +kernel
theorem d_Asm_run_36 : decode b_Asm_run 36 = .ok (.aload_n 0, 1) := by decide +kernel
theorem d_Asm_run_37 : decode b_Asm_run 37 = .ok (.getfield 12, 3) := by decide +kernel
theorem d_Asm_run_40 : decode b_Asm_run 40 = .ok (.getfield 62, 3) := by decide +kernel
theorem d_Asm_run_43 : decode b_Asm_run 43 = .ok (.ifCond .ne 7, 3) := by decide +kernel
theorem d_Asm_run_46 : decode b_Asm_run 46 = .ok (.iconst 1, 1) := by decide +kernel
theorem d_Asm_run_47 : decode b_Asm_run 47 = .ok (.goto 4, 3) := by decide +kernel
theorem d_Asm_run_50 : decode b_Asm_run 50 = .ok (.iconst 0, 1) := by decide +kernel
theorem d_Asm_run_51 : decode b_Asm_run 51 = .ok (.ireturn, 1) := by decide +kernel
theorem d_Desk_type_0 : decode b_Desk_type 0 = .ok (.aload_n 0, 1) := by decide +kernel
theorem d_Desk_type_1 : decode b_Desk_type 1 = .ok (.getfield 10, 3) := by decide +kernel
theorem d_Desk_type_4 : decode b_Desk_type 4 = .ok (.lload_n 1, 1) := by decide +kernel
theorem d_Desk_type_5 : decode b_Desk_type 5 = .ok (.iload_n 3, 1) := by decide +kernel
theorem d_Desk_type_6 : decode b_Desk_type 6 = .ok (.invokevirtual 30, 3) := by decide +kernel
theorem d_Desk_type_9 : decode b_Desk_type 9 = .ok (.ireturn, 1) := by decide +kernel
theorem d_Desk_fault_0 : decode b_Desk_fault 0 = .ok (.iload_n 1, 1) := by decide +kernel
theorem d_Desk_fault_1 : decode b_Desk_fault 1 = .ok (.ifCond .ne 14, 3) := by decide +kernel
theorem d_Desk_fault_4 : decode b_Desk_fault 4 = .ok (.aload_n 0, 1) := by decide +kernel
theorem d_Desk_fault_5 : decode b_Desk_fault 5 = .ok (.getfield 19, 3) := by decide +kernel
theorem d_Desk_fault_8 : decode b_Desk_fault 8 = .ok (.getfield 56, 3) := by decide +kernel
theorem d_Desk_fault_11 : decode b_Desk_fault 11 = .ok (.getfield 60, 3) := by decide +kernel
theorem d_Desk_fault_14 : decode b_Desk_fault 14 = .ok (.ireturn, 1) := by decide +kernel
theorem d_Desk_fault_15 : decode b_Desk_fault 15 = .ok (.iload_n 1, 1) := by decide +kernel
theorem d_Desk_fault_16 : decode b_Desk_fault 16 = .ok (.iconst 1, 1) := by decide +kernel
theorem d_Desk_fault_17 : decode b_Desk_fault 17 = .ok (.if_icmp .ne 16, 3) := by decide +kernel
theorem d_Desk_fault_20 : decode b_Desk_fault 20 = .ok (.aload_n 0, 1) := by decide +kernel
theorem d_Desk_fault_21 : decode b_Desk_fault 21 = .ok (.getfield 19, 3) := by decide +kernel
theorem d_Desk_fault_24 : decode b_Desk_fault 24 = .ok (.getfield 56, 3) := by decide +kernel
theorem d_Desk_fault_27 : decode b_Desk_fault 27 = .ok (.getfield 65, 3) := by decide +kernel
theorem d_Desk_fault_30 : decode b_Desk_fault 30 = .ok (.goto 4, 3) := by decide +kernel
theorem d_Desk_fault_33 : decode b_Desk_fault 33 = .ok (.iconst (-1), 1) := by decide +kernel
theorem d_Desk_fault_34 : decode b_Desk_fault 34 = .ok (.ireturn, 1) := by decide +kernel
theorem d_Desk_labels_0 : decode b_Desk_labels 0 = .ok (.aload_n 0, 1) := by decide +kernel
theorem d_Desk_labels_1 : decode b_Desk_labels 1 = .ok (.getfield 26, 3) := by decide +kernel
theorem d_Desk_labels_4 : decode b_Desk_labels 4 = .ok (.getfield 82, 3) := by decide +kernel
theorem d_Desk_labels_7 : decode b_Desk_labels 7 = .ok (.ireturn, 1) := by decide +kernel
theorem d_Desk_told_0 : decode b_Desk_told 0 = .ok (.aload_n 0, 1) := by decide +kernel
theorem d_Desk_told_1 : decode b_Desk_told 1 = .ok (.getfield 26, 3) := by decide +kernel
theorem d_Desk_told_4 : decode b_Desk_told 4 = .ok (.getfield 52, 3) := by decide +kernel
theorem d_Desk_told_7 : decode b_Desk_told 7 = .ok (.ireturn, 1) := by decide +kernel
theorem d_Tape_init_0 : decode b_Tape_init 0 = .ok (.aload_n 0, 1) := by decide +kernel
theorem d_Tape_init_1 : decode b_Tape_init 1 = .ok (.invokespecial 3, 3) := by decide +kernel
theorem d_Tape_init_4 : decode b_Tape_init 4 = .ok (.aload_n 0, 1) := by decide +kernel
theorem d_Tape_init_5 : decode b_Tape_init 5 = .ok (.sipush 480, 3) := by decide +kernel
theorem d_Tape_init_8 : decode b_Tape_init 8 = .ok (.newarray .byte, 2) := by decide +kernel
theorem d_Tape_init_10 : decode b_Tape_init 10 = .ok (.putfield 11, 3) := by decide +kernel
theorem d_Tape_init_13 : decode b_Tape_init 13 = .ok (.aload_n 0, 1) := by decide +kernel
theorem d_Tape_init_14 : decode b_Tape_init 14 = .ok (.iconst 0, 1) := by decide +kernel
theorem d_Tape_init_15 : decode b_Tape_init 15 = .ok (.putfield 15, 3) := by decide +kernel
theorem d_Tape_init_18 : decode b_Tape_init 18 = .ok (.return_, 1) := by decide +kernel
theorem d_Tokens_init_0 : decode b_Tokens_init 0 = .ok (.aload_n 0, 1) := by decide +kernel
theorem d_Tokens_init_1 : decode b_Tokens_init 1 = .ok (.invokespecial 3, 3) := by decide +kernel
theorem d_Tokens_init_4 : decode b_Tokens_init 4 = .ok (.aload_n 0, 1) := by decide +kernel
theorem d_Tokens_init_5 : decode b_Tokens_init 5 = .ok (.sipush 480, 3) := by decide +kernel
theorem d_Tokens_init_8 : decode b_Tokens_init 8 = .ok (.newarray .int, 2) := by decide +kernel
theorem d_Tokens_init_10 : decode b_Tokens_init 10 = .ok (.putfield 11, 3) := by decide +kernel
theorem d_Tokens_init_13 : decode b_Tokens_init 13 = .ok (.aload_n 0, 1) := by decide +kernel
theorem d_Tokens_init_14 : decode b_Tokens_init 14 = .ok (.sipush 480, 3) := by decide +kernel
theorem d_Tokens_init_17 : decode b_Tokens_init 17 = .ok (.newarray .int, 2) := by decide +kernel
theorem d_Tokens_init_19 : decode b_Tokens_init 19 = .ok (.putfield 15, 3) := by decide +kernel
theorem d_Tokens_init_22 : decode b_Tokens_init 22 = .ok (.aload_n 0, 1) := by decide +kernel
theorem d_Tokens_init_23 : decode b_Tokens_init 23 = .ok (.sipush 480, 3) := by decide +kernel
theorem d_Tokens_init_26 : decode b_Tokens_init 26 = .ok (.newarray .long, 2) := by decide +kernel
theorem d_Tokens_init_28 : decode b_Tokens_init 28 = .ok (.putfield 18, 3) := by decide +kernel
theorem d_Tokens_init_31 : decode b_Tokens_init 31 = .ok (.aload_n 0, 1) := by decide +kernel
theorem d_Tokens_init_32 : decode b_Tokens_init 32 = .ok (.iconst 0, 1) := by decide +kernel
theorem d_Tokens_init_33 : decode b_Tokens_init 33 = .ok (.putfield 22, 3) := by decide +kernel
theorem d_Tokens_init_36 : decode b_Tokens_init 36 = .ok (.aload_n 0, 1) := by decide +kernel
theorem d_Tokens_init_37 : decode b_Tokens_init 37 = .ok (.iconst 0, 1) := by decide +kernel
theorem d_Tokens_init_38 : decode b_Tokens_init 38 = .ok (.putfield 26, 3) := by decide +kernel
theorem d_Tokens_init_41 : decode b_Tokens_init 41 = .ok (.aload_n 0, 1) := by decide +kernel
theorem d_Tokens_init_42 : decode b_Tokens_init 42 = .ok (.iconst 0, 1) := by decide +kernel
theorem d_Tokens_init_43 : decode b_Tokens_init 43 = .ok (.putfield 29, 3) := by decide +kernel
theorem d_Tokens_init_46 : decode b_Tokens_init 46 = .ok (.return_, 1) := by decide +kernel
theorem d_Program_init_0 : decode b_Program_init 0 = .ok (.aload_n 0, 1) := by decide +kernel
theorem d_Program_init_1 : decode b_Program_init 1 = .ok (.invokespecial 5, 3) := by decide +kernel
theorem d_Program_init_4 : decode b_Program_init 4 = .ok (.aload_n 0, 1) := by decide +kernel
theorem d_Program_init_5 : decode b_Program_init 5 = .ok (.sipush 256, 3) := by decide +kernel
theorem d_Program_init_8 : decode b_Program_init 8 = .ok (.newarray .int, 2) := by decide +kernel
theorem d_Program_init_10 : decode b_Program_init 10 = .ok (.putfield 13, 3) := by decide +kernel
theorem d_Program_init_13 : decode b_Program_init 13 = .ok (.aload_n 0, 1) := by decide +kernel
theorem d_Program_init_14 : decode b_Program_init 14 = .ok (.iconst 4, 1) := by decide +kernel
theorem d_Program_init_15 : decode b_Program_init 15 = .ok (.newarray .int, 2) := by decide +kernel
theorem d_Program_init_17 : decode b_Program_init 17 = .ok (.putfield 17, 3) := by decide +kernel
theorem d_Program_init_20 : decode b_Program_init 20 = .ok (.aload_n 0, 1) := by decide +kernel
theorem d_Program_init_21 : decode b_Program_init 21 = .ok (.sipush 240, 3) := by decide +kernel
theorem d_Program_init_24 : decode b_Program_init 24 = .ok (.newarray .long, 2) := by decide +kernel
theorem d_Program_init_26 : decode b_Program_init 26 = .ok (.putfield 20, 3) := by decide +kernel
theorem d_Program_init_29 : decode b_Program_init 29 = .ok (.aload_n 0, 1) := by decide +kernel
theorem d_Program_init_30 : decode b_Program_init 30 = .ok (.sipush 240, 3) := by decide +kernel
theorem d_Program_init_33 : decode b_Program_init 33 = .ok (.newarray .int, 2) := by decide +kernel
theorem d_Program_init_35 : decode b_Program_init 35 = .ok (.putfield 24, 3) := by decide +kernel
theorem d_Program_init_38 : decode b_Program_init 38 = .ok (.aload_n 0, 1) := by decide +kernel
theorem d_Program_init_39 : decode b_Program_init 39 = .ok (.iconst 0, 1) := by decide +kernel
theorem d_Program_init_40 : decode b_Program_init 40 = .ok (.putfield 27, 3) := by decide +kernel
theorem d_Program_init_43 : decode b_Program_init 43 = .ok (.aload_n 0, 1) := by decide +kernel
theorem d_Program_init_44 : decode b_Program_init 44 = .ok (.iconst 0, 1) := by decide +kernel
theorem d_Program_init_45 : decode b_Program_init 45 = .ok (.putfield 31, 3) := by decide +kernel
theorem d_Program_init_48 : decode b_Program_init 48 = .ok (.return_, 1) := by decide +kernel
theorem d_Fault_init_0 : decode b_Fault_init 0 = .ok (.aload_n 0, 1) := by decide +kernel
theorem d_Fault_init_1 : decode b_Fault_init 1 = .ok (.invokespecial 1, 3) := by decide +kernel
theorem d_Fault_init_4 : decode b_Fault_init 4 = .ok (.aload_n 0, 1) := by decide +kernel
theorem d_Fault_init_5 : decode b_Fault_init 5 = .ok (.iconst 0, 1) := by decide +kernel
theorem d_Fault_init_6 : decode b_Fault_init 6 = .ok (.putfield 7, 3) := by decide +kernel
theorem d_Fault_init_9 : decode b_Fault_init 9 = .ok (.aload_n 0, 1) := by decide +kernel
theorem d_Fault_init_10 : decode b_Fault_init 10 = .ok (.iconst 0, 1) := by decide +kernel
theorem d_Fault_init_11 : decode b_Fault_init 11 = .ok (.putfield 13, 3) := by decide +kernel

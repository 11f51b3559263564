theorem d_Asm_exchange_0 : decode b_Asm_exchange 0 = .ok (.aload_n 0, 1) := by decide +kernel
theorem d_Asm_exchange_1 : decode b_Asm_exchange 1 = .ok (.getfield 28, 3) := by decide +kernel
theorem d_Asm_exchange_4 : decode b_Asm_exchange 4 = .ok (.astore_n 2, 1) := by decide +kernel
theorem d_Asm_exchange_5 : decode b_Asm_exchange 5 = .ok (.aload_n 0, 1) := by decide +kernel
theorem d_Asm_exchange_6 : decode b_Asm_exchange 6 = .ok (.aload_n 1, 1) := by decide +kernel
theorem d_Asm_exchange_7 : decode b_Asm_exchange 7 = .ok (.putfield 28, 3) := by decide +kernel
theorem d_Asm_exchange_10 : decode b_Asm_exchange 10 = .ok (.aload_n 2, 1) := by decide +kernel
theorem d_Asm_exchange_11 : decode b_Asm_exchange 11 = .ok (.areturn, 1) := by decide +kernel
theorem d_Desk_word_0 : decode b_Desk_word 0 = .ok (.iload_n 1, 1) := by decide +kernel
theorem d_Desk_word_1 : decode b_Desk_word 1 = .ok (.ifCond .lt 10, 3) := by decide +kernel
theorem d_Desk_word_4 : decode b_Desk_word 4 = .ok (.iload_n 1, 1) := by decide +kernel
theorem d_Desk_word_5 : decode b_Desk_word 5 = .ok (.sipush 256, 3) := by decide +kernel
theorem d_Desk_word_8 : decode b_Desk_word 8 = .ok (.if_icmp .lt 13, 3) := by decide +kernel
theorem d_Desk_word_11 : decode b_Desk_word 11 = .ok (.new 68, 3) := by decide +kernel
theorem d_Desk_word_14 : decode b_Desk_word 14 = .ok (.dup, 1) := by decide +kernel
theorem d_Desk_word_15 : decode b_Desk_word 15 = .ok (.ldc 70, 2) := by decide +kernel
theorem d_Desk_word_17 : decode b_Desk_word 17 = .ok (.invokespecial 72, 3) := by decide +kernel
theorem d_Desk_word_20 : decode b_Desk_word 20 = .ok (.athrow, 1) := by decide +kernel
theorem d_Desk_word_21 : decode b_Desk_word 21 = .ok (.aload_n 0, 1) := by decide +kernel
theorem d_Desk_word_22 : decode b_Desk_word 22 = .ok (.getfield 26, 3) := by decide +kernel
theorem d_Desk_word_25 : decode b_Desk_word 25 = .ok (.getfield 73, 3) := by decide +kernel
theorem d_Desk_word_28 : decode b_Desk_word 28 = .ok (.iload_n 1, 1) := by decide +kernel
theorem d_Desk_word_29 : decode b_Desk_word 29 = .ok (.iaload, 1) := by decide +kernel
theorem d_Desk_word_30 : decode b_Desk_word 30 = .ok (.ireturn, 1) := by decide +kernel
theorem d_Desk_start_0 : decode b_Desk_start 0 = .ok (.iload_n 1, 1) := by decide +kernel
theorem d_Desk_start_1 : decode b_Desk_start 1 = .ok (.ifCond .lt 8, 3) := by decide +kernel
theorem d_Desk_start_4 : decode b_Desk_start 4 = .ok (.iload_n 1, 1) := by decide +kernel
theorem d_Desk_start_5 : decode b_Desk_start 5 = .ok (.iconst 4, 1) := by decide +kernel
theorem d_Desk_start_6 : decode b_Desk_start 6 = .ok (.if_icmp .lt 13, 3) := by decide +kernel
theorem d_Desk_start_9 : decode b_Desk_start 9 = .ok (.new 68, 3) := by decide +kernel
theorem d_Desk_start_12 : decode b_Desk_start 12 = .ok (.dup, 1) := by decide +kernel
theorem d_Desk_start_13 : decode b_Desk_start 13 = .ok (.ldc 77, 2) := by decide +kernel
theorem d_Desk_start_15 : decode b_Desk_start 15 = .ok (.invokespecial 72, 3) := by decide +kernel
theorem d_Desk_start_18 : decode b_Desk_start 18 = .ok (.athrow, 1) := by decide +kernel
theorem d_Desk_start_19 : decode b_Desk_start 19 = .ok (.aload_n 0, 1) := by decide +kernel
theorem d_Desk_start_20 : decode b_Desk_start 20 = .ok (.getfield 26, 3) := by decide +kernel
theorem d_Desk_start_23 : decode b_Desk_start 23 = .ok (.getfield 79, 3) := by decide +kernel
theorem d_Desk_start_26 : decode b_Desk_start 26 = .ok (.iload_n 1, 1) := by decide +kernel
theorem d_Desk_start_27 : decode b_Desk_start 27 = .ok (.iaload, 1) := by decide +kernel
theorem d_Desk_start_28 : decode b_Desk_start 28 = .ok (.ireturn, 1) := by decide +kernel
theorem d_Desk_label_0 : decode b_Desk_label 0 = .ok (.aload_n 0, 1) := by decide +kernel
theorem d_Desk_label_1 : decode b_Desk_label 1 = .ok (.getfield 26, 3) := by decide +kernel
theorem d_Desk_label_4 : decode b_Desk_label 4 = .ok (.lload_n 1, 1) := by decide +kernel
theorem d_Desk_label_5 : decode b_Desk_label 5 = .ok (.invokevirtual 85, 3) := by decide +kernel
theorem d_Desk_label_8 : decode b_Desk_label 8 = .ok (.istore_n 3, 1) := by decide +kernel
theorem d_Desk_label_9 : decode b_Desk_label 9 = .ok (.iload_n 3, 1) := by decide +kernel
theorem d_Desk_label_10 : decode b_Desk_label 10 = .ok (.iconst (-1), 1) := by decide +kernel
theorem d_Desk_label_11 : decode b_Desk_label 11 = .ok (.if_icmp .ne 13, 3) := by decide +kernel
theorem d_Desk_label_14 : decode b_Desk_label 14 = .ok (.new 89, 3) := by decide +kernel
theorem d_Desk_label_17 : decode b_Desk_label 17 = .ok (.dup, 1) := by decide +kernel
theorem d_Desk_label_18 : decode b_Desk_label 18 = .ok (.ldc 91, 2) := by decide +kernel
theorem d_Desk_label_20 : decode b_Desk_label 20 = .ok (.invokespecial 93, 3) := by decide +kernel
theorem d_Desk_label_23 : decode b_Desk_label 23 = .ok (.athrow, 1) := by decide +kernel
theorem d_Desk_label_24 : decode b_Desk_label 24 = .ok (.iload_n 3, 1) := by decide +kernel
theorem d_Desk_label_25 : decode b_Desk_label 25 = .ok (.ireturn, 1) := by decide +kernel
theorem d_Desk_assemble_0 : decode b_Desk_assemble 0 = .ok (.aload_n 0, 1) := by decide +kernel
theorem d_Desk_assemble_1 : decode b_Desk_assemble 1 = .ok (.getfield 19, 3) := by decide +kernel
theorem d_Desk_assemble_4 : decode b_Desk_assemble 4 = .ok (.aload_n 0, 1) := by decide +kernel
theorem d_Desk_assemble_5 : decode b_Desk_assemble 5 = .ok (.getfield 10, 3) := by decide +kernel
theorem d_Desk_assemble_8 : decode b_Desk_assemble 8 = .ok (.invokevirtual 34, 3) := by decide +kernel
theorem d_Desk_assemble_11 : decode b_Desk_assemble 11 = .ok (.istore_n 1, 1) := by decide +kernel
theorem d_Desk_assemble_12 : decode b_Desk_assemble 12 = .ok (.aload_n 0, 1) := by decide +kernel
theorem d_Desk_assemble_13 : decode b_Desk_assemble 13 = .ok (.getfield 10, 3) := by decide +kernel
theorem d_Desk_assemble_16 : decode b_Desk_assemble 16 = .ok (.invokevirtual 38, 3) := by decide +kernel
theorem d_Desk_assemble_19 : decode b_Desk_assemble 19 = .ok (.iload_n 1, 1) := by decide +kernel
theorem d_Desk_assemble_20 : decode b_Desk_assemble 20 = .ok (.ifCond .ne 13, 3) := by decide +kernel
theorem d_Desk_assemble_23 : decode b_Desk_assemble 23 = .ok (.new 41, 3) := by decide +kernel
theorem d_Desk_assemble_26 : decode b_Desk_assemble 26 = .ok (.dup, 1) := by decide +kernel
theorem d_Desk_assemble_27 : decode b_Desk_assemble 27 = .ok (.ldc 43, 2) := by decide +kernel
theorem d_Desk_assemble_29 : decode b_Desk_assemble 29 = .ok (.invokespecial 45, 3) := by decide +kernel
theorem d_Desk_assemble_32 : decode b_Desk_assemble 32 = .ok (.athrow, 1) := by decide +kernel
theorem d_Desk_assemble_33 : decode b_Desk_assemble 33 = .ok (.aload_n 0, 1) := by decide +kernel
theorem d_Desk_assemble_34 : decode b_Desk_assemble 34 = .ok (.aload_n 0, 1) := by decide +kernel
theorem d_Desk_assemble_35 : decode b_Desk_assemble 35 = .ok (.getfield 19, 3) := by decide +kernel
theorem d_Desk_assemble_38 : decode b_Desk_assemble 38 = .ok (.aload_n 0, 1) := by decide +kernel
theorem d_Desk_assemble_39 : decode b_Desk_assemble 39 = .ok (.getfield 26, 3) := by decide +kernel
theorem d_Desk_assemble_42 : decode b_Desk_assemble 42 = .ok (.invokevirtual 48, 3) := by decide +kernel
theorem d_Desk_assemble_45 : decode b_Desk_assemble 45 = .ok (.putfield 26, 3) := by decide +kernel
theorem d_Desk_assemble_48 : decode b_Desk_assemble 48 = .ok (.aload_n 0, 1) := by decide +kernel
theorem d_Desk_assemble_49 : decode b_Desk_assemble 49 = .ok (.getfield 26, 3) := by decide +kernel
theorem d_Desk_assemble_52 : decode b_Desk_assemble 52 = .ok (.getfield 52, 3) := by decide +kernel
theorem d_Desk_assemble_55 : decode b_Desk_assemble 55 = .ok (.ireturn, 1) := by decide +kernel
theorem d_Law_word_0 : decode b_Law_word 0 = .ok (.aload_n 2, 1) := by decide +kernel
theorem d_Law_word_1 : decode b_Law_word 1 = .ok (.iconst 0, 1) := by decide +kernel
theorem d_Law_word_2 : decode b_Law_word 2 = .ok (.aload_n 0, 1) := by decide +kernel
theorem d_Law_word_3 : decode b_Law_word 3 = .ok (.iload_n 1, 1) := by decide +kernel
theorem d_Law_word_4 : decode b_Law_word 4 = .ok (.invokevirtual 15, 3) := by decide +kernel
theorem d_Law_word_7 : decode b_Law_word 7 = .ok (.i2l, 1) := by decide +kernel
theorem d_Law_word_8 : decode b_Law_word 8 = .ok (.lastore, 1) := by decide +kernel
theorem d_Law_word_9 : decode b_Law_word 9 = .ok (.goto 6, 3) := by decide +kernel
theorem d_Law_word_12 : decode b_Law_word 12 = .ok (.astore_n 3, 1) := by decide +kernel
theorem d_Law_word_13 : decode b_Law_word 13 = .ok (.iconst 1, 1) := by decide +kernel
theorem d_Law_word_14 : decode b_Law_word 14 = .ok (.ireturn, 1) := by decide +kernel
theorem d_Law_word_15 : decode b_Law_word 15 = .ok (.iconst 0, 1) := by decide +kernel
theorem d_Law_word_16 : decode b_Law_word 16 = .ok (.ireturn, 1) := by decide +kernel
theorem d_Law_start_0 : decode b_Law_start 0 = .ok (.aload_n 2, 1) := by decide +kernel
theorem d_Law_start_1 : decode b_Law_start 1 = .ok (.iconst 0, 1) := by decide +kernel
theorem d_Law_start_2 : decode b_Law_start 2 = .ok (.aload_n 0, 1) := by decide +kernel
theorem d_Law_start_3 : decode b_Law_start 3 = .ok (.iload_n 1, 1) := by decide +kernel
theorem d_Law_start_4 : decode b_Law_start 4 = .ok (.invokevirtual 21, 3) := by decide +kernel
theorem d_Law_start_7 : decode b_Law_start 7 = .ok (.i2l, 1) := by decide +kernel
theorem d_Law_start_8 : decode b_Law_start 8 = .ok (.lastore, 1) := by decide +kernel
theorem d_Law_start_9 : decode b_Law_start 9 = .ok (.goto 6, 3) := by decide +kernel
theorem d_Law_start_12 : decode b_Law_start 12 = .ok (.astore_n 3, 1) := by decide +kernel
theorem d_Law_start_13 : decode b_Law_start 13 = .ok (.iconst 1, 1) := by decide +kernel
theorem d_Law_start_14 : decode b_Law_start 14 = .ok (.ireturn, 1) := by decide +kernel
theorem d_Law_start_15 : decode b_Law_start 15 = .ok (.iconst 0, 1) := by decide +kernel
theorem d_Law_start_16 : decode b_Law_start 16 = .ok (.ireturn, 1) := by decide +kernel
theorem d_Law_label_0 : decode b_Law_label 0 = .ok (.aload_n 3, 1) := by decide +kernel
theorem d_Law_label_1 : decode b_Law_label 1 = .ok (.iconst 0, 1) := by decide +kernel
theorem d_Law_label_2 : decode b_Law_label 2 = .ok (.aload_n 0, 1) := by decide +kernel
theorem d_Law_label_3 : decode b_Law_label 3 = .ok (.lload_n 1, 1) := by decide +kernel
theorem d_Law_label_4 : decode b_Law_label 4 = .ok (.invokevirtual 24, 3) := by decide +kernel
theorem d_Law_label_7 : decode b_Law_label 7 = .ok (.i2l, 1) := by decide +kernel
theorem d_Law_label_8 : decode b_Law_label 8 = .ok (.lastore, 1) := by decide +kernel
theorem d_Law_label_9 : decode b_Law_label 9 = .ok (.goto 7, 3) := by decide +kernel
theorem d_Law_label_12 : decode b_Law_label 12 = .ok (.astore 4, 2) := by decide +kernel
theorem d_Law_label_14 : decode b_Law_label 14 = .ok (.iconst 1, 1) := by decide +kernel
theorem d_Law_label_15 : decode b_Law_label 15 = .ok (.ireturn, 1) := by decide +kernel
theorem d_Law_label_16 : decode b_Law_label 16 = .ok (.iconst 0, 1) := by decide +kernel
theorem d_Law_label_17 : decode b_Law_label 17 = .ok (.ireturn, 1) := by decide +kernel
theorem d_Law_assemble_0 : decode b_Law_assemble 0 = .ok (.aload_n 1, 1) := by decide +kernel
theorem d_Law_assemble_1 : decode b_Law_assemble 1 = .ok (.iconst 0, 1) := by decide +kernel
theorem d_Law_assemble_2 : decode b_Law_assemble 2 = .ok (.aload_n 0, 1) := by decide +kernel
theorem d_Law_assemble_3 : decode b_Law_assemble 3 = .ok (.invokevirtual 7, 3) := by decide +kernel
theorem d_Law_assemble_6 : decode b_Law_assemble 6 = .ok (.i2l, 1) := by decide +kernel
theorem d_Law_assemble_7 : decode b_Law_assemble 7 = .ok (.lastore, 1) := by decide +kernel
theorem d_Law_assemble_8 : decode b_Law_assemble 8 = .ok (.goto 6, 3) := by decide +kernel
theorem d_Law_assemble_11 : decode b_Law_assemble 11 = .ok (.astore_n 2, 1) := by decide +kernel
theorem d_Law_assemble_12 : decode b_Law_assemble 12 = .ok (.iconst 1, 1) := by decide +kernel
theorem d_Law_assemble_13 : decode b_Law_assemble 13 = .ok (.ireturn, 1) := by decide +kernel
theorem d_Law_assemble_14 : decode b_Law_assemble 14 = .ok (.iconst 0, 1) := by decide +kernel
theorem d_Law_assemble_15 : decode b_Law_assemble 15 = .ok (.ireturn, 1) := by decide +kernel

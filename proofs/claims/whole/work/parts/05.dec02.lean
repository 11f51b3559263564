theorem d_Fault_note_12 : decode b_Fault_note 12 = .ok (.if_icmp .lt 19, 3) := by decide +kernel
theorem d_Fault_note_15 : decode b_Fault_note 15 = .ok (.iload_n 2, 1) := by decide +kernel
theorem d_Fault_note_16 : decode b_Fault_note 16 = .ok (.aload_n 0, 1) := by decide +kernel
theorem d_Fault_note_17 : decode b_Fault_note 17 = .ok (.getfield 13, 3) := by decide +kernel
theorem d_Fault_note_20 : decode b_Fault_note 20 = .ok (.if_icmp .ne 21, 3) := by decide +kernel
theorem d_Fault_note_23 : decode b_Fault_note 23 = .ok (.iload_n 1, 1) := by decide +kernel
theorem d_Fault_note_24 : decode b_Fault_note 24 = .ok (.aload_n 0, 1) := by decide +kernel
theorem d_Fault_note_25 : decode b_Fault_note 25 = .ok (.getfield 7, 3) := by decide +kernel
theorem d_Fault_note_28 : decode b_Fault_note 28 = .ok (.if_icmp .ge 13, 3) := by decide +kernel
theorem d_Fault_note_31 : decode b_Fault_note 31 = .ok (.aload_n 0, 1) := by decide +kernel
theorem d_Fault_note_32 : decode b_Fault_note 32 = .ok (.iload_n 1, 1) := by decide +kernel
theorem d_Fault_note_33 : decode b_Fault_note 33 = .ok (.putfield 7, 3) := by decide +kernel
theorem d_Fault_note_36 : decode b_Fault_note 36 = .ok (.aload_n 0, 1) := by decide +kernel
theorem d_Fault_note_37 : decode b_Fault_note 37 = .ok (.iload_n 2, 1) := by decide +kernel
theorem d_Fault_note_38 : decode b_Fault_note 38 = .ok (.putfield 13, 3) := by decide +kernel
theorem d_Fault_note_41 : decode b_Fault_note 41 = .ok (.return_, 1) := by decide +kernel
theorem d_Asm_atLabel_0 : decode b_Asm_atLabel 0 = .ok (.aload_n 0, 1) := by decide +kernel
theorem d_Asm_atLabel_1 : decode b_Asm_atLabel 1 = .ok (.getfield 21, 3) := by decide +kernel
theorem d_Asm_atLabel_4 : decode b_Asm_atLabel 4 = .ok (.aload_n 0, 1) := by decide +kernel
theorem d_Asm_atLabel_5 : decode b_Asm_atLabel 5 = .ok (.getfield 36, 3) := by decide +kernel
theorem d_Asm_atLabel_8 : decode b_Asm_atLabel 8 = .ok (.invokevirtual 70, 3) := by decide +kernel
theorem d_Asm_atLabel_11 : decode b_Asm_atLabel 11 = .ok (.iconst 2, 1) := by decide +kernel
theorem d_Asm_atLabel_12 : decode b_Asm_atLabel 12 = .ok (.if_icmp .ne 25, 3) := by decide +kernel
theorem d_Asm_atLabel_15 : decode b_Asm_atLabel 15 = .ok (.aload_n 0, 1) := by decide +kernel
theorem d_Asm_atLabel_16 : decode b_Asm_atLabel 16 = .ok (.getfield 21, 3) := by decide +kernel
theorem d_Asm_atLabel_19 : decode b_Asm_atLabel 19 = .ok (.aload_n 0, 1) := by decide +kernel
theorem d_Asm_atLabel_20 : decode b_Asm_atLabel 20 = .ok (.getfield 36, 3) := by decide +kernel
theorem d_Asm_atLabel_23 : decode b_Asm_atLabel 23 = .ok (.iconst 1, 1) := by decide +kernel
theorem d_Asm_atLabel_24 : decode b_Asm_atLabel 24 = .ok (.iadd, 1) := by decide +kernel
theorem d_Asm_atLabel_25 : decode b_Asm_atLabel 25 = .ok (.invokevirtual 70, 3) := by decide +kernel
theorem d_Asm_atLabel_28 : decode b_Asm_atLabel 28 = .ok (.bipush 58, 2) := by decide +kernel
theorem d_Asm_atLabel_30 : decode b_Asm_atLabel 30 = .ok (.if_icmp .ne 7, 3) := by decide +kernel
theorem d_Asm_atLabel_33 : decode b_Asm_atLabel 33 = .ok (.iconst 1, 1) := by decide +kernel
theorem d_Asm_atLabel_34 : decode b_Asm_atLabel 34 = .ok (.goto 4, 3) := by decide +kernel
theorem d_Asm_atLabel_37 : decode b_Asm_atLabel 37 = .ok (.iconst 0, 1) := by decide +kernel
theorem d_Asm_atLabel_38 : decode b_Asm_atLabel 38 = .ok (.ireturn, 1) := by decide +kernel
theorem d_Asm_readLabels_0 : decode b_Asm_readLabels 0 = .ok (.iconst 0, 1) := by decide +kernel
theorem d_Asm_readLabels_1 : decode b_Asm_readLabels 1 = .ok (.istore_n 1, 1) := by decide +kernel
theorem d_Asm_readLabels_2 : decode b_Asm_readLabels 2 = .ok (.iload_n 1, 1) := by decide +kernel
theorem d_Asm_readLabels_3 : decode b_Asm_readLabels 3 = .ok (.sipush 480, 3) := by decide +kernel
theorem d_Asm_readLabels_6 : decode b_Asm_readLabels 6 = .ok (.if_icmp .ge 77, 3) := by decide +kernel
theorem d_Asm_readLabels_9 : decode b_Asm_readLabels 9 = .ok (.aload_n 0, 1) := by decide +kernel
theorem d_Asm_readLabels_10 : decode b_Asm_readLabels 10 = .ok (.invokevirtual 84, 3) := by decide +kernel
theorem d_Asm_readLabels_13 : decode b_Asm_readLabels 13 = .ok (.ifCond .eq 70, 3) := by decide +kernel
theorem d_Asm_readLabels_16 : decode b_Asm_readLabels 16 = .ok (.aload_n 0, 1) := by decide +kernel
theorem d_Asm_readLabels_17 : decode b_Asm_readLabels 17 = .ok (.getfield 32, 3) := by decide +kernel
theorem d_Asm_readLabels_20 : decode b_Asm_readLabels 20 = .ok (.ifCond .eq 47, 3) := by decide +kernel
theorem d_Asm_readLabels_23 : decode b_Asm_readLabels 23 = .ok (.aload_n 0, 1) := by decide +kernel
theorem d_Asm_readLabels_24 : decode b_Asm_readLabels 24 = .ok (.getfield 28, 3) := by decide +kernel
theorem d_Asm_readLabels_27 : decode b_Asm_readLabels 27 = .ok (.aload_n 0, 1) := by decide +kernel
theorem d_Asm_readLabels_28 : decode b_Asm_readLabels 28 = .ok (.getfield 21, 3) := by decide +kernel
theorem d_Asm_readLabels_31 : decode b_Asm_readLabels 31 = .ok (.aload_n 0, 1) := by decide +kernel
theorem d_Asm_readLabels_32 : decode b_Asm_readLabels 32 = .ok (.getfield 36, 3) := by decide +kernel
theorem d_Asm_readLabels_35 : decode b_Asm_readLabels 35 = .ok (.invokevirtual 87, 3) := by decide +kernel
theorem d_Asm_readLabels_38 : decode b_Asm_readLabels 38 = .ok (.aload_n 0, 1) := by decide +kernel
theorem d_Asm_readLabels_39 : decode b_Asm_readLabels 39 = .ok (.getfield 40, 3) := by decide +kernel
theorem d_Asm_readLabels_42 : decode b_Asm_readLabels 42 = .ok (.invokevirtual 90, 3) := by decide +kernel
theorem d_Asm_readLabels_45 : decode b_Asm_readLabels 45 = .ok (.ifCond .ne 22, 3) := by decide +kernel
theorem d_Asm_readLabels_48 : decode b_Asm_readLabels 48 = .ok (.aload_n 0, 1) := by decide +kernel
theorem d_Asm_readLabels_49 : decode b_Asm_readLabels 49 = .ok (.getfield 12, 3) := by decide +kernel
theorem d_Asm_readLabels_52 : decode b_Asm_readLabels 52 = .ok (.iconst 2, 1) := by decide +kernel
theorem d_Asm_readLabels_53 : decode b_Asm_readLabels 53 = .ok (.aload_n 0, 1) := by decide +kernel
theorem d_Asm_readLabels_54 : decode b_Asm_readLabels 54 = .ok (.getfield 21, 3) := by decide +kernel
theorem d_Asm_readLabels_57 : decode b_Asm_readLabels 57 = .ok (.aload_n 0, 1) := by decide +kernel
theorem d_Asm_readLabels_58 : decode b_Asm_readLabels 58 = .ok (.getfield 36, 3) := by decide +kernel
theorem d_Asm_readLabels_61 : decode b_Asm_readLabels 61 = .ok (.invokevirtual 94, 3) := by decide +kernel
theorem d_Asm_readLabels_64 : decode b_Asm_readLabels 64 = .ok (.invokevirtual 97, 3) := by decide +kernel
theorem d_Asm_readLabels_67 : decode b_Asm_readLabels 67 = .ok (.aload_n 0, 1) := by decide +kernel
theorem d_Asm_readLabels_68 : decode b_Asm_readLabels 68 = .ok (.dup, 1) := by decide +kernel
theorem d_Asm_readLabels_69 : decode b_Asm_readLabels 69 = .ok (.getfield 36, 3) := by decide +kernel
theorem d_Asm_readLabels_72 : decode b_Asm_readLabels 72 = .ok (.iconst 2, 1) := by decide +kernel
theorem d_Asm_readLabels_73 : decode b_Asm_readLabels 73 = .ok (.iadd, 1) := by decide +kernel
theorem d_Asm_readLabels_74 : decode b_Asm_readLabels 74 = .ok (.putfield 36, 3) := by decide +kernel
theorem d_Asm_readLabels_77 : decode b_Asm_readLabels 77 = .ok (.iinc 1 1, 3) := by decide +kernel
theorem d_Asm_readLabels_80 : decode b_Asm_readLabels 80 = .ok (.goto (-78), 3) := by decide +kernel
theorem d_Asm_readLabels_83 : decode b_Asm_readLabels 83 = .ok (.return_, 1) := by decide +kernel
theorem d_Asm_readSign_0 : decode b_Asm_readSign 0 = .ok (.aload_n 0, 1) := by decide +kernel
theorem d_Asm_readSign_1 : decode b_Asm_readSign 1 = .ok (.getfield 21, 3) := by decide +kernel
theorem d_Asm_readSign_4 : decode b_Asm_readSign 4 = .ok (.aload_n 0, 1) := by decide +kernel
theorem d_Asm_readSign_5 : decode b_Asm_readSign 5 = .ok (.getfield 36, 3) := by decide +kernel
theorem d_Asm_readSign_8 : decode b_Asm_readSign 8 = .ok (.invokevirtual 70, 3) := by decide +kernel
theorem d_Asm_readSign_11 : decode b_Asm_readSign 11 = .ok (.iload_n 1, 1) := by decide +kernel
theorem d_Asm_readSign_12 : decode b_Asm_readSign 12 = .ok (.if_icmp .eq 22, 3) := by decide +kernel
theorem d_Asm_readSign_15 : decode b_Asm_readSign 15 = .ok (.aload_n 0, 1) := by decide +kernel
theorem d_Asm_readSign_16 : decode b_Asm_readSign 16 = .ok (.getfield 12, 3) := by decide +kernel
theorem d_Asm_readSign_19 : decode b_Asm_readSign 19 = .ok (.aload_n 0, 1) := by decide +kernel
theorem d_Asm_readSign_20 : decode b_Asm_readSign 20 = .ok (.getfield 21, 3) := by decide +kernel
theorem d_Asm_readSign_23 : decode b_Asm_readSign 23 = .ok (.aload_n 0, 1) := by decide +kernel
theorem d_Asm_readSign_24 : decode b_Asm_readSign 24 = .ok (.getfield 36, 3) := by decide +kernel
theorem d_Asm_readSign_27 : decode b_Asm_readSign 27 = .ok (.invokevirtual 94, 3) := by decide +kernel
theorem d_Asm_readSign_30 : decode b_Asm_readSign 30 = .ok (.invokevirtual 107, 3) := by decide +kernel
theorem d_Asm_readSign_33 : decode b_Asm_readSign 33 = .ok (.ireturn, 1) := by decide +kernel
theorem d_Asm_readSign_34 : decode b_Asm_readSign 34 = .ok (.aload_n 0, 1) := by decide +kernel
theorem d_Asm_readSign_35 : decode b_Asm_readSign 35 = .ok (.dup, 1) := by decide +kernel
theorem d_Asm_readSign_36 : decode b_Asm_readSign 36 = .ok (.getfield 36, 3) := by decide +kernel
theorem d_Asm_readSign_39 : decode b_Asm_readSign 39 = .ok (.iconst 1, 1) := by decide +kernel
theorem d_Asm_readSign_40 : decode b_Asm_readSign 40 = .ok (.iadd, 1) := by decide +kernel
theorem d_Asm_readSign_41 : decode b_Asm_readSign 41 = .ok (.putfield 36, 3) := by decide +kernel
theorem d_Asm_readSign_44 : decode b_Asm_readSign 44 = .ok (.iconst 1, 1) := by decide +kernel
theorem d_Asm_readSign_45 : decode b_Asm_readSign 45 = .ok (.ireturn, 1) := by decide +kernel
theorem d_Asm_readRegister_0 : decode b_Asm_readRegister 0 = .ok (.aload_n 0, 1) := by decide +kernel
theorem d_Asm_readRegister_1 : decode b_Asm_readRegister 1 = .ok (.getfield 21, 3) := by decide +kernel
theorem d_Asm_readRegister_4 : decode b_Asm_readRegister 4 = .ok (.aload_n 0, 1) := by decide +kernel
theorem d_Asm_readRegister_5 : decode b_Asm_readRegister 5 = .ok (.getfield 36, 3) := by decide +kernel
theorem d_Asm_readRegister_8 : decode b_Asm_readRegister 8 = .ok (.invokevirtual 87, 3) := by decide +kernel
theorem d_Asm_readRegister_11 : decode b_Asm_readRegister 11 = .ok (.ldc2_w 143, 3) := by decide +kernel
theorem d_Asm_readRegister_14 : decode b_Asm_readRegister 14 = .ok (.lsub, 1) := by decide +kernel
theorem d_Asm_readRegister_15 : decode b_Asm_readRegister 15 = .ok (.lstore_n 2, 1) := by decide +kernel
theorem d_Asm_readRegister_16 : decode b_Asm_readRegister 16 = .ok (.aload_n 0, 1) := by decide +kernel
theorem d_Asm_readRegister_17 : decode b_Asm_readRegister 17 = .ok (.getfield 21, 3) := by decide +kernel
theorem d_Asm_readRegister_20 : decode b_Asm_readRegister 20 = .ok (.aload_n 0, 1) := by decide +kernel
theorem d_Asm_readRegister_21 : decode b_Asm_readRegister 21 = .ok (.getfield 36, 3) := by decide +kernel
theorem d_Asm_readRegister_24 : decode b_Asm_readRegister 24 = .ok (.invokevirtual 70, 3) := by decide +kernel
theorem d_Asm_readRegister_27 : decode b_Asm_readRegister 27 = .ok (.iconst 2, 1) := by decide +kernel
theorem d_Asm_readRegister_28 : decode b_Asm_readRegister 28 = .ok (.if_icmp .ne 17, 3) := by decide +kernel
theorem d_Asm_readRegister_31 : decode b_Asm_readRegister 31 = .ok (.lload_n 2, 1) := by decide +kernel
theorem d_Asm_readRegister_32 : decode b_Asm_readRegister 32 = .ok (.lconst 0, 1) := by decide +kernel
theorem d_Asm_readRegister_33 : decode b_Asm_readRegister 33 = .ok (.lcmp, 1) := by decide +kernel
theorem d_Asm_readRegister_34 : decode b_Asm_readRegister 34 = .ok (.ifCond .lt 11, 3) := by decide +kernel
theorem d_Asm_readRegister_37 : decode b_Asm_readRegister 37 = .ok (.lload_n 2, 1) := by decide +kernel
theorem d_Asm_readRegister_38 : decode b_Asm_readRegister 38 = .ok (.ldc2_w 145, 3) := by decide +kernel
theorem d_Asm_readRegister_41 : decode b_Asm_readRegister 41 = .ok (.lcmp, 1) := by decide +kernel
theorem d_Asm_readRegister_42 : decode b_Asm_readRegister 42 = .ok (.ifCond .lt 22, 3) := by decide +kernel
theorem d_Asm_readRegister_45 : decode b_Asm_readRegister 45 = .ok (.aload_n 0, 1) := by decide +kernel
theorem d_Asm_readRegister_46 : decode b_Asm_readRegister 46 = .ok (.getfield 12, 3) := by decide +kernel
theorem d_Asm_readRegister_49 : decode b_Asm_readRegister 49 = .ok (.aload_n 0, 1) := by decide +kernel
theorem d_Asm_readRegister_50 : decode b_Asm_readRegister 50 = .ok (.getfield 21, 3) := by decide +kernel
theorem d_Asm_readRegister_53 : decode b_Asm_readRegister 53 = .ok (.aload_n 0, 1) := by decide +kernel
theorem d_Asm_readRegister_54 : decode b_Asm_readRegister 54 = .ok (.getfield 36, 3) := by decide +kernel
theorem d_Asm_readRegister_57 : decode b_Asm_readRegister 57 = .ok (.invokevirtual 94, 3) := by decide +kernel
theorem d_Asm_readRegister_60 : decode b_Asm_readRegister 60 = .ok (.invokevirtual 107, 3) := by decide +kernel
theorem d_Asm_readRegister_63 : decode b_Asm_readRegister 63 = .ok (.ireturn, 1) := by decide +kernel
theorem d_Asm_readRegister_64 : decode b_Asm_readRegister 64 = .ok (.aload_n 0, 1) := by decide +kernel
theorem d_Asm_readRegister_65 : decode b_Asm_readRegister 65 = .ok (.dup, 1) := by decide +kernel
theorem d_Asm_readRegister_66 : decode b_Asm_readRegister 66 = .ok (.getfield 43, 3) := by decide +kernel
theorem d_Asm_readRegister_69 : decode b_Asm_readRegister 69 = .ok (.lload_n 2, 1) := by decide +kernel
theorem d_Asm_readRegister_70 : decode b_Asm_readRegister 70 = .ok (.l2i, 1) := by decide +kernel
theorem d_Asm_readRegister_71 : decode b_Asm_readRegister 71 = .ok (.iload_n 1, 1) := by decide +kernel
theorem d_Asm_readRegister_72 : decode b_Asm_readRegister 72 = .ok (.ishl, 1) := by decide +kernel
theorem d_Asm_readRegister_73 : decode b_Asm_readRegister 73 = .ok (.ior, 1) := by decide +kernel
theorem d_Asm_readRegister_74 : decode b_Asm_readRegister 74 = .ok (.putfield 43, 3) := by decide +kernel
theorem d_Asm_readRegister_77 : decode b_Asm_readRegister 77 = .ok (.aload_n 0, 1) := by decide +kernel
theorem d_Asm_readRegister_78 : decode b_Asm_readRegister 78 = .ok (.dup, 1) := by decide +kernel
theorem d_Asm_readRegister_79 : decode b_Asm_readRegister 79 = .ok (.getfield 36, 3) := by decide +kernel
theorem d_Asm_readRegister_82 : decode b_Asm_readRegister 82 = .ok (.iconst 1, 1) := by decide +kernel
theorem d_Asm_readRegister_83 : decode b_Asm_readRegister 83 = .ok (.iadd, 1) := by decide +kernel
theorem d_Asm_readRegister_84 : decode b_Asm_readRegister 84 = .ok (.putfield 36, 3) := by decide +kernel
theorem d_Asm_readRegister_87 : decode b_Asm_readRegister 87 = .ok (.iconst 1, 1) := by decide +kernel
theorem d_Asm_readRegister_88 : decode b_Asm_readRegister 88 = .ok (.ireturn, 1) := by decide +kernel
theorem d_Asm_readLabel_0 : decode b_Asm_readLabel 0 = .ok (.aload_n 0, 1) := by decide +kernel
theorem d_Asm_readLabel_1 : decode b_Asm_readLabel 1 = .ok (.getfield 21, 3) := by decide +kernel
theorem d_Asm_readLabel_4 : decode b_Asm_readLabel 4 = .ok (.aload_n 0, 1) := by decide +kernel
theorem d_Asm_readLabel_5 : decode b_Asm_readLabel 5 = .ok (.getfield 36, 3) := by decide +kernel
theorem d_Asm_readLabel_8 : decode b_Asm_readLabel 8 = .ok (.invokevirtual 70, 3) := by decide +kernel
theorem d_Asm_readLabel_11 : decode b_Asm_readLabel 11 = .ok (.iconst 2, 1) := by decide +kernel
theorem d_Asm_readLabel_12 : decode b_Asm_readLabel 12 = .ok (.if_icmp .eq 5, 3) := by decide +kernel
theorem d_Asm_readLabel_15 : decode b_Asm_readLabel 15 = .ok (.iconst 0, 1) := by decide +kernel
theorem d_Asm_readLabel_16 : decode b_Asm_readLabel 16 = .ok (.ireturn, 1) := by decide +kernel
theorem d_Asm_readLabel_17 : decode b_Asm_readLabel 17 = .ok (.aload_n 0, 1) := by decide +kernel
theorem d_Asm_readLabel_18 : decode b_Asm_readLabel 18 = .ok (.getfield 28, 3) := by decide +kernel
theorem d_Asm_readLabel_21 : decode b_Asm_readLabel 21 = .ok (.aload_n 0, 1) := by decide +kernel
theorem d_Asm_readLabel_22 : decode b_Asm_readLabel 22 = .ok (.getfield 21, 3) := by decide +kernel
theorem d_Asm_readLabel_25 : decode b_Asm_readLabel 25 = .ok (.aload_n 0, 1) := by decide +kernel
theorem d_Asm_readLabel_26 : decode b_Asm_readLabel 26 = .ok (.getfield 36, 3) := by decide +kernel
theorem d_Asm_readLabel_29 : decode b_Asm_readLabel 29 = .ok (.invokevirtual 87, 3) := by decide +kernel
theorem d_Asm_readLabel_32 : decode b_Asm_readLabel 32 = .ok (.invokevirtual 147, 3) := by decide +kernel
theorem d_Asm_readLabel_35 : decode b_Asm_readLabel 35 = .ok (.istore_n 2, 1) := by decide +kernel
theorem d_Asm_readLabel_36 : decode b_Asm_readLabel 36 = .ok (.aload_n 0, 1) := by decide +kernel
theorem d_Asm_readLabel_37 : decode b_Asm_readLabel 37 = .ok (.getfield 32, 3) := by decide +kernel
theorem d_Asm_readLabel_40 : decode b_Asm_readLabel 40 = .ok (.ifCond .ne 27, 3) := by decide +kernel
theorem d_Asm_readLabel_43 : decode b_Asm_readLabel 43 = .ok (.iload_n 2, 1) := by decide +kernel
theorem d_Asm_readLabel_44 : decode b_Asm_readLabel 44 = .ok (.iconst (-1), 1) := by decide +kernel
theorem d_Asm_readLabel_45 : decode b_Asm_readLabel 45 = .ok (.if_icmp .ne 22, 3) := by decide +kernel
theorem d_Asm_readLabel_48 : decode b_Asm_readLabel 48 = .ok (.aload_n 0, 1) := by decide +kernel
theorem d_Asm_readLabel_49 : decode b_Asm_readLabel 49 = .ok (.getfield 12, 3) := by decide +kernel
theorem d_Asm_readLabel_52 : decode b_Asm_readLabel 52 = .ok (.iconst 2, 1) := by decide +kernel
theorem d_Asm_readLabel_53 : decode b_Asm_readLabel 53 = .ok (.aload_n 0, 1) := by decide +kernel
theorem d_Asm_readLabel_54 : decode b_Asm_readLabel 54 = .ok (.getfield 21, 3) := by decide +kernel
theorem d_Asm_readLabel_57 : decode b_Asm_readLabel 57 = .ok (.aload_n 0, 1) := by decide +kernel
theorem d_Asm_readLabel_58 : decode b_Asm_readLabel 58 = .ok (.getfield 36, 3) := by decide +kernel
theorem d_Asm_readLabel_61 : decode b_Asm_readLabel 61 = .ok (.invokevirtual 94, 3) := by decide +kernel
theorem d_Asm_readLabel_64 : decode b_Asm_readLabel 64 = .ok (.invokevirtual 97, 3) := by decide +kernel
theorem d_Asm_readLabel_67 : decode b_Asm_readLabel 67 = .ok (.aload_n 0, 1) := by decide +kernel
theorem d_Asm_readLabel_68 : decode b_Asm_readLabel 68 = .ok (.iload_n 2, 1) := by decide +kernel
theorem d_Asm_readLabel_69 : decode b_Asm_readLabel 69 = .ok (.iload_n 1, 1) := by decide +kernel
theorem d_Asm_readLabel_70 : decode b_Asm_readLabel 70 = .ok (.isub, 1) := by decide +kernel
theorem d_Asm_readLabel_71 : decode b_Asm_readLabel 71 = .ok (.i2l, 1) := by decide +kernel
theorem d_Asm_readLabel_72 : decode b_Asm_readLabel 72 = .ok (.putfield 46, 3) := by decide +kernel
theorem d_Asm_readLabel_75 : decode b_Asm_readLabel 75 = .ok (.aload_n 0, 1) := by decide +kernel
theorem d_Asm_readLabel_76 : decode b_Asm_readLabel 76 = .ok (.dup, 1) := by decide +kernel
theorem d_Asm_readLabel_77 : decode b_Asm_readLabel 77 = .ok (.getfield 36, 3) := by decide +kernel
theorem d_Asm_readLabel_80 : decode b_Asm_readLabel 80 = .ok (.iconst 1, 1) := by decide +kernel
theorem d_Asm_readLabel_81 : decode b_Asm_readLabel 81 = .ok (.iadd, 1) := by decide +kernel
theorem d_Asm_readLabel_82 : decode b_Asm_readLabel 82 = .ok (.putfield 36, 3) := by decide +kernel
theorem d_Asm_readLabel_85 : decode b_Asm_readLabel 85 = .ok (.iconst 1, 1) := by decide +kernel
theorem d_Asm_readLabel_86 : decode b_Asm_readLabel 86 = .ok (.ireturn, 1) := by decide +kernel
theorem d_Asm_lay_0 : decode b_Asm_lay 0 = .ok (.aload_n 0, 1) := by decide +kernel
theorem d_Asm_lay_1 : decode b_Asm_lay 1 = .ok (.getfield 40, 3) := by decide +kernel
theorem d_Asm_lay_4 : decode b_Asm_lay 4 = .ok (.sipush 256, 3) := by decide +kernel
theorem d_Asm_lay_7 : decode b_Asm_lay 7 = .ok (.if_icmp .lt 15, 3) := by decide +kernel
theorem d_Asm_lay_10 : decode b_Asm_lay 10 = .ok (.aload_n 0, 1) := by decide +kernel
theorem d_Asm_lay_11 : decode b_Asm_lay 11 = .ok (.getfield 12, 3) := by decide +kernel
theorem d_Asm_lay_14 : decode b_Asm_lay 14 = .ok (.iconst 3, 1) := by decide +kernel
theorem d_Asm_lay_15 : decode b_Asm_lay 15 = .ok (.iload_n 2, 1) := by decide +kernel
theorem d_Asm_lay_16 : decode b_Asm_lay 16 = .ok (.invokevirtual 97, 3) := by decide +kernel
theorem d_Asm_lay_19 : decode b_Asm_lay 19 = .ok (.goto 22, 3) := by decide +kernel
theorem d_Asm_lay_22 : decode b_Asm_lay 22 = .ok (.aload_n 0, 1) := by decide +kernel
theorem d_Asm_lay_23 : decode b_Asm_lay 23 = .ok (.getfield 32, 3) := by decide +kernel
theorem d_Asm_lay_26 : decode b_Asm_lay 26 = .ok (.ifCond .ne 15, 3) := by decide +kernel
theorem d_Asm_lay_29 : decode b_Asm_lay 29 = .ok (.aload_n 0, 1) := by decide +kernel
theorem d_Asm_lay_30 : decode b_Asm_lay 30 = .ok (.getfield 28, 3) := by decide +kernel
theorem d_Asm_lay_33 : decode b_Asm_lay 33 = .ok (.aload_n 0, 1) := by decide +kernel
theorem d_Asm_lay_34 : decode b_Asm_lay 34 = .ok (.getfield 40, 3) := by decide +kernel
theorem d_Asm_lay_37 : decode b_Asm_lay 37 = .ok (.iload_n 1, 1) := by decide +kernel
theorem d_Asm_lay_38 : decode b_Asm_lay 38 = .ok (.invokevirtual 174, 3) := by decide +kernel
theorem d_Asm_lay_41 : decode b_Asm_lay 41 = .ok (.aload_n 0, 1) := by decide +kernel
theorem d_Asm_lay_42 : decode b_Asm_lay 42 = .ok (.dup, 1) := by decide +kernel
theorem d_Asm_lay_43 : decode b_Asm_lay 43 = .ok (.getfield 40, 3) := by decide +kernel
theorem d_Asm_lay_46 : decode b_Asm_lay 46 = .ok (.iconst 1, 1) := by decide +kernel
theorem d_Asm_lay_47 : decode b_Asm_lay 47 = .ok (.iadd, 1) := by decide +kernel
theorem d_Asm_lay_48 : decode b_Asm_lay 48 = .ok (.putfield 40, 3) := by decide +kernel
theorem d_Asm_lay_51 : decode b_Asm_lay 51 = .ok (.aload_n 0, 1) := by decide +kernel
theorem d_Asm_lay_52 : decode b_Asm_lay 52 = .ok (.getfield 28, 3) := by decide +kernel
theorem d_Asm_lay_55 : decode b_Asm_lay 55 = .ok (.dup, 1) := by decide +kernel
theorem d_Asm_lay_56 : decode b_Asm_lay 56 = .ok (.getfield 65, 3) := by decide +kernel
theorem d_Asm_lay_59 : decode b_Asm_lay 59 = .ok (.iconst 1, 1) := by decide +kernel
theorem d_Asm_lay_60 : decode b_Asm_lay 60 = .ok (.iadd, 1) := by decide +kernel
theorem d_Asm_lay_61 : decode b_Asm_lay 61 = .ok (.putfield 65, 3) := by decide +kernel
theorem d_Asm_lay_64 : decode b_Asm_lay 64 = .ok (.return_, 1) := by decide +kernel
theorem d_Order_spelled_0 : decode b_Order_spelled 0 = .ok (.iconst 0, 1) := by decide +kernel
theorem d_Order_spelled_1 : decode b_Order_spelled 1 = .ok (.istore_n 2, 1) := by decide +kernel
theorem d_Order_spelled_2 : decode b_Order_spelled 2 = .ok (.iload_n 2, 1) := by decide +kernel
theorem d_Order_spelled_3 : decode b_Order_spelled 3 = .ok (.getstatic 130, 3) := by decide +kernel
theorem d_Order_spelled_6 : decode b_Order_spelled 6 = .ok (.arraylength, 1) := by decide +kernel
theorem d_Order_spelled_7 : decode b_Order_spelled 7 = .ok (.if_icmp .ge 28, 3) := by decide +kernel
theorem d_Order_spelled_10 : decode b_Order_spelled 10 = .ok (.getstatic 130, 3) := by decide +kernel
theorem d_Order_spelled_13 : decode b_Order_spelled 13 = .ok (.iload_n 2, 1) := by decide +kernel
theorem d_Order_spelled_14 : decode b_Order_spelled 14 = .ok (.aaload, 1) := by decide +kernel
theorem d_Order_spelled_15 : decode b_Order_spelled 15 = .ok (.getfield 102, 3) := by decide +kernel
theorem d_Order_spelled_18 : decode b_Order_spelled 18 = .ok (.lload_n 0, 1) := by decide +kernel
theorem d_Order_spelled_19 : decode b_Order_spelled 19 = .ok (.lcmp, 1) := by decide +kernel
theorem d_Order_spelled_20 : decode b_Order_spelled 20 = .ok (.ifCond .ne 9, 3) := by decide +kernel
theorem d_Order_spelled_23 : decode b_Order_spelled 23 = .ok (.getstatic 130, 3) := by decide +kernel
theorem d_Order_spelled_26 : decode b_Order_spelled 26 = .ok (.iload_n 2, 1) := by decide +kernel
theorem d_Order_spelled_27 : decode b_Order_spelled 27 = .ok (.aaload, 1) := by decide +kernel
theorem d_Order_spelled_28 : decode b_Order_spelled 28 = .ok (.areturn, 1) := by decide +kernel
theorem d_Order_spelled_29 : decode b_Order_spelled 29 = .ok (.iinc 2 1, 3) := by decide +kernel
theorem d_Order_spelled_32 : decode b_Order_spelled 32 = .ok (.goto (-30), 3) := by decide +kernel
theorem d_Order_spelled_35 : decode b_Order_spelled 35 = .ok (.aconst_null, 1) := by decide +kernel
theorem d_Order_spelled_36 : decode b_Order_spelled 36 = .ok (.areturn, 1) := by decide +kernel
theorem d_Order_fits_0 : decode b_Order_fits 0 = .ok (.lload_n 1, 1) := by decide +kernel
theorem d_Order_fits_1 : decode b_Order_fits 1 = .ok (.aload_n 0, 1) := by decide +kernel
theorem d_Order_fits_2 : decode b_Order_fits 2 = .ok (.getfield 114, 3) := by decide +kernel
theorem d_Order_fits_5 : decode b_Order_fits 5 = .ok (.i2l, 1) := by decide +kernel
theorem d_Order_fits_6 : decode b_Order_fits 6 = .ok (.lcmp, 1) := by decide +kernel
theorem d_Order_fits_7 : decode b_Order_fits 7 = .ok (.ifCond .lt 17, 3) := by decide +kernel
theorem d_Order_fits_10 : decode b_Order_fits 10 = .ok (.lload_n 1, 1) := by decide +kernel
theorem d_Order_fits_11 : decode b_Order_fits 11 = .ok (.aload_n 0, 1) := by decide +kernel
theorem d_Order_fits_12 : decode b_Order_fits 12 = .ok (.getfield 117, 3) := by decide +kernel
theorem d_Order_fits_15 : decode b_Order_fits 15 = .ok (.i2l, 1) := by decide +kernel

theorem d_Mod_opOf_411 : decode b_Mod_opOf 411 = .ok (.ifCond .ne 6, 3) := by decide +kernel
theorem d_Mod_opOf_414 : decode b_Mod_opOf 414 = .ok (.bipush 21, 2) := by decide +kernel
theorem d_Mod_opOf_416 : decode b_Mod_opOf 416 = .ok (.ireturn, 1) := by decide +kernel
theorem d_Mod_opOf_417 : decode b_Mod_opOf 417 = .ok (.lload_n 0, 1) := by decide +kernel
theorem d_Mod_opOf_418 : decode b_Mod_opOf 418 = .ok (.bipush 119, 2) := by decide +kernel
theorem d_Mod_opOf_420 : decode b_Mod_opOf 420 = .ok (.bipush 111, 2) := by decide +kernel
theorem d_Mod_opOf_422 : decode b_Mod_opOf 422 = .ok (.bipush 114, 2) := by decide +kernel
theorem d_Mod_opOf_424 : decode b_Mod_opOf 424 = .ok (.bipush 100, 2) := by decide +kernel
theorem d_Mod_opOf_426 : decode b_Mod_opOf 426 = .ok (.iconst 0, 1) := by decide +kernel
theorem d_Mod_opOf_427 : decode b_Mod_opOf 427 = .ok (.invokestatic 107, 3) := by decide +kernel
theorem d_Mod_opOf_430 : decode b_Mod_opOf 430 = .ok (.lcmp, 1) := by decide +kernel
theorem d_Mod_opOf_431 : decode b_Mod_opOf 431 = .ok (.ifCond .ne 6, 3) := by decide +kernel
theorem d_Mod_opOf_434 : decode b_Mod_opOf 434 = .ok (.bipush 32, 2) := by decide +kernel
theorem d_Mod_opOf_436 : decode b_Mod_opOf 436 = .ok (.ireturn, 1) := by decide +kernel
theorem d_Mod_opOf_437 : decode b_Mod_opOf 437 = .ok (.lload_n 0, 1) := by decide +kernel
theorem d_Mod_opOf_438 : decode b_Mod_opOf 438 = .ok (.bipush 111, 2) := by decide +kernel
theorem d_Mod_opOf_440 : decode b_Mod_opOf 440 = .ok (.bipush 114, 2) := by decide +kernel
theorem d_Mod_opOf_442 : decode b_Mod_opOf 442 = .ok (.bipush 103, 2) := by decide +kernel
theorem d_Mod_opOf_444 : decode b_Mod_opOf 444 = .ok (.iconst 0, 1) := by decide +kernel
theorem d_Mod_opOf_445 : decode b_Mod_opOf 445 = .ok (.iconst 0, 1) := by decide +kernel
theorem d_Mod_opOf_446 : decode b_Mod_opOf 446 = .ok (.invokestatic 107, 3) := by decide +kernel
theorem d_Mod_opOf_449 : decode b_Mod_opOf 449 = .ok (.lcmp, 1) := by decide +kernel
theorem d_Mod_opOf_450 : decode b_Mod_opOf 450 = .ok (.ifCond .ne 6, 3) := by decide +kernel
theorem d_Mod_opOf_453 : decode b_Mod_opOf 453 = .ok (.bipush 33, 2) := by decide +kernel
theorem d_Mod_opOf_455 : decode b_Mod_opOf 455 = .ok (.ireturn, 1) := by decide +kernel
theorem d_Mod_opOf_456 : decode b_Mod_opOf 456 = .ok (.lload_n 0, 1) := by decide +kernel
theorem d_Mod_opOf_457 : decode b_Mod_opOf 457 = .ok (.bipush 99, 2) := by decide +kernel
theorem d_Mod_opOf_459 : decode b_Mod_opOf 459 = .ok (.bipush 111, 2) := by decide +kernel
theorem d_Mod_opOf_461 : decode b_Mod_opOf 461 = .ok (.bipush 114, 2) := by decide +kernel
theorem d_Mod_opOf_463 : decode b_Mod_opOf 463 = .ok (.bipush 101, 2) := by decide +kernel
theorem d_Mod_opOf_465 : decode b_Mod_opOf 465 = .ok (.iconst 0, 1) := by decide +kernel
theorem d_Mod_opOf_466 : decode b_Mod_opOf 466 = .ok (.invokestatic 107, 3) := by decide +kernel
theorem d_Mod_opOf_469 : decode b_Mod_opOf 469 = .ok (.lcmp, 1) := by decide +kernel
theorem d_Mod_opOf_470 : decode b_Mod_opOf 470 = .ok (.ifCond .ne 8, 3) := by decide +kernel
theorem d_Mod_opOf_473 : decode b_Mod_opOf 473 = .ok (.bipush 34, 2) := by decide +kernel
theorem d_Mod_opOf_475 : decode b_Mod_opOf 475 = .ok (.goto 4, 3) := by decide +kernel
theorem d_Mod_opOf_478 : decode b_Mod_opOf 478 = .ok (.iconst (-1), 1) := by decide +kernel
theorem d_Mod_opOf_479 : decode b_Mod_opOf 479 = .ok (.ireturn, 1) := by decide +kernel
theorem d_Mod_wantRegister_0 : decode b_Mod_wantRegister 0 = .ok (.aload_n 0, 1) := by decide +kernel
theorem d_Mod_wantRegister_1 : decode b_Mod_wantRegister 1 = .ok (.getfield 19, 3) := by decide +kernel
theorem d_Mod_wantRegister_4 : decode b_Mod_wantRegister 4 = .ok (.aload_n 0, 1) := by decide +kernel
theorem d_Mod_wantRegister_5 : decode b_Mod_wantRegister 5 = .ok (.getfield 96, 3) := by decide +kernel
theorem d_Mod_wantRegister_8 : decode b_Mod_wantRegister 8 = .ok (.laload, 1) := by decide +kernel
theorem d_Mod_wantRegister_9 : decode b_Mod_wantRegister 9 = .ok (.ldc2_w 111, 3) := by decide +kernel
theorem d_Mod_wantRegister_12 : decode b_Mod_wantRegister 12 = .ok (.lsub, 1) := by decide +kernel
theorem d_Mod_wantRegister_13 : decode b_Mod_wantRegister 13 = .ok (.ldc2_w 81, 3) := by decide +kernel
theorem d_Mod_wantRegister_16 : decode b_Mod_wantRegister 16 = .ok (.lsub, 1) := by decide +kernel
theorem d_Mod_wantRegister_17 : decode b_Mod_wantRegister 17 = .ok (.lstore_n 2, 1) := by decide +kernel
theorem d_Mod_wantRegister_18 : decode b_Mod_wantRegister 18 = .ok (.aload_n 0, 1) := by decide +kernel
theorem d_Mod_wantRegister_19 : decode b_Mod_wantRegister 19 = .ok (.getfield 13, 3) := by decide +kernel
theorem d_Mod_wantRegister_22 : decode b_Mod_wantRegister 22 = .ok (.aload_n 0, 1) := by decide +kernel
theorem d_Mod_wantRegister_23 : decode b_Mod_wantRegister 23 = .ok (.getfield 96, 3) := by decide +kernel
theorem d_Mod_wantRegister_26 : decode b_Mod_wantRegister 26 = .ok (.iaload, 1) := by decide +kernel
theorem d_Mod_wantRegister_27 : decode b_Mod_wantRegister 27 = .ok (.iconst 1, 1) := by decide +kernel
theorem d_Mod_wantRegister_28 : decode b_Mod_wantRegister 28 = .ok (.if_icmp .ne 17, 3) := by decide +kernel
theorem d_Mod_wantRegister_31 : decode b_Mod_wantRegister 31 = .ok (.lload_n 2, 1) := by decide +kernel
theorem d_Mod_wantRegister_32 : decode b_Mod_wantRegister 32 = .ok (.lconst 0, 1) := by decide +kernel
theorem d_Mod_wantRegister_33 : decode b_Mod_wantRegister 33 = .ok (.lcmp, 1) := by decide +kernel
theorem d_Mod_wantRegister_34 : decode b_Mod_wantRegister 34 = .ok (.ifCond .lt 11, 3) := by decide +kernel
theorem d_Mod_wantRegister_37 : decode b_Mod_wantRegister 37 = .ok (.lload_n 2, 1) := by decide +kernel
theorem d_Mod_wantRegister_38 : decode b_Mod_wantRegister 38 = .ok (.ldc2_w 113, 3) := by decide +kernel
theorem d_Mod_wantRegister_41 : decode b_Mod_wantRegister 41 = .ok (.lcmp, 1) := by decide +kernel
theorem d_Mod_wantRegister_42 : decode b_Mod_wantRegister 42 = .ok (.ifCond .le 8, 3) := by decide +kernel
theorem d_Mod_wantRegister_45 : decode b_Mod_wantRegister 45 = .ok (.aload_n 0, 1) := by decide +kernel
theorem d_Mod_wantRegister_46 : decode b_Mod_wantRegister 46 = .ok (.invokevirtual 103, 3) := by decide +kernel
theorem d_Mod_wantRegister_49 : decode b_Mod_wantRegister 49 = .ok (.ireturn, 1) := by decide +kernel
theorem d_Mod_wantRegister_50 : decode b_Mod_wantRegister 50 = .ok (.aload_n 0, 1) := by decide +kernel
theorem d_Mod_wantRegister_51 : decode b_Mod_wantRegister 51 = .ok (.dup, 1) := by decide +kernel
theorem d_Mod_wantRegister_52 : decode b_Mod_wantRegister 52 = .ok (.getfield 115, 3) := by decide +kernel
theorem d_Mod_wantRegister_55 : decode b_Mod_wantRegister 55 = .ok (.lload_n 2, 1) := by decide +kernel
theorem d_Mod_wantRegister_56 : decode b_Mod_wantRegister 56 = .ok (.l2i, 1) := by decide +kernel
theorem d_Mod_wantRegister_57 : decode b_Mod_wantRegister 57 = .ok (.iload_n 1, 1) := by decide +kernel
theorem d_Mod_wantRegister_58 : decode b_Mod_wantRegister 58 = .ok (.ishl, 1) := by decide +kernel
theorem d_Mod_wantRegister_59 : decode b_Mod_wantRegister 59 = .ok (.ior, 1) := by decide +kernel
theorem d_Mod_wantRegister_60 : decode b_Mod_wantRegister 60 = .ok (.putfield 115, 3) := by decide +kernel
theorem d_Mod_wantRegister_63 : decode b_Mod_wantRegister 63 = .ok (.aload_n 0, 1) := by decide +kernel
theorem d_Mod_wantRegister_64 : decode b_Mod_wantRegister 64 = .ok (.dup, 1) := by decide +kernel
theorem d_Mod_wantRegister_65 : decode b_Mod_wantRegister 65 = .ok (.getfield 96, 3) := by decide +kernel
theorem d_Mod_wantRegister_68 : decode b_Mod_wantRegister 68 = .ok (.iconst 1, 1) := by decide +kernel
theorem d_Mod_wantRegister_69 : decode b_Mod_wantRegister 69 = .ok (.iadd, 1) := by decide +kernel
theorem d_Mod_wantRegister_70 : decode b_Mod_wantRegister 70 = .ok (.putfield 96, 3) := by decide +kernel
theorem d_Mod_wantRegister_73 : decode b_Mod_wantRegister 73 = .ok (.iconst 1, 1) := by decide +kernel
theorem d_Mod_wantRegister_74 : decode b_Mod_wantRegister 74 = .ok (.ireturn, 1) := by decide +kernel
theorem d_Mod_wantComma_0 : decode b_Mod_wantComma 0 = .ok (.aload_n 0, 1) := by decide +kernel
theorem d_Mod_wantComma_1 : decode b_Mod_wantComma 1 = .ok (.bipush 44, 2) := by decide +kernel
theorem d_Mod_wantComma_3 : decode b_Mod_wantComma 3 = .ok (.invokevirtual 138, 3) := by decide +kernel
theorem d_Mod_wantComma_6 : decode b_Mod_wantComma 6 = .ok (.ireturn, 1) := by decide +kernel
theorem d_Mod_lay_0 : decode b_Mod_lay 0 = .ok (.aload_n 0, 1) := by decide +kernel
theorem d_Mod_lay_1 : decode b_Mod_lay 1 = .ok (.getfield 156, 3) := by decide +kernel
theorem d_Mod_lay_4 : decode b_Mod_lay 4 = .ok (.sipush 255, 3) := by decide +kernel
theorem d_Mod_lay_7 : decode b_Mod_lay 7 = .ok (.if_icmp .le 14, 3) := by decide +kernel
theorem d_Mod_lay_10 : decode b_Mod_lay 10 = .ok (.aload_n 0, 1) := by decide +kernel
theorem d_Mod_lay_11 : decode b_Mod_lay 11 = .ok (.iconst 3, 1) := by decide +kernel
theorem d_Mod_lay_12 : decode b_Mod_lay 12 = .ok (.aload_n 0, 1) := by decide +kernel
theorem d_Mod_lay_13 : decode b_Mod_lay 13 = .ok (.getfield 16, 3) := by decide +kernel
theorem d_Mod_lay_16 : decode b_Mod_lay 16 = .ok (.iload_n 1, 1) := by decide +kernel
theorem d_Mod_lay_17 : decode b_Mod_lay 17 = .ok (.iaload, 1) := by decide +kernel
theorem d_Mod_lay_18 : decode b_Mod_lay 18 = .ok (.invokevirtual 99, 3) := by decide +kernel
theorem d_Mod_lay_21 : decode b_Mod_lay 21 = .ok (.aload_n 0, 1) := by decide +kernel
theorem d_Mod_lay_22 : decode b_Mod_lay 22 = .ok (.getfield 29, 3) := by decide +kernel
theorem d_Mod_lay_25 : decode b_Mod_lay 25 = .ok (.aload_n 0, 1) := by decide +kernel
theorem d_Mod_lay_26 : decode b_Mod_lay 26 = .ok (.getfield 121, 3) := by decide +kernel
theorem d_Mod_lay_29 : decode b_Mod_lay 29 = .ok (.aload_n 0, 1) := by decide +kernel
theorem d_Mod_lay_30 : decode b_Mod_lay 30 = .ok (.getfield 156, 3) := by decide +kernel
theorem d_Mod_lay_33 : decode b_Mod_lay 33 = .ok (.iastore, 1) := by decide +kernel
theorem d_Mod_lay_34 : decode b_Mod_lay 34 = .ok (.aload_n 0, 1) := by decide +kernel
theorem d_Mod_lay_35 : decode b_Mod_lay 35 = .ok (.getfield 32, 3) := by decide +kernel
theorem d_Mod_lay_38 : decode b_Mod_lay 38 = .ok (.aload_n 0, 1) := by decide +kernel
theorem d_Mod_lay_39 : decode b_Mod_lay 39 = .ok (.getfield 121, 3) := by decide +kernel
theorem d_Mod_lay_42 : decode b_Mod_lay 42 = .ok (.aload_n 0, 1) := by decide +kernel
theorem d_Mod_lay_43 : decode b_Mod_lay 43 = .ok (.getfield 115, 3) := by decide +kernel
theorem d_Mod_lay_46 : decode b_Mod_lay 46 = .ok (.iastore, 1) := by decide +kernel
theorem d_Mod_lay_47 : decode b_Mod_lay 47 = .ok (.aload_n 0, 1) := by decide +kernel
theorem d_Mod_lay_48 : decode b_Mod_lay 48 = .ok (.dup, 1) := by decide +kernel
theorem d_Mod_lay_49 : decode b_Mod_lay 49 = .ok (.getfield 121, 3) := by decide +kernel
theorem d_Mod_lay_52 : decode b_Mod_lay 52 = .ok (.iconst 1, 1) := by decide +kernel
theorem d_Mod_lay_53 : decode b_Mod_lay 53 = .ok (.iadd, 1) := by decide +kernel
theorem d_Mod_lay_54 : decode b_Mod_lay 54 = .ok (.putfield 121, 3) := by decide +kernel
theorem d_Mod_lay_57 : decode b_Mod_lay 57 = .ok (.aload_n 0, 1) := by decide +kernel
theorem d_Mod_lay_58 : decode b_Mod_lay 58 = .ok (.dup, 1) := by decide +kernel
theorem d_Mod_lay_59 : decode b_Mod_lay 59 = .ok (.getfield 156, 3) := by decide +kernel
theorem d_Mod_lay_62 : decode b_Mod_lay 62 = .ok (.iconst 1, 1) := by decide +kernel
theorem d_Mod_lay_63 : decode b_Mod_lay 63 = .ok (.iadd, 1) := by decide +kernel
theorem d_Mod_lay_64 : decode b_Mod_lay 64 = .ok (.putfield 156, 3) := by decide +kernel
theorem d_Mod_lay_67 : decode b_Mod_lay 67 = .ok (.return_, 1) := by decide +kernel
theorem d_Mod_fault_0 : decode b_Mod_fault 0 = .ok (.aload_n 0, 1) := by decide +kernel
theorem d_Mod_fault_1 : decode b_Mod_fault 1 = .ok (.iconst 0, 1) := by decide +kernel
theorem d_Mod_fault_2 : decode b_Mod_fault 2 = .ok (.putfield 59, 3) := by decide +kernel
theorem d_Mod_fault_5 : decode b_Mod_fault 5 = .ok (.iload_n 1, 1) := by decide +kernel
theorem d_Mod_fault_6 : decode b_Mod_fault 6 = .ok (.ifCond .ne 10, 3) := by decide +kernel
theorem d_Mod_fault_9 : decode b_Mod_fault 9 = .ok (.aload_n 0, 1) := by decide +kernel
theorem d_Mod_fault_10 : decode b_Mod_fault 10 = .ok (.getfield 90, 3) := by decide +kernel
theorem d_Mod_fault_13 : decode b_Mod_fault 13 = .ok (.goto 16, 3) := by decide +kernel
theorem d_Mod_fault_16 : decode b_Mod_fault 16 = .ok (.iload_n 1, 1) := by decide +kernel
theorem d_Mod_fault_17 : decode b_Mod_fault 17 = .ok (.iconst 1, 1) := by decide +kernel
theorem d_Mod_fault_18 : decode b_Mod_fault 18 = .ok (.if_icmp .ne 10, 3) := by decide +kernel
theorem d_Mod_fault_21 : decode b_Mod_fault 21 = .ok (.aload_n 0, 1) := by decide +kernel
theorem d_Mod_fault_22 : decode b_Mod_fault 22 = .ok (.getfield 93, 3) := by decide +kernel
theorem d_Mod_fault_25 : decode b_Mod_fault 25 = .ok (.goto 4, 3) := by decide +kernel
theorem d_Mod_fault_28 : decode b_Mod_fault 28 = .ok (.iconst (-1), 1) := by decide +kernel
theorem d_Mod_fault_29 : decode b_Mod_fault 29 = .ok (.ireturn, 1) := by decide +kernel
theorem d_Mod_word_0 : decode b_Mod_word 0 = .ok (.aload_n 0, 1) := by decide +kernel
theorem d_Mod_word_1 : decode b_Mod_word 1 = .ok (.iload_n 1, 1) := by decide +kernel
theorem d_Mod_word_2 : decode b_Mod_word 2 = .ok (.ifCond .lt 10, 3) := by decide +kernel
theorem d_Mod_word_5 : decode b_Mod_word 5 = .ok (.iload_n 1, 1) := by decide +kernel
theorem d_Mod_word_6 : decode b_Mod_word 6 = .ok (.sipush 255, 3) := by decide +kernel
theorem d_Mod_word_9 : decode b_Mod_word 9 = .ok (.if_icmp .le 7, 3) := by decide +kernel
theorem d_Mod_word_12 : decode b_Mod_word 12 = .ok (.iconst 1, 1) := by decide +kernel
theorem d_Mod_word_13 : decode b_Mod_word 13 = .ok (.goto 4, 3) := by decide +kernel
theorem d_Mod_word_16 : decode b_Mod_word 16 = .ok (.iconst 0, 1) := by decide +kernel
theorem d_Mod_word_17 : decode b_Mod_word 17 = .ok (.putfield 59, 3) := by decide +kernel
theorem d_Mod_word_20 : decode b_Mod_word 20 = .ok (.aload_n 0, 1) := by decide +kernel
theorem d_Mod_word_21 : decode b_Mod_word 21 = .ok (.getfield 59, 3) := by decide +kernel
theorem d_Mod_word_24 : decode b_Mod_word 24 = .ok (.ifCond .eq 7, 3) := by decide +kernel
theorem d_Mod_word_27 : decode b_Mod_word 27 = .ok (.iconst 0, 1) := by decide +kernel
theorem d_Mod_word_28 : decode b_Mod_word 28 = .ok (.goto 9, 3) := by decide +kernel
theorem d_Mod_word_31 : decode b_Mod_word 31 = .ok (.aload_n 0, 1) := by decide +kernel
theorem d_Mod_word_32 : decode b_Mod_word 32 = .ok (.getfield 47, 3) := by decide +kernel
theorem d_Mod_word_35 : decode b_Mod_word 35 = .ok (.iload_n 1, 1) := by decide +kernel
theorem d_Mod_word_36 : decode b_Mod_word 36 = .ok (.iaload, 1) := by decide +kernel
theorem d_Mod_word_37 : decode b_Mod_word 37 = .ok (.ireturn, 1) := by decide +kernel
theorem d_Mod_start_0 : decode b_Mod_start 0 = .ok (.aload_n 0, 1) := by decide +kernel
theorem d_Mod_start_1 : decode b_Mod_start 1 = .ok (.iload_n 1, 1) := by decide +kernel
theorem d_Mod_start_2 : decode b_Mod_start 2 = .ok (.ifCond .lt 8, 3) := by decide +kernel
theorem d_Mod_start_5 : decode b_Mod_start 5 = .ok (.iload_n 1, 1) := by decide +kernel
theorem d_Mod_start_6 : decode b_Mod_start 6 = .ok (.iconst 3, 1) := by decide +kernel
theorem d_Mod_start_7 : decode b_Mod_start 7 = .ok (.if_icmp .le 7, 3) := by decide +kernel
theorem d_Mod_start_10 : decode b_Mod_start 10 = .ok (.iconst 1, 1) := by decide +kernel
theorem d_Mod_start_11 : decode b_Mod_start 11 = .ok (.goto 4, 3) := by decide +kernel
theorem d_Mod_start_14 : decode b_Mod_start 14 = .ok (.iconst 0, 1) := by decide +kernel
theorem d_Mod_start_15 : decode b_Mod_start 15 = .ok (.putfield 59, 3) := by decide +kernel
theorem d_Mod_start_18 : decode b_Mod_start 18 = .ok (.aload_n 0, 1) := by decide +kernel
theorem d_Mod_start_19 : decode b_Mod_start 19 = .ok (.getfield 59, 3) := by decide +kernel
theorem d_Mod_start_22 : decode b_Mod_start 22 = .ok (.ifCond .eq 7, 3) := by decide +kernel
theorem d_Mod_start_25 : decode b_Mod_start 25 = .ok (.iconst 0, 1) := by decide +kernel
theorem d_Mod_start_26 : decode b_Mod_start 26 = .ok (.goto 9, 3) := by decide +kernel
theorem d_Mod_start_29 : decode b_Mod_start 29 = .ok (.aload_n 0, 1) := by decide +kernel
theorem d_Mod_start_30 : decode b_Mod_start 30 = .ok (.getfield 50, 3) := by decide +kernel
theorem d_Mod_start_33 : decode b_Mod_start 33 = .ok (.iload_n 1, 1) := by decide +kernel
theorem d_Mod_start_34 : decode b_Mod_start 34 = .ok (.iaload, 1) := by decide +kernel
theorem d_Mod_start_35 : decode b_Mod_start 35 = .ok (.ireturn, 1) := by decide +kernel
theorem d_Mod_labels_0 : decode b_Mod_labels 0 = .ok (.aload_n 0, 1) := by decide +kernel
theorem d_Mod_labels_1 : decode b_Mod_labels 1 = .ok (.iconst 0, 1) := by decide +kernel
theorem d_Mod_labels_2 : decode b_Mod_labels 2 = .ok (.putfield 59, 3) := by decide +kernel
theorem d_Mod_labels_5 : decode b_Mod_labels 5 = .ok (.aload_n 0, 1) := by decide +kernel
theorem d_Mod_labels_6 : decode b_Mod_labels 6 = .ok (.getfield 192, 3) := by decide +kernel
theorem d_Mod_labels_9 : decode b_Mod_labels 9 = .ok (.ireturn, 1) := by decide +kernel
theorem d_Mod_told_0 : decode b_Mod_told 0 = .ok (.aload_n 0, 1) := by decide +kernel
theorem d_Mod_told_1 : decode b_Mod_told 1 = .ok (.iconst 0, 1) := by decide +kernel
theorem d_Mod_told_2 : decode b_Mod_told 2 = .ok (.putfield 59, 3) := by decide +kernel
theorem d_Mod_told_5 : decode b_Mod_told 5 = .ok (.aload_n 0, 1) := by decide +kernel
theorem d_Mod_told_6 : decode b_Mod_told 6 = .ok (.getfield 195, 3) := by decide +kernel
theorem d_Mod_told_9 : decode b_Mod_told 9 = .ok (.ireturn, 1) := by decide +kernel
theorem d_Mod_label_0 : decode b_Mod_label 0 = .ok (.iconst 0, 1) := by decide +kernel
theorem d_Mod_label_1 : decode b_Mod_label 1 = .ok (.istore_n 3, 1) := by decide +kernel
theorem d_Mod_label_2 : decode b_Mod_label 2 = .ok (.iload_n 3, 1) := by decide +kernel
theorem d_Mod_label_3 : decode b_Mod_label 3 = .ok (.aload_n 0, 1) := by decide +kernel
theorem d_Mod_label_4 : decode b_Mod_label 4 = .ok (.getfield 192, 3) := by decide +kernel
theorem d_Mod_label_7 : decode b_Mod_label 7 = .ok (.if_icmp .ge 35, 3) := by decide +kernel
theorem d_Mod_label_10 : decode b_Mod_label 10 = .ok (.aload_n 0, 1) := by decide +kernel
theorem d_Mod_label_11 : decode b_Mod_label 11 = .ok (.getfield 53, 3) := by decide +kernel
theorem d_Mod_label_14 : decode b_Mod_label 14 = .ok (.iload_n 3, 1) := by decide +kernel
theorem d_Mod_label_15 : decode b_Mod_label 15 = .ok (.laload, 1) := by decide +kernel
theorem d_Mod_label_16 : decode b_Mod_label 16 = .ok (.lload_n 1, 1) := by decide +kernel
theorem d_Mod_label_17 : decode b_Mod_label 17 = .ok (.lcmp, 1) := by decide +kernel
theorem d_Mod_label_18 : decode b_Mod_label 18 = .ok (.ifCond .eq 6, 3) := by decide +kernel
theorem d_Mod_label_21 : decode b_Mod_label 21 = .ok (.goto 15, 3) := by decide +kernel
theorem d_Mod_label_24 : decode b_Mod_label 24 = .ok (.aload_n 0, 1) := by decide +kernel
theorem d_Mod_label_25 : decode b_Mod_label 25 = .ok (.iconst 0, 1) := by decide +kernel
theorem d_Mod_label_26 : decode b_Mod_label 26 = .ok (.putfield 59, 3) := by decide +kernel
theorem d_Mod_label_29 : decode b_Mod_label 29 = .ok (.aload_n 0, 1) := by decide +kernel
theorem d_Mod_label_30 : decode b_Mod_label 30 = .ok (.getfield 56, 3) := by decide +kernel
theorem d_Mod_label_33 : decode b_Mod_label 33 = .ok (.iload_n 3, 1) := by decide +kernel
theorem d_Mod_label_34 : decode b_Mod_label 34 = .ok (.iaload, 1) := by decide +kernel
theorem d_Mod_label_35 : decode b_Mod_label 35 = .ok (.ireturn, 1) := by decide +kernel
theorem d_Mod_label_36 : decode b_Mod_label 36 = .ok (.iinc 3 1, 3) := by decide +kernel
theorem d_Mod_label_39 : decode b_Mod_label 39 = .ok (.goto (-37), 3) := by decide +kernel
theorem d_Mod_label_42 : decode b_Mod_label 42 = .ok (.aload_n 0, 1) := by decide +kernel
theorem d_Mod_label_43 : decode b_Mod_label 43 = .ok (.iconst 1, 1) := by decide +kernel
theorem d_Mod_label_44 : decode b_Mod_label 44 = .ok (.invokevirtual 189, 3) := by decide +kernel
theorem d_Mod_label_47 : decode b_Mod_label 47 = .ok (.ireturn, 1) := by decide +kernel
theorem d_Mod_init_0 : decode b_Mod_init 0 = .ok (.aload_n 0, 1) := by decide +kernel
theorem d_Mod_init_1 : decode b_Mod_init 1 = .ok (.invokespecial 1, 3) := by decide +kernel
theorem d_Mod_init_4 : decode b_Mod_init 4 = .ok (.aload_n 0, 1) := by decide +kernel
theorem d_Mod_init_5 : decode b_Mod_init 5 = .ok (.sipush 480, 3) := by decide +kernel
theorem d_Mod_init_8 : decode b_Mod_init 8 = .ok (.newarray .int, 2) := by decide +kernel
theorem d_Mod_init_10 : decode b_Mod_init 10 = .ok (.putfield 7, 3) := by decide +kernel
theorem d_Mod_init_13 : decode b_Mod_init 13 = .ok (.aload_n 0, 1) := by decide +kernel
theorem d_Mod_init_14 : decode b_Mod_init 14 = .ok (.sipush 482, 3) := by decide +kernel
theorem d_Mod_init_17 : decode b_Mod_init 17 = .ok (.newarray .int, 2) := by decide +kernel
theorem d_Mod_init_19 : decode b_Mod_init 19 = .ok (.putfield 13, 3) := by decide +kernel
theorem d_Mod_init_22 : decode b_Mod_init 22 = .ok (.aload_n 0, 1) := by decide +kernel
theorem d_Mod_init_23 : decode b_Mod_init 23 = .ok (.sipush 482, 3) := by decide +kernel
theorem d_Mod_init_26 : decode b_Mod_init 26 = .ok (.newarray .int, 2) := by decide +kernel
theorem d_Mod_init_28 : decode b_Mod_init 28 = .ok (.putfield 16, 3) := by decide +kernel
theorem d_Mod_init_31 : decode b_Mod_init 31 = .ok (.aload_n 0, 1) := by decide +kernel
theorem d_Mod_init_32 : decode b_Mod_init 32 = .ok (.sipush 482, 3) := by decide +kernel
theorem d_Mod_init_35 : decode b_Mod_init 35 = .ok (.newarray .long, 2) := by decide +kernel
theorem d_Mod_init_37 : decode b_Mod_init 37 = .ok (.putfield 19, 3) := by decide +kernel
theorem d_Mod_init_40 : decode b_Mod_init 40 = .ok (.aload_n 0, 1) := by decide +kernel
theorem d_Mod_init_41 : decode b_Mod_init 41 = .ok (.sipush 250, 3) := by decide +kernel
theorem d_Mod_init_44 : decode b_Mod_init 44 = .ok (.newarray .long, 2) := by decide +kernel
theorem d_Mod_init_46 : decode b_Mod_init 46 = .ok (.putfield 23, 3) := by decide +kernel
theorem d_Mod_init_49 : decode b_Mod_init 49 = .ok (.aload_n 0, 1) := by decide +kernel
theorem d_Mod_init_50 : decode b_Mod_init 50 = .ok (.sipush 250, 3) := by decide +kernel
theorem d_Mod_init_53 : decode b_Mod_init 53 = .ok (.newarray .int, 2) := by decide +kernel
theorem d_Mod_init_55 : decode b_Mod_init 55 = .ok (.putfield 26, 3) := by decide +kernel
theorem d_Mod_init_58 : decode b_Mod_init 58 = .ok (.aload_n 0, 1) := by decide +kernel
theorem d_Mod_init_59 : decode b_Mod_init 59 = .ok (.sipush 250, 3) := by decide +kernel
theorem d_Mod_init_62 : decode b_Mod_init 62 = .ok (.newarray .int, 2) := by decide +kernel
theorem d_Mod_init_64 : decode b_Mod_init 64 = .ok (.putfield 29, 3) := by decide +kernel
theorem d_Mod_init_67 : decode b_Mod_init 67 = .ok (.aload_n 0, 1) := by decide +kernel
theorem d_Mod_init_68 : decode b_Mod_init 68 = .ok (.sipush 250, 3) := by decide +kernel
theorem d_Mod_init_71 : decode b_Mod_init 71 = .ok (.newarray .int, 2) := by decide +kernel
theorem d_Mod_init_73 : decode b_Mod_init 73 = .ok (.putfield 32, 3) := by decide +kernel
theorem d_Mod_init_76 : decode b_Mod_init 76 = .ok (.aload_n 0, 1) := by decide +kernel
theorem d_Mod_init_77 : decode b_Mod_init 77 = .ok (.sipush 250, 3) := by decide +kernel
theorem d_Mod_init_80 : decode b_Mod_init 80 = .ok (.newarray .int, 2) := by decide +kernel
theorem d_Mod_init_82 : decode b_Mod_init 82 = .ok (.putfield 35, 3) := by decide +kernel
theorem d_Mod_init_85 : decode b_Mod_init 85 = .ok (.aload_n 0, 1) := by decide +kernel

theorem d_Tape_byteOf_0 : decode b_Tape_byteOf 0 = .ok (.lload_n 0, 1) := by decide +kernel
theorem d_Tape_byteOf_1 : decode b_Tape_byteOf 1 = .ok (.bipush 8, 2) := by decide +kernel
theorem d_Tape_byteOf_3 : decode b_Tape_byteOf 3 = .ok (.iload_n 2, 1) := by decide +kernel
theorem d_Tape_byteOf_4 : decode b_Tape_byteOf 4 = .ok (.imul, 1) := by decide +kernel
theorem d_Tape_byteOf_5 : decode b_Tape_byteOf 5 = .ok (.lushr, 1) := by decide +kernel
theorem d_Tape_byteOf_6 : decode b_Tape_byteOf 6 = .ok (.l2i, 1) := by decide +kernel
theorem d_Tape_byteOf_7 : decode b_Tape_byteOf 7 = .ok (.sipush 255, 3) := by decide +kernel
theorem d_Tape_byteOf_10 : decode b_Tape_byteOf 10 = .ok (.iand, 1) := by decide +kernel
theorem d_Tape_byteOf_11 : decode b_Tape_byteOf 11 = .ok (.ireturn, 1) := by decide +kernel
theorem d_Tape_allTypable_0 : decode b_Tape_allTypable 0 = .ok (.iconst 0, 1) := by decide +kernel
theorem d_Tape_allTypable_1 : decode b_Tape_allTypable 1 = .ok (.istore_n 3, 1) := by decide +kernel
theorem d_Tape_allTypable_2 : decode b_Tape_allTypable 2 = .ok (.iload_n 3, 1) := by decide +kernel
theorem d_Tape_allTypable_3 : decode b_Tape_allTypable 3 = .ok (.iload_n 2, 1) := by decide +kernel
theorem d_Tape_allTypable_4 : decode b_Tape_allTypable 4 = .ok (.if_icmp .ge 32, 3) := by decide +kernel
theorem d_Tape_allTypable_7 : decode b_Tape_allTypable 7 = .ok (.lload_n 0, 1) := by decide +kernel
theorem d_Tape_allTypable_8 : decode b_Tape_allTypable 8 = .ok (.iload_n 3, 1) := by decide +kernel
theorem d_Tape_allTypable_9 : decode b_Tape_allTypable 9 = .ok (.invokestatic 23, 3) := by decide +kernel
theorem d_Tape_allTypable_12 : decode b_Tape_allTypable 12 = .ok (.istore 4, 2) := by decide +kernel
theorem d_Tape_allTypable_14 : decode b_Tape_allTypable 14 = .ok (.iload 4, 2) := by decide +kernel
theorem d_Tape_allTypable_16 : decode b_Tape_allTypable 16 = .ok (.bipush 32, 2) := by decide +kernel
theorem d_Tape_allTypable_18 : decode b_Tape_allTypable 18 = .ok (.if_icmp .lt 10, 3) := by decide +kernel
theorem d_Tape_allTypable_21 : decode b_Tape_allTypable 21 = .ok (.iload 4, 2) := by decide +kernel
theorem d_Tape_allTypable_23 : decode b_Tape_allTypable 23 = .ok (.bipush 126, 2) := by decide +kernel
theorem d_Tape_allTypable_25 : decode b_Tape_allTypable 25 = .ok (.if_icmp .le 5, 3) := by decide +kernel
theorem d_Tape_allTypable_28 : decode b_Tape_allTypable 28 = .ok (.iconst 0, 1) := by decide +kernel
theorem d_Tape_allTypable_29 : decode b_Tape_allTypable 29 = .ok (.ireturn, 1) := by decide +kernel
theorem d_Tape_allTypable_30 : decode b_Tape_allTypable 30 = .ok (.iinc 3 1, 3) := by decide +kernel
theorem d_Tape_allTypable_33 : decode b_Tape_allTypable 33 = .ok (.goto (-31), 3) := by decide +kernel
theorem d_Tape_allTypable_36 : decode b_Tape_allTypable 36 = .ok (.iconst 1, 1) := by decide +kernel
theorem d_Tape_allTypable_37 : decode b_Tape_allTypable 37 = .ok (.ireturn, 1) := by decide +kernel
theorem d_Tape_append_0 : decode b_Tape_append 0 = .ok (.iload_n 3, 1) := by decide +kernel
theorem d_Tape_append_1 : decode b_Tape_append 1 = .ok (.iconst 1, 1) := by decide +kernel
theorem d_Tape_append_2 : decode b_Tape_append 2 = .ok (.if_icmp .lt 29, 3) := by decide +kernel
theorem d_Tape_append_5 : decode b_Tape_append 5 = .ok (.iload_n 3, 1) := by decide +kernel
theorem d_Tape_append_6 : decode b_Tape_append 6 = .ok (.bipush 8, 2) := by decide +kernel
theorem d_Tape_append_8 : decode b_Tape_append 8 = .ok (.if_icmp .gt 23, 3) := by decide +kernel
theorem d_Tape_append_11 : decode b_Tape_append 11 = .ok (.aload_n 0, 1) := by decide +kernel
theorem d_Tape_append_12 : decode b_Tape_append 12 = .ok (.getfield 15, 3) := by decide +kernel
theorem d_Tape_append_15 : decode b_Tape_append 15 = .ok (.iload_n 3, 1) := by decide +kernel
theorem d_Tape_append_16 : decode b_Tape_append 16 = .ok (.iadd, 1) := by decide +kernel
theorem d_Tape_append_17 : decode b_Tape_append 17 = .ok (.sipush 480, 3) := by decide +kernel
theorem d_Tape_append_20 : decode b_Tape_append 20 = .ok (.if_icmp .gt 11, 3) := by decide +kernel
theorem d_Tape_append_23 : decode b_Tape_append 23 = .ok (.lload_n 1, 1) := by decide +kernel
theorem d_Tape_append_24 : decode b_Tape_append 24 = .ok (.iload_n 3, 1) := by decide +kernel
theorem d_Tape_append_25 : decode b_Tape_append 25 = .ok (.invokestatic 19, 3) := by decide +kernel
theorem d_Tape_append_28 : decode b_Tape_append 28 = .ok (.ifCond .ne 5, 3) := by decide +kernel
theorem d_Tape_append_31 : decode b_Tape_append 31 = .ok (.iconst 0, 1) := by decide +kernel
theorem d_Tape_append_32 : decode b_Tape_append 32 = .ok (.ireturn, 1) := by decide +kernel
theorem d_Tape_append_33 : decode b_Tape_append 33 = .ok (.iload_n 3, 1) := by decide +kernel
theorem d_Tape_append_34 : decode b_Tape_append 34 = .ok (.iconst 1, 1) := by decide +kernel
theorem d_Tape_append_35 : decode b_Tape_append 35 = .ok (.isub, 1) := by decide +kernel
theorem d_Tape_append_36 : decode b_Tape_append 36 = .ok (.istore 4, 2) := by decide +kernel
theorem d_Tape_append_38 : decode b_Tape_append 38 = .ok (.iload 4, 2) := by decide +kernel
theorem d_Tape_append_40 : decode b_Tape_append 40 = .ok (.ifCond .lt 35, 3) := by decide +kernel
theorem d_Tape_append_43 : decode b_Tape_append 43 = .ok (.aload_n 0, 1) := by decide +kernel
theorem d_Tape_append_44 : decode b_Tape_append 44 = .ok (.getfield 11, 3) := by decide +kernel
theorem d_Tape_append_47 : decode b_Tape_append 47 = .ok (.aload_n 0, 1) := by decide +kernel
theorem d_Tape_append_48 : decode b_Tape_append 48 = .ok (.getfield 15, 3) := by decide +kernel
theorem d_Tape_append_51 : decode b_Tape_append 51 = .ok (.lload_n 1, 1) := by decide +kernel
theorem d_Tape_append_52 : decode b_Tape_append 52 = .ok (.iload 4, 2) := by decide +kernel
theorem d_Tape_append_54 : decode b_Tape_append 54 = .ok (.invokestatic 23, 3) := by decide +kernel
theorem d_Tape_append_57 : decode b_Tape_append 57 = .ok (.i2b, 1) := by decide +kernel
theorem d_Tape_append_58 : decode b_Tape_append 58 = .ok (.bastore, 1) := by decide +kernel
theorem d_Tape_append_59 : decode b_Tape_append 59 = .ok (.aload_n 0, 1) := by decide +kernel
theorem d_Tape_append_60 : decode b_Tape_append 60 = .ok (.dup, 1) := by decide +kernel
theorem d_Tape_append_61 : decode b_Tape_append 61 = .ok (.getfield 15, 3) := by decide +kernel
theorem d_Tape_append_64 : decode b_Tape_append 64 = .ok (.iconst 1, 1) := by decide +kernel
theorem d_Tape_append_65 : decode b_Tape_append 65 = .ok (.iadd, 1) := by decide +kernel
theorem d_Tape_append_66 : decode b_Tape_append 66 = .ok (.putfield 15, 3) := by decide +kernel
theorem d_Tape_append_69 : decode b_Tape_append 69 = .ok (.iinc 4 (-1), 3) := by decide +kernel
theorem d_Tape_append_72 : decode b_Tape_append 72 = .ok (.goto (-34), 3) := by decide +kernel
theorem d_Tape_append_75 : decode b_Tape_append 75 = .ok (.iconst 1, 1) := by decide +kernel
theorem d_Tape_append_76 : decode b_Tape_append 76 = .ok (.ireturn, 1) := by decide +kernel
theorem d_Tape_at_0 : decode b_Tape_at 0 = .ok (.iload_n 1, 1) := by decide +kernel
theorem d_Tape_at_1 : decode b_Tape_at 1 = .ok (.ifCond .lt 11, 3) := by decide +kernel
theorem d_Tape_at_4 : decode b_Tape_at 4 = .ok (.iload_n 1, 1) := by decide +kernel
theorem d_Tape_at_5 : decode b_Tape_at 5 = .ok (.aload_n 0, 1) := by decide +kernel
theorem d_Tape_at_6 : decode b_Tape_at 6 = .ok (.getfield 15, 3) := by decide +kernel
theorem d_Tape_at_9 : decode b_Tape_at 9 = .ok (.if_icmp .lt 7, 3) := by decide +kernel
theorem d_Tape_at_12 : decode b_Tape_at 12 = .ok (.iconst (-1), 1) := by decide +kernel
theorem d_Tape_at_13 : decode b_Tape_at 13 = .ok (.goto 9, 3) := by decide +kernel
theorem d_Tape_at_16 : decode b_Tape_at 16 = .ok (.aload_n 0, 1) := by decide +kernel
theorem d_Tape_at_17 : decode b_Tape_at 17 = .ok (.getfield 11, 3) := by decide +kernel
theorem d_Tape_at_20 : decode b_Tape_at 20 = .ok (.iload_n 1, 1) := by decide +kernel
theorem d_Tape_at_21 : decode b_Tape_at 21 = .ok (.baload, 1) := by decide +kernel
theorem d_Tape_at_22 : decode b_Tape_at 22 = .ok (.ireturn, 1) := by decide +kernel
theorem d_Tape_length_0 : decode b_Tape_length 0 = .ok (.aload_n 0, 1) := by decide +kernel
theorem d_Tape_length_1 : decode b_Tape_length 1 = .ok (.getfield 15, 3) := by decide +kernel
theorem d_Tape_length_4 : decode b_Tape_length 4 = .ok (.ireturn, 1) := by decide +kernel
theorem d_Tape_clear_0 : decode b_Tape_clear 0 = .ok (.aload_n 0, 1) := by decide +kernel
theorem d_Tape_clear_1 : decode b_Tape_clear 1 = .ok (.iconst 0, 1) := by decide +kernel
theorem d_Tape_clear_2 : decode b_Tape_clear 2 = .ok (.putfield 15, 3) := by decide +kernel
theorem d_Tape_clear_5 : decode b_Tape_clear 5 = .ok (.return_, 1) := by decide +kernel
theorem d_Tokens_isLetter_0 : decode b_Tokens_isLetter 0 = .ok (.iload_n 0, 1) := by decide +kernel
theorem d_Tokens_isLetter_1 : decode b_Tokens_isLetter 1 = .ok (.bipush 97, 2) := by decide +kernel
theorem d_Tokens_isLetter_3 : decode b_Tokens_isLetter 3 = .ok (.if_icmp .lt 13, 3) := by decide +kernel
theorem d_Tokens_isLetter_6 : decode b_Tokens_isLetter 6 = .ok (.iload_n 0, 1) := by decide +kernel
theorem d_Tokens_isLetter_7 : decode b_Tokens_isLetter 7 = .ok (.bipush 122, 2) := by decide +kernel
theorem d_Tokens_isLetter_9 : decode b_Tokens_isLetter 9 = .ok (.if_icmp .gt 7, 3) := by decide +kernel
theorem d_Tokens_isLetter_12 : decode b_Tokens_isLetter 12 = .ok (.iconst 1, 1) := by decide +kernel
theorem d_Tokens_isLetter_13 : decode b_Tokens_isLetter 13 = .ok (.goto 4, 3) := by decide +kernel
theorem d_Tokens_isLetter_16 : decode b_Tokens_isLetter 16 = .ok (.iconst 0, 1) := by decide +kernel
theorem d_Tokens_isLetter_17 : decode b_Tokens_isLetter 17 = .ok (.ireturn, 1) := by decide +kernel
theorem d_Tokens_isDigit_0 : decode b_Tokens_isDigit 0 = .ok (.iload_n 0, 1) := by decide +kernel
theorem d_Tokens_isDigit_1 : decode b_Tokens_isDigit 1 = .ok (.bipush 48, 2) := by decide +kernel
theorem d_Tokens_isDigit_3 : decode b_Tokens_isDigit 3 = .ok (.if_icmp .lt 13, 3) := by decide +kernel
theorem d_Tokens_isDigit_6 : decode b_Tokens_isDigit 6 = .ok (.iload_n 0, 1) := by decide +kernel
theorem d_Tokens_isDigit_7 : decode b_Tokens_isDigit 7 = .ok (.bipush 57, 2) := by decide +kernel
theorem d_Tokens_isDigit_9 : decode b_Tokens_isDigit 9 = .ok (.if_icmp .gt 7, 3) := by decide +kernel
theorem d_Tokens_isDigit_12 : decode b_Tokens_isDigit 12 = .ok (.iconst 1, 1) := by decide +kernel
theorem d_Tokens_isDigit_13 : decode b_Tokens_isDigit 13 = .ok (.goto 4, 3) := by decide +kernel
theorem d_Tokens_isDigit_16 : decode b_Tokens_isDigit 16 = .ok (.iconst 0, 1) := by decide +kernel
theorem d_Tokens_isDigit_17 : decode b_Tokens_isDigit 17 = .ok (.ireturn, 1) := by decide +kernel
theorem d_Tokens_isSign_0 : decode b_Tokens_isSign 0 = .ok (.iload_n 0, 1) := by decide +kernel
theorem d_Tokens_isSign_1 : decode b_Tokens_isSign 1 = .ok (.bipush 58, 2) := by decide +kernel
theorem d_Tokens_isSign_3 : decode b_Tokens_isSign 3 = .ok (.if_icmp .eq 33, 3) := by decide +kernel
theorem d_Tokens_isSign_6 : decode b_Tokens_isSign 6 = .ok (.iload_n 0, 1) := by decide +kernel
theorem d_Tokens_isSign_7 : decode b_Tokens_isSign 7 = .ok (.bipush 59, 2) := by decide +kernel
theorem d_Tokens_isSign_9 : decode b_Tokens_isSign 9 = .ok (.if_icmp .eq 27, 3) := by decide +kernel
theorem d_Tokens_isSign_12 : decode b_Tokens_isSign 12 = .ok (.iload_n 0, 1) := by decide +kernel
theorem d_Tokens_isSign_13 : decode b_Tokens_isSign 13 = .ok (.bipush 44, 2) := by decide +kernel
theorem d_Tokens_isSign_15 : decode b_Tokens_isSign 15 = .ok (.if_icmp .eq 21, 3) := by decide +kernel
theorem d_Tokens_isSign_18 : decode b_Tokens_isSign 18 = .ok (.iload_n 0, 1) := by decide +kernel
theorem d_Tokens_isSign_19 : decode b_Tokens_isSign 19 = .ok (.bipush 40, 2) := by decide +kernel
theorem d_Tokens_isSign_21 : decode b_Tokens_isSign 21 = .ok (.if_icmp .eq 15, 3) := by decide +kernel
theorem d_Tokens_isSign_24 : decode b_Tokens_isSign 24 = .ok (.iload_n 0, 1) := by decide +kernel
theorem d_Tokens_isSign_25 : decode b_Tokens_isSign 25 = .ok (.bipush 41, 2) := by decide +kernel
theorem d_Tokens_isSign_27 : decode b_Tokens_isSign 27 = .ok (.if_icmp .eq 9, 3) := by decide +kernel
theorem d_Tokens_isSign_30 : decode b_Tokens_isSign 30 = .ok (.iload_n 0, 1) := by decide +kernel
theorem d_Tokens_isSign_31 : decode b_Tokens_isSign 31 = .ok (.bipush 45, 2) := by decide +kernel
theorem d_Tokens_isSign_33 : decode b_Tokens_isSign 33 = .ok (.if_icmp .ne 7, 3) := by decide +kernel
theorem d_Tokens_isSign_36 : decode b_Tokens_isSign 36 = .ok (.iconst 1, 1) := by decide +kernel
theorem d_Tokens_isSign_37 : decode b_Tokens_isSign 37 = .ok (.goto 4, 3) := by decide +kernel
theorem d_Tokens_isSign_40 : decode b_Tokens_isSign 40 = .ok (.iconst 0, 1) := by decide +kernel
theorem d_Tokens_isSign_41 : decode b_Tokens_isSign 41 = .ok (.ireturn, 1) := by decide +kernel
theorem d_Tokens_kind_0 : decode b_Tokens_kind 0 = .ok (.iload_n 1, 1) := by decide +kernel
theorem d_Tokens_kind_1 : decode b_Tokens_kind 1 = .ok (.ifCond .lt 27, 3) := by decide +kernel
theorem d_Tokens_kind_4 : decode b_Tokens_kind 4 = .ok (.iload_n 1, 1) := by decide +kernel
theorem d_Tokens_kind_5 : decode b_Tokens_kind 5 = .ok (.aload_n 0, 1) := by decide +kernel
theorem d_Tokens_kind_6 : decode b_Tokens_kind 6 = .ok (.getfield 22, 3) := by decide +kernel
theorem d_Tokens_kind_9 : decode b_Tokens_kind 9 = .ok (.if_icmp .ge 19, 3) := by decide +kernel
theorem d_Tokens_kind_12 : decode b_Tokens_kind 12 = .ok (.iload_n 1, 1) := by decide +kernel
theorem d_Tokens_kind_13 : decode b_Tokens_kind 13 = .ok (.sipush 480, 3) := by decide +kernel
theorem d_Tokens_kind_16 : decode b_Tokens_kind 16 = .ok (.if_icmp .ge 12, 3) := by decide +kernel
theorem d_Tokens_kind_19 : decode b_Tokens_kind 19 = .ok (.aload_n 0, 1) := by decide +kernel
theorem d_Tokens_kind_20 : decode b_Tokens_kind 20 = .ok (.getfield 11, 3) := by decide +kernel
theorem d_Tokens_kind_23 : decode b_Tokens_kind 23 = .ok (.iload_n 1, 1) := by decide +kernel
theorem d_Tokens_kind_24 : decode b_Tokens_kind 24 = .ok (.iaload, 1) := by decide +kernel
theorem d_Tokens_kind_25 : decode b_Tokens_kind 25 = .ok (.goto 4, 3) := by decide +kernel
theorem d_Tokens_kind_28 : decode b_Tokens_kind 28 = .ok (.iconst 0, 1) := by decide +kernel
theorem d_Tokens_kind_29 : decode b_Tokens_kind 29 = .ok (.ireturn, 1) := by decide +kernel
theorem d_Tokens_place_0 : decode b_Tokens_place 0 = .ok (.iload_n 1, 1) := by decide +kernel
theorem d_Tokens_place_1 : decode b_Tokens_place 1 = .ok (.ifCond .lt 27, 3) := by decide +kernel
theorem d_Tokens_place_4 : decode b_Tokens_place 4 = .ok (.iload_n 1, 1) := by decide +kernel
theorem d_Tokens_place_5 : decode b_Tokens_place 5 = .ok (.aload_n 0, 1) := by decide +kernel
theorem d_Tokens_place_6 : decode b_Tokens_place 6 = .ok (.getfield 22, 3) := by decide +kernel
theorem d_Tokens_place_9 : decode b_Tokens_place 9 = .ok (.if_icmp .ge 19, 3) := by decide +kernel
theorem d_Tokens_place_12 : decode b_Tokens_place 12 = .ok (.iload_n 1, 1) := by decide +kernel
theorem d_Tokens_place_13 : decode b_Tokens_place 13 = .ok (.sipush 480, 3) := by decide +kernel
theorem d_Tokens_place_16 : decode b_Tokens_place 16 = .ok (.if_icmp .ge 12, 3) := by decide +kernel
theorem d_Tokens_place_19 : decode b_Tokens_place 19 = .ok (.aload_n 0, 1) := by decide +kernel
theorem d_Tokens_place_20 : decode b_Tokens_place 20 = .ok (.getfield 15, 3) := by decide +kernel
theorem d_Tokens_place_23 : decode b_Tokens_place 23 = .ok (.iload_n 1, 1) := by decide +kernel
theorem d_Tokens_place_24 : decode b_Tokens_place 24 = .ok (.iaload, 1) := by decide +kernel
theorem d_Tokens_place_25 : decode b_Tokens_place 25 = .ok (.goto 7, 3) := by decide +kernel
theorem d_Tokens_place_28 : decode b_Tokens_place 28 = .ok (.aload_n 0, 1) := by decide +kernel
theorem d_Tokens_place_29 : decode b_Tokens_place 29 = .ok (.getfield 26, 3) := by decide +kernel
theorem d_Tokens_place_32 : decode b_Tokens_place 32 = .ok (.ireturn, 1) := by decide +kernel
theorem d_Tokens_value_0 : decode b_Tokens_value 0 = .ok (.iload_n 1, 1) := by decide +kernel
theorem d_Tokens_value_1 : decode b_Tokens_value 1 = .ok (.ifCond .lt 27, 3) := by decide +kernel
theorem d_Tokens_value_4 : decode b_Tokens_value 4 = .ok (.iload_n 1, 1) := by decide +kernel
theorem d_Tokens_value_5 : decode b_Tokens_value 5 = .ok (.aload_n 0, 1) := by decide +kernel
theorem d_Tokens_value_6 : decode b_Tokens_value 6 = .ok (.getfield 22, 3) := by decide +kernel
theorem d_Tokens_value_9 : decode b_Tokens_value 9 = .ok (.if_icmp .ge 19, 3) := by decide +kernel
theorem d_Tokens_value_12 : decode b_Tokens_value 12 = .ok (.iload_n 1, 1) := by decide +kernel
theorem d_Tokens_value_13 : decode b_Tokens_value 13 = .ok (.sipush 480, 3) := by decide +kernel
theorem d_Tokens_value_16 : decode b_Tokens_value 16 = .ok (.if_icmp .ge 12, 3) := by decide +kernel
theorem d_Tokens_value_19 : decode b_Tokens_value 19 = .ok (.aload_n 0, 1) := by decide +kernel
theorem d_Tokens_value_20 : decode b_Tokens_value 20 = .ok (.getfield 18, 3) := by decide +kernel
theorem d_Tokens_value_23 : decode b_Tokens_value 23 = .ok (.iload_n 1, 1) := by decide +kernel
theorem d_Tokens_value_24 : decode b_Tokens_value 24 = .ok (.laload, 1) := by decide +kernel
theorem d_Tokens_value_25 : decode b_Tokens_value 25 = .ok (.goto 4, 3) := by decide +kernel
theorem d_Tokens_value_28 : decode b_Tokens_value 28 = .ok (.lconst 0, 1) := by decide +kernel
theorem d_Tokens_value_29 : decode b_Tokens_value 29 = .ok (.lreturn, 1) := by decide +kernel
theorem d_Tokens_add_0 : decode b_Tokens_add 0 = .ok (.aload_n 0, 1) := by decide +kernel
theorem d_Tokens_add_1 : decode b_Tokens_add 1 = .ok (.getfield 22, 3) := by decide +kernel
theorem d_Tokens_add_4 : decode b_Tokens_add 4 = .ok (.sipush 480, 3) := by decide +kernel
theorem d_Tokens_add_7 : decode b_Tokens_add 7 = .ok (.if_icmp .ge 43, 3) := by decide +kernel
theorem d_Tokens_add_10 : decode b_Tokens_add 10 = .ok (.aload_n 0, 1) := by decide +kernel
theorem d_Tokens_add_11 : decode b_Tokens_add 11 = .ok (.getfield 11, 3) := by decide +kernel
theorem d_Tokens_add_14 : decode b_Tokens_add 14 = .ok (.aload_n 0, 1) := by decide +kernel
theorem d_Tokens_add_15 : decode b_Tokens_add 15 = .ok (.getfield 22, 3) := by decide +kernel
theorem d_Tokens_add_18 : decode b_Tokens_add 18 = .ok (.iload_n 1, 1) := by decide +kernel
theorem d_Tokens_add_19 : decode b_Tokens_add 19 = .ok (.iastore, 1) := by decide +kernel
theorem d_Tokens_add_20 : decode b_Tokens_add 20 = .ok (.aload_n 0, 1) := by decide +kernel
theorem d_Tokens_add_21 : decode b_Tokens_add 21 = .ok (.getfield 15, 3) := by decide +kernel
theorem d_Tokens_add_24 : decode b_Tokens_add 24 = .ok (.aload_n 0, 1) := by decide +kernel
theorem d_Tokens_add_25 : decode b_Tokens_add 25 = .ok (.getfield 22, 3) := by decide +kernel
theorem d_Tokens_add_28 : decode b_Tokens_add 28 = .ok (.iload_n 2, 1) := by decide +kernel
theorem d_Tokens_add_29 : decode b_Tokens_add 29 = .ok (.iastore, 1) := by decide +kernel
theorem d_Tokens_add_30 : decode b_Tokens_add 30 = .ok (.aload_n 0, 1) := by decide +kernel
theorem d_Tokens_add_31 : decode b_Tokens_add 31 = .ok (.getfield 18, 3) := by decide +kernel
theorem d_Tokens_add_34 : decode b_Tokens_add 34 = .ok (.aload_n 0, 1) := by decide +kernel
theorem d_Tokens_add_35 : decode b_Tokens_add 35 = .ok (.getfield 22, 3) := by decide +kernel
theorem d_Tokens_add_38 : decode b_Tokens_add 38 = .ok (.lload_n 3, 1) := by decide +kernel
theorem d_Tokens_add_39 : decode b_Tokens_add 39 = .ok (.lastore, 1) := by decide +kernel
theorem d_Tokens_add_40 : decode b_Tokens_add 40 = .ok (.aload_n 0, 1) := by decide +kernel
theorem d_Tokens_add_41 : decode b_Tokens_add 41 = .ok (.dup, 1) := by decide +kernel
theorem d_Tokens_add_42 : decode b_Tokens_add 42 = .ok (.getfield 22, 3) := by decide +kernel
theorem d_Tokens_add_45 : decode b_Tokens_add 45 = .ok (.iconst 1, 1) := by decide +kernel
theorem d_Tokens_add_46 : decode b_Tokens_add 46 = .ok (.iadd, 1) := by decide +kernel
theorem d_Tokens_add_47 : decode b_Tokens_add 47 = .ok (.putfield 22, 3) := by decide +kernel
theorem d_Tokens_add_50 : decode b_Tokens_add 50 = .ok (.return_, 1) := by decide +kernel
theorem d_Tokens_scanName_0 : decode b_Tokens_scanName 0 = .ok (.aload_n 0, 1) := by decide +kernel
theorem d_Tokens_scanName_1 : decode b_Tokens_scanName 1 = .ok (.getfield 29, 3) := by decide +kernel
theorem d_Tokens_scanName_4 : decode b_Tokens_scanName 4 = .ok (.istore_n 2, 1) := by decide +kernel
theorem d_Tokens_scanName_5 : decode b_Tokens_scanName 5 = .ok (.lconst 0, 1) := by decide +kernel
theorem d_Tokens_scanName_6 : decode b_Tokens_scanName 6 = .ok (.lstore_n 3, 1) := by decide +kernel
theorem d_Tokens_scanName_7 : decode b_Tokens_scanName 7 = .ok (.aload_n 0, 1) := by decide +kernel
theorem d_Tokens_scanName_8 : decode b_Tokens_scanName 8 = .ok (.getfield 29, 3) := by decide +kernel
theorem d_Tokens_scanName_11 : decode b_Tokens_scanName 11 = .ok (.aload_n 0, 1) := by decide +kernel
theorem d_Tokens_scanName_12 : decode b_Tokens_scanName 12 = .ok (.getfield 26, 3) := by decide +kernel
theorem d_Tokens_scanName_15 : decode b_Tokens_scanName 15 = .ok (.if_icmp .ge 59, 3) := by decide +kernel
theorem d_Tokens_scanName_18 : decode b_Tokens_scanName 18 = .ok (.aload_n 1, 1) := by decide +kernel
theorem d_Tokens_scanName_19 : decode b_Tokens_scanName 19 = .ok (.aload_n 0, 1) := by decide +kernel
theorem d_Tokens_scanName_20 : decode b_Tokens_scanName 20 = .ok (.getfield 29, 3) := by decide +kernel
theorem d_Tokens_scanName_23 : decode b_Tokens_scanName 23 = .ok (.invokevirtual 36, 3) := by decide +kernel
theorem d_Tokens_scanName_26 : decode b_Tokens_scanName 26 = .ok (.invokestatic 40, 3) := by decide +kernel
theorem d_Tokens_scanName_29 : decode b_Tokens_scanName 29 = .ok (.ifCond .ne 17, 3) := by decide +kernel
theorem d_Tokens_scanName_32 : decode b_Tokens_scanName 32 = .ok (.aload_n 1, 1) := by decide +kernel
theorem d_Tokens_scanName_33 : decode b_Tokens_scanName 33 = .ok (.aload_n 0, 1) := by decide +kernel
theorem d_Tokens_scanName_34 : decode b_Tokens_scanName 34 = .ok (.getfield 29, 3) := by decide +kernel
theorem d_Tokens_scanName_37 : decode b_Tokens_scanName 37 = .ok (.invokevirtual 36, 3) := by decide +kernel
theorem d_Tokens_scanName_40 : decode b_Tokens_scanName 40 = .ok (.invokestatic 48, 3) := by decide +kernel
theorem d_Tokens_scanName_43 : decode b_Tokens_scanName 43 = .ok (.ifCond .eq 31, 3) := by decide +kernel
theorem d_Tokens_scanName_46 : decode b_Tokens_scanName 46 = .ok (.lload_n 3, 1) := by decide +kernel
theorem d_Tokens_scanName_47 : decode b_Tokens_scanName 47 = .ok (.bipush 8, 2) := by decide +kernel
theorem d_Tokens_scanName_49 : decode b_Tokens_scanName 49 = .ok (.lshl, 1) := by decide +kernel
theorem d_Tokens_scanName_50 : decode b_Tokens_scanName 50 = .ok (.aload_n 1, 1) := by decide +kernel
theorem d_Tokens_scanName_51 : decode b_Tokens_scanName 51 = .ok (.aload_n 0, 1) := by decide +kernel
theorem d_Tokens_scanName_52 : decode b_Tokens_scanName 52 = .ok (.getfield 29, 3) := by decide +kernel
theorem d_Tokens_scanName_55 : decode b_Tokens_scanName 55 = .ok (.invokevirtual 36, 3) := by decide +kernel
theorem d_Tokens_scanName_58 : decode b_Tokens_scanName 58 = .ok (.i2l, 1) := by decide +kernel
theorem d_Tokens_scanName_59 : decode b_Tokens_scanName 59 = .ok (.lor, 1) := by decide +kernel
theorem d_Tokens_scanName_60 : decode b_Tokens_scanName 60 = .ok (.lstore_n 3, 1) := by decide +kernel
theorem d_Tokens_scanName_61 : decode b_Tokens_scanName 61 = .ok (.aload_n 0, 1) := by decide +kernel
theorem d_Tokens_scanName_62 : decode b_Tokens_scanName 62 = .ok (.dup, 1) := by decide +kernel
theorem d_Tokens_scanName_63 : decode b_Tokens_scanName 63 = .ok (.getfield 29, 3) := by decide +kernel
theorem d_Tokens_scanName_66 : decode b_Tokens_scanName 66 = .ok (.iconst 1, 1) := by decide +kernel
theorem d_Tokens_scanName_67 : decode b_Tokens_scanName 67 = .ok (.iadd, 1) := by decide +kernel
theorem d_Tokens_scanName_68 : decode b_Tokens_scanName 68 = .ok (.putfield 29, 3) := by decide +kernel
theorem d_Tokens_scanName_71 : decode b_Tokens_scanName 71 = .ok (.goto (-64), 3) := by decide +kernel
theorem d_Tokens_scanName_74 : decode b_Tokens_scanName 74 = .ok (.aload_n 0, 1) := by decide +kernel
theorem d_Tokens_scanName_75 : decode b_Tokens_scanName 75 = .ok (.aload_n 0, 1) := by decide +kernel
theorem d_Tokens_scanName_76 : decode b_Tokens_scanName 76 = .ok (.getfield 29, 3) := by decide +kernel
theorem d_Tokens_scanName_79 : decode b_Tokens_scanName 79 = .ok (.iload_n 2, 1) := by decide +kernel
theorem d_Tokens_scanName_80 : decode b_Tokens_scanName 80 = .ok (.isub, 1) := by decide +kernel
theorem d_Tokens_scanName_81 : decode b_Tokens_scanName 81 = .ok (.bipush 6, 2) := by decide +kernel
theorem d_Tokens_scanName_83 : decode b_Tokens_scanName 83 = .ok (.if_icmp .gt 7, 3) := by decide +kernel
theorem d_Tokens_scanName_86 : decode b_Tokens_scanName 86 = .ok (.iconst 2, 1) := by decide +kernel

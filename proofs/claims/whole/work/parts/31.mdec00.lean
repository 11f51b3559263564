theorem d_Mod_thrown_0 : decode b_Mod_thrown 0 = .ok (.aload_n 0, 1) := by decide +kernel
theorem d_Mod_thrown_1 : decode b_Mod_thrown 1 = .ok (.getfield 59, 3) := by decide +kernel
theorem d_Mod_thrown_4 : decode b_Mod_thrown 4 = .ok (.ireturn, 1) := by decide +kernel
theorem d_Mod_raise_0 : decode b_Mod_raise 0 = .ok (.aload_n 0, 1) := by decide +kernel
theorem d_Mod_raise_1 : decode b_Mod_raise 1 = .ok (.iload_n 1, 1) := by decide +kernel
theorem d_Mod_raise_2 : decode b_Mod_raise 2 = .ok (.putfield 59, 3) := by decide +kernel
theorem d_Mod_raise_5 : decode b_Mod_raise 5 = .ok (.iconst 0, 1) := by decide +kernel
theorem d_Mod_raise_6 : decode b_Mod_raise 6 = .ok (.ireturn, 1) := by decide +kernel
theorem d_Mod_see_0 : decode b_Mod_see 0 = .ok (.iload_n 1, 1) := by decide +kernel
theorem d_Mod_see_1 : decode b_Mod_see 1 = .ok (.aload_n 0, 1) := by decide +kernel
theorem d_Mod_see_2 : decode b_Mod_see 2 = .ok (.getfield 63, 3) := by decide +kernel
theorem d_Mod_see_5 : decode b_Mod_see 5 = .ok (.if_icmp .ge 12, 3) := by decide +kernel
theorem d_Mod_see_8 : decode b_Mod_see 8 = .ok (.aload_n 0, 1) := by decide +kernel
theorem d_Mod_see_9 : decode b_Mod_see 9 = .ok (.getfield 7, 3) := by decide +kernel
theorem d_Mod_see_12 : decode b_Mod_see 12 = .ok (.iload_n 1, 1) := by decide +kernel
theorem d_Mod_see_13 : decode b_Mod_see 13 = .ok (.iaload, 1) := by decide +kernel
theorem d_Mod_see_14 : decode b_Mod_see 14 = .ok (.goto 4, 3) := by decide +kernel
theorem d_Mod_see_17 : decode b_Mod_see 17 = .ok (.iconst 0, 1) := by decide +kernel
theorem d_Mod_see_18 : decode b_Mod_see 18 = .ok (.ireturn, 1) := by decide +kernel
theorem d_Mod_isDigit_0 : decode b_Mod_isDigit 0 = .ok (.iload_n 0, 1) := by decide +kernel
theorem d_Mod_isDigit_1 : decode b_Mod_isDigit 1 = .ok (.bipush 48, 2) := by decide +kernel
theorem d_Mod_isDigit_3 : decode b_Mod_isDigit 3 = .ok (.if_icmp .lt 13, 3) := by decide +kernel
theorem d_Mod_isDigit_6 : decode b_Mod_isDigit 6 = .ok (.iload_n 0, 1) := by decide +kernel
theorem d_Mod_isDigit_7 : decode b_Mod_isDigit 7 = .ok (.bipush 57, 2) := by decide +kernel
theorem d_Mod_isDigit_9 : decode b_Mod_isDigit 9 = .ok (.if_icmp .gt 7, 3) := by decide +kernel
theorem d_Mod_isDigit_12 : decode b_Mod_isDigit 12 = .ok (.iconst 1, 1) := by decide +kernel
theorem d_Mod_isDigit_13 : decode b_Mod_isDigit 13 = .ok (.goto 4, 3) := by decide +kernel
theorem d_Mod_isDigit_16 : decode b_Mod_isDigit 16 = .ok (.iconst 0, 1) := by decide +kernel
theorem d_Mod_isDigit_17 : decode b_Mod_isDigit 17 = .ok (.ireturn, 1) := by decide +kernel
theorem d_Mod_isSmall_0 : decode b_Mod_isSmall 0 = .ok (.iload_n 0, 1) := by decide +kernel
theorem d_Mod_isSmall_1 : decode b_Mod_isSmall 1 = .ok (.bipush 97, 2) := by decide +kernel
theorem d_Mod_isSmall_3 : decode b_Mod_isSmall 3 = .ok (.if_icmp .lt 13, 3) := by decide +kernel
theorem d_Mod_isSmall_6 : decode b_Mod_isSmall 6 = .ok (.iload_n 0, 1) := by decide +kernel
theorem d_Mod_isSmall_7 : decode b_Mod_isSmall 7 = .ok (.bipush 122, 2) := by decide +kernel
theorem d_Mod_isSmall_9 : decode b_Mod_isSmall 9 = .ok (.if_icmp .gt 7, 3) := by decide +kernel
theorem d_Mod_isSmall_12 : decode b_Mod_isSmall 12 = .ok (.iconst 1, 1) := by decide +kernel
theorem d_Mod_isSmall_13 : decode b_Mod_isSmall 13 = .ok (.goto 4, 3) := by decide +kernel
theorem d_Mod_isSmall_16 : decode b_Mod_isSmall 16 = .ok (.iconst 0, 1) := by decide +kernel
theorem d_Mod_isSmall_17 : decode b_Mod_isSmall 17 = .ok (.ireturn, 1) := by decide +kernel
theorem d_Mod_type_0 : decode b_Mod_type 0 = .ok (.aload_n 0, 1) := by decide +kernel
theorem d_Mod_type_1 : decode b_Mod_type 1 = .ok (.iconst 0, 1) := by decide +kernel
theorem d_Mod_type_2 : decode b_Mod_type 2 = .ok (.putfield 59, 3) := by decide +kernel
theorem d_Mod_type_5 : decode b_Mod_type 5 = .ok (.iload_n 3, 1) := by decide +kernel
theorem d_Mod_type_6 : decode b_Mod_type 6 = .ok (.iconst 1, 1) := by decide +kernel
theorem d_Mod_type_7 : decode b_Mod_type 7 = .ok (.if_icmp .lt 21, 3) := by decide +kernel
theorem d_Mod_type_10 : decode b_Mod_type 10 = .ok (.iload_n 3, 1) := by decide +kernel
theorem d_Mod_type_11 : decode b_Mod_type 11 = .ok (.bipush 8, 2) := by decide +kernel
theorem d_Mod_type_13 : decode b_Mod_type 13 = .ok (.if_icmp .gt 15, 3) := by decide +kernel
theorem d_Mod_type_16 : decode b_Mod_type 16 = .ok (.aload_n 0, 1) := by decide +kernel
theorem d_Mod_type_17 : decode b_Mod_type 17 = .ok (.getfield 63, 3) := by decide +kernel
theorem d_Mod_type_20 : decode b_Mod_type 20 = .ok (.iload_n 3, 1) := by decide +kernel
theorem d_Mod_type_21 : decode b_Mod_type 21 = .ok (.iadd, 1) := by decide +kernel
theorem d_Mod_type_22 : decode b_Mod_type 22 = .ok (.sipush 480, 3) := by decide +kernel
theorem d_Mod_type_25 : decode b_Mod_type 25 = .ok (.if_icmp .le 5, 3) := by decide +kernel
theorem d_Mod_type_28 : decode b_Mod_type 28 = .ok (.iconst 0, 1) := by decide +kernel
theorem d_Mod_type_29 : decode b_Mod_type 29 = .ok (.ireturn, 1) := by decide +kernel
theorem d_Mod_type_30 : decode b_Mod_type 30 = .ok (.iconst 0, 1) := by decide +kernel
theorem d_Mod_type_31 : decode b_Mod_type 31 = .ok (.istore 4, 2) := by decide +kernel
theorem d_Mod_type_33 : decode b_Mod_type 33 = .ok (.iload 4, 2) := by decide +kernel
theorem d_Mod_type_35 : decode b_Mod_type 35 = .ok (.iload_n 3, 1) := by decide +kernel
theorem d_Mod_type_36 : decode b_Mod_type 36 = .ok (.if_icmp .ge 39, 3) := by decide +kernel
theorem d_Mod_type_39 : decode b_Mod_type 39 = .ok (.lload_n 1, 1) := by decide +kernel
theorem d_Mod_type_40 : decode b_Mod_type 40 = .ok (.bipush 8, 2) := by decide +kernel
theorem d_Mod_type_42 : decode b_Mod_type 42 = .ok (.iload 4, 2) := by decide +kernel
theorem d_Mod_type_44 : decode b_Mod_type 44 = .ok (.imul, 1) := by decide +kernel
theorem d_Mod_type_45 : decode b_Mod_type 45 = .ok (.lshr, 1) := by decide +kernel
theorem d_Mod_type_46 : decode b_Mod_type 46 = .ok (.ldc2_w 66, 3) := by decide +kernel
theorem d_Mod_type_49 : decode b_Mod_type 49 = .ok (.land, 1) := by decide +kernel
theorem d_Mod_type_50 : decode b_Mod_type 50 = .ok (.l2i, 1) := by decide +kernel
theorem d_Mod_type_51 : decode b_Mod_type 51 = .ok (.istore 5, 2) := by decide +kernel
theorem d_Mod_type_53 : decode b_Mod_type 53 = .ok (.iload 5, 2) := by decide +kernel
theorem d_Mod_type_55 : decode b_Mod_type 55 = .ok (.bipush 32, 2) := by decide +kernel
theorem d_Mod_type_57 : decode b_Mod_type 57 = .ok (.if_icmp .lt 10, 3) := by decide +kernel
theorem d_Mod_type_60 : decode b_Mod_type 60 = .ok (.iload 5, 2) := by decide +kernel
theorem d_Mod_type_62 : decode b_Mod_type 62 = .ok (.bipush 126, 2) := by decide +kernel
theorem d_Mod_type_64 : decode b_Mod_type 64 = .ok (.if_icmp .le 5, 3) := by decide +kernel
theorem d_Mod_type_67 : decode b_Mod_type 67 = .ok (.iconst 0, 1) := by decide +kernel
theorem d_Mod_type_68 : decode b_Mod_type 68 = .ok (.ireturn, 1) := by decide +kernel
theorem d_Mod_type_69 : decode b_Mod_type 69 = .ok (.iinc 4 1, 3) := by decide +kernel
theorem d_Mod_type_72 : decode b_Mod_type 72 = .ok (.goto (-39), 3) := by decide +kernel
theorem d_Mod_type_75 : decode b_Mod_type 75 = .ok (.iload_n 3, 1) := by decide +kernel
theorem d_Mod_type_76 : decode b_Mod_type 76 = .ok (.iconst 1, 1) := by decide +kernel
theorem d_Mod_type_77 : decode b_Mod_type 77 = .ok (.isub, 1) := by decide +kernel
theorem d_Mod_type_78 : decode b_Mod_type 78 = .ok (.istore 4, 2) := by decide +kernel
theorem d_Mod_type_80 : decode b_Mod_type 80 = .ok (.iload 4, 2) := by decide +kernel
theorem d_Mod_type_82 : decode b_Mod_type 82 = .ok (.ifCond .lt 40, 3) := by decide +kernel
theorem d_Mod_type_85 : decode b_Mod_type 85 = .ok (.aload_n 0, 1) := by decide +kernel
theorem d_Mod_type_86 : decode b_Mod_type 86 = .ok (.getfield 7, 3) := by decide +kernel
theorem d_Mod_type_89 : decode b_Mod_type 89 = .ok (.aload_n 0, 1) := by decide +kernel
theorem d_Mod_type_90 : decode b_Mod_type 90 = .ok (.getfield 63, 3) := by decide +kernel
theorem d_Mod_type_93 : decode b_Mod_type 93 = .ok (.lload_n 1, 1) := by decide +kernel
theorem d_Mod_type_94 : decode b_Mod_type 94 = .ok (.bipush 8, 2) := by decide +kernel
theorem d_Mod_type_96 : decode b_Mod_type 96 = .ok (.iload 4, 2) := by decide +kernel
theorem d_Mod_type_98 : decode b_Mod_type 98 = .ok (.imul, 1) := by decide +kernel
theorem d_Mod_type_99 : decode b_Mod_type 99 = .ok (.lshr, 1) := by decide +kernel
theorem d_Mod_type_100 : decode b_Mod_type 100 = .ok (.ldc2_w 66, 3) := by decide +kernel
theorem d_Mod_type_103 : decode b_Mod_type 103 = .ok (.land, 1) := by decide +kernel
theorem d_Mod_type_104 : decode b_Mod_type 104 = .ok (.l2i, 1) := by decide +kernel
theorem d_Mod_type_105 : decode b_Mod_type 105 = .ok (.iastore, 1) := by decide +kernel
theorem d_Mod_type_106 : decode b_Mod_type 106 = .ok (.aload_n 0, 1) := by decide +kernel
theorem d_Mod_type_107 : decode b_Mod_type 107 = .ok (.dup, 1) := by decide +kernel
theorem d_Mod_type_108 : decode b_Mod_type 108 = .ok (.getfield 63, 3) := by decide +kernel
theorem d_Mod_type_111 : decode b_Mod_type 111 = .ok (.iconst 1, 1) := by decide +kernel
theorem d_Mod_type_112 : decode b_Mod_type 112 = .ok (.iadd, 1) := by decide +kernel
theorem d_Mod_type_113 : decode b_Mod_type 113 = .ok (.putfield 63, 3) := by decide +kernel
theorem d_Mod_type_116 : decode b_Mod_type 116 = .ok (.iinc 4 (-1), 3) := by decide +kernel
theorem d_Mod_type_119 : decode b_Mod_type 119 = .ok (.goto (-39), 3) := by decide +kernel
theorem d_Mod_type_122 : decode b_Mod_type 122 = .ok (.iconst 1, 1) := by decide +kernel
theorem d_Mod_type_123 : decode b_Mod_type 123 = .ok (.ireturn, 1) := by decide +kernel
theorem d_Mod_token_0 : decode b_Mod_token 0 = .ok (.aload_n 0, 1) := by decide +kernel
theorem d_Mod_token_1 : decode b_Mod_token 1 = .ok (.getfield 13, 3) := by decide +kernel
theorem d_Mod_token_4 : decode b_Mod_token 4 = .ok (.aload_n 0, 1) := by decide +kernel
theorem d_Mod_token_5 : decode b_Mod_token 5 = .ok (.getfield 68, 3) := by decide +kernel
theorem d_Mod_token_8 : decode b_Mod_token 8 = .ok (.iload_n 1, 1) := by decide +kernel
theorem d_Mod_token_9 : decode b_Mod_token 9 = .ok (.iastore, 1) := by decide +kernel
theorem d_Mod_token_10 : decode b_Mod_token 10 = .ok (.aload_n 0, 1) := by decide +kernel
theorem d_Mod_token_11 : decode b_Mod_token 11 = .ok (.getfield 16, 3) := by decide +kernel
theorem d_Mod_token_14 : decode b_Mod_token 14 = .ok (.aload_n 0, 1) := by decide +kernel
theorem d_Mod_token_15 : decode b_Mod_token 15 = .ok (.getfield 68, 3) := by decide +kernel
theorem d_Mod_token_18 : decode b_Mod_token 18 = .ok (.iload_n 2, 1) := by decide +kernel
theorem d_Mod_token_19 : decode b_Mod_token 19 = .ok (.iastore, 1) := by decide +kernel
theorem d_Mod_token_20 : decode b_Mod_token 20 = .ok (.aload_n 0, 1) := by decide +kernel
theorem d_Mod_token_21 : decode b_Mod_token 21 = .ok (.getfield 19, 3) := by decide +kernel
theorem d_Mod_token_24 : decode b_Mod_token 24 = .ok (.aload_n 0, 1) := by decide +kernel
theorem d_Mod_token_25 : decode b_Mod_token 25 = .ok (.getfield 68, 3) := by decide +kernel
theorem d_Mod_token_28 : decode b_Mod_token 28 = .ok (.lload_n 3, 1) := by decide +kernel
theorem d_Mod_token_29 : decode b_Mod_token 29 = .ok (.lastore, 1) := by decide +kernel
theorem d_Mod_token_30 : decode b_Mod_token 30 = .ok (.aload_n 0, 1) := by decide +kernel
theorem d_Mod_token_31 : decode b_Mod_token 31 = .ok (.dup, 1) := by decide +kernel
theorem d_Mod_token_32 : decode b_Mod_token 32 = .ok (.getfield 68, 3) := by decide +kernel
theorem d_Mod_token_35 : decode b_Mod_token 35 = .ok (.iconst 1, 1) := by decide +kernel
theorem d_Mod_token_36 : decode b_Mod_token 36 = .ok (.iadd, 1) := by decide +kernel
theorem d_Mod_token_37 : decode b_Mod_token 37 = .ok (.putfield 68, 3) := by decide +kernel
theorem d_Mod_token_40 : decode b_Mod_token 40 = .ok (.return_, 1) := by decide +kernel
theorem d_Mod_note_0 : decode b_Mod_note 0 = .ok (.aload_n 0, 1) := by decide +kernel
theorem d_Mod_note_1 : decode b_Mod_note 1 = .ok (.getfield 90, 3) := by decide +kernel
theorem d_Mod_note_4 : decode b_Mod_note 4 = .ok (.ifCond .eq 40, 3) := by decide +kernel
theorem d_Mod_note_7 : decode b_Mod_note 7 = .ok (.iload_n 1, 1) := by decide +kernel
theorem d_Mod_note_8 : decode b_Mod_note 8 = .ok (.iconst 1, 1) := by decide +kernel
theorem d_Mod_note_9 : decode b_Mod_note 9 = .ok (.if_icmp .eq 35, 3) := by decide +kernel
theorem d_Mod_note_12 : decode b_Mod_note 12 = .ok (.aload_n 0, 1) := by decide +kernel
theorem d_Mod_note_13 : decode b_Mod_note 13 = .ok (.getfield 90, 3) := by decide +kernel
theorem d_Mod_note_16 : decode b_Mod_note 16 = .ok (.iconst 1, 1) := by decide +kernel
theorem d_Mod_note_17 : decode b_Mod_note 17 = .ok (.if_icmp .eq 31, 3) := by decide +kernel
theorem d_Mod_note_20 : decode b_Mod_note 20 = .ok (.iload_n 2, 1) := by decide +kernel
theorem d_Mod_note_21 : decode b_Mod_note 21 = .ok (.aload_n 0, 1) := by decide +kernel
theorem d_Mod_note_22 : decode b_Mod_note 22 = .ok (.getfield 93, 3) := by decide +kernel
theorem d_Mod_note_25 : decode b_Mod_note 25 = .ok (.if_icmp .lt 19, 3) := by decide +kernel
theorem d_Mod_note_28 : decode b_Mod_note 28 = .ok (.iload_n 2, 1) := by decide +kernel
theorem d_Mod_note_29 : decode b_Mod_note 29 = .ok (.aload_n 0, 1) := by decide +kernel
theorem d_Mod_note_30 : decode b_Mod_note 30 = .ok (.getfield 93, 3) := by decide +kernel
theorem d_Mod_note_33 : decode b_Mod_note 33 = .ok (.if_icmp .ne 15, 3) := by decide +kernel
theorem d_Mod_note_36 : decode b_Mod_note 36 = .ok (.iload_n 1, 1) := by decide +kernel
theorem d_Mod_note_37 : decode b_Mod_note 37 = .ok (.aload_n 0, 1) := by decide +kernel
theorem d_Mod_note_38 : decode b_Mod_note 38 = .ok (.getfield 90, 3) := by decide +kernel
theorem d_Mod_note_41 : decode b_Mod_note 41 = .ok (.if_icmp .ge 7, 3) := by decide +kernel
theorem d_Mod_note_44 : decode b_Mod_note 44 = .ok (.iconst 1, 1) := by decide +kernel
theorem d_Mod_note_45 : decode b_Mod_note 45 = .ok (.goto 4, 3) := by decide +kernel
theorem d_Mod_note_48 : decode b_Mod_note 48 = .ok (.iconst 0, 1) := by decide +kernel
theorem d_Mod_note_49 : decode b_Mod_note 49 = .ok (.istore_n 3, 1) := by decide +kernel
theorem d_Mod_note_50 : decode b_Mod_note 50 = .ok (.aload_n 0, 1) := by decide +kernel
theorem d_Mod_note_51 : decode b_Mod_note 51 = .ok (.iload_n 3, 1) := by decide +kernel
theorem d_Mod_note_52 : decode b_Mod_note 52 = .ok (.ifCond .eq 7, 3) := by decide +kernel
theorem d_Mod_note_55 : decode b_Mod_note 55 = .ok (.iload_n 1, 1) := by decide +kernel
theorem d_Mod_note_56 : decode b_Mod_note 56 = .ok (.goto 7, 3) := by decide +kernel
theorem d_Mod_note_59 : decode b_Mod_note 59 = .ok (.aload_n 0, 1) := by decide +kernel
theorem d_Mod_note_60 : decode b_Mod_note 60 = .ok (.getfield 90, 3) := by decide +kernel
theorem d_Mod_note_63 : decode b_Mod_note 63 = .ok (.putfield 90, 3) := by decide +kernel
theorem d_Mod_note_66 : decode b_Mod_note 66 = .ok (.aload_n 0, 1) := by decide +kernel
theorem d_Mod_note_67 : decode b_Mod_note 67 = .ok (.iload_n 3, 1) := by decide +kernel
theorem d_Mod_note_68 : decode b_Mod_note 68 = .ok (.ifCond .eq 7, 3) := by decide +kernel
theorem d_Mod_note_71 : decode b_Mod_note 71 = .ok (.iload_n 2, 1) := by decide +kernel
theorem d_Mod_note_72 : decode b_Mod_note 72 = .ok (.goto 7, 3) := by decide +kernel
theorem d_Mod_note_75 : decode b_Mod_note 75 = .ok (.aload_n 0, 1) := by decide +kernel
theorem d_Mod_note_76 : decode b_Mod_note 76 = .ok (.getfield 93, 3) := by decide +kernel
theorem d_Mod_note_79 : decode b_Mod_note 79 = .ok (.putfield 93, 3) := by decide +kernel
theorem d_Mod_note_82 : decode b_Mod_note 82 = .ok (.return_, 1) := by decide +kernel
theorem d_Mod_refuse_0 : decode b_Mod_refuse 0 = .ok (.aload_n 0, 1) := by decide +kernel
theorem d_Mod_refuse_1 : decode b_Mod_refuse 1 = .ok (.iconst 1, 1) := by decide +kernel
theorem d_Mod_refuse_2 : decode b_Mod_refuse 2 = .ok (.aload_n 0, 1) := by decide +kernel
theorem d_Mod_refuse_3 : decode b_Mod_refuse 3 = .ok (.getfield 16, 3) := by decide +kernel
theorem d_Mod_refuse_6 : decode b_Mod_refuse 6 = .ok (.aload_n 0, 1) := by decide +kernel
theorem d_Mod_refuse_7 : decode b_Mod_refuse 7 = .ok (.getfield 96, 3) := by decide +kernel
theorem d_Mod_refuse_10 : decode b_Mod_refuse 10 = .ok (.iaload, 1) := by decide +kernel
theorem d_Mod_refuse_11 : decode b_Mod_refuse 11 = .ok (.invokevirtual 99, 3) := by decide +kernel
theorem d_Mod_refuse_14 : decode b_Mod_refuse 14 = .ok (.iconst 0, 1) := by decide +kernel
theorem d_Mod_refuse_15 : decode b_Mod_refuse 15 = .ok (.ireturn, 1) := by decide +kernel
theorem d_Mod_wantSign_0 : decode b_Mod_wantSign 0 = .ok (.aload_n 0, 1) := by decide +kernel
theorem d_Mod_wantSign_1 : decode b_Mod_wantSign 1 = .ok (.getfield 13, 3) := by decide +kernel
theorem d_Mod_wantSign_4 : decode b_Mod_wantSign 4 = .ok (.aload_n 0, 1) := by decide +kernel
theorem d_Mod_wantSign_5 : decode b_Mod_wantSign 5 = .ok (.getfield 96, 3) := by decide +kernel
theorem d_Mod_wantSign_8 : decode b_Mod_wantSign 8 = .ok (.iaload, 1) := by decide +kernel
theorem d_Mod_wantSign_9 : decode b_Mod_wantSign 9 = .ok (.iconst 3, 1) := by decide +kernel
theorem d_Mod_wantSign_10 : decode b_Mod_wantSign 10 = .ok (.if_icmp .ne 18, 3) := by decide +kernel
theorem d_Mod_wantSign_13 : decode b_Mod_wantSign 13 = .ok (.aload_n 0, 1) := by decide +kernel
theorem d_Mod_wantSign_14 : decode b_Mod_wantSign 14 = .ok (.getfield 19, 3) := by decide +kernel
theorem d_Mod_wantSign_17 : decode b_Mod_wantSign 17 = .ok (.aload_n 0, 1) := by decide +kernel
theorem d_Mod_wantSign_18 : decode b_Mod_wantSign 18 = .ok (.getfield 96, 3) := by decide +kernel
theorem d_Mod_wantSign_21 : decode b_Mod_wantSign 21 = .ok (.laload, 1) := by decide +kernel
theorem d_Mod_wantSign_22 : decode b_Mod_wantSign 22 = .ok (.iload_n 1, 1) := by decide +kernel
theorem d_Mod_wantSign_23 : decode b_Mod_wantSign 23 = .ok (.i2l, 1) := by decide +kernel
theorem d_Mod_wantSign_24 : decode b_Mod_wantSign 24 = .ok (.lcmp, 1) := by decide +kernel
theorem d_Mod_wantSign_25 : decode b_Mod_wantSign 25 = .ok (.ifCond .eq 8, 3) := by decide +kernel
theorem d_Mod_wantSign_28 : decode b_Mod_wantSign 28 = .ok (.aload_n 0, 1) := by decide +kernel
theorem d_Mod_wantSign_29 : decode b_Mod_wantSign 29 = .ok (.invokevirtual 103, 3) := by decide +kernel
theorem d_Mod_wantSign_32 : decode b_Mod_wantSign 32 = .ok (.ireturn, 1) := by decide +kernel
theorem d_Mod_wantSign_33 : decode b_Mod_wantSign 33 = .ok (.aload_n 0, 1) := by decide +kernel
theorem d_Mod_wantSign_34 : decode b_Mod_wantSign 34 = .ok (.dup, 1) := by decide +kernel
theorem d_Mod_wantSign_35 : decode b_Mod_wantSign 35 = .ok (.getfield 96, 3) := by decide +kernel
theorem d_Mod_wantSign_38 : decode b_Mod_wantSign 38 = .ok (.iconst 1, 1) := by decide +kernel
theorem d_Mod_wantSign_39 : decode b_Mod_wantSign 39 = .ok (.iadd, 1) := by decide +kernel
theorem d_Mod_wantSign_40 : decode b_Mod_wantSign 40 = .ok (.putfield 96, 3) := by decide +kernel
theorem d_Mod_wantSign_43 : decode b_Mod_wantSign 43 = .ok (.iconst 1, 1) := by decide +kernel
theorem d_Mod_wantSign_44 : decode b_Mod_wantSign 44 = .ok (.ireturn, 1) := by decide +kernel
theorem d_Mod_isSign_0 : decode b_Mod_isSign 0 = .ok (.aload_n 0, 1) := by decide +kernel
theorem d_Mod_isSign_1 : decode b_Mod_isSign 1 = .ok (.getfield 13, 3) := by decide +kernel
theorem d_Mod_isSign_4 : decode b_Mod_isSign 4 = .ok (.aload_n 0, 1) := by decide +kernel
theorem d_Mod_isSign_5 : decode b_Mod_isSign 5 = .ok (.getfield 96, 3) := by decide +kernel
theorem d_Mod_isSign_8 : decode b_Mod_isSign 8 = .ok (.iaload, 1) := by decide +kernel
theorem d_Mod_isSign_9 : decode b_Mod_isSign 9 = .ok (.iconst 3, 1) := by decide +kernel
theorem d_Mod_isSign_10 : decode b_Mod_isSign 10 = .ok (.if_icmp .ne 22, 3) := by decide +kernel
theorem d_Mod_isSign_13 : decode b_Mod_isSign 13 = .ok (.aload_n 0, 1) := by decide +kernel
theorem d_Mod_isSign_14 : decode b_Mod_isSign 14 = .ok (.getfield 19, 3) := by decide +kernel
theorem d_Mod_isSign_17 : decode b_Mod_isSign 17 = .ok (.aload_n 0, 1) := by decide +kernel
theorem d_Mod_isSign_18 : decode b_Mod_isSign 18 = .ok (.getfield 96, 3) := by decide +kernel
theorem d_Mod_isSign_21 : decode b_Mod_isSign 21 = .ok (.laload, 1) := by decide +kernel
theorem d_Mod_isSign_22 : decode b_Mod_isSign 22 = .ok (.iload_n 1, 1) := by decide +kernel
theorem d_Mod_isSign_23 : decode b_Mod_isSign 23 = .ok (.i2l, 1) := by decide +kernel
theorem d_Mod_isSign_24 : decode b_Mod_isSign 24 = .ok (.lcmp, 1) := by decide +kernel
theorem d_Mod_isSign_25 : decode b_Mod_isSign 25 = .ok (.ifCond .ne 7, 3) := by decide +kernel
theorem d_Mod_isSign_28 : decode b_Mod_isSign 28 = .ok (.iconst 1, 1) := by decide +kernel
theorem d_Mod_isSign_29 : decode b_Mod_isSign 29 = .ok (.goto 4, 3) := by decide +kernel
theorem d_Mod_isSign_32 : decode b_Mod_isSign 32 = .ok (.iconst 0, 1) := by decide +kernel
theorem d_Mod_isSign_33 : decode b_Mod_isSign 33 = .ok (.ireturn, 1) := by decide +kernel
theorem d_Mod_named_0 : decode b_Mod_named 0 = .ok (.iload_n 0, 1) := by decide +kernel
theorem d_Mod_named_1 : decode b_Mod_named 1 = .ok (.i2l, 1) := by decide +kernel
theorem d_Mod_named_2 : decode b_Mod_named 2 = .ok (.lstore 5, 2) := by decide +kernel
theorem d_Mod_named_4 : decode b_Mod_named 4 = .ok (.iload_n 1, 1) := by decide +kernel
theorem d_Mod_named_5 : decode b_Mod_named 5 = .ok (.ifCond .ne 8, 3) := by decide +kernel
theorem d_Mod_named_8 : decode b_Mod_named 8 = .ok (.lload 5, 2) := by decide +kernel
theorem d_Mod_named_10 : decode b_Mod_named 10 = .ok (.goto 11, 3) := by decide +kernel
theorem d_Mod_named_13 : decode b_Mod_named 13 = .ok (.lload 5, 2) := by decide +kernel
theorem d_Mod_named_15 : decode b_Mod_named 15 = .ok (.bipush 8, 2) := by decide +kernel
theorem d_Mod_named_17 : decode b_Mod_named 17 = .ok (.lshl, 1) := by decide +kernel
theorem d_Mod_named_18 : decode b_Mod_named 18 = .ok (.iload_n 1, 1) := by decide +kernel
theorem d_Mod_named_19 : decode b_Mod_named 19 = .ok (.i2l, 1) := by decide +kernel
theorem d_Mod_named_20 : decode b_Mod_named 20 = .ok (.lor, 1) := by decide +kernel
theorem d_Mod_named_21 : decode b_Mod_named 21 = .ok (.lstore 5, 2) := by decide +kernel
theorem d_Mod_named_23 : decode b_Mod_named 23 = .ok (.iload_n 2, 1) := by decide +kernel
theorem d_Mod_named_24 : decode b_Mod_named 24 = .ok (.ifCond .ne 8, 3) := by decide +kernel
theorem d_Mod_named_27 : decode b_Mod_named 27 = .ok (.lload 5, 2) := by decide +kernel
theorem d_Mod_named_29 : decode b_Mod_named 29 = .ok (.goto 11, 3) := by decide +kernel
theorem d_Mod_named_32 : decode b_Mod_named 32 = .ok (.lload 5, 2) := by decide +kernel
theorem d_Mod_named_34 : decode b_Mod_named 34 = .ok (.bipush 8, 2) := by decide +kernel
theorem d_Mod_named_36 : decode b_Mod_named 36 = .ok (.lshl, 1) := by decide +kernel
theorem d_Mod_named_37 : decode b_Mod_named 37 = .ok (.iload_n 2, 1) := by decide +kernel
theorem d_Mod_named_38 : decode b_Mod_named 38 = .ok (.i2l, 1) := by decide +kernel
theorem d_Mod_named_39 : decode b_Mod_named 39 = .ok (.lor, 1) := by decide +kernel
theorem d_Mod_named_40 : decode b_Mod_named 40 = .ok (.lstore 5, 2) := by decide +kernel
theorem d_Mod_named_42 : decode b_Mod_named 42 = .ok (.iload_n 3, 1) := by decide +kernel

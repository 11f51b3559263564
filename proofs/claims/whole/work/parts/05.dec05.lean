theorem d_Fault_init_14 : decode b_Fault_init 14 = .ok (.return_, 1) := by decide +kernel
theorem d_Asm_init_0 : decode b_Asm_init 0 = .ok (.aload_n 0, 1) := by decide +kernel
theorem d_Asm_init_1 : decode b_Asm_init 1 = .ok (.invokespecial 3, 3) := by decide +kernel
theorem d_Asm_init_4 : decode b_Asm_init 4 = .ok (.aload_n 0, 1) := by decide +kernel
theorem d_Asm_init_5 : decode b_Asm_init 5 = .ok (.new 9, 3) := by decide +kernel
theorem d_Asm_init_8 : decode b_Asm_init 8 = .ok (.dup, 1) := by decide +kernel
theorem d_Asm_init_9 : decode b_Asm_init 9 = .ok (.invokespecial 11, 3) := by decide +kernel
theorem d_Asm_init_12 : decode b_Asm_init 12 = .ok (.putfield 12, 3) := by decide +kernel
theorem d_Asm_init_15 : decode b_Asm_init 15 = .ok (.aload_n 0, 1) := by decide +kernel
theorem d_Asm_init_16 : decode b_Asm_init 16 = .ok (.new 18, 3) := by decide +kernel
theorem d_Asm_init_19 : decode b_Asm_init 19 = .ok (.dup, 1) := by decide +kernel
theorem d_Asm_init_20 : decode b_Asm_init 20 = .ok (.invokespecial 20, 3) := by decide +kernel
theorem d_Asm_init_23 : decode b_Asm_init 23 = .ok (.putfield 21, 3) := by decide +kernel
theorem d_Asm_init_26 : decode b_Asm_init 26 = .ok (.aload_n 0, 1) := by decide +kernel
theorem d_Asm_init_27 : decode b_Asm_init 27 = .ok (.new 25, 3) := by decide +kernel
theorem d_Asm_init_30 : decode b_Asm_init 30 = .ok (.dup, 1) := by decide +kernel
theorem d_Asm_init_31 : decode b_Asm_init 31 = .ok (.invokespecial 27, 3) := by decide +kernel
theorem d_Asm_init_34 : decode b_Asm_init 34 = .ok (.putfield 28, 3) := by decide +kernel
theorem d_Asm_init_37 : decode b_Asm_init 37 = .ok (.aload_n 0, 1) := by decide +kernel
theorem d_Asm_init_38 : decode b_Asm_init 38 = .ok (.iconst 0, 1) := by decide +kernel
theorem d_Asm_init_39 : decode b_Asm_init 39 = .ok (.putfield 32, 3) := by decide +kernel
theorem d_Asm_init_42 : decode b_Asm_init 42 = .ok (.aload_n 0, 1) := by decide +kernel
theorem d_Asm_init_43 : decode b_Asm_init 43 = .ok (.iconst 0, 1) := by decide +kernel
theorem d_Asm_init_44 : decode b_Asm_init 44 = .ok (.putfield 36, 3) := by decide +kernel
theorem d_Asm_init_47 : decode b_Asm_init 47 = .ok (.aload_n 0, 1) := by decide +kernel
theorem d_Asm_init_48 : decode b_Asm_init 48 = .ok (.iconst 0, 1) := by decide +kernel
theorem d_Asm_init_49 : decode b_Asm_init 49 = .ok (.putfield 40, 3) := by decide +kernel
theorem d_Asm_init_52 : decode b_Asm_init 52 = .ok (.aload_n 0, 1) := by decide +kernel
theorem d_Asm_init_53 : decode b_Asm_init 53 = .ok (.iconst 0, 1) := by decide +kernel
theorem d_Asm_init_54 : decode b_Asm_init 54 = .ok (.putfield 43, 3) := by decide +kernel
theorem d_Asm_init_57 : decode b_Asm_init 57 = .ok (.aload_n 0, 1) := by decide +kernel
theorem d_Asm_init_58 : decode b_Asm_init 58 = .ok (.lconst 0, 1) := by decide +kernel
theorem d_Asm_init_59 : decode b_Asm_init 59 = .ok (.putfield 46, 3) := by decide +kernel
theorem d_Asm_init_62 : decode b_Asm_init 62 = .ok (.return_, 1) := by decide +kernel
theorem d_Desk_init_0 : decode b_Desk_init 0 = .ok (.aload_n 0, 1) := by decide +kernel
theorem d_Desk_init_1 : decode b_Desk_init 1 = .ok (.invokespecial 1, 3) := by decide +kernel
theorem d_Desk_init_4 : decode b_Desk_init 4 = .ok (.aload_n 0, 1) := by decide +kernel
theorem d_Desk_init_5 : decode b_Desk_init 5 = .ok (.new 7, 3) := by decide +kernel
theorem d_Desk_init_8 : decode b_Desk_init 8 = .ok (.dup, 1) := by decide +kernel
theorem d_Desk_init_9 : decode b_Desk_init 9 = .ok (.invokespecial 9, 3) := by decide +kernel
theorem d_Desk_init_12 : decode b_Desk_init 12 = .ok (.putfield 10, 3) := by decide +kernel
theorem d_Desk_init_15 : decode b_Desk_init 15 = .ok (.aload_n 0, 1) := by decide +kernel
theorem d_Desk_init_16 : decode b_Desk_init 16 = .ok (.new 16, 3) := by decide +kernel
theorem d_Desk_init_19 : decode b_Desk_init 19 = .ok (.dup, 1) := by decide +kernel
theorem d_Desk_init_20 : decode b_Desk_init 20 = .ok (.invokespecial 18, 3) := by decide +kernel
theorem d_Desk_init_23 : decode b_Desk_init 23 = .ok (.putfield 19, 3) := by decide +kernel
theorem d_Desk_init_26 : decode b_Desk_init 26 = .ok (.aload_n 0, 1) := by decide +kernel
theorem d_Desk_init_27 : decode b_Desk_init 27 = .ok (.new 23, 3) := by decide +kernel
theorem d_Desk_init_30 : decode b_Desk_init 30 = .ok (.dup, 1) := by decide +kernel
theorem d_Desk_init_31 : decode b_Desk_init 31 = .ok (.invokespecial 25, 3) := by decide +kernel
theorem d_Desk_init_34 : decode b_Desk_init 34 = .ok (.putfield 26, 3) := by decide +kernel
theorem d_Desk_init_37 : decode b_Desk_init 37 = .ok (.return_, 1) := by decide +kernel

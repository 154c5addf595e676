theorem dX0_init_0 : decode cX0_init 0 = .ok (.aload_n 0, 1) := by decide +kernel
theorem dX0_init_1 : decode cX0_init 1 = .ok (.invokespecial 1, 3) := by decide +kernel
theorem dX0_init_4 : decode cX0_init 4 = .ok (.aload_n 0, 1) := by decide +kernel
theorem dX0_init_5 : decode cX0_init 5 = .ok (.sipush 256, 3) := by decide +kernel
theorem dX0_init_8 : decode cX0_init 8 = .ok (.newarray .int, 2) := by decide +kernel
theorem dX0_init_10 : decode cX0_init 10 = .ok (.putfield 9, 3) := by decide +kernel
theorem dX0_init_13 : decode cX0_init 13 = .ok (.aload_n 0, 1) := by decide +kernel
theorem dX0_init_14 : decode cX0_init 14 = .ok (.sipush 512, 3) := by decide +kernel
theorem dX0_init_17 : decode cX0_init 17 = .ok (.newarray .byte, 2) := by decide +kernel
theorem dX0_init_19 : decode cX0_init 19 = .ok (.putfield 13, 3) := by decide +kernel
theorem dX0_init_22 : decode cX0_init 22 = .ok (.aload_n 0, 1) := by decide +kernel
theorem dX0_init_23 : decode cX0_init 23 = .ok (.iconst 0, 1) := by decide +kernel
theorem dX0_init_24 : decode cX0_init 24 = .ok (.putfield 17, 3) := by decide +kernel
theorem dX0_init_27 : decode cX0_init 27 = .ok (.aload_n 0, 1) := by decide +kernel
theorem dX0_init_28 : decode cX0_init 28 = .ok (.iconst 0, 1) := by decide +kernel
theorem dX0_init_29 : decode cX0_init 29 = .ok (.putfield 21, 3) := by decide +kernel
theorem dX0_init_32 : decode cX0_init 32 = .ok (.aload_n 0, 1) := by decide +kernel
theorem dX0_init_33 : decode cX0_init 33 = .ok (.iconst 0, 1) := by decide +kernel
theorem dX0_init_34 : decode cX0_init 34 = .ok (.putfield 24, 3) := by decide +kernel
theorem dX0_init_37 : decode cX0_init 37 = .ok (.aload_n 0, 1) := by decide +kernel
theorem dX0_init_38 : decode cX0_init 38 = .ok (.iconst 0, 1) := by decide +kernel
theorem dX0_init_39 : decode cX0_init 39 = .ok (.putfield 27, 3) := by decide +kernel
theorem dX0_init_42 : decode cX0_init 42 = .ok (.aload_n 0, 1) := by decide +kernel
theorem dX0_init_43 : decode cX0_init 43 = .ok (.iconst 0, 1) := by decide +kernel
theorem dX0_init_44 : decode cX0_init 44 = .ok (.putfield 30, 3) := by decide +kernel
theorem dX0_init_47 : decode cX0_init 47 = .ok (.aload_n 0, 1) := by decide +kernel
theorem dX0_init_48 : decode cX0_init 48 = .ok (.iconst 0, 1) := by decide +kernel
theorem dX0_init_49 : decode cX0_init 49 = .ok (.putfield 33, 3) := by decide +kernel
theorem dX0_init_52 : decode cX0_init 52 = .ok (.aload_n 0, 1) := by decide +kernel
theorem dX0_init_53 : decode cX0_init 53 = .ok (.iconst 0, 1) := by decide +kernel
theorem dX0_init_54 : decode cX0_init 54 = .ok (.putfield 36, 3) := by decide +kernel
theorem dX0_init_57 : decode cX0_init 57 = .ok (.aload_n 0, 1) := by decide +kernel
theorem dX0_init_58 : decode cX0_init 58 = .ok (.iconst 0, 1) := by decide +kernel
theorem dX0_init_59 : decode cX0_init 59 = .ok (.putfield 39, 3) := by decide +kernel
theorem dX0_init_62 : decode cX0_init 62 = .ok (.return_, 1) := by decide +kernel
theorem dX0_word_0 : decode cX0_word 0 = .ok (.iload_n 1, 1) := by decide +kernel
theorem dX0_word_1 : decode cX0_word 1 = .ok (.invokestatic 42, 3) := by decide +kernel
theorem dX0_word_4 : decode cX0_word 4 = .ok (.ifCond .ne 13, 3) := by decide +kernel
theorem dX0_word_7 : decode cX0_word 7 = .ok (.new 46, 3) := by decide +kernel
theorem dX0_word_10 : decode cX0_word 10 = .ok (.dup, 1) := by decide +kernel
theorem dX0_word_11 : decode cX0_word 11 = .ok (.ldc 48, 2) := by decide +kernel
theorem dX0_word_13 : decode cX0_word 13 = .ok (.invokespecial 50, 3) := by decide +kernel
theorem dX0_word_16 : decode cX0_word 16 = .ok (.athrow, 1) := by decide +kernel
theorem dX0_word_17 : decode cX0_word 17 = .ok (.aload_n 0, 1) := by decide +kernel
theorem dX0_word_18 : decode cX0_word 18 = .ok (.getfield 9, 3) := by decide +kernel
theorem dX0_word_21 : decode cX0_word 21 = .ok (.iload_n 1, 1) := by decide +kernel
theorem dX0_word_22 : decode cX0_word 22 = .ok (.iload_n 2, 1) := by decide +kernel
theorem dX0_word_23 : decode cX0_word 23 = .ok (.iastore, 1) := by decide +kernel
theorem dX0_word_24 : decode cX0_word 24 = .ok (.return_, 1) := by decide +kernel
theorem dX0_code_0 : decode cX0_code 0 = .ok (.iload_n 1, 1) := by decide +kernel
theorem dX0_code_1 : decode cX0_code 1 = .ok (.iconst 4, 1) := by decide +kernel
theorem dX0_code_2 : decode cX0_code 2 = .ok (.invokestatic 53, 3) := by decide +kernel
theorem dX0_code_5 : decode cX0_code 5 = .ok (.ifCond .ne 13, 3) := by decide +kernel
theorem dX0_code_8 : decode cX0_code 8 = .ok (.new 46, 3) := by decide +kernel
theorem dX0_code_11 : decode cX0_code 11 = .ok (.dup, 1) := by decide +kernel
theorem dX0_code_12 : decode cX0_code 12 = .ok (.ldc 57, 2) := by decide +kernel
theorem dX0_code_14 : decode cX0_code 14 = .ok (.invokespecial 50, 3) := by decide +kernel
theorem dX0_code_17 : decode cX0_code 17 = .ok (.athrow, 1) := by decide +kernel
theorem dX0_code_18 : decode cX0_code 18 = .ok (.aload_n 0, 1) := by decide +kernel
theorem dX0_code_19 : decode cX0_code 19 = .ok (.getfield 13, 3) := by decide +kernel
theorem dX0_code_22 : decode cX0_code 22 = .ok (.iload_n 1, 1) := by decide +kernel
theorem dX0_code_23 : decode cX0_code 23 = .ok (.iload_n 2, 1) := by decide +kernel
theorem dX0_code_24 : decode cX0_code 24 = .ok (.i2b, 1) := by decide +kernel
theorem dX0_code_25 : decode cX0_code 25 = .ok (.bastore, 1) := by decide +kernel
theorem dX0_code_26 : decode cX0_code 26 = .ok (.aload_n 0, 1) := by decide +kernel
theorem dX0_code_27 : decode cX0_code 27 = .ok (.getfield 13, 3) := by decide +kernel
theorem dX0_code_30 : decode cX0_code 30 = .ok (.iload_n 1, 1) := by decide +kernel
theorem dX0_code_31 : decode cX0_code 31 = .ok (.iconst 1, 1) := by decide +kernel
theorem dX0_code_32 : decode cX0_code 32 = .ok (.iadd, 1) := by decide +kernel
theorem dX0_code_33 : decode cX0_code 33 = .ok (.iload_n 2, 1) := by decide +kernel
theorem dX0_code_34 : decode cX0_code 34 = .ok (.bipush 8, 2) := by decide +kernel
theorem dX0_code_36 : decode cX0_code 36 = .ok (.ishr, 1) := by decide +kernel
theorem dX0_code_37 : decode cX0_code 37 = .ok (.i2b, 1) := by decide +kernel
theorem dX0_code_38 : decode cX0_code 38 = .ok (.bastore, 1) := by decide +kernel
theorem dX0_code_39 : decode cX0_code 39 = .ok (.aload_n 0, 1) := by decide +kernel
theorem dX0_code_40 : decode cX0_code 40 = .ok (.getfield 13, 3) := by decide +kernel
theorem dX0_code_43 : decode cX0_code 43 = .ok (.iload_n 1, 1) := by decide +kernel
theorem dX0_code_44 : decode cX0_code 44 = .ok (.iconst 2, 1) := by decide +kernel
theorem dX0_code_45 : decode cX0_code 45 = .ok (.iadd, 1) := by decide +kernel
theorem dX0_code_46 : decode cX0_code 46 = .ok (.iload_n 2, 1) := by decide +kernel
theorem dX0_code_47 : decode cX0_code 47 = .ok (.bipush 16, 2) := by decide +kernel
theorem dX0_code_49 : decode cX0_code 49 = .ok (.ishr, 1) := by decide +kernel
theorem dX0_code_50 : decode cX0_code 50 = .ok (.i2b, 1) := by decide +kernel
theorem dX0_code_51 : decode cX0_code 51 = .ok (.bastore, 1) := by decide +kernel
theorem dX0_code_52 : decode cX0_code 52 = .ok (.aload_n 0, 1) := by decide +kernel
theorem dX0_code_53 : decode cX0_code 53 = .ok (.getfield 13, 3) := by decide +kernel
theorem dX0_code_56 : decode cX0_code 56 = .ok (.iload_n 1, 1) := by decide +kernel
theorem dX0_code_57 : decode cX0_code 57 = .ok (.iconst 3, 1) := by decide +kernel
theorem dX0_code_58 : decode cX0_code 58 = .ok (.iadd, 1) := by decide +kernel
theorem dX0_code_59 : decode cX0_code 59 = .ok (.iload_n 2, 1) := by decide +kernel
theorem dX0_code_60 : decode cX0_code 60 = .ok (.bipush 24, 2) := by decide +kernel
theorem dX0_code_62 : decode cX0_code 62 = .ok (.ishr, 1) := by decide +kernel
theorem dX0_code_63 : decode cX0_code 63 = .ok (.i2b, 1) := by decide +kernel
theorem dX0_code_64 : decode cX0_code 64 = .ok (.bastore, 1) := by decide +kernel
theorem dX0_code_65 : decode cX0_code 65 = .ok (.return_, 1) := by decide +kernel
theorem dX0_boot_0 : decode cX0_boot 0 = .ok (.aload_n 0, 1) := by decide +kernel
theorem dX0_boot_1 : decode cX0_boot 1 = .ok (.iload_n 1, 1) := by decide +kernel
theorem dX0_boot_2 : decode cX0_boot 2 = .ok (.putfield 17, 3) := by decide +kernel
theorem dX0_boot_5 : decode cX0_boot 5 = .ok (.aload_n 0, 1) := by decide +kernel
theorem dX0_boot_6 : decode cX0_boot 6 = .ok (.iload_n 2, 1) := by decide +kernel
theorem dX0_boot_7 : decode cX0_boot 7 = .ok (.putfield 21, 3) := by decide +kernel
theorem dX0_boot_10 : decode cX0_boot 10 = .ok (.aload_n 0, 1) := by decide +kernel
theorem dX0_boot_11 : decode cX0_boot 11 = .ok (.iload_n 3, 1) := by decide +kernel
theorem dX0_boot_12 : decode cX0_boot 12 = .ok (.putfield 24, 3) := by decide +kernel
theorem dX0_boot_15 : decode cX0_boot 15 = .ok (.aload_n 0, 1) := by decide +kernel
theorem dX0_boot_16 : decode cX0_boot 16 = .ok (.iload 4, 2) := by decide +kernel
theorem dX0_boot_18 : decode cX0_boot 18 = .ok (.putfield 27, 3) := by decide +kernel
theorem dX0_boot_21 : decode cX0_boot 21 = .ok (.aload_n 0, 1) := by decide +kernel
theorem dX0_boot_22 : decode cX0_boot 22 = .ok (.iload_n 2, 1) := by decide +kernel
theorem dX0_boot_23 : decode cX0_boot 23 = .ok (.invokestatic 42, 3) := by decide +kernel
theorem dX0_boot_26 : decode cX0_boot 26 = .ok (.ifCond .eq 12, 3) := by decide +kernel
theorem dX0_boot_29 : decode cX0_boot 29 = .ok (.aload_n 0, 1) := by decide +kernel
theorem dX0_boot_30 : decode cX0_boot 30 = .ok (.getfield 9, 3) := by decide +kernel
theorem dX0_boot_33 : decode cX0_boot 33 = .ok (.iload_n 2, 1) := by decide +kernel
theorem dX0_boot_34 : decode cX0_boot 34 = .ok (.iaload, 1) := by decide +kernel
theorem dX0_boot_35 : decode cX0_boot 35 = .ok (.goto 4, 3) := by decide +kernel
theorem dX0_boot_38 : decode cX0_boot 38 = .ok (.iconst 0, 1) := by decide +kernel
theorem dX0_boot_39 : decode cX0_boot 39 = .ok (.putfield 30, 3) := by decide +kernel
theorem dX0_boot_42 : decode cX0_boot 42 = .ok (.aload_n 0, 1) := by decide +kernel
theorem dX0_boot_43 : decode cX0_boot 43 = .ok (.iconst 0, 1) := by decide +kernel
theorem dX0_boot_44 : decode cX0_boot 44 = .ok (.putfield 33, 3) := by decide +kernel
theorem dX0_boot_47 : decode cX0_boot 47 = .ok (.aload_n 0, 1) := by decide +kernel
theorem dX0_boot_48 : decode cX0_boot 48 = .ok (.iconst 0, 1) := by decide +kernel
theorem dX0_boot_49 : decode cX0_boot 49 = .ok (.putfield 36, 3) := by decide +kernel
theorem dX0_boot_52 : decode cX0_boot 52 = .ok (.aload_n 0, 1) := by decide +kernel
theorem dX0_boot_53 : decode cX0_boot 53 = .ok (.iconst 0, 1) := by decide +kernel
theorem dX0_boot_54 : decode cX0_boot 54 = .ok (.putfield 39, 3) := by decide +kernel
theorem dX0_boot_57 : decode cX0_boot 57 = .ok (.return_, 1) := by decide +kernel
theorem dX0_run_0 : decode cX0_run 0 = .ok (.iload_n 1, 1) := by decide +kernel
theorem dX0_run_1 : decode cX0_run 1 = .ok (.ifCond .lt 10, 3) := by decide +kernel
theorem dX0_run_4 : decode cX0_run 4 = .ok (.iload_n 1, 1) := by decide +kernel
theorem dX0_run_5 : decode cX0_run 5 = .ok (.sipush 1000, 3) := by decide +kernel
theorem dX0_run_8 : decode cX0_run 8 = .ok (.if_icmp .le 13, 3) := by decide +kernel
theorem dX0_run_11 : decode cX0_run 11 = .ok (.new 59, 3) := by decide +kernel
theorem dX0_run_14 : decode cX0_run 14 = .ok (.dup, 1) := by decide +kernel
theorem dX0_run_15 : decode cX0_run 15 = .ok (.ldc 61, 2) := by decide +kernel
theorem dX0_run_17 : decode cX0_run 17 = .ok (.invokespecial 63, 3) := by decide +kernel
theorem dX0_run_20 : decode cX0_run 20 = .ok (.athrow, 1) := by decide +kernel
theorem dX0_run_21 : decode cX0_run 21 = .ok (.aload_n 0, 1) := by decide +kernel
theorem dX0_run_22 : decode cX0_run 22 = .ok (.getfield 33, 3) := by decide +kernel
theorem dX0_run_25 : decode cX0_run 25 = .ok (.ifCond .eq 13, 3) := by decide +kernel
theorem dX0_run_28 : decode cX0_run 28 = .ok (.new 64, 3) := by decide +kernel
theorem dX0_run_31 : decode cX0_run 31 = .ok (.dup, 1) := by decide +kernel
theorem dX0_run_32 : decode cX0_run 32 = .ok (.ldc 66, 2) := by decide +kernel
theorem dX0_run_34 : decode cX0_run 34 = .ok (.invokespecial 68, 3) := by decide +kernel
theorem dX0_run_37 : decode cX0_run 37 = .ok (.athrow, 1) := by decide +kernel
theorem dX0_run_38 : decode cX0_run 38 = .ok (.aload_n 0, 1) := by decide +kernel
theorem dX0_run_39 : decode cX0_run 39 = .ok (.getfield 39, 3) := by decide +kernel
theorem dX0_run_42 : decode cX0_run 42 = .ok (.istore_n 2, 1) := by decide +kernel
theorem dX0_run_43 : decode cX0_run 43 = .ok (.iconst 0, 1) := by decide +kernel
theorem dX0_run_44 : decode cX0_run 44 = .ok (.istore_n 3, 1) := by decide +kernel
theorem dX0_run_45 : decode cX0_run 45 = .ok (.iload_n 3, 1) := by decide +kernel
theorem dX0_run_46 : decode cX0_run 46 = .ok (.iload_n 1, 1) := by decide +kernel
theorem dX0_run_47 : decode cX0_run 47 = .ok (.if_icmp .ge 20, 3) := by decide +kernel
theorem dX0_run_50 : decode cX0_run 50 = .ok (.aload_n 0, 1) := by decide +kernel
theorem dX0_run_51 : decode cX0_run 51 = .ok (.getfield 33, 3) := by decide +kernel
theorem dX0_run_54 : decode cX0_run 54 = .ok (.ifCond .ne 13, 3) := by decide +kernel
theorem dX0_run_57 : decode cX0_run 57 = .ok (.aload_n 0, 1) := by decide +kernel
theorem dX0_run_58 : decode cX0_run 58 = .ok (.invokevirtual 69, 3) := by decide +kernel
theorem dX0_run_61 : decode cX0_run 61 = .ok (.iinc 3 1, 3) := by decide +kernel
theorem dX0_run_64 : decode cX0_run 64 = .ok (.goto (-19), 3) := by decide +kernel
theorem dX0_run_67 : decode cX0_run 67 = .ok (.aload_n 0, 1) := by decide +kernel
theorem dX0_run_68 : decode cX0_run 68 = .ok (.getfield 39, 3) := by decide +kernel
theorem dX0_run_71 : decode cX0_run 71 = .ok (.iload_n 2, 1) := by decide +kernel
theorem dX0_run_72 : decode cX0_run 72 = .ok (.isub, 1) := by decide +kernel
theorem dX0_run_73 : decode cX0_run 73 = .ok (.ireturn, 1) := by decide +kernel
theorem dX0_register_0 : decode cX0_register 0 = .ok (.iload_n 1, 1) := by decide +kernel
theorem dX0_register_1 : decode cX0_register 1 = .ok (.tableswitch 87 0 7 #[47, 52, 57, 62, 67, 72, 77, 82], 47) := by decide +kernel
theorem dX0_register_48 : decode cX0_register 48 = .ok (.aload_n 0, 1) := by decide +kernel
theorem dX0_register_49 : decode cX0_register 49 = .ok (.getfield 17, 3) := by decide +kernel
theorem dX0_register_52 : decode cX0_register 52 = .ok (.ireturn, 1) := by decide +kernel
theorem dX0_register_53 : decode cX0_register 53 = .ok (.aload_n 0, 1) := by decide +kernel
theorem dX0_register_54 : decode cX0_register 54 = .ok (.getfield 21, 3) := by decide +kernel
theorem dX0_register_57 : decode cX0_register 57 = .ok (.ireturn, 1) := by decide +kernel
theorem dX0_register_58 : decode cX0_register 58 = .ok (.aload_n 0, 1) := by decide +kernel
theorem dX0_register_59 : decode cX0_register 59 = .ok (.getfield 24, 3) := by decide +kernel
theorem dX0_register_62 : decode cX0_register 62 = .ok (.ireturn, 1) := by decide +kernel
theorem dX0_register_63 : decode cX0_register 63 = .ok (.aload_n 0, 1) := by decide +kernel
theorem dX0_register_64 : decode cX0_register 64 = .ok (.getfield 27, 3) := by decide +kernel
theorem dX0_register_67 : decode cX0_register 67 = .ok (.ireturn, 1) := by decide +kernel
theorem dX0_register_68 : decode cX0_register 68 = .ok (.aload_n 0, 1) := by decide +kernel
theorem dX0_register_69 : decode cX0_register 69 = .ok (.getfield 30, 3) := by decide +kernel
theorem dX0_register_72 : decode cX0_register 72 = .ok (.ireturn, 1) := by decide +kernel
theorem dX0_register_73 : decode cX0_register 73 = .ok (.aload_n 0, 1) := by decide +kernel
theorem dX0_register_74 : decode cX0_register 74 = .ok (.getfield 33, 3) := by decide +kernel
theorem dX0_register_77 : decode cX0_register 77 = .ok (.ireturn, 1) := by decide +kernel
theorem dX0_register_78 : decode cX0_register 78 = .ok (.aload_n 0, 1) := by decide +kernel
theorem dX0_register_79 : decode cX0_register 79 = .ok (.getfield 36, 3) := by decide +kernel
theorem dX0_register_82 : decode cX0_register 82 = .ok (.ireturn, 1) := by decide +kernel
theorem dX0_register_83 : decode cX0_register 83 = .ok (.aload_n 0, 1) := by decide +kernel
theorem dX0_register_84 : decode cX0_register 84 = .ok (.getfield 39, 3) := by decide +kernel
theorem dX0_register_87 : decode cX0_register 87 = .ok (.ireturn, 1) := by decide +kernel
theorem dX0_register_88 : decode cX0_register 88 = .ok (.new 59, 3) := by decide +kernel
theorem dX0_register_91 : decode cX0_register 91 = .ok (.dup, 1) := by decide +kernel
theorem dX0_register_92 : decode cX0_register 92 = .ok (.ldc 72, 2) := by decide +kernel
theorem dX0_register_94 : decode cX0_register 94 = .ok (.invokespecial 63, 3) := by decide +kernel
theorem dX0_register_97 : decode cX0_register 97 = .ok (.athrow, 1) := by decide +kernel
theorem dX0_look_0 : decode cX0_look 0 = .ok (.iload_n 1, 1) := by decide +kernel
theorem dX0_look_1 : decode cX0_look 1 = .ok (.invokestatic 42, 3) := by decide +kernel
theorem dX0_look_4 : decode cX0_look 4 = .ok (.ifCond .ne 13, 3) := by decide +kernel
theorem dX0_look_7 : decode cX0_look 7 = .ok (.new 46, 3) := by decide +kernel
theorem dX0_look_10 : decode cX0_look 10 = .ok (.dup, 1) := by decide +kernel
theorem dX0_look_11 : decode cX0_look 11 = .ok (.ldc 48, 2) := by decide +kernel
theorem dX0_look_13 : decode cX0_look 13 = .ok (.invokespecial 50, 3) := by decide +kernel
theorem dX0_look_16 : decode cX0_look 16 = .ok (.athrow, 1) := by decide +kernel
theorem dX0_look_17 : decode cX0_look 17 = .ok (.aload_n 0, 1) := by decide +kernel
theorem dX0_look_18 : decode cX0_look 18 = .ok (.getfield 9, 3) := by decide +kernel
theorem dX0_look_21 : decode cX0_look 21 = .ok (.iload_n 1, 1) := by decide +kernel
theorem dX0_look_22 : decode cX0_look 22 = .ok (.iaload, 1) := by decide +kernel
theorem dX0_look_23 : decode cX0_look 23 = .ok (.ireturn, 1) := by decide +kernel
theorem dX0_sum_0 : decode cX0_sum 0 = .ok (.iconst 0, 1) := by decide +kernel
theorem dX0_sum_1 : decode cX0_sum 1 = .ok (.istore_n 1, 1) := by decide +kernel
theorem dX0_sum_2 : decode cX0_sum 2 = .ok (.iconst 0, 1) := by decide +kernel
theorem dX0_sum_3 : decode cX0_sum 3 = .ok (.istore_n 2, 1) := by decide +kernel
theorem dX0_sum_4 : decode cX0_sum 4 = .ok (.iload_n 2, 1) := by decide +kernel
theorem dX0_sum_5 : decode cX0_sum 5 = .ok (.sipush 256, 3) := by decide +kernel
theorem dX0_sum_8 : decode cX0_sum 8 = .ok (.if_icmp .ge 21, 3) := by decide +kernel
theorem dX0_sum_11 : decode cX0_sum 11 = .ok (.bipush 31, 2) := by decide +kernel
theorem dX0_sum_13 : decode cX0_sum 13 = .ok (.iload_n 1, 1) := by decide +kernel
theorem dX0_sum_14 : decode cX0_sum 14 = .ok (.imul, 1) := by decide +kernel
theorem dX0_sum_15 : decode cX0_sum 15 = .ok (.aload_n 0, 1) := by decide +kernel
theorem dX0_sum_16 : decode cX0_sum 16 = .ok (.getfield 9, 3) := by decide +kernel
theorem dX0_sum_19 : decode cX0_sum 19 = .ok (.iload_n 2, 1) := by decide +kernel
theorem dX0_sum_20 : decode cX0_sum 20 = .ok (.iaload, 1) := by decide +kernel
theorem dX0_sum_21 : decode cX0_sum 21 = .ok (.iadd, 1) := by decide +kernel
theorem dX0_sum_22 : decode cX0_sum 22 = .ok (.istore_n 1, 1) := by decide +kernel
theorem dX0_sum_23 : decode cX0_sum 23 = .ok (.iinc 2 1, 3) := by decide +kernel
theorem dX0_sum_26 : decode cX0_sum 26 = .ok (.goto (-22), 3) := by decide +kernel
theorem dX0_sum_29 : decode cX0_sum 29 = .ok (.iload_n 1, 1) := by decide +kernel
theorem dX0_sum_30 : decode cX0_sum 30 = .ok (.ireturn, 1) := by decide +kernel
theorem dX0_step_0 : decode cX0_step 0 = .ok (.aload_n 0, 1) := by decide +kernel
theorem dX0_step_1 : decode cX0_step 1 = .ok (.getfield 17, 3) := by decide +kernel
theorem dX0_step_4 : decode cX0_step 4 = .ok (.iconst 1, 1) := by decide +kernel
theorem dX0_step_5 : decode cX0_step 5 = .ok (.invokestatic 53, 3) := by decide +kernel
theorem dX0_step_8 : decode cX0_step 8 = .ok (.ifCond .ne 8, 3) := by decide +kernel
theorem dX0_step_11 : decode cX0_step 11 = .ok (.aload_n 0, 1) := by decide +kernel
theorem dX0_step_12 : decode cX0_step 12 = .ok (.invokevirtual 74, 3) := by decide +kernel
theorem dX0_step_15 : decode cX0_step 15 = .ok (.return_, 1) := by decide +kernel
theorem dX0_step_16 : decode cX0_step 16 = .ok (.aload_n 0, 1) := by decide +kernel
theorem dX0_step_17 : decode cX0_step 17 = .ok (.aload_n 0, 1) := by decide +kernel
theorem dX0_step_18 : decode cX0_step 18 = .ok (.getfield 17, 3) := by decide +kernel
theorem dX0_step_21 : decode cX0_step 21 = .ok (.invokevirtual 77, 3) := by decide +kernel
theorem dX0_step_24 : decode cX0_step 24 = .ok (.istore_n 1, 1) := by decide +kernel
theorem dX0_step_25 : decode cX0_step 25 = .ok (.iload_n 1, 1) := by decide +kernel
theorem dX0_step_26 : decode cX0_step 26 = .ok (.lookupswitch 344 #[(0, 178), (16, 227), (19, 255), (21, 234), (54, 241), (87, 213), (89, 200), (95, 220), (96, 192), (100, 192), (126, 192), (128, 192), (132, 262), (153, 297), (155, 278), (159, 316), (167, 269), (172, 330), (182, 323), (196, 248), (255, 337)], 178) := by decide +kernel
theorem dX0_step_204 : decode cX0_step 204 = .ok (.aload_n 0, 1) := by decide +kernel
theorem dX0_step_205 : decode cX0_step 205 = .ok (.aload_n 0, 1) := by decide +kernel
theorem dX0_step_206 : decode cX0_step 206 = .ok (.getfield 17, 3) := by decide +kernel
theorem dX0_step_209 : decode cX0_step 209 = .ok (.iconst 1, 1) := by decide +kernel
theorem dX0_step_210 : decode cX0_step 210 = .ok (.iadd, 1) := by decide +kernel
theorem dX0_step_211 : decode cX0_step 211 = .ok (.iconst 2, 1) := by decide +kernel
theorem dX0_step_212 : decode cX0_step 212 = .ok (.invokevirtual 81, 3) := by decide +kernel
theorem dX0_step_215 : decode cX0_step 215 = .ok (.goto 159, 3) := by decide +kernel
theorem dX0_step_218 : decode cX0_step 218 = .ok (.aload_n 0, 1) := by decide +kernel
theorem dX0_step_219 : decode cX0_step 219 = .ok (.iload_n 1, 1) := by decide +kernel
theorem dX0_step_220 : decode cX0_step 220 = .ok (.invokevirtual 85, 3) := by decide +kernel
theorem dX0_step_223 : decode cX0_step 223 = .ok (.goto 151, 3) := by decide +kernel
theorem dX0_step_226 : decode cX0_step 226 = .ok (.aload_n 0, 1) := by decide +kernel
theorem dX0_step_227 : decode cX0_step 227 = .ok (.aload_n 0, 1) := by decide +kernel
theorem dX0_step_228 : decode cX0_step 228 = .ok (.getfield 30, 3) := by decide +kernel
theorem dX0_step_231 : decode cX0_step 231 = .ok (.iconst 1, 1) := by decide +kernel
theorem dX0_step_232 : decode cX0_step 232 = .ok (.iconst 3, 1) := by decide +kernel
theorem dX0_step_233 : decode cX0_step 233 = .ok (.invokevirtual 89, 3) := by decide +kernel
theorem dX0_step_236 : decode cX0_step 236 = .ok (.goto 138, 3) := by decide +kernel
theorem dX0_step_239 : decode cX0_step 239 = .ok (.aload_n 0, 1) := by decide +kernel
theorem dX0_step_240 : decode cX0_step 240 = .ok (.invokevirtual 93, 3) := by decide +kernel
theorem dX0_step_243 : decode cX0_step 243 = .ok (.goto 131, 3) := by decide +kernel
theorem dX0_step_246 : decode cX0_step 246 = .ok (.aload_n 0, 1) := by decide +kernel
theorem dX0_step_247 : decode cX0_step 247 = .ok (.invokevirtual 96, 3) := by decide +kernel
theorem dX0_step_250 : decode cX0_step 250 = .ok (.goto 124, 3) := by decide +kernel
theorem dX0_step_253 : decode cX0_step 253 = .ok (.aload_n 0, 1) := by decide +kernel
theorem dX0_step_254 : decode cX0_step 254 = .ok (.invokevirtual 99, 3) := by decide +kernel
theorem dX0_step_257 : decode cX0_step 257 = .ok (.goto 117, 3) := by decide +kernel
theorem dX0_step_260 : decode cX0_step 260 = .ok (.aload_n 0, 1) := by decide +kernel
theorem dX0_step_261 : decode cX0_step 261 = .ok (.invokevirtual 102, 3) := by decide +kernel
theorem dX0_step_264 : decode cX0_step 264 = .ok (.goto 110, 3) := by decide +kernel
theorem dX0_step_267 : decode cX0_step 267 = .ok (.aload_n 0, 1) := by decide +kernel
theorem dX0_step_268 : decode cX0_step 268 = .ok (.invokevirtual 105, 3) := by decide +kernel
theorem dX0_step_271 : decode cX0_step 271 = .ok (.goto 103, 3) := by decide +kernel
theorem dX0_step_274 : decode cX0_step 274 = .ok (.aload_n 0, 1) := by decide +kernel
theorem dX0_step_275 : decode cX0_step 275 = .ok (.invokevirtual 108, 3) := by decide +kernel
theorem dX0_step_278 : decode cX0_step 278 = .ok (.goto 96, 3) := by decide +kernel
theorem dX0_step_281 : decode cX0_step 281 = .ok (.aload_n 0, 1) := by decide +kernel
theorem dX0_step_282 : decode cX0_step 282 = .ok (.invokevirtual 111, 3) := by decide +kernel
theorem dX0_step_285 : decode cX0_step 285 = .ok (.goto 89, 3) := by decide +kernel
theorem dX0_step_288 : decode cX0_step 288 = .ok (.aload_n 0, 1) := by decide +kernel
theorem dX0_step_289 : decode cX0_step 289 = .ok (.invokevirtual 114, 3) := by decide +kernel
theorem dX0_step_292 : decode cX0_step 292 = .ok (.goto 82, 3) := by decide +kernel
theorem dX0_step_295 : decode cX0_step 295 = .ok (.aload_n 0, 1) := by decide +kernel
theorem dX0_step_296 : decode cX0_step 296 = .ok (.bipush 7, 2) := by decide +kernel
theorem dX0_step_298 : decode cX0_step 298 = .ok (.invokevirtual 117, 3) := by decide +kernel
theorem dX0_step_301 : decode cX0_step 301 = .ok (.goto 73, 3) := by decide +kernel
theorem dX0_step_304 : decode cX0_step 304 = .ok (.aload_n 0, 1) := by decide +kernel
theorem dX0_step_305 : decode cX0_step 305 = .ok (.aload_n 0, 1) := by decide +kernel
theorem dX0_step_306 : decode cX0_step 306 = .ok (.getfield 30, 3) := by decide +kernel
theorem dX0_step_309 : decode cX0_step 309 = .ok (.ifCond .ge 7, 3) := by decide +kernel
theorem dX0_step_312 : decode cX0_step 312 = .ok (.iconst 1, 1) := by decide +kernel
theorem dX0_step_313 : decode cX0_step 313 = .ok (.goto 4, 3) := by decide +kernel
theorem dX0_step_316 : decode cX0_step 316 = .ok (.iconst 0, 1) := by decide +kernel
theorem dX0_step_317 : decode cX0_step 317 = .ok (.invokevirtual 120, 3) := by decide +kernel
theorem dX0_step_320 : decode cX0_step 320 = .ok (.goto 54, 3) := by decide +kernel
theorem dX0_step_323 : decode cX0_step 323 = .ok (.aload_n 0, 1) := by decide +kernel
theorem dX0_step_324 : decode cX0_step 324 = .ok (.aload_n 0, 1) := by decide +kernel
theorem dX0_step_325 : decode cX0_step 325 = .ok (.getfield 30, 3) := by decide +kernel
theorem dX0_step_328 : decode cX0_step 328 = .ok (.ifCond .ne 7, 3) := by decide +kernel
theorem dX0_step_331 : decode cX0_step 331 = .ok (.iconst 1, 1) := by decide +kernel
theorem dX0_step_332 : decode cX0_step 332 = .ok (.goto 4, 3) := by decide +kernel
theorem dX0_step_335 : decode cX0_step 335 = .ok (.iconst 0, 1) := by decide +kernel
theorem dX0_step_336 : decode cX0_step 336 = .ok (.invokevirtual 120, 3) := by decide +kernel
theorem dX0_step_339 : decode cX0_step 339 = .ok (.goto 35, 3) := by decide +kernel
theorem dX0_step_342 : decode cX0_step 342 = .ok (.aload_n 0, 1) := by decide +kernel
theorem dX0_step_343 : decode cX0_step 343 = .ok (.invokevirtual 124, 3) := by decide +kernel
theorem dX0_step_346 : decode cX0_step 346 = .ok (.goto 28, 3) := by decide +kernel
theorem dX0_step_349 : decode cX0_step 349 = .ok (.aload_n 0, 1) := by decide +kernel
theorem dX0_step_350 : decode cX0_step 350 = .ok (.invokevirtual 127, 3) := by decide +kernel
theorem dX0_step_353 : decode cX0_step 353 = .ok (.goto 21, 3) := by decide +kernel
theorem dX0_step_356 : decode cX0_step 356 = .ok (.aload_n 0, 1) := by decide +kernel
theorem dX0_step_357 : decode cX0_step 357 = .ok (.invokevirtual 130, 3) := by decide +kernel
theorem dX0_step_360 : decode cX0_step 360 = .ok (.goto 14, 3) := by decide +kernel
theorem dX0_step_363 : decode cX0_step 363 = .ok (.aload_n 0, 1) := by decide +kernel
theorem dX0_step_364 : decode cX0_step 364 = .ok (.invokevirtual 133, 3) := by decide +kernel
theorem dX0_step_367 : decode cX0_step 367 = .ok (.goto 7, 3) := by decide +kernel
theorem dX0_step_370 : decode cX0_step 370 = .ok (.aload_n 0, 1) := by decide +kernel
theorem dX0_step_371 : decode cX0_step 371 = .ok (.invokevirtual 136, 3) := by decide +kernel
theorem dX0_step_374 : decode cX0_step 374 = .ok (.return_, 1) := by decide +kernel
theorem dX0_combine_0 : decode cX0_combine 0 = .ok (.aload_n 0, 1) := by decide +kernel
theorem dX0_combine_1 : decode cX0_combine 1 = .ok (.getfield 21, 3) := by decide +kernel
theorem dX0_combine_4 : decode cX0_combine 4 = .ok (.iconst 1, 1) := by decide +kernel
theorem dX0_combine_5 : decode cX0_combine 5 = .ok (.isub, 1) := by decide +kernel
theorem dX0_combine_6 : decode cX0_combine 6 = .ok (.istore_n 2, 1) := by decide +kernel
theorem dX0_combine_7 : decode cX0_combine 7 = .ok (.iload_n 2, 1) := by decide +kernel
theorem dX0_combine_8 : decode cX0_combine 8 = .ok (.invokestatic 42, 3) := by decide +kernel
theorem dX0_combine_11 : decode cX0_combine 11 = .ok (.ifCond .ne 8, 3) := by decide +kernel
theorem dX0_combine_14 : decode cX0_combine 14 = .ok (.aload_n 0, 1) := by decide +kernel
theorem dX0_combine_15 : decode cX0_combine 15 = .ok (.invokevirtual 74, 3) := by decide +kernel
theorem dX0_combine_18 : decode cX0_combine 18 = .ok (.return_, 1) := by decide +kernel
theorem dX0_combine_19 : decode cX0_combine 19 = .ok (.aload_n 0, 1) := by decide +kernel
theorem dX0_combine_20 : decode cX0_combine 20 = .ok (.iload_n 1, 1) := by decide +kernel
theorem dX0_combine_21 : decode cX0_combine 21 = .ok (.aload_n 0, 1) := by decide +kernel
theorem dX0_combine_22 : decode cX0_combine 22 = .ok (.getfield 9, 3) := by decide +kernel
theorem dX0_combine_25 : decode cX0_combine 25 = .ok (.iload_n 2, 1) := by decide +kernel
theorem dX0_combine_26 : decode cX0_combine 26 = .ok (.iaload, 1) := by decide +kernel
theorem dX0_combine_27 : decode cX0_combine 27 = .ok (.aload_n 0, 1) := by decide +kernel
theorem dX0_combine_28 : decode cX0_combine 28 = .ok (.getfield 30, 3) := by decide +kernel
theorem dX0_combine_31 : decode cX0_combine 31 = .ok (.invokestatic 139, 3) := by decide +kernel
theorem dX0_combine_34 : decode cX0_combine 34 = .ok (.putfield 30, 3) := by decide +kernel
theorem dX0_combine_37 : decode cX0_combine 37 = .ok (.aload_n 0, 1) := by decide +kernel
theorem dX0_combine_38 : decode cX0_combine 38 = .ok (.getfield 9, 3) := by decide +kernel
theorem dX0_combine_41 : decode cX0_combine 41 = .ok (.iload_n 2, 1) := by decide +kernel
theorem dX0_combine_42 : decode cX0_combine 42 = .ok (.aload_n 0, 1) := by decide +kernel
theorem dX0_combine_43 : decode cX0_combine 43 = .ok (.getfield 30, 3) := by decide +kernel
theorem dX0_combine_46 : decode cX0_combine 46 = .ok (.iastore, 1) := by decide +kernel
theorem dX0_combine_47 : decode cX0_combine 47 = .ok (.aload_n 0, 1) := by decide +kernel
theorem dX0_combine_48 : decode cX0_combine 48 = .ok (.iload_n 2, 1) := by decide +kernel
theorem dX0_combine_49 : decode cX0_combine 49 = .ok (.putfield 21, 3) := by decide +kernel
theorem dX0_combine_52 : decode cX0_combine 52 = .ok (.aload_n 0, 1) := by decide +kernel
theorem dX0_combine_53 : decode cX0_combine 53 = .ok (.aload_n 0, 1) := by decide +kernel
theorem dX0_combine_54 : decode cX0_combine 54 = .ok (.getfield 17, 3) := by decide +kernel
theorem dX0_combine_57 : decode cX0_combine 57 = .ok (.iconst 1, 1) := by decide +kernel
theorem dX0_combine_58 : decode cX0_combine 58 = .ok (.iadd, 1) := by decide +kernel
theorem dX0_combine_59 : decode cX0_combine 59 = .ok (.iconst 4, 1) := by decide +kernel
theorem dX0_combine_60 : decode cX0_combine 60 = .ok (.invokevirtual 81, 3) := by decide +kernel
theorem dX0_combine_63 : decode cX0_combine 63 = .ok (.return_, 1) := by decide +kernel
theorem dX0_combined_0 : decode cX0_combined 0 = .ok (.iload_n 0, 1) := by decide +kernel
theorem dX0_combined_1 : decode cX0_combined 1 = .ok (.lookupswitch 47 #[(96, 35), (100, 39), (126, 43)], 35) := by decide +kernel
theorem dX0_combined_36 : decode cX0_combined 36 = .ok (.iload_n 1, 1) := by decide +kernel
theorem dX0_combined_37 : decode cX0_combined 37 = .ok (.iload_n 2, 1) := by decide +kernel
theorem dX0_combined_38 : decode cX0_combined 38 = .ok (.iadd, 1) := by decide +kernel
theorem dX0_combined_39 : decode cX0_combined 39 = .ok (.ireturn, 1) := by decide +kernel
theorem dX0_combined_40 : decode cX0_combined 40 = .ok (.iload_n 1, 1) := by decide +kernel
theorem dX0_combined_41 : decode cX0_combined 41 = .ok (.iload_n 2, 1) := by decide +kernel
theorem dX0_combined_42 : decode cX0_combined 42 = .ok (.isub, 1) := by decide +kernel
theorem dX0_combined_43 : decode cX0_combined 43 = .ok (.ireturn, 1) := by decide +kernel
theorem dX0_combined_44 : decode cX0_combined 44 = .ok (.iload_n 1, 1) := by decide +kernel
theorem dX0_combined_45 : decode cX0_combined 45 = .ok (.iload_n 2, 1) := by decide +kernel
theorem dX0_combined_46 : decode cX0_combined 46 = .ok (.iand, 1) := by decide +kernel
theorem dX0_combined_47 : decode cX0_combined 47 = .ok (.ireturn, 1) := by decide +kernel
theorem dX0_combined_48 : decode cX0_combined 48 = .ok (.iload_n 1, 1) := by decide +kernel
theorem dX0_combined_49 : decode cX0_combined 49 = .ok (.iload_n 2, 1) := by decide +kernel
theorem dX0_combined_50 : decode cX0_combined 50 = .ok (.ior, 1) := by decide +kernel
theorem dX0_combined_51 : decode cX0_combined 51 = .ok (.ireturn, 1) := by decide +kernel
theorem dX0_push_0 : decode cX0_push 0 = .ok (.aload_n 0, 1) := by decide +kernel
theorem dX0_push_1 : decode cX0_push 1 = .ok (.getfield 21, 3) := by decide +kernel
theorem dX0_push_4 : decode cX0_push 4 = .ok (.iconst 1, 1) := by decide +kernel
theorem dX0_push_5 : decode cX0_push 5 = .ok (.iadd, 1) := by decide +kernel
theorem dX0_push_6 : decode cX0_push 6 = .ok (.istore 4, 2) := by decide +kernel
theorem dX0_push_8 : decode cX0_push 8 = .ok (.iload 4, 2) := by decide +kernel
theorem dX0_push_10 : decode cX0_push 10 = .ok (.invokestatic 42, 3) := by decide +kernel
theorem dX0_push_13 : decode cX0_push 13 = .ok (.ifCond .ne 8, 3) := by decide +kernel
theorem dX0_push_16 : decode cX0_push 16 = .ok (.aload_n 0, 1) := by decide +kernel
theorem dX0_push_17 : decode cX0_push 17 = .ok (.invokevirtual 74, 3) := by decide +kernel
theorem dX0_push_20 : decode cX0_push 20 = .ok (.return_, 1) := by decide +kernel
theorem dX0_push_21 : decode cX0_push 21 = .ok (.aload_n 0, 1) := by decide +kernel
theorem dX0_push_22 : decode cX0_push 22 = .ok (.iload 4, 2) := by decide +kernel
theorem dX0_push_24 : decode cX0_push 24 = .ok (.putfield 21, 3) := by decide +kernel
theorem dX0_push_27 : decode cX0_push 27 = .ok (.aload_n 0, 1) := by decide +kernel
theorem dX0_push_28 : decode cX0_push 28 = .ok (.iload_n 1, 1) := by decide +kernel
theorem dX0_push_29 : decode cX0_push 29 = .ok (.putfield 30, 3) := by decide +kernel
theorem dX0_push_32 : decode cX0_push 32 = .ok (.aload_n 0, 1) := by decide +kernel
theorem dX0_push_33 : decode cX0_push 33 = .ok (.getfield 9, 3) := by decide +kernel
theorem dX0_push_36 : decode cX0_push 36 = .ok (.iload 4, 2) := by decide +kernel
theorem dX0_push_38 : decode cX0_push 38 = .ok (.iload_n 1, 1) := by decide +kernel
theorem dX0_push_39 : decode cX0_push 39 = .ok (.iastore, 1) := by decide +kernel
theorem dX0_push_40 : decode cX0_push 40 = .ok (.aload_n 0, 1) := by decide +kernel
theorem dX0_push_41 : decode cX0_push 41 = .ok (.aload_n 0, 1) := by decide +kernel
theorem dX0_push_42 : decode cX0_push 42 = .ok (.getfield 17, 3) := by decide +kernel
theorem dX0_push_45 : decode cX0_push 45 = .ok (.iload_n 2, 1) := by decide +kernel
theorem dX0_push_46 : decode cX0_push 46 = .ok (.iadd, 1) := by decide +kernel
theorem dX0_push_47 : decode cX0_push 47 = .ok (.iload_n 3, 1) := by decide +kernel
theorem dX0_push_48 : decode cX0_push 48 = .ok (.invokevirtual 81, 3) := by decide +kernel
theorem dX0_push_51 : decode cX0_push 51 = .ok (.return_, 1) := by decide +kernel
theorem dX0_pop_0 : decode cX0_pop 0 = .ok (.aload_n 0, 1) := by decide +kernel
theorem dX0_pop_1 : decode cX0_pop 1 = .ok (.getfield 21, 3) := by decide +kernel
theorem dX0_pop_4 : decode cX0_pop 4 = .ok (.iconst 1, 1) := by decide +kernel
theorem dX0_pop_5 : decode cX0_pop 5 = .ok (.isub, 1) := by decide +kernel
theorem dX0_pop_6 : decode cX0_pop 6 = .ok (.istore_n 1, 1) := by decide +kernel
theorem dX0_pop_7 : decode cX0_pop 7 = .ok (.iload_n 1, 1) := by decide +kernel
theorem dX0_pop_8 : decode cX0_pop 8 = .ok (.invokestatic 42, 3) := by decide +kernel
theorem dX0_pop_11 : decode cX0_pop 11 = .ok (.ifCond .ne 8, 3) := by decide +kernel
theorem dX0_pop_14 : decode cX0_pop 14 = .ok (.aload_n 0, 1) := by decide +kernel
theorem dX0_pop_15 : decode cX0_pop 15 = .ok (.invokevirtual 74, 3) := by decide +kernel
theorem dX0_pop_18 : decode cX0_pop 18 = .ok (.return_, 1) := by decide +kernel
theorem dX0_pop_19 : decode cX0_pop 19 = .ok (.aload_n 0, 1) := by decide +kernel
theorem dX0_pop_20 : decode cX0_pop 20 = .ok (.iload_n 1, 1) := by decide +kernel
theorem dX0_pop_21 : decode cX0_pop 21 = .ok (.putfield 21, 3) := by decide +kernel
theorem dX0_pop_24 : decode cX0_pop 24 = .ok (.aload_n 0, 1) := by decide +kernel
theorem dX0_pop_25 : decode cX0_pop 25 = .ok (.aload_n 0, 1) := by decide +kernel
theorem dX0_pop_26 : decode cX0_pop 26 = .ok (.getfield 9, 3) := by decide +kernel
theorem dX0_pop_29 : decode cX0_pop 29 = .ok (.iload_n 1, 1) := by decide +kernel
theorem dX0_pop_30 : decode cX0_pop 30 = .ok (.iaload, 1) := by decide +kernel
theorem dX0_pop_31 : decode cX0_pop 31 = .ok (.putfield 30, 3) := by decide +kernel
theorem dX0_pop_34 : decode cX0_pop 34 = .ok (.aload_n 0, 1) := by decide +kernel
theorem dX0_pop_35 : decode cX0_pop 35 = .ok (.aload_n 0, 1) := by decide +kernel
theorem dX0_pop_36 : decode cX0_pop 36 = .ok (.getfield 17, 3) := by decide +kernel
theorem dX0_pop_39 : decode cX0_pop 39 = .ok (.iconst 1, 1) := by decide +kernel
theorem dX0_pop_40 : decode cX0_pop 40 = .ok (.iadd, 1) := by decide +kernel
theorem dX0_pop_41 : decode cX0_pop 41 = .ok (.iconst 4, 1) := by decide +kernel
theorem dX0_pop_42 : decode cX0_pop 42 = .ok (.invokevirtual 81, 3) := by decide +kernel
theorem dX0_pop_45 : decode cX0_pop 45 = .ok (.return_, 1) := by decide +kernel
theorem dX0_swap_0 : decode cX0_swap 0 = .ok (.aload_n 0, 1) := by decide +kernel
theorem dX0_swap_1 : decode cX0_swap 1 = .ok (.getfield 21, 3) := by decide +kernel
theorem dX0_swap_4 : decode cX0_swap 4 = .ok (.iconst 1, 1) := by decide +kernel
theorem dX0_swap_5 : decode cX0_swap 5 = .ok (.isub, 1) := by decide +kernel
theorem dX0_swap_6 : decode cX0_swap 6 = .ok (.istore_n 1, 1) := by decide +kernel
theorem dX0_swap_7 : decode cX0_swap 7 = .ok (.aload_n 0, 1) := by decide +kernel
theorem dX0_swap_8 : decode cX0_swap 8 = .ok (.getfield 21, 3) := by decide +kernel
theorem dX0_swap_11 : decode cX0_swap 11 = .ok (.invokestatic 42, 3) := by decide +kernel
theorem dX0_swap_14 : decode cX0_swap 14 = .ok (.ifCond .eq 10, 3) := by decide +kernel
theorem dX0_swap_17 : decode cX0_swap 17 = .ok (.iload_n 1, 1) := by decide +kernel
theorem dX0_swap_18 : decode cX0_swap 18 = .ok (.invokestatic 42, 3) := by decide +kernel
theorem dX0_swap_21 : decode cX0_swap 21 = .ok (.ifCond .ne 8, 3) := by decide +kernel
theorem dX0_swap_24 : decode cX0_swap 24 = .ok (.aload_n 0, 1) := by decide +kernel
theorem dX0_swap_25 : decode cX0_swap 25 = .ok (.invokevirtual 74, 3) := by decide +kernel
theorem dX0_swap_28 : decode cX0_swap 28 = .ok (.return_, 1) := by decide +kernel
theorem dX0_swap_29 : decode cX0_swap 29 = .ok (.aload_n 0, 1) := by decide +kernel
theorem dX0_swap_30 : decode cX0_swap 30 = .ok (.getfield 9, 3) := by decide +kernel
theorem dX0_swap_33 : decode cX0_swap 33 = .ok (.iload_n 1, 1) := by decide +kernel
theorem dX0_swap_34 : decode cX0_swap 34 = .ok (.iaload, 1) := by decide +kernel
theorem dX0_swap_35 : decode cX0_swap 35 = .ok (.istore_n 2, 1) := by decide +kernel
theorem dX0_swap_36 : decode cX0_swap 36 = .ok (.aload_n 0, 1) := by decide +kernel
theorem dX0_swap_37 : decode cX0_swap 37 = .ok (.getfield 9, 3) := by decide +kernel
theorem dX0_swap_40 : decode cX0_swap 40 = .ok (.aload_n 0, 1) := by decide +kernel
theorem dX0_swap_41 : decode cX0_swap 41 = .ok (.getfield 21, 3) := by decide +kernel
theorem dX0_swap_44 : decode cX0_swap 44 = .ok (.iload_n 2, 1) := by decide +kernel
theorem dX0_swap_45 : decode cX0_swap 45 = .ok (.iastore, 1) := by decide +kernel
theorem dX0_swap_46 : decode cX0_swap 46 = .ok (.aload_n 0, 1) := by decide +kernel
theorem dX0_swap_47 : decode cX0_swap 47 = .ok (.getfield 9, 3) := by decide +kernel
theorem dX0_swap_50 : decode cX0_swap 50 = .ok (.iload_n 1, 1) := by decide +kernel
theorem dX0_swap_51 : decode cX0_swap 51 = .ok (.aload_n 0, 1) := by decide +kernel
theorem dX0_swap_52 : decode cX0_swap 52 = .ok (.getfield 30, 3) := by decide +kernel
theorem dX0_swap_55 : decode cX0_swap 55 = .ok (.iastore, 1) := by decide +kernel
theorem dX0_swap_56 : decode cX0_swap 56 = .ok (.aload_n 0, 1) := by decide +kernel
theorem dX0_swap_57 : decode cX0_swap 57 = .ok (.iload_n 2, 1) := by decide +kernel
theorem dX0_swap_58 : decode cX0_swap 58 = .ok (.putfield 30, 3) := by decide +kernel
theorem dX0_swap_61 : decode cX0_swap 61 = .ok (.aload_n 0, 1) := by decide +kernel
theorem dX0_swap_62 : decode cX0_swap 62 = .ok (.aload_n 0, 1) := by decide +kernel
theorem dX0_swap_63 : decode cX0_swap 63 = .ok (.getfield 17, 3) := by decide +kernel
theorem dX0_swap_66 : decode cX0_swap 66 = .ok (.iconst 1, 1) := by decide +kernel
theorem dX0_swap_67 : decode cX0_swap 67 = .ok (.iadd, 1) := by decide +kernel
theorem dX0_swap_68 : decode cX0_swap 68 = .ok (.bipush 7, 2) := by decide +kernel
theorem dX0_swap_70 : decode cX0_swap 70 = .ok (.invokevirtual 81, 3) := by decide +kernel
theorem dX0_swap_73 : decode cX0_swap 73 = .ok (.return_, 1) := by decide +kernel
theorem dX0_pushByte_0 : decode cX0_pushByte 0 = .ok (.aload_n 0, 1) := by decide +kernel
theorem dX0_pushByte_1 : decode cX0_pushByte 1 = .ok (.getfield 17, 3) := by decide +kernel
theorem dX0_pushByte_4 : decode cX0_pushByte 4 = .ok (.iconst 2, 1) := by decide +kernel
theorem dX0_pushByte_5 : decode cX0_pushByte 5 = .ok (.invokestatic 53, 3) := by decide +kernel
theorem dX0_pushByte_8 : decode cX0_pushByte 8 = .ok (.ifCond .ne 8, 3) := by decide +kernel
theorem dX0_pushByte_11 : decode cX0_pushByte 11 = .ok (.aload_n 0, 1) := by decide +kernel
theorem dX0_pushByte_12 : decode cX0_pushByte 12 = .ok (.invokevirtual 74, 3) := by decide +kernel
theorem dX0_pushByte_15 : decode cX0_pushByte 15 = .ok (.return_, 1) := by decide +kernel
theorem dX0_pushByte_16 : decode cX0_pushByte 16 = .ok (.aload_n 0, 1) := by decide +kernel
theorem dX0_pushByte_17 : decode cX0_pushByte 17 = .ok (.aload_n 0, 1) := by decide +kernel
theorem dX0_pushByte_18 : decode cX0_pushByte 18 = .ok (.getfield 13, 3) := by decide +kernel
theorem dX0_pushByte_21 : decode cX0_pushByte 21 = .ok (.aload_n 0, 1) := by decide +kernel
theorem dX0_pushByte_22 : decode cX0_pushByte 22 = .ok (.getfield 17, 3) := by decide +kernel
theorem dX0_pushByte_25 : decode cX0_pushByte 25 = .ok (.iconst 1, 1) := by decide +kernel
theorem dX0_pushByte_26 : decode cX0_pushByte 26 = .ok (.iadd, 1) := by decide +kernel
theorem dX0_pushByte_27 : decode cX0_pushByte 27 = .ok (.baload, 1) := by decide +kernel
theorem dX0_pushByte_28 : decode cX0_pushByte 28 = .ok (.iconst 2, 1) := by decide +kernel
theorem dX0_pushByte_29 : decode cX0_pushByte 29 = .ok (.iconst 4, 1) := by decide +kernel
theorem dX0_pushByte_30 : decode cX0_pushByte 30 = .ok (.invokevirtual 89, 3) := by decide +kernel
theorem dX0_pushByte_33 : decode cX0_pushByte 33 = .ok (.return_, 1) := by decide +kernel
theorem dX0_loadNarrow_0 : decode cX0_loadNarrow 0 = .ok (.aload_n 0, 1) := by decide +kernel
theorem dX0_loadNarrow_1 : decode cX0_loadNarrow 1 = .ok (.getfield 17, 3) := by decide +kernel
theorem dX0_loadNarrow_4 : decode cX0_loadNarrow 4 = .ok (.iconst 2, 1) := by decide +kernel
theorem dX0_loadNarrow_5 : decode cX0_loadNarrow 5 = .ok (.invokestatic 53, 3) := by decide +kernel
theorem dX0_loadNarrow_8 : decode cX0_loadNarrow 8 = .ok (.ifCond .ne 8, 3) := by decide +kernel
theorem dX0_loadNarrow_11 : decode cX0_loadNarrow 11 = .ok (.aload_n 0, 1) := by decide +kernel
theorem dX0_loadNarrow_12 : decode cX0_loadNarrow 12 = .ok (.invokevirtual 74, 3) := by decide +kernel
theorem dX0_loadNarrow_15 : decode cX0_loadNarrow 15 = .ok (.return_, 1) := by decide +kernel
theorem dX0_loadNarrow_16 : decode cX0_loadNarrow 16 = .ok (.aload_n 0, 1) := by decide +kernel
theorem dX0_loadNarrow_17 : decode cX0_loadNarrow 17 = .ok (.aload_n 0, 1) := by decide +kernel
theorem dX0_loadNarrow_18 : decode cX0_loadNarrow 18 = .ok (.getfield 24, 3) := by decide +kernel
theorem dX0_loadNarrow_21 : decode cX0_loadNarrow 21 = .ok (.aload_n 0, 1) := by decide +kernel
theorem dX0_loadNarrow_22 : decode cX0_loadNarrow 22 = .ok (.aload_n 0, 1) := by decide +kernel
theorem dX0_loadNarrow_23 : decode cX0_loadNarrow 23 = .ok (.getfield 17, 3) := by decide +kernel
theorem dX0_loadNarrow_26 : decode cX0_loadNarrow 26 = .ok (.iconst 1, 1) := by decide +kernel
theorem dX0_loadNarrow_27 : decode cX0_loadNarrow 27 = .ok (.iadd, 1) := by decide +kernel
theorem dX0_loadNarrow_28 : decode cX0_loadNarrow 28 = .ok (.invokevirtual 77, 3) := by decide +kernel
theorem dX0_loadNarrow_31 : decode cX0_loadNarrow 31 = .ok (.iadd, 1) := by decide +kernel
theorem dX0_loadNarrow_32 : decode cX0_loadNarrow 32 = .ok (.iconst 2, 1) := by decide +kernel
theorem dX0_loadNarrow_33 : decode cX0_loadNarrow 33 = .ok (.bipush 6, 2) := by decide +kernel
theorem dX0_loadNarrow_35 : decode cX0_loadNarrow 35 = .ok (.invokevirtual 143, 3) := by decide +kernel
theorem dX0_loadNarrow_38 : decode cX0_loadNarrow 38 = .ok (.return_, 1) := by decide +kernel
theorem dX0_storeNarrow_0 : decode cX0_storeNarrow 0 = .ok (.aload_n 0, 1) := by decide +kernel
theorem dX0_storeNarrow_1 : decode cX0_storeNarrow 1 = .ok (.getfield 17, 3) := by decide +kernel
theorem dX0_storeNarrow_4 : decode cX0_storeNarrow 4 = .ok (.iconst 2, 1) := by decide +kernel
theorem dX0_storeNarrow_5 : decode cX0_storeNarrow 5 = .ok (.invokestatic 53, 3) := by decide +kernel
theorem dX0_storeNarrow_8 : decode cX0_storeNarrow 8 = .ok (.ifCond .ne 8, 3) := by decide +kernel
theorem dX0_storeNarrow_11 : decode cX0_storeNarrow 11 = .ok (.aload_n 0, 1) := by decide +kernel
theorem dX0_storeNarrow_12 : decode cX0_storeNarrow 12 = .ok (.invokevirtual 74, 3) := by decide +kernel
theorem dX0_storeNarrow_15 : decode cX0_storeNarrow 15 = .ok (.return_, 1) := by decide +kernel
theorem dX0_storeNarrow_16 : decode cX0_storeNarrow 16 = .ok (.aload_n 0, 1) := by decide +kernel
theorem dX0_storeNarrow_17 : decode cX0_storeNarrow 17 = .ok (.aload_n 0, 1) := by decide +kernel
theorem dX0_storeNarrow_18 : decode cX0_storeNarrow 18 = .ok (.getfield 24, 3) := by decide +kernel
theorem dX0_storeNarrow_21 : decode cX0_storeNarrow 21 = .ok (.aload_n 0, 1) := by decide +kernel
theorem dX0_storeNarrow_22 : decode cX0_storeNarrow 22 = .ok (.aload_n 0, 1) := by decide +kernel
theorem dX0_storeNarrow_23 : decode cX0_storeNarrow 23 = .ok (.getfield 17, 3) := by decide +kernel
theorem dX0_storeNarrow_26 : decode cX0_storeNarrow 26 = .ok (.iconst 1, 1) := by decide +kernel
theorem dX0_storeNarrow_27 : decode cX0_storeNarrow 27 = .ok (.iadd, 1) := by decide +kernel

theorem dX1_init_0 : decode cX1_init 0 = .ok (.aload_n 0, 1) := by decide +kernel
theorem dX1_init_1 : decode cX1_init 1 = .ok (.invokespecial 1, 3) := by decide +kernel
theorem dX1_init_4 : decode cX1_init 4 = .ok (.aload_n 0, 1) := by decide +kernel
theorem dX1_init_5 : decode cX1_init 5 = .ok (.sipush 256, 3) := by decide +kernel
theorem dX1_init_8 : decode cX1_init 8 = .ok (.newarray .int, 2) := by decide +kernel
theorem dX1_init_10 : decode cX1_init 10 = .ok (.putfield 7, 3) := by decide +kernel
theorem dX1_init_13 : decode cX1_init 13 = .ok (.aload_n 0, 1) := by decide +kernel
theorem dX1_init_14 : decode cX1_init 14 = .ok (.sipush 512, 3) := by decide +kernel
theorem dX1_init_17 : decode cX1_init 17 = .ok (.newarray .int, 2) := by decide +kernel
theorem dX1_init_19 : decode cX1_init 19 = .ok (.putfield 13, 3) := by decide +kernel
theorem dX1_init_22 : decode cX1_init 22 = .ok (.aload_n 0, 1) := by decide +kernel
theorem dX1_init_23 : decode cX1_init 23 = .ok (.bipush 8, 2) := by decide +kernel
theorem dX1_init_25 : decode cX1_init 25 = .ok (.newarray .int, 2) := by decide +kernel
theorem dX1_init_27 : decode cX1_init 27 = .ok (.putfield 16, 3) := by decide +kernel
theorem dX1_init_30 : decode cX1_init 30 = .ok (.aload_n 0, 1) := by decide +kernel
theorem dX1_init_31 : decode cX1_init 31 = .ok (.bipush 8, 2) := by decide +kernel
theorem dX1_init_33 : decode cX1_init 33 = .ok (.newarray .int, 2) := by decide +kernel
theorem dX1_init_35 : decode cX1_init 35 = .ok (.putfield 19, 3) := by decide +kernel
theorem dX1_init_38 : decode cX1_init 38 = .ok (.return_, 1) := by decide +kernel
theorem dX1_thrown_0 : decode cX1_thrown 0 = .ok (.aload_n 0, 1) := by decide +kernel
theorem dX1_thrown_1 : decode cX1_thrown 1 = .ok (.getfield 22, 3) := by decide +kernel
theorem dX1_thrown_4 : decode cX1_thrown 4 = .ok (.ireturn, 1) := by decide +kernel
theorem dX1_isWord_0 : decode cX1_isWord 0 = .ok (.iload_n 0, 1) := by decide +kernel
theorem dX1_isWord_1 : decode cX1_isWord 1 = .ok (.ifCond .lt 14, 3) := by decide +kernel
theorem dX1_isWord_4 : decode cX1_isWord 4 = .ok (.iload_n 0, 1) := by decide +kernel
theorem dX1_isWord_5 : decode cX1_isWord 5 = .ok (.sipush 256, 3) := by decide +kernel
theorem dX1_isWord_8 : decode cX1_isWord 8 = .ok (.if_icmp .ge 7, 3) := by decide +kernel
theorem dX1_isWord_11 : decode cX1_isWord 11 = .ok (.iconst 1, 1) := by decide +kernel
theorem dX1_isWord_12 : decode cX1_isWord 12 = .ok (.goto 4, 3) := by decide +kernel
theorem dX1_isWord_15 : decode cX1_isWord 15 = .ok (.iconst 0, 1) := by decide +kernel
theorem dX1_isWord_16 : decode cX1_isWord 16 = .ok (.ireturn, 1) := by decide +kernel
theorem dX1_word_0 : decode cX1_word 0 = .ok (.aload_n 0, 1) := by decide +kernel
theorem dX1_word_1 : decode cX1_word 1 = .ok (.iload_n 1, 1) := by decide +kernel
theorem dX1_word_2 : decode cX1_word 2 = .ok (.invokestatic 26, 3) := by decide +kernel
theorem dX1_word_5 : decode cX1_word 5 = .ok (.ifCond .eq 7, 3) := by decide +kernel
theorem dX1_word_8 : decode cX1_word 8 = .ok (.iconst 0, 1) := by decide +kernel
theorem dX1_word_9 : decode cX1_word 9 = .ok (.goto 4, 3) := by decide +kernel
theorem dX1_word_12 : decode cX1_word 12 = .ok (.iconst 1, 1) := by decide +kernel
theorem dX1_word_13 : decode cX1_word 13 = .ok (.putfield 22, 3) := by decide +kernel
theorem dX1_word_16 : decode cX1_word 16 = .ok (.aload_n 0, 1) := by decide +kernel
theorem dX1_word_17 : decode cX1_word 17 = .ok (.getfield 22, 3) := by decide +kernel
theorem dX1_word_20 : decode cX1_word 20 = .ok (.ifCond .ne 10, 3) := by decide +kernel
theorem dX1_word_23 : decode cX1_word 23 = .ok (.aload_n 0, 1) := by decide +kernel
theorem dX1_word_24 : decode cX1_word 24 = .ok (.getfield 7, 3) := by decide +kernel
theorem dX1_word_27 : decode cX1_word 27 = .ok (.iload_n 1, 1) := by decide +kernel
theorem dX1_word_28 : decode cX1_word 28 = .ok (.iload_n 2, 1) := by decide +kernel
theorem dX1_word_29 : decode cX1_word 29 = .ok (.iastore, 1) := by decide +kernel
theorem dX1_word_30 : decode cX1_word 30 = .ok (.return_, 1) := by decide +kernel
theorem dX1_code_0 : decode cX1_code 0 = .ok (.aload_n 0, 1) := by decide +kernel
theorem dX1_code_1 : decode cX1_code 1 = .ok (.iload_n 1, 1) := by decide +kernel
theorem dX1_code_2 : decode cX1_code 2 = .ok (.ifCond .lt 14, 3) := by decide +kernel
theorem dX1_code_5 : decode cX1_code 5 = .ok (.iload_n 1, 1) := by decide +kernel
theorem dX1_code_6 : decode cX1_code 6 = .ok (.sipush 508, 3) := by decide +kernel
theorem dX1_code_9 : decode cX1_code 9 = .ok (.if_icmp .gt 7, 3) := by decide +kernel
theorem dX1_code_12 : decode cX1_code 12 = .ok (.iconst 0, 1) := by decide +kernel
theorem dX1_code_13 : decode cX1_code 13 = .ok (.goto 4, 3) := by decide +kernel
theorem dX1_code_16 : decode cX1_code 16 = .ok (.iconst 1, 1) := by decide +kernel
theorem dX1_code_17 : decode cX1_code 17 = .ok (.putfield 22, 3) := by decide +kernel
theorem dX1_code_20 : decode cX1_code 20 = .ok (.iconst 0, 1) := by decide +kernel
theorem dX1_code_21 : decode cX1_code 21 = .ok (.istore_n 3, 1) := by decide +kernel
theorem dX1_code_22 : decode cX1_code 22 = .ok (.iload_n 3, 1) := by decide +kernel
theorem dX1_code_23 : decode cX1_code 23 = .ok (.iconst 4, 1) := by decide +kernel
theorem dX1_code_24 : decode cX1_code 24 = .ok (.if_icmp .ge 34, 3) := by decide +kernel
theorem dX1_code_27 : decode cX1_code 27 = .ok (.aload_n 0, 1) := by decide +kernel
theorem dX1_code_28 : decode cX1_code 28 = .ok (.getfield 22, 3) := by decide +kernel
theorem dX1_code_31 : decode cX1_code 31 = .ok (.ifCond .ne 27, 3) := by decide +kernel
theorem dX1_code_34 : decode cX1_code 34 = .ok (.aload_n 0, 1) := by decide +kernel
theorem dX1_code_35 : decode cX1_code 35 = .ok (.getfield 13, 3) := by decide +kernel
theorem dX1_code_38 : decode cX1_code 38 = .ok (.iload_n 1, 1) := by decide +kernel
theorem dX1_code_39 : decode cX1_code 39 = .ok (.iload_n 3, 1) := by decide +kernel
theorem dX1_code_40 : decode cX1_code 40 = .ok (.iadd, 1) := by decide +kernel
theorem dX1_code_41 : decode cX1_code 41 = .ok (.iload_n 2, 1) := by decide +kernel
theorem dX1_code_42 : decode cX1_code 42 = .ok (.bipush 8, 2) := by decide +kernel
theorem dX1_code_44 : decode cX1_code 44 = .ok (.iload_n 3, 1) := by decide +kernel
theorem dX1_code_45 : decode cX1_code 45 = .ok (.imul, 1) := by decide +kernel
theorem dX1_code_46 : decode cX1_code 46 = .ok (.ishr, 1) := by decide +kernel
theorem dX1_code_47 : decode cX1_code 47 = .ok (.sipush 255, 3) := by decide +kernel
theorem dX1_code_50 : decode cX1_code 50 = .ok (.iand, 1) := by decide +kernel
theorem dX1_code_51 : decode cX1_code 51 = .ok (.iastore, 1) := by decide +kernel
theorem dX1_code_52 : decode cX1_code 52 = .ok (.iinc 3 1, 3) := by decide +kernel
theorem dX1_code_55 : decode cX1_code 55 = .ok (.goto (-33), 3) := by decide +kernel
theorem dX1_code_58 : decode cX1_code 58 = .ok (.return_, 1) := by decide +kernel
theorem dX1_boot_0 : decode cX1_boot 0 = .ok (.aload_n 0, 1) := by decide +kernel
theorem dX1_boot_1 : decode cX1_boot 1 = .ok (.iconst 0, 1) := by decide +kernel
theorem dX1_boot_2 : decode cX1_boot 2 = .ok (.putfield 22, 3) := by decide +kernel
theorem dX1_boot_5 : decode cX1_boot 5 = .ok (.aload_n 0, 1) := by decide +kernel
theorem dX1_boot_6 : decode cX1_boot 6 = .ok (.iload_n 1, 1) := by decide +kernel
theorem dX1_boot_7 : decode cX1_boot 7 = .ok (.putfield 30, 3) := by decide +kernel
theorem dX1_boot_10 : decode cX1_boot 10 = .ok (.aload_n 0, 1) := by decide +kernel
theorem dX1_boot_11 : decode cX1_boot 11 = .ok (.iload_n 2, 1) := by decide +kernel
theorem dX1_boot_12 : decode cX1_boot 12 = .ok (.putfield 33, 3) := by decide +kernel
theorem dX1_boot_15 : decode cX1_boot 15 = .ok (.aload_n 0, 1) := by decide +kernel
theorem dX1_boot_16 : decode cX1_boot 16 = .ok (.iload_n 3, 1) := by decide +kernel
theorem dX1_boot_17 : decode cX1_boot 17 = .ok (.putfield 36, 3) := by decide +kernel
theorem dX1_boot_20 : decode cX1_boot 20 = .ok (.aload_n 0, 1) := by decide +kernel
theorem dX1_boot_21 : decode cX1_boot 21 = .ok (.iload 4, 2) := by decide +kernel
theorem dX1_boot_23 : decode cX1_boot 23 = .ok (.putfield 39, 3) := by decide +kernel
theorem dX1_boot_26 : decode cX1_boot 26 = .ok (.aload_n 0, 1) := by decide +kernel
theorem dX1_boot_27 : decode cX1_boot 27 = .ok (.aload_n 0, 1) := by decide +kernel
theorem dX1_boot_28 : decode cX1_boot 28 = .ok (.getfield 33, 3) := by decide +kernel
theorem dX1_boot_31 : decode cX1_boot 31 = .ok (.invokestatic 26, 3) := by decide +kernel
theorem dX1_boot_34 : decode cX1_boot 34 = .ok (.ifCond .eq 15, 3) := by decide +kernel
theorem dX1_boot_37 : decode cX1_boot 37 = .ok (.aload_n 0, 1) := by decide +kernel
theorem dX1_boot_38 : decode cX1_boot 38 = .ok (.getfield 7, 3) := by decide +kernel
theorem dX1_boot_41 : decode cX1_boot 41 = .ok (.aload_n 0, 1) := by decide +kernel
theorem dX1_boot_42 : decode cX1_boot 42 = .ok (.getfield 33, 3) := by decide +kernel
theorem dX1_boot_45 : decode cX1_boot 45 = .ok (.iaload, 1) := by decide +kernel
theorem dX1_boot_46 : decode cX1_boot 46 = .ok (.goto 4, 3) := by decide +kernel
theorem dX1_boot_49 : decode cX1_boot 49 = .ok (.iconst 0, 1) := by decide +kernel
theorem dX1_boot_50 : decode cX1_boot 50 = .ok (.putfield 42, 3) := by decide +kernel
theorem dX1_boot_53 : decode cX1_boot 53 = .ok (.aload_n 0, 1) := by decide +kernel
theorem dX1_boot_54 : decode cX1_boot 54 = .ok (.iconst 0, 1) := by decide +kernel
theorem dX1_boot_55 : decode cX1_boot 55 = .ok (.putfield 45, 3) := by decide +kernel
theorem dX1_boot_58 : decode cX1_boot 58 = .ok (.aload_n 0, 1) := by decide +kernel
theorem dX1_boot_59 : decode cX1_boot 59 = .ok (.iconst 0, 1) := by decide +kernel
theorem dX1_boot_60 : decode cX1_boot 60 = .ok (.putfield 48, 3) := by decide +kernel
theorem dX1_boot_63 : decode cX1_boot 63 = .ok (.aload_n 0, 1) := by decide +kernel
theorem dX1_boot_64 : decode cX1_boot 64 = .ok (.iconst 0, 1) := by decide +kernel
theorem dX1_boot_65 : decode cX1_boot 65 = .ok (.putfield 51, 3) := by decide +kernel
theorem dX1_boot_68 : decode cX1_boot 68 = .ok (.return_, 1) := by decide +kernel
theorem dX1_read_0 : decode cX1_read 0 = .ok (.aload_n 0, 1) := by decide +kernel
theorem dX1_read_1 : decode cX1_read 1 = .ok (.aload_n 0, 1) := by decide +kernel
theorem dX1_read_2 : decode cX1_read 2 = .ok (.getfield 54, 3) := by decide +kernel
theorem dX1_read_5 : decode cX1_read 5 = .ok (.ifCond .ne 10, 3) := by decide +kernel
theorem dX1_read_8 : decode cX1_read 8 = .ok (.iload_n 1, 1) := by decide +kernel
theorem dX1_read_9 : decode cX1_read 9 = .ok (.invokestatic 26, 3) := by decide +kernel
theorem dX1_read_12 : decode cX1_read 12 = .ok (.ifCond .ne 7, 3) := by decide +kernel
theorem dX1_read_15 : decode cX1_read 15 = .ok (.iconst 1, 1) := by decide +kernel
theorem dX1_read_16 : decode cX1_read 16 = .ok (.goto 4, 3) := by decide +kernel
theorem dX1_read_19 : decode cX1_read 19 = .ok (.iconst 0, 1) := by decide +kernel
theorem dX1_read_20 : decode cX1_read 20 = .ok (.putfield 54, 3) := by decide +kernel
theorem dX1_read_23 : decode cX1_read 23 = .ok (.iload_n 1, 1) := by decide +kernel
theorem dX1_read_24 : decode cX1_read 24 = .ok (.invokestatic 26, 3) := by decide +kernel
theorem dX1_read_27 : decode cX1_read 27 = .ok (.ifCond .eq 12, 3) := by decide +kernel
theorem dX1_read_30 : decode cX1_read 30 = .ok (.aload_n 0, 1) := by decide +kernel
theorem dX1_read_31 : decode cX1_read 31 = .ok (.getfield 7, 3) := by decide +kernel
theorem dX1_read_34 : decode cX1_read 34 = .ok (.iload_n 1, 1) := by decide +kernel
theorem dX1_read_35 : decode cX1_read 35 = .ok (.iaload, 1) := by decide +kernel
theorem dX1_read_36 : decode cX1_read 36 = .ok (.goto 4, 3) := by decide +kernel
theorem dX1_read_39 : decode cX1_read 39 = .ok (.iconst 0, 1) := by decide +kernel
theorem dX1_read_40 : decode cX1_read 40 = .ok (.ireturn, 1) := by decide +kernel
theorem dX1_write_0 : decode cX1_write 0 = .ok (.aload_n 0, 1) := by decide +kernel
theorem dX1_write_1 : decode cX1_write 1 = .ok (.aload_n 0, 1) := by decide +kernel
theorem dX1_write_2 : decode cX1_write 2 = .ok (.getfield 54, 3) := by decide +kernel
theorem dX1_write_5 : decode cX1_write 5 = .ok (.ifCond .ne 10, 3) := by decide +kernel
theorem dX1_write_8 : decode cX1_write 8 = .ok (.iload_n 1, 1) := by decide +kernel
theorem dX1_write_9 : decode cX1_write 9 = .ok (.invokestatic 26, 3) := by decide +kernel
theorem dX1_write_12 : decode cX1_write 12 = .ok (.ifCond .ne 7, 3) := by decide +kernel
theorem dX1_write_15 : decode cX1_write 15 = .ok (.iconst 1, 1) := by decide +kernel
theorem dX1_write_16 : decode cX1_write 16 = .ok (.goto 4, 3) := by decide +kernel
theorem dX1_write_19 : decode cX1_write 19 = .ok (.iconst 0, 1) := by decide +kernel
theorem dX1_write_20 : decode cX1_write 20 = .ok (.putfield 54, 3) := by decide +kernel
theorem dX1_write_23 : decode cX1_write 23 = .ok (.iload_n 1, 1) := by decide +kernel
theorem dX1_write_24 : decode cX1_write 24 = .ok (.invokestatic 26, 3) := by decide +kernel
theorem dX1_write_27 : decode cX1_write 27 = .ok (.ifCond .ne 4, 3) := by decide +kernel
theorem dX1_write_30 : decode cX1_write 30 = .ok (.return_, 1) := by decide +kernel
theorem dX1_write_31 : decode cX1_write 31 = .ok (.aload_n 0, 1) := by decide +kernel
theorem dX1_write_32 : decode cX1_write 32 = .ok (.getfield 16, 3) := by decide +kernel
theorem dX1_write_35 : decode cX1_write 35 = .ok (.aload_n 0, 1) := by decide +kernel
theorem dX1_write_36 : decode cX1_write 36 = .ok (.getfield 58, 3) := by decide +kernel
theorem dX1_write_39 : decode cX1_write 39 = .ok (.iload_n 1, 1) := by decide +kernel
theorem dX1_write_40 : decode cX1_write 40 = .ok (.iastore, 1) := by decide +kernel
theorem dX1_write_41 : decode cX1_write 41 = .ok (.aload_n 0, 1) := by decide +kernel
theorem dX1_write_42 : decode cX1_write 42 = .ok (.getfield 19, 3) := by decide +kernel
theorem dX1_write_45 : decode cX1_write 45 = .ok (.aload_n 0, 1) := by decide +kernel
theorem dX1_write_46 : decode cX1_write 46 = .ok (.getfield 58, 3) := by decide +kernel
theorem dX1_write_49 : decode cX1_write 49 = .ok (.aload_n 0, 1) := by decide +kernel
theorem dX1_write_50 : decode cX1_write 50 = .ok (.getfield 7, 3) := by decide +kernel
theorem dX1_write_53 : decode cX1_write 53 = .ok (.iload_n 1, 1) := by decide +kernel
theorem dX1_write_54 : decode cX1_write 54 = .ok (.iaload, 1) := by decide +kernel
theorem dX1_write_55 : decode cX1_write 55 = .ok (.iastore, 1) := by decide +kernel
theorem dX1_write_56 : decode cX1_write 56 = .ok (.aload_n 0, 1) := by decide +kernel
theorem dX1_write_57 : decode cX1_write 57 = .ok (.dup, 1) := by decide +kernel
theorem dX1_write_58 : decode cX1_write 58 = .ok (.getfield 58, 3) := by decide +kernel
theorem dX1_write_61 : decode cX1_write 61 = .ok (.iconst 1, 1) := by decide +kernel
theorem dX1_write_62 : decode cX1_write 62 = .ok (.iadd, 1) := by decide +kernel
theorem dX1_write_63 : decode cX1_write 63 = .ok (.putfield 58, 3) := by decide +kernel
theorem dX1_write_66 : decode cX1_write 66 = .ok (.aload_n 0, 1) := by decide +kernel
theorem dX1_write_67 : decode cX1_write 67 = .ok (.getfield 7, 3) := by decide +kernel
theorem dX1_write_70 : decode cX1_write 70 = .ok (.iload_n 1, 1) := by decide +kernel
theorem dX1_write_71 : decode cX1_write 71 = .ok (.iload_n 2, 1) := by decide +kernel
theorem dX1_write_72 : decode cX1_write 72 = .ok (.iastore, 1) := by decide +kernel
theorem dX1_write_73 : decode cX1_write 73 = .ok (.return_, 1) := by decide +kernel
theorem dX1_byteAt_0 : decode cX1_byteAt 0 = .ok (.iload_n 1, 1) := by decide +kernel
theorem dX1_byteAt_1 : decode cX1_byteAt 1 = .ok (.ifCond .lt 14, 3) := by decide +kernel
theorem dX1_byteAt_4 : decode cX1_byteAt 4 = .ok (.iload_n 1, 1) := by decide +kernel
theorem dX1_byteAt_5 : decode cX1_byteAt 5 = .ok (.sipush 512, 3) := by decide +kernel
theorem dX1_byteAt_8 : decode cX1_byteAt 8 = .ok (.if_icmp .ge 7, 3) := by decide +kernel
theorem dX1_byteAt_11 : decode cX1_byteAt 11 = .ok (.iconst 1, 1) := by decide +kernel
theorem dX1_byteAt_12 : decode cX1_byteAt 12 = .ok (.goto 4, 3) := by decide +kernel
theorem dX1_byteAt_15 : decode cX1_byteAt 15 = .ok (.iconst 0, 1) := by decide +kernel
theorem dX1_byteAt_16 : decode cX1_byteAt 16 = .ok (.istore_n 2, 1) := by decide +kernel
theorem dX1_byteAt_17 : decode cX1_byteAt 17 = .ok (.aload_n 0, 1) := by decide +kernel
theorem dX1_byteAt_18 : decode cX1_byteAt 18 = .ok (.aload_n 0, 1) := by decide +kernel
theorem dX1_byteAt_19 : decode cX1_byteAt 19 = .ok (.getfield 54, 3) := by decide +kernel
theorem dX1_byteAt_22 : decode cX1_byteAt 22 = .ok (.ifCond .ne 7, 3) := by decide +kernel
theorem dX1_byteAt_25 : decode cX1_byteAt 25 = .ok (.iload_n 2, 1) := by decide +kernel
theorem dX1_byteAt_26 : decode cX1_byteAt 26 = .ok (.ifCond .ne 7, 3) := by decide +kernel
theorem dX1_byteAt_29 : decode cX1_byteAt 29 = .ok (.iconst 1, 1) := by decide +kernel
theorem dX1_byteAt_30 : decode cX1_byteAt 30 = .ok (.goto 4, 3) := by decide +kernel
theorem dX1_byteAt_33 : decode cX1_byteAt 33 = .ok (.iconst 0, 1) := by decide +kernel
theorem dX1_byteAt_34 : decode cX1_byteAt 34 = .ok (.putfield 54, 3) := by decide +kernel
theorem dX1_byteAt_37 : decode cX1_byteAt 37 = .ok (.iload_n 2, 1) := by decide +kernel
theorem dX1_byteAt_38 : decode cX1_byteAt 38 = .ok (.ifCond .eq 12, 3) := by decide +kernel
theorem dX1_byteAt_41 : decode cX1_byteAt 41 = .ok (.aload_n 0, 1) := by decide +kernel
theorem dX1_byteAt_42 : decode cX1_byteAt 42 = .ok (.getfield 13, 3) := by decide +kernel
theorem dX1_byteAt_45 : decode cX1_byteAt 45 = .ok (.iload_n 1, 1) := by decide +kernel
theorem dX1_byteAt_46 : decode cX1_byteAt 46 = .ok (.iaload, 1) := by decide +kernel
theorem dX1_byteAt_47 : decode cX1_byteAt 47 = .ok (.goto 4, 3) := by decide +kernel
theorem dX1_byteAt_50 : decode cX1_byteAt 50 = .ok (.iconst 0, 1) := by decide +kernel
theorem dX1_byteAt_51 : decode cX1_byteAt 51 = .ok (.ireturn, 1) := by decide +kernel
theorem dX1_pair_0 : decode cX1_pair 0 = .ok (.aload_n 0, 1) := by decide +kernel
theorem dX1_pair_1 : decode cX1_pair 1 = .ok (.iload_n 1, 1) := by decide +kernel
theorem dX1_pair_2 : decode cX1_pair 2 = .ok (.invokevirtual 61, 3) := by decide +kernel
theorem dX1_pair_5 : decode cX1_pair 5 = .ok (.istore_n 2, 1) := by decide +kernel
theorem dX1_pair_6 : decode cX1_pair 6 = .ok (.iload_n 2, 1) := by decide +kernel
theorem dX1_pair_7 : decode cX1_pair 7 = .ok (.sipush 256, 3) := by decide +kernel
theorem dX1_pair_10 : decode cX1_pair 10 = .ok (.imul, 1) := by decide +kernel
theorem dX1_pair_11 : decode cX1_pair 11 = .ok (.aload_n 0, 1) := by decide +kernel
theorem dX1_pair_12 : decode cX1_pair 12 = .ok (.iload_n 1, 1) := by decide +kernel
theorem dX1_pair_13 : decode cX1_pair 13 = .ok (.iconst 1, 1) := by decide +kernel
theorem dX1_pair_14 : decode cX1_pair 14 = .ok (.iadd, 1) := by decide +kernel
theorem dX1_pair_15 : decode cX1_pair 15 = .ok (.invokevirtual 61, 3) := by decide +kernel
theorem dX1_pair_18 : decode cX1_pair 18 = .ok (.iadd, 1) := by decide +kernel
theorem dX1_pair_19 : decode cX1_pair 19 = .ok (.ireturn, 1) := by decide +kernel
theorem dX1_signed_0 : decode cX1_signed 0 = .ok (.iload_n 0, 1) := by decide +kernel
theorem dX1_signed_1 : decode cX1_signed 1 = .ok (.bipush 32, 2) := by decide +kernel
theorem dX1_signed_3 : decode cX1_signed 3 = .ok (.iload_n 1, 1) := by decide +kernel
theorem dX1_signed_4 : decode cX1_signed 4 = .ok (.isub, 1) := by decide +kernel
theorem dX1_signed_5 : decode cX1_signed 5 = .ok (.ishl, 1) := by decide +kernel
theorem dX1_signed_6 : decode cX1_signed 6 = .ok (.bipush 32, 2) := by decide +kernel
theorem dX1_signed_8 : decode cX1_signed 8 = .ok (.iload_n 1, 1) := by decide +kernel
theorem dX1_signed_9 : decode cX1_signed 9 = .ok (.isub, 1) := by decide +kernel
theorem dX1_signed_10 : decode cX1_signed 10 = .ok (.ishr, 1) := by decide +kernel
theorem dX1_signed_11 : decode cX1_signed 11 = .ok (.ireturn, 1) := by decide +kernel
theorem dX1_reckon_0 : decode cX1_reckon 0 = .ok (.aload_n 0, 1) := by decide +kernel
theorem dX1_reckon_1 : decode cX1_reckon 1 = .ok (.dup, 1) := by decide +kernel
theorem dX1_reckon_2 : decode cX1_reckon 2 = .ok (.getfield 33, 3) := by decide +kernel
theorem dX1_reckon_5 : decode cX1_reckon 5 = .ok (.iconst 1, 1) := by decide +kernel
theorem dX1_reckon_6 : decode cX1_reckon 6 = .ok (.isub, 1) := by decide +kernel
theorem dX1_reckon_7 : decode cX1_reckon 7 = .ok (.putfield 33, 3) := by decide +kernel
theorem dX1_reckon_10 : decode cX1_reckon 10 = .ok (.aload_n 0, 1) := by decide +kernel
theorem dX1_reckon_11 : decode cX1_reckon 11 = .ok (.aload_n 0, 1) := by decide +kernel
theorem dX1_reckon_12 : decode cX1_reckon 12 = .ok (.getfield 33, 3) := by decide +kernel
theorem dX1_reckon_15 : decode cX1_reckon 15 = .ok (.invokevirtual 65, 3) := by decide +kernel
theorem dX1_reckon_18 : decode cX1_reckon 18 = .ok (.istore_n 2, 1) := by decide +kernel
theorem dX1_reckon_19 : decode cX1_reckon 19 = .ok (.aload_n 0, 1) := by decide +kernel
theorem dX1_reckon_20 : decode cX1_reckon 20 = .ok (.iload_n 1, 1) := by decide +kernel
theorem dX1_reckon_21 : decode cX1_reckon 21 = .ok (.bipush 96, 2) := by decide +kernel
theorem dX1_reckon_23 : decode cX1_reckon 23 = .ok (.if_icmp .ne 12, 3) := by decide +kernel
theorem dX1_reckon_26 : decode cX1_reckon 26 = .ok (.iload_n 2, 1) := by decide +kernel
theorem dX1_reckon_27 : decode cX1_reckon 27 = .ok (.aload_n 0, 1) := by decide +kernel
theorem dX1_reckon_28 : decode cX1_reckon 28 = .ok (.getfield 42, 3) := by decide +kernel
theorem dX1_reckon_31 : decode cX1_reckon 31 = .ok (.iadd, 1) := by decide +kernel
theorem dX1_reckon_32 : decode cX1_reckon 32 = .ok (.goto 39, 3) := by decide +kernel
theorem dX1_reckon_35 : decode cX1_reckon 35 = .ok (.iload_n 1, 1) := by decide +kernel
theorem dX1_reckon_36 : decode cX1_reckon 36 = .ok (.bipush 100, 2) := by decide +kernel
theorem dX1_reckon_38 : decode cX1_reckon 38 = .ok (.if_icmp .ne 12, 3) := by decide +kernel
theorem dX1_reckon_41 : decode cX1_reckon 41 = .ok (.iload_n 2, 1) := by decide +kernel
theorem dX1_reckon_42 : decode cX1_reckon 42 = .ok (.aload_n 0, 1) := by decide +kernel
theorem dX1_reckon_43 : decode cX1_reckon 43 = .ok (.getfield 42, 3) := by decide +kernel
theorem dX1_reckon_46 : decode cX1_reckon 46 = .ok (.isub, 1) := by decide +kernel
theorem dX1_reckon_47 : decode cX1_reckon 47 = .ok (.goto 24, 3) := by decide +kernel
theorem dX1_reckon_50 : decode cX1_reckon 50 = .ok (.iload_n 1, 1) := by decide +kernel
theorem dX1_reckon_51 : decode cX1_reckon 51 = .ok (.bipush 126, 2) := by decide +kernel
theorem dX1_reckon_53 : decode cX1_reckon 53 = .ok (.if_icmp .ne 12, 3) := by decide +kernel
theorem dX1_reckon_56 : decode cX1_reckon 56 = .ok (.iload_n 2, 1) := by decide +kernel
theorem dX1_reckon_57 : decode cX1_reckon 57 = .ok (.aload_n 0, 1) := by decide +kernel
theorem dX1_reckon_58 : decode cX1_reckon 58 = .ok (.getfield 42, 3) := by decide +kernel
theorem dX1_reckon_61 : decode cX1_reckon 61 = .ok (.iand, 1) := by decide +kernel
theorem dX1_reckon_62 : decode cX1_reckon 62 = .ok (.goto 9, 3) := by decide +kernel
theorem dX1_reckon_65 : decode cX1_reckon 65 = .ok (.iload_n 2, 1) := by decide +kernel
theorem dX1_reckon_66 : decode cX1_reckon 66 = .ok (.aload_n 0, 1) := by decide +kernel
theorem dX1_reckon_67 : decode cX1_reckon 67 = .ok (.getfield 42, 3) := by decide +kernel
theorem dX1_reckon_70 : decode cX1_reckon 70 = .ok (.ior, 1) := by decide +kernel
theorem dX1_reckon_71 : decode cX1_reckon 71 = .ok (.putfield 42, 3) := by decide +kernel
theorem dX1_reckon_74 : decode cX1_reckon 74 = .ok (.aload_n 0, 1) := by decide +kernel
theorem dX1_reckon_75 : decode cX1_reckon 75 = .ok (.aload_n 0, 1) := by decide +kernel
theorem dX1_reckon_76 : decode cX1_reckon 76 = .ok (.getfield 33, 3) := by decide +kernel
theorem dX1_reckon_79 : decode cX1_reckon 79 = .ok (.aload_n 0, 1) := by decide +kernel
theorem dX1_reckon_80 : decode cX1_reckon 80 = .ok (.getfield 42, 3) := by decide +kernel
theorem dX1_reckon_83 : decode cX1_reckon 83 = .ok (.invokevirtual 68, 3) := by decide +kernel
theorem dX1_reckon_86 : decode cX1_reckon 86 = .ok (.iconst 4, 1) := by decide +kernel
theorem dX1_reckon_87 : decode cX1_reckon 87 = .ok (.ireturn, 1) := by decide +kernel
theorem dX1_push_0 : decode cX1_push 0 = .ok (.aload_n 0, 1) := by decide +kernel
theorem dX1_push_1 : decode cX1_push 1 = .ok (.dup, 1) := by decide +kernel
theorem dX1_push_2 : decode cX1_push 2 = .ok (.getfield 33, 3) := by decide +kernel
theorem dX1_push_5 : decode cX1_push 5 = .ok (.iconst 1, 1) := by decide +kernel
theorem dX1_push_6 : decode cX1_push 6 = .ok (.iadd, 1) := by decide +kernel
theorem dX1_push_7 : decode cX1_push 7 = .ok (.putfield 33, 3) := by decide +kernel
theorem dX1_push_10 : decode cX1_push 10 = .ok (.aload_n 0, 1) := by decide +kernel
theorem dX1_push_11 : decode cX1_push 11 = .ok (.iload_n 1, 1) := by decide +kernel
theorem dX1_push_12 : decode cX1_push 12 = .ok (.putfield 42, 3) := by decide +kernel
theorem dX1_push_15 : decode cX1_push 15 = .ok (.aload_n 0, 1) := by decide +kernel
theorem dX1_push_16 : decode cX1_push 16 = .ok (.aload_n 0, 1) := by decide +kernel
theorem dX1_push_17 : decode cX1_push 17 = .ok (.getfield 33, 3) := by decide +kernel
theorem dX1_push_20 : decode cX1_push 20 = .ok (.aload_n 0, 1) := by decide +kernel
theorem dX1_push_21 : decode cX1_push 21 = .ok (.getfield 42, 3) := by decide +kernel
theorem dX1_push_24 : decode cX1_push 24 = .ok (.invokevirtual 68, 3) := by decide +kernel
theorem dX1_push_27 : decode cX1_push 27 = .ok (.aload_n 0, 1) := by decide +kernel
theorem dX1_push_28 : decode cX1_push 28 = .ok (.aload_n 0, 1) := by decide +kernel
theorem dX1_push_29 : decode cX1_push 29 = .ok (.getfield 30, 3) := by decide +kernel
theorem dX1_push_32 : decode cX1_push 32 = .ok (.iload_n 2, 1) := by decide +kernel
theorem dX1_push_33 : decode cX1_push 33 = .ok (.iadd, 1) := by decide +kernel
theorem dX1_push_34 : decode cX1_push 34 = .ok (.putfield 72, 3) := by decide +kernel
theorem dX1_push_37 : decode cX1_push 37 = .ok (.iload_n 3, 1) := by decide +kernel
theorem dX1_push_38 : decode cX1_push 38 = .ok (.ireturn, 1) := by decide +kernel
theorem dX1_store_0 : decode cX1_store 0 = .ok (.aload_n 0, 1) := by decide +kernel
theorem dX1_store_1 : decode cX1_store 1 = .ok (.iload_n 1, 1) := by decide +kernel
theorem dX1_store_2 : decode cX1_store 2 = .ok (.aload_n 0, 1) := by decide +kernel
theorem dX1_store_3 : decode cX1_store 3 = .ok (.getfield 42, 3) := by decide +kernel
theorem dX1_store_6 : decode cX1_store 6 = .ok (.invokevirtual 68, 3) := by decide +kernel
theorem dX1_store_9 : decode cX1_store 9 = .ok (.aload_n 0, 1) := by decide +kernel
theorem dX1_store_10 : decode cX1_store 10 = .ok (.dup, 1) := by decide +kernel
theorem dX1_store_11 : decode cX1_store 11 = .ok (.getfield 33, 3) := by decide +kernel
theorem dX1_store_14 : decode cX1_store 14 = .ok (.iconst 1, 1) := by decide +kernel
theorem dX1_store_15 : decode cX1_store 15 = .ok (.isub, 1) := by decide +kernel
theorem dX1_store_16 : decode cX1_store 16 = .ok (.putfield 33, 3) := by decide +kernel
theorem dX1_store_19 : decode cX1_store 19 = .ok (.aload_n 0, 1) := by decide +kernel
theorem dX1_store_20 : decode cX1_store 20 = .ok (.aload_n 0, 1) := by decide +kernel
theorem dX1_store_21 : decode cX1_store 21 = .ok (.aload_n 0, 1) := by decide +kernel
theorem dX1_store_22 : decode cX1_store 22 = .ok (.getfield 33, 3) := by decide +kernel
theorem dX1_store_25 : decode cX1_store 25 = .ok (.invokevirtual 65, 3) := by decide +kernel
theorem dX1_store_28 : decode cX1_store 28 = .ok (.putfield 42, 3) := by decide +kernel
theorem dX1_store_31 : decode cX1_store 31 = .ok (.aload_n 0, 1) := by decide +kernel
theorem dX1_store_32 : decode cX1_store 32 = .ok (.aload_n 0, 1) := by decide +kernel
theorem dX1_store_33 : decode cX1_store 33 = .ok (.getfield 30, 3) := by decide +kernel
theorem dX1_store_36 : decode cX1_store 36 = .ok (.iload_n 2, 1) := by decide +kernel
theorem dX1_store_37 : decode cX1_store 37 = .ok (.iadd, 1) := by decide +kernel
theorem dX1_store_38 : decode cX1_store 38 = .ok (.putfield 72, 3) := by decide +kernel
theorem dX1_store_41 : decode cX1_store 41 = .ok (.iload_n 3, 1) := by decide +kernel
theorem dX1_store_42 : decode cX1_store 42 = .ok (.ireturn, 1) := by decide +kernel
theorem dX1_swap_0 : decode cX1_swap 0 = .ok (.aload_n 0, 1) := by decide +kernel
theorem dX1_swap_1 : decode cX1_swap 1 = .ok (.aload_n 0, 1) := by decide +kernel
theorem dX1_swap_2 : decode cX1_swap 2 = .ok (.getfield 33, 3) := by decide +kernel
theorem dX1_swap_5 : decode cX1_swap 5 = .ok (.iconst 1, 1) := by decide +kernel
theorem dX1_swap_6 : decode cX1_swap 6 = .ok (.isub, 1) := by decide +kernel
theorem dX1_swap_7 : decode cX1_swap 7 = .ok (.invokevirtual 65, 3) := by decide +kernel
theorem dX1_swap_10 : decode cX1_swap 10 = .ok (.istore_n 1, 1) := by decide +kernel
theorem dX1_swap_11 : decode cX1_swap 11 = .ok (.aload_n 0, 1) := by decide +kernel
theorem dX1_swap_12 : decode cX1_swap 12 = .ok (.aload_n 0, 1) := by decide +kernel
theorem dX1_swap_13 : decode cX1_swap 13 = .ok (.getfield 33, 3) := by decide +kernel
theorem dX1_swap_16 : decode cX1_swap 16 = .ok (.iload_n 1, 1) := by decide +kernel
theorem dX1_swap_17 : decode cX1_swap 17 = .ok (.invokevirtual 68, 3) := by decide +kernel
theorem dX1_swap_20 : decode cX1_swap 20 = .ok (.aload_n 0, 1) := by decide +kernel
theorem dX1_swap_21 : decode cX1_swap 21 = .ok (.aload_n 0, 1) := by decide +kernel
theorem dX1_swap_22 : decode cX1_swap 22 = .ok (.getfield 33, 3) := by decide +kernel
theorem dX1_swap_25 : decode cX1_swap 25 = .ok (.iconst 1, 1) := by decide +kernel
theorem dX1_swap_26 : decode cX1_swap 26 = .ok (.isub, 1) := by decide +kernel
theorem dX1_swap_27 : decode cX1_swap 27 = .ok (.aload_n 0, 1) := by decide +kernel
theorem dX1_swap_28 : decode cX1_swap 28 = .ok (.getfield 42, 3) := by decide +kernel
theorem dX1_swap_31 : decode cX1_swap 31 = .ok (.invokevirtual 68, 3) := by decide +kernel
theorem dX1_swap_34 : decode cX1_swap 34 = .ok (.aload_n 0, 1) := by decide +kernel
theorem dX1_swap_35 : decode cX1_swap 35 = .ok (.iload_n 1, 1) := by decide +kernel
theorem dX1_swap_36 : decode cX1_swap 36 = .ok (.putfield 42, 3) := by decide +kernel
theorem dX1_swap_39 : decode cX1_swap 39 = .ok (.bipush 7, 2) := by decide +kernel
theorem dX1_swap_41 : decode cX1_swap 41 = .ok (.ireturn, 1) := by decide +kernel
theorem dX1_wide_0 : decode cX1_wide 0 = .ok (.aload_n 0, 1) := by decide +kernel
theorem dX1_wide_1 : decode cX1_wide 1 = .ok (.aload_n 0, 1) := by decide +kernel
theorem dX1_wide_2 : decode cX1_wide 2 = .ok (.getfield 30, 3) := by decide +kernel
theorem dX1_wide_5 : decode cX1_wide 5 = .ok (.iconst 1, 1) := by decide +kernel
theorem dX1_wide_6 : decode cX1_wide 6 = .ok (.iadd, 1) := by decide +kernel
theorem dX1_wide_7 : decode cX1_wide 7 = .ok (.invokevirtual 61, 3) := by decide +kernel
theorem dX1_wide_10 : decode cX1_wide 10 = .ok (.istore_n 1, 1) := by decide +kernel
theorem dX1_wide_11 : decode cX1_wide 11 = .ok (.aload_n 0, 1) := by decide +kernel
theorem dX1_wide_12 : decode cX1_wide 12 = .ok (.aload_n 0, 1) := by decide +kernel
theorem dX1_wide_13 : decode cX1_wide 13 = .ok (.getfield 54, 3) := by decide +kernel
theorem dX1_wide_16 : decode cX1_wide 16 = .ok (.ifCond .ne 19, 3) := by decide +kernel
theorem dX1_wide_19 : decode cX1_wide 19 = .ok (.iload_n 1, 1) := by decide +kernel
theorem dX1_wide_20 : decode cX1_wide 20 = .ok (.bipush 21, 2) := by decide +kernel
theorem dX1_wide_22 : decode cX1_wide 22 = .ok (.if_icmp .eq 13, 3) := by decide +kernel
theorem dX1_wide_25 : decode cX1_wide 25 = .ok (.iload_n 1, 1) := by decide +kernel
theorem dX1_wide_26 : decode cX1_wide 26 = .ok (.bipush 54, 2) := by decide +kernel
theorem dX1_wide_28 : decode cX1_wide 28 = .ok (.if_icmp .eq 7, 3) := by decide +kernel
theorem dX1_wide_31 : decode cX1_wide 31 = .ok (.iconst 1, 1) := by decide +kernel
theorem dX1_wide_32 : decode cX1_wide 32 = .ok (.goto 4, 3) := by decide +kernel
theorem dX1_wide_35 : decode cX1_wide 35 = .ok (.iconst 0, 1) := by decide +kernel
theorem dX1_wide_36 : decode cX1_wide 36 = .ok (.putfield 75, 3) := by decide +kernel
theorem dX1_wide_39 : decode cX1_wide 39 = .ok (.aload_n 0, 1) := by decide +kernel
theorem dX1_wide_40 : decode cX1_wide 40 = .ok (.getfield 54, 3) := by decide +kernel
theorem dX1_wide_43 : decode cX1_wide 43 = .ok (.ifCond .ne 10, 3) := by decide +kernel
theorem dX1_wide_46 : decode cX1_wide 46 = .ok (.aload_n 0, 1) := by decide +kernel
theorem dX1_wide_47 : decode cX1_wide 47 = .ok (.getfield 75, 3) := by decide +kernel
theorem dX1_wide_50 : decode cX1_wide 50 = .ok (.ifCond .eq 5, 3) := by decide +kernel
theorem dX1_wide_53 : decode cX1_wide 53 = .ok (.iconst 0, 1) := by decide +kernel
theorem dX1_wide_54 : decode cX1_wide 54 = .ok (.ireturn, 1) := by decide +kernel
theorem dX1_wide_55 : decode cX1_wide 55 = .ok (.aload_n 0, 1) := by decide +kernel
theorem dX1_wide_56 : decode cX1_wide 56 = .ok (.getfield 36, 3) := by decide +kernel
theorem dX1_wide_59 : decode cX1_wide 59 = .ok (.aload_n 0, 1) := by decide +kernel
theorem dX1_wide_60 : decode cX1_wide 60 = .ok (.aload_n 0, 1) := by decide +kernel
theorem dX1_wide_61 : decode cX1_wide 61 = .ok (.getfield 30, 3) := by decide +kernel
theorem dX1_wide_64 : decode cX1_wide 64 = .ok (.iconst 2, 1) := by decide +kernel
theorem dX1_wide_65 : decode cX1_wide 65 = .ok (.iadd, 1) := by decide +kernel
theorem dX1_wide_66 : decode cX1_wide 66 = .ok (.invokevirtual 78, 3) := by decide +kernel
theorem dX1_wide_69 : decode cX1_wide 69 = .ok (.iadd, 1) := by decide +kernel
theorem dX1_wide_70 : decode cX1_wide 70 = .ok (.istore_n 2, 1) := by decide +kernel
theorem dX1_wide_71 : decode cX1_wide 71 = .ok (.iload_n 1, 1) := by decide +kernel
theorem dX1_wide_72 : decode cX1_wide 72 = .ok (.bipush 21, 2) := by decide +kernel
theorem dX1_wide_74 : decode cX1_wide 74 = .ok (.if_icmp .ne 18, 3) := by decide +kernel
theorem dX1_wide_77 : decode cX1_wide 77 = .ok (.aload_n 0, 1) := by decide +kernel
theorem dX1_wide_78 : decode cX1_wide 78 = .ok (.aload_n 0, 1) := by decide +kernel
theorem dX1_wide_79 : decode cX1_wide 79 = .ok (.iload_n 2, 1) := by decide +kernel
theorem dX1_wide_80 : decode cX1_wide 80 = .ok (.invokevirtual 65, 3) := by decide +kernel
theorem dX1_wide_83 : decode cX1_wide 83 = .ok (.iconst 4, 1) := by decide +kernel
theorem dX1_wide_84 : decode cX1_wide 84 = .ok (.bipush 10, 2) := by decide +kernel
theorem dX1_wide_86 : decode cX1_wide 86 = .ok (.invokevirtual 81, 3) := by decide +kernel
theorem dX1_wide_89 : decode cX1_wide 89 = .ok (.goto 11, 3) := by decide +kernel
theorem dX1_wide_92 : decode cX1_wide 92 = .ok (.aload_n 0, 1) := by decide +kernel
theorem dX1_wide_93 : decode cX1_wide 93 = .ok (.iload_n 2, 1) := by decide +kernel
theorem dX1_wide_94 : decode cX1_wide 94 = .ok (.iconst 4, 1) := by decide +kernel
theorem dX1_wide_95 : decode cX1_wide 95 = .ok (.bipush 11, 2) := by decide +kernel
theorem dX1_wide_97 : decode cX1_wide 97 = .ok (.invokevirtual 85, 3) := by decide +kernel
theorem dX1_wide_100 : decode cX1_wide 100 = .ok (.ireturn, 1) := by decide +kernel
theorem dX1_increase_0 : decode cX1_increase 0 = .ok (.aload_n 0, 1) := by decide +kernel
theorem dX1_increase_1 : decode cX1_increase 1 = .ok (.getfield 36, 3) := by decide +kernel
theorem dX1_increase_4 : decode cX1_increase 4 = .ok (.aload_n 0, 1) := by decide +kernel
theorem dX1_increase_5 : decode cX1_increase 5 = .ok (.aload_n 0, 1) := by decide +kernel
theorem dX1_increase_6 : decode cX1_increase 6 = .ok (.getfield 30, 3) := by decide +kernel
theorem dX1_increase_9 : decode cX1_increase 9 = .ok (.iconst 1, 1) := by decide +kernel
theorem dX1_increase_10 : decode cX1_increase 10 = .ok (.iadd, 1) := by decide +kernel
theorem dX1_increase_11 : decode cX1_increase 11 = .ok (.invokevirtual 61, 3) := by decide +kernel
theorem dX1_increase_14 : decode cX1_increase 14 = .ok (.iadd, 1) := by decide +kernel
theorem dX1_increase_15 : decode cX1_increase 15 = .ok (.istore_n 1, 1) := by decide +kernel
theorem dX1_increase_16 : decode cX1_increase 16 = .ok (.aload_n 0, 1) := by decide +kernel
theorem dX1_increase_17 : decode cX1_increase 17 = .ok (.aload_n 0, 1) := by decide +kernel
theorem dX1_increase_18 : decode cX1_increase 18 = .ok (.getfield 30, 3) := by decide +kernel
theorem dX1_increase_21 : decode cX1_increase 21 = .ok (.iconst 2, 1) := by decide +kernel
theorem dX1_increase_22 : decode cX1_increase 22 = .ok (.iadd, 1) := by decide +kernel
theorem dX1_increase_23 : decode cX1_increase 23 = .ok (.invokevirtual 61, 3) := by decide +kernel
theorem dX1_increase_26 : decode cX1_increase 26 = .ok (.bipush 8, 2) := by decide +kernel
theorem dX1_increase_28 : decode cX1_increase 28 = .ok (.invokestatic 88, 3) := by decide +kernel
theorem dX1_increase_31 : decode cX1_increase 31 = .ok (.istore_n 2, 1) := by decide +kernel
theorem dX1_increase_32 : decode cX1_increase 32 = .ok (.aload_n 0, 1) := by decide +kernel
theorem dX1_increase_33 : decode cX1_increase 33 = .ok (.iload_n 1, 1) := by decide +kernel
theorem dX1_increase_34 : decode cX1_increase 34 = .ok (.aload_n 0, 1) := by decide +kernel
theorem dX1_increase_35 : decode cX1_increase 35 = .ok (.iload_n 1, 1) := by decide +kernel
theorem dX1_increase_36 : decode cX1_increase 36 = .ok (.invokevirtual 65, 3) := by decide +kernel
theorem dX1_increase_39 : decode cX1_increase 39 = .ok (.iload_n 2, 1) := by decide +kernel
theorem dX1_increase_40 : decode cX1_increase 40 = .ok (.iadd, 1) := by decide +kernel
theorem dX1_increase_41 : decode cX1_increase 41 = .ok (.invokevirtual 68, 3) := by decide +kernel
theorem dX1_increase_44 : decode cX1_increase 44 = .ok (.aload_n 0, 1) := by decide +kernel
theorem dX1_increase_45 : decode cX1_increase 45 = .ok (.aload_n 0, 1) := by decide +kernel
theorem dX1_increase_46 : decode cX1_increase 46 = .ok (.getfield 30, 3) := by decide +kernel
theorem dX1_increase_49 : decode cX1_increase 49 = .ok (.iconst 3, 1) := by decide +kernel
theorem dX1_increase_50 : decode cX1_increase 50 = .ok (.iadd, 1) := by decide +kernel
theorem dX1_increase_51 : decode cX1_increase 51 = .ok (.putfield 72, 3) := by decide +kernel
theorem dX1_increase_54 : decode cX1_increase 54 = .ok (.bipush 7, 2) := by decide +kernel
theorem dX1_increase_56 : decode cX1_increase 56 = .ok (.ireturn, 1) := by decide +kernel
theorem dX1_jump_0 : decode cX1_jump 0 = .ok (.aload_n 0, 1) := by decide +kernel
theorem dX1_jump_1 : decode cX1_jump 1 = .ok (.iload_n 1, 1) := by decide +kernel
theorem dX1_jump_2 : decode cX1_jump 2 = .ok (.ifCond .eq 26, 3) := by decide +kernel
theorem dX1_jump_5 : decode cX1_jump 5 = .ok (.aload_n 0, 1) := by decide +kernel
theorem dX1_jump_6 : decode cX1_jump 6 = .ok (.getfield 30, 3) := by decide +kernel
theorem dX1_jump_9 : decode cX1_jump 9 = .ok (.aload_n 0, 1) := by decide +kernel
theorem dX1_jump_10 : decode cX1_jump 10 = .ok (.aload_n 0, 1) := by decide +kernel
theorem dX1_jump_11 : decode cX1_jump 11 = .ok (.getfield 30, 3) := by decide +kernel
theorem dX1_jump_14 : decode cX1_jump 14 = .ok (.iconst 1, 1) := by decide +kernel
theorem dX1_jump_15 : decode cX1_jump 15 = .ok (.iadd, 1) := by decide +kernel
theorem dX1_jump_16 : decode cX1_jump 16 = .ok (.invokevirtual 78, 3) := by decide +kernel
theorem dX1_jump_19 : decode cX1_jump 19 = .ok (.bipush 16, 2) := by decide +kernel
theorem dX1_jump_21 : decode cX1_jump 21 = .ok (.invokestatic 88, 3) := by decide +kernel
theorem dX1_jump_24 : decode cX1_jump 24 = .ok (.iadd, 1) := by decide +kernel
theorem dX1_jump_25 : decode cX1_jump 25 = .ok (.goto 9, 3) := by decide +kernel
theorem dX1_jump_28 : decode cX1_jump 28 = .ok (.aload_n 0, 1) := by decide +kernel
theorem dX1_jump_29 : decode cX1_jump 29 = .ok (.getfield 30, 3) := by decide +kernel
theorem dX1_jump_32 : decode cX1_jump 32 = .ok (.iconst 3, 1) := by decide +kernel
theorem dX1_jump_33 : decode cX1_jump 33 = .ok (.iadd, 1) := by decide +kernel
theorem dX1_jump_34 : decode cX1_jump 34 = .ok (.putfield 72, 3) := by decide +kernel
theorem dX1_jump_37 : decode cX1_jump 37 = .ok (.iload_n 1, 1) := by decide +kernel
theorem dX1_jump_38 : decode cX1_jump 38 = .ok (.ifCond .eq 7, 3) := by decide +kernel
theorem dX1_jump_41 : decode cX1_jump 41 = .ok (.iload_n 2, 1) := by decide +kernel
theorem dX1_jump_42 : decode cX1_jump 42 = .ok (.goto 4, 3) := by decide +kernel
theorem dX1_jump_45 : decode cX1_jump 45 = .ok (.iload_n 3, 1) := by decide +kernel
theorem dX1_jump_46 : decode cX1_jump 46 = .ok (.ireturn, 1) := by decide +kernel
theorem dX1_ifs_0 : decode cX1_ifs 0 = .ok (.aload_n 0, 1) := by decide +kernel
theorem dX1_ifs_1 : decode cX1_ifs 1 = .ok (.getfield 42, 3) := by decide +kernel
theorem dX1_ifs_4 : decode cX1_ifs 4 = .ok (.istore_n 2, 1) := by decide +kernel
theorem dX1_ifs_5 : decode cX1_ifs 5 = .ok (.iload_n 1, 1) := by decide +kernel
theorem dX1_ifs_6 : decode cX1_ifs 6 = .ok (.sipush 159, 3) := by decide +kernel
theorem dX1_ifs_9 : decode cX1_ifs 9 = .ok (.if_icmp .ne 16, 3) := by decide +kernel
theorem dX1_ifs_12 : decode cX1_ifs 12 = .ok (.aload_n 0, 1) := by decide +kernel
theorem dX1_ifs_13 : decode cX1_ifs 13 = .ok (.aload_n 0, 1) := by decide +kernel
theorem dX1_ifs_14 : decode cX1_ifs 14 = .ok (.getfield 33, 3) := by decide +kernel
theorem dX1_ifs_17 : decode cX1_ifs 17 = .ok (.iconst 1, 1) := by decide +kernel
theorem dX1_ifs_18 : decode cX1_ifs 18 = .ok (.isub, 1) := by decide +kernel
theorem dX1_ifs_19 : decode cX1_ifs 19 = .ok (.invokevirtual 65, 3) := by decide +kernel
theorem dX1_ifs_22 : decode cX1_ifs 22 = .ok (.goto 4, 3) := by decide +kernel
theorem dX1_ifs_25 : decode cX1_ifs 25 = .ok (.iconst 0, 1) := by decide +kernel
theorem dX1_ifs_26 : decode cX1_ifs 26 = .ok (.istore_n 3, 1) := by decide +kernel
theorem dX1_ifs_27 : decode cX1_ifs 27 = .ok (.aload_n 0, 1) := by decide +kernel
theorem dX1_ifs_28 : decode cX1_ifs 28 = .ok (.dup, 1) := by decide +kernel
theorem dX1_ifs_29 : decode cX1_ifs 29 = .ok (.getfield 33, 3) := by decide +kernel
theorem dX1_ifs_32 : decode cX1_ifs 32 = .ok (.iload_n 1, 1) := by decide +kernel
theorem dX1_ifs_33 : decode cX1_ifs 33 = .ok (.sipush 159, 3) := by decide +kernel
theorem dX1_ifs_36 : decode cX1_ifs 36 = .ok (.if_icmp .ne 7, 3) := by decide +kernel
theorem dX1_ifs_39 : decode cX1_ifs 39 = .ok (.iconst 2, 1) := by decide +kernel
theorem dX1_ifs_40 : decode cX1_ifs 40 = .ok (.goto 4, 3) := by decide +kernel
theorem dX1_ifs_43 : decode cX1_ifs 43 = .ok (.iconst 1, 1) := by decide +kernel
theorem dX1_ifs_44 : decode cX1_ifs 44 = .ok (.isub, 1) := by decide +kernel
theorem dX1_ifs_45 : decode cX1_ifs 45 = .ok (.putfield 33, 3) := by decide +kernel

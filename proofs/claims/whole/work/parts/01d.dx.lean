theorem dX0_storeNarrow_28 : decode cX0_storeNarrow 28 = .ok (.invokevirtual 77, 3) := by decide +kernel
theorem dX0_storeNarrow_31 : decode cX0_storeNarrow 31 = .ok (.iadd, 1) := by decide +kernel
theorem dX0_storeNarrow_32 : decode cX0_storeNarrow 32 = .ok (.iconst 2, 1) := by decide +kernel
theorem dX0_storeNarrow_33 : decode cX0_storeNarrow 33 = .ok (.bipush 7, 2) := by decide +kernel
theorem dX0_storeNarrow_35 : decode cX0_storeNarrow 35 = .ok (.invokevirtual 146, 3) := by decide +kernel
theorem dX0_storeNarrow_38 : decode cX0_storeNarrow 38 = .ok (.return_, 1) := by decide +kernel
theorem dX0_wide_0 : decode cX0_wide 0 = .ok (.aload_n 0, 1) := by decide +kernel
theorem dX0_wide_1 : decode cX0_wide 1 = .ok (.getfield 17, 3) := by decide +kernel
theorem dX0_wide_4 : decode cX0_wide 4 = .ok (.iconst 2, 1) := by decide +kernel
theorem dX0_wide_5 : decode cX0_wide 5 = .ok (.invokestatic 53, 3) := by decide +kernel
theorem dX0_wide_8 : decode cX0_wide 8 = .ok (.ifCond .ne 8, 3) := by decide +kernel
theorem dX0_wide_11 : decode cX0_wide 11 = .ok (.aload_n 0, 1) := by decide +kernel
theorem dX0_wide_12 : decode cX0_wide 12 = .ok (.invokevirtual 74, 3) := by decide +kernel
theorem dX0_wide_15 : decode cX0_wide 15 = .ok (.return_, 1) := by decide +kernel
theorem dX0_wide_16 : decode cX0_wide 16 = .ok (.aload_n 0, 1) := by decide +kernel
theorem dX0_wide_17 : decode cX0_wide 17 = .ok (.aload_n 0, 1) := by decide +kernel
theorem dX0_wide_18 : decode cX0_wide 18 = .ok (.getfield 17, 3) := by decide +kernel
theorem dX0_wide_21 : decode cX0_wide 21 = .ok (.iconst 1, 1) := by decide +kernel
theorem dX0_wide_22 : decode cX0_wide 22 = .ok (.iadd, 1) := by decide +kernel
theorem dX0_wide_23 : decode cX0_wide 23 = .ok (.invokevirtual 77, 3) := by decide +kernel
theorem dX0_wide_26 : decode cX0_wide 26 = .ok (.istore_n 1, 1) := by decide +kernel
theorem dX0_wide_27 : decode cX0_wide 27 = .ok (.iload_n 1, 1) := by decide +kernel
theorem dX0_wide_28 : decode cX0_wide 28 = .ok (.bipush 21, 2) := by decide +kernel
theorem dX0_wide_30 : decode cX0_wide 30 = .ok (.if_icmp .eq 14, 3) := by decide +kernel
theorem dX0_wide_33 : decode cX0_wide 33 = .ok (.iload_n 1, 1) := by decide +kernel
theorem dX0_wide_34 : decode cX0_wide 34 = .ok (.bipush 54, 2) := by decide +kernel
theorem dX0_wide_36 : decode cX0_wide 36 = .ok (.if_icmp .eq 8, 3) := by decide +kernel
theorem dX0_wide_39 : decode cX0_wide 39 = .ok (.aload_n 0, 1) := by decide +kernel
theorem dX0_wide_40 : decode cX0_wide 40 = .ok (.invokevirtual 136, 3) := by decide +kernel
theorem dX0_wide_43 : decode cX0_wide 43 = .ok (.return_, 1) := by decide +kernel
theorem dX0_wide_44 : decode cX0_wide 44 = .ok (.aload_n 0, 1) := by decide +kernel
theorem dX0_wide_45 : decode cX0_wide 45 = .ok (.getfield 17, 3) := by decide +kernel
theorem dX0_wide_48 : decode cX0_wide 48 = .ok (.iconst 4, 1) := by decide +kernel
theorem dX0_wide_49 : decode cX0_wide 49 = .ok (.invokestatic 53, 3) := by decide +kernel
theorem dX0_wide_52 : decode cX0_wide 52 = .ok (.ifCond .ne 8, 3) := by decide +kernel
theorem dX0_wide_55 : decode cX0_wide 55 = .ok (.aload_n 0, 1) := by decide +kernel
theorem dX0_wide_56 : decode cX0_wide 56 = .ok (.invokevirtual 74, 3) := by decide +kernel
theorem dX0_wide_59 : decode cX0_wide 59 = .ok (.return_, 1) := by decide +kernel
theorem dX0_wide_60 : decode cX0_wide 60 = .ok (.aload_n 0, 1) := by decide +kernel
theorem dX0_wide_61 : decode cX0_wide 61 = .ok (.getfield 24, 3) := by decide +kernel
theorem dX0_wide_64 : decode cX0_wide 64 = .ok (.aload_n 0, 1) := by decide +kernel
theorem dX0_wide_65 : decode cX0_wide 65 = .ok (.aload_n 0, 1) := by decide +kernel
theorem dX0_wide_66 : decode cX0_wide 66 = .ok (.getfield 17, 3) := by decide +kernel
theorem dX0_wide_69 : decode cX0_wide 69 = .ok (.iconst 2, 1) := by decide +kernel
theorem dX0_wide_70 : decode cX0_wide 70 = .ok (.iadd, 1) := by decide +kernel
theorem dX0_wide_71 : decode cX0_wide 71 = .ok (.invokevirtual 149, 3) := by decide +kernel
theorem dX0_wide_74 : decode cX0_wide 74 = .ok (.iadd, 1) := by decide +kernel
theorem dX0_wide_75 : decode cX0_wide 75 = .ok (.istore_n 2, 1) := by decide +kernel
theorem dX0_wide_76 : decode cX0_wide 76 = .ok (.iload_n 1, 1) := by decide +kernel
theorem dX0_wide_77 : decode cX0_wide 77 = .ok (.bipush 21, 2) := by decide +kernel
theorem dX0_wide_79 : decode cX0_wide 79 = .ok (.if_icmp .ne 14, 3) := by decide +kernel
theorem dX0_wide_82 : decode cX0_wide 82 = .ok (.aload_n 0, 1) := by decide +kernel
theorem dX0_wide_83 : decode cX0_wide 83 = .ok (.iload_n 2, 1) := by decide +kernel
theorem dX0_wide_84 : decode cX0_wide 84 = .ok (.iconst 4, 1) := by decide +kernel
theorem dX0_wide_85 : decode cX0_wide 85 = .ok (.bipush 10, 2) := by decide +kernel
theorem dX0_wide_87 : decode cX0_wide 87 = .ok (.invokevirtual 143, 3) := by decide +kernel
theorem dX0_wide_90 : decode cX0_wide 90 = .ok (.goto 11, 3) := by decide +kernel
theorem dX0_wide_93 : decode cX0_wide 93 = .ok (.aload_n 0, 1) := by decide +kernel
theorem dX0_wide_94 : decode cX0_wide 94 = .ok (.iload_n 2, 1) := by decide +kernel
theorem dX0_wide_95 : decode cX0_wide 95 = .ok (.iconst 4, 1) := by decide +kernel
theorem dX0_wide_96 : decode cX0_wide 96 = .ok (.bipush 11, 2) := by decide +kernel
theorem dX0_wide_98 : decode cX0_wide 98 = .ok (.invokevirtual 146, 3) := by decide +kernel
theorem dX0_wide_101 : decode cX0_wide 101 = .ok (.return_, 1) := by decide +kernel
theorem dX0_loadConstant_0 : decode cX0_loadConstant 0 = .ok (.aload_n 0, 1) := by decide +kernel
theorem dX0_loadConstant_1 : decode cX0_loadConstant 1 = .ok (.getfield 17, 3) := by decide +kernel
theorem dX0_loadConstant_4 : decode cX0_loadConstant 4 = .ok (.iconst 3, 1) := by decide +kernel
theorem dX0_loadConstant_5 : decode cX0_loadConstant 5 = .ok (.invokestatic 53, 3) := by decide +kernel
theorem dX0_loadConstant_8 : decode cX0_loadConstant 8 = .ok (.ifCond .ne 8, 3) := by decide +kernel
theorem dX0_loadConstant_11 : decode cX0_loadConstant 11 = .ok (.aload_n 0, 1) := by decide +kernel
theorem dX0_loadConstant_12 : decode cX0_loadConstant 12 = .ok (.invokevirtual 74, 3) := by decide +kernel
theorem dX0_loadConstant_15 : decode cX0_loadConstant 15 = .ok (.return_, 1) := by decide +kernel
theorem dX0_loadConstant_16 : decode cX0_loadConstant 16 = .ok (.aload_n 0, 1) := by decide +kernel
theorem dX0_loadConstant_17 : decode cX0_loadConstant 17 = .ok (.aload_n 0, 1) := by decide +kernel
theorem dX0_loadConstant_18 : decode cX0_loadConstant 18 = .ok (.getfield 27, 3) := by decide +kernel
theorem dX0_loadConstant_21 : decode cX0_loadConstant 21 = .ok (.aload_n 0, 1) := by decide +kernel
theorem dX0_loadConstant_22 : decode cX0_loadConstant 22 = .ok (.aload_n 0, 1) := by decide +kernel
theorem dX0_loadConstant_23 : decode cX0_loadConstant 23 = .ok (.getfield 17, 3) := by decide +kernel
theorem dX0_loadConstant_26 : decode cX0_loadConstant 26 = .ok (.iconst 1, 1) := by decide +kernel
theorem dX0_loadConstant_27 : decode cX0_loadConstant 27 = .ok (.iadd, 1) := by decide +kernel
theorem dX0_loadConstant_28 : decode cX0_loadConstant 28 = .ok (.invokevirtual 149, 3) := by decide +kernel
theorem dX0_loadConstant_31 : decode cX0_loadConstant 31 = .ok (.iadd, 1) := by decide +kernel
theorem dX0_loadConstant_32 : decode cX0_loadConstant 32 = .ok (.iconst 3, 1) := by decide +kernel
theorem dX0_loadConstant_33 : decode cX0_loadConstant 33 = .ok (.bipush 8, 2) := by decide +kernel
theorem dX0_loadConstant_35 : decode cX0_loadConstant 35 = .ok (.invokevirtual 143, 3) := by decide +kernel
theorem dX0_loadConstant_38 : decode cX0_loadConstant 38 = .ok (.return_, 1) := by decide +kernel
theorem dX0_load_0 : decode cX0_load 0 = .ok (.iload_n 1, 1) := by decide +kernel
theorem dX0_load_1 : decode cX0_load 1 = .ok (.invokestatic 42, 3) := by decide +kernel
theorem dX0_load_4 : decode cX0_load 4 = .ok (.ifCond .ne 8, 3) := by decide +kernel
theorem dX0_load_7 : decode cX0_load 7 = .ok (.aload_n 0, 1) := by decide +kernel
theorem dX0_load_8 : decode cX0_load 8 = .ok (.invokevirtual 74, 3) := by decide +kernel
theorem dX0_load_11 : decode cX0_load 11 = .ok (.return_, 1) := by decide +kernel
theorem dX0_load_12 : decode cX0_load 12 = .ok (.aload_n 0, 1) := by decide +kernel
theorem dX0_load_13 : decode cX0_load 13 = .ok (.aload_n 0, 1) := by decide +kernel
theorem dX0_load_14 : decode cX0_load 14 = .ok (.getfield 9, 3) := by decide +kernel
theorem dX0_load_17 : decode cX0_load 17 = .ok (.iload_n 1, 1) := by decide +kernel
theorem dX0_load_18 : decode cX0_load 18 = .ok (.iaload, 1) := by decide +kernel
theorem dX0_load_19 : decode cX0_load 19 = .ok (.iload_n 2, 1) := by decide +kernel
theorem dX0_load_20 : decode cX0_load 20 = .ok (.iload_n 3, 1) := by decide +kernel
theorem dX0_load_21 : decode cX0_load 21 = .ok (.invokevirtual 89, 3) := by decide +kernel
theorem dX0_load_24 : decode cX0_load 24 = .ok (.return_, 1) := by decide +kernel
theorem dX0_store_0 : decode cX0_store 0 = .ok (.aload_n 0, 1) := by decide +kernel
theorem dX0_store_1 : decode cX0_store 1 = .ok (.getfield 21, 3) := by decide +kernel
theorem dX0_store_4 : decode cX0_store 4 = .ok (.iconst 1, 1) := by decide +kernel
theorem dX0_store_5 : decode cX0_store 5 = .ok (.isub, 1) := by decide +kernel
theorem dX0_store_6 : decode cX0_store 6 = .ok (.istore 4, 2) := by decide +kernel
theorem dX0_store_8 : decode cX0_store 8 = .ok (.iload_n 1, 1) := by decide +kernel
theorem dX0_store_9 : decode cX0_store 9 = .ok (.invokestatic 42, 3) := by decide +kernel
theorem dX0_store_12 : decode cX0_store 12 = .ok (.ifCond .eq 11, 3) := by decide +kernel
theorem dX0_store_15 : decode cX0_store 15 = .ok (.iload 4, 2) := by decide +kernel
theorem dX0_store_17 : decode cX0_store 17 = .ok (.invokestatic 42, 3) := by decide +kernel
theorem dX0_store_20 : decode cX0_store 20 = .ok (.ifCond .ne 8, 3) := by decide +kernel
theorem dX0_store_23 : decode cX0_store 23 = .ok (.aload_n 0, 1) := by decide +kernel
theorem dX0_store_24 : decode cX0_store 24 = .ok (.invokevirtual 74, 3) := by decide +kernel
theorem dX0_store_27 : decode cX0_store 27 = .ok (.return_, 1) := by decide +kernel
theorem dX0_store_28 : decode cX0_store 28 = .ok (.aload_n 0, 1) := by decide +kernel
theorem dX0_store_29 : decode cX0_store 29 = .ok (.getfield 9, 3) := by decide +kernel
theorem dX0_store_32 : decode cX0_store 32 = .ok (.iload_n 1, 1) := by decide +kernel
theorem dX0_store_33 : decode cX0_store 33 = .ok (.aload_n 0, 1) := by decide +kernel
theorem dX0_store_34 : decode cX0_store 34 = .ok (.getfield 30, 3) := by decide +kernel
theorem dX0_store_37 : decode cX0_store 37 = .ok (.iastore, 1) := by decide +kernel
theorem dX0_store_38 : decode cX0_store 38 = .ok (.aload_n 0, 1) := by decide +kernel
theorem dX0_store_39 : decode cX0_store 39 = .ok (.iload 4, 2) := by decide +kernel
theorem dX0_store_41 : decode cX0_store 41 = .ok (.putfield 21, 3) := by decide +kernel
theorem dX0_store_44 : decode cX0_store 44 = .ok (.aload_n 0, 1) := by decide +kernel
theorem dX0_store_45 : decode cX0_store 45 = .ok (.aload_n 0, 1) := by decide +kernel
theorem dX0_store_46 : decode cX0_store 46 = .ok (.getfield 9, 3) := by decide +kernel
theorem dX0_store_49 : decode cX0_store 49 = .ok (.iload 4, 2) := by decide +kernel
theorem dX0_store_51 : decode cX0_store 51 = .ok (.iaload, 1) := by decide +kernel
theorem dX0_store_52 : decode cX0_store 52 = .ok (.putfield 30, 3) := by decide +kernel
theorem dX0_store_55 : decode cX0_store 55 = .ok (.aload_n 0, 1) := by decide +kernel
theorem dX0_store_56 : decode cX0_store 56 = .ok (.aload_n 0, 1) := by decide +kernel
theorem dX0_store_57 : decode cX0_store 57 = .ok (.getfield 17, 3) := by decide +kernel
theorem dX0_store_60 : decode cX0_store 60 = .ok (.iload_n 2, 1) := by decide +kernel
theorem dX0_store_61 : decode cX0_store 61 = .ok (.iadd, 1) := by decide +kernel
theorem dX0_store_62 : decode cX0_store 62 = .ok (.iload_n 3, 1) := by decide +kernel
theorem dX0_store_63 : decode cX0_store 63 = .ok (.invokevirtual 81, 3) := by decide +kernel
theorem dX0_store_66 : decode cX0_store 66 = .ok (.return_, 1) := by decide +kernel
theorem dX0_increase_0 : decode cX0_increase 0 = .ok (.aload_n 0, 1) := by decide +kernel
theorem dX0_increase_1 : decode cX0_increase 1 = .ok (.getfield 17, 3) := by decide +kernel
theorem dX0_increase_4 : decode cX0_increase 4 = .ok (.iconst 3, 1) := by decide +kernel
theorem dX0_increase_5 : decode cX0_increase 5 = .ok (.invokestatic 53, 3) := by decide +kernel
theorem dX0_increase_8 : decode cX0_increase 8 = .ok (.ifCond .ne 8, 3) := by decide +kernel
theorem dX0_increase_11 : decode cX0_increase 11 = .ok (.aload_n 0, 1) := by decide +kernel
theorem dX0_increase_12 : decode cX0_increase 12 = .ok (.invokevirtual 74, 3) := by decide +kernel
theorem dX0_increase_15 : decode cX0_increase 15 = .ok (.return_, 1) := by decide +kernel
theorem dX0_increase_16 : decode cX0_increase 16 = .ok (.aload_n 0, 1) := by decide +kernel
theorem dX0_increase_17 : decode cX0_increase 17 = .ok (.getfield 24, 3) := by decide +kernel
theorem dX0_increase_20 : decode cX0_increase 20 = .ok (.aload_n 0, 1) := by decide +kernel
theorem dX0_increase_21 : decode cX0_increase 21 = .ok (.aload_n 0, 1) := by decide +kernel
theorem dX0_increase_22 : decode cX0_increase 22 = .ok (.getfield 17, 3) := by decide +kernel
theorem dX0_increase_25 : decode cX0_increase 25 = .ok (.iconst 1, 1) := by decide +kernel
theorem dX0_increase_26 : decode cX0_increase 26 = .ok (.iadd, 1) := by decide +kernel
theorem dX0_increase_27 : decode cX0_increase 27 = .ok (.invokevirtual 77, 3) := by decide +kernel
theorem dX0_increase_30 : decode cX0_increase 30 = .ok (.iadd, 1) := by decide +kernel
theorem dX0_increase_31 : decode cX0_increase 31 = .ok (.istore_n 1, 1) := by decide +kernel
theorem dX0_increase_32 : decode cX0_increase 32 = .ok (.iload_n 1, 1) := by decide +kernel
theorem dX0_increase_33 : decode cX0_increase 33 = .ok (.invokestatic 42, 3) := by decide +kernel
theorem dX0_increase_36 : decode cX0_increase 36 = .ok (.ifCond .ne 8, 3) := by decide +kernel
theorem dX0_increase_39 : decode cX0_increase 39 = .ok (.aload_n 0, 1) := by decide +kernel
theorem dX0_increase_40 : decode cX0_increase 40 = .ok (.invokevirtual 74, 3) := by decide +kernel
theorem dX0_increase_43 : decode cX0_increase 43 = .ok (.return_, 1) := by decide +kernel
theorem dX0_increase_44 : decode cX0_increase 44 = .ok (.aload_n 0, 1) := by decide +kernel
theorem dX0_increase_45 : decode cX0_increase 45 = .ok (.getfield 9, 3) := by decide +kernel
theorem dX0_increase_48 : decode cX0_increase 48 = .ok (.iload_n 1, 1) := by decide +kernel
theorem dX0_increase_49 : decode cX0_increase 49 = .ok (.dup2, 1) := by decide +kernel
theorem dX0_increase_50 : decode cX0_increase 50 = .ok (.iaload, 1) := by decide +kernel
theorem dX0_increase_51 : decode cX0_increase 51 = .ok (.aload_n 0, 1) := by decide +kernel
theorem dX0_increase_52 : decode cX0_increase 52 = .ok (.getfield 13, 3) := by decide +kernel
theorem dX0_increase_55 : decode cX0_increase 55 = .ok (.aload_n 0, 1) := by decide +kernel
theorem dX0_increase_56 : decode cX0_increase 56 = .ok (.getfield 17, 3) := by decide +kernel
theorem dX0_increase_59 : decode cX0_increase 59 = .ok (.iconst 2, 1) := by decide +kernel
theorem dX0_increase_60 : decode cX0_increase 60 = .ok (.iadd, 1) := by decide +kernel
theorem dX0_increase_61 : decode cX0_increase 61 = .ok (.baload, 1) := by decide +kernel
theorem dX0_increase_62 : decode cX0_increase 62 = .ok (.iadd, 1) := by decide +kernel
theorem dX0_increase_63 : decode cX0_increase 63 = .ok (.iastore, 1) := by decide +kernel
theorem dX0_increase_64 : decode cX0_increase 64 = .ok (.aload_n 0, 1) := by decide +kernel
theorem dX0_increase_65 : decode cX0_increase 65 = .ok (.aload_n 0, 1) := by decide +kernel
theorem dX0_increase_66 : decode cX0_increase 66 = .ok (.getfield 17, 3) := by decide +kernel
theorem dX0_increase_69 : decode cX0_increase 69 = .ok (.iconst 3, 1) := by decide +kernel
theorem dX0_increase_70 : decode cX0_increase 70 = .ok (.iadd, 1) := by decide +kernel
theorem dX0_increase_71 : decode cX0_increase 71 = .ok (.bipush 7, 2) := by decide +kernel
theorem dX0_increase_73 : decode cX0_increase 73 = .ok (.invokevirtual 81, 3) := by decide +kernel
theorem dX0_increase_76 : decode cX0_increase 76 = .ok (.return_, 1) := by decide +kernel
theorem dX0_jump_0 : decode cX0_jump 0 = .ok (.aload_n 0, 1) := by decide +kernel
theorem dX0_jump_1 : decode cX0_jump 1 = .ok (.getfield 17, 3) := by decide +kernel
theorem dX0_jump_4 : decode cX0_jump 4 = .ok (.iconst 3, 1) := by decide +kernel
theorem dX0_jump_5 : decode cX0_jump 5 = .ok (.invokestatic 53, 3) := by decide +kernel
theorem dX0_jump_8 : decode cX0_jump 8 = .ok (.ifCond .ne 8, 3) := by decide +kernel
theorem dX0_jump_11 : decode cX0_jump 11 = .ok (.aload_n 0, 1) := by decide +kernel
theorem dX0_jump_12 : decode cX0_jump 12 = .ok (.invokevirtual 74, 3) := by decide +kernel
theorem dX0_jump_15 : decode cX0_jump 15 = .ok (.return_, 1) := by decide +kernel
theorem dX0_jump_16 : decode cX0_jump 16 = .ok (.aload_n 0, 1) := by decide +kernel
theorem dX0_jump_17 : decode cX0_jump 17 = .ok (.aload_n 0, 1) := by decide +kernel
theorem dX0_jump_18 : decode cX0_jump 18 = .ok (.getfield 17, 3) := by decide +kernel
theorem dX0_jump_21 : decode cX0_jump 21 = .ok (.aload_n 0, 1) := by decide +kernel
theorem dX0_jump_22 : decode cX0_jump 22 = .ok (.aload_n 0, 1) := by decide +kernel
theorem dX0_jump_23 : decode cX0_jump 23 = .ok (.getfield 17, 3) := by decide +kernel
theorem dX0_jump_26 : decode cX0_jump 26 = .ok (.iconst 1, 1) := by decide +kernel
theorem dX0_jump_27 : decode cX0_jump 27 = .ok (.iadd, 1) := by decide +kernel
theorem dX0_jump_28 : decode cX0_jump 28 = .ok (.invokevirtual 152, 3) := by decide +kernel
theorem dX0_jump_31 : decode cX0_jump 31 = .ok (.iadd, 1) := by decide +kernel
theorem dX0_jump_32 : decode cX0_jump 32 = .ok (.iload_n 1, 1) := by decide +kernel
theorem dX0_jump_33 : decode cX0_jump 33 = .ok (.invokevirtual 81, 3) := by decide +kernel
theorem dX0_jump_36 : decode cX0_jump 36 = .ok (.return_, 1) := by decide +kernel
theorem dX0_jumpOnTop_0 : decode cX0_jumpOnTop 0 = .ok (.aload_n 0, 1) := by decide +kernel
theorem dX0_jumpOnTop_1 : decode cX0_jumpOnTop 1 = .ok (.getfield 21, 3) := by decide +kernel
theorem dX0_jumpOnTop_4 : decode cX0_jumpOnTop 4 = .ok (.iconst 1, 1) := by decide +kernel
theorem dX0_jumpOnTop_5 : decode cX0_jumpOnTop 5 = .ok (.isub, 1) := by decide +kernel
theorem dX0_jumpOnTop_6 : decode cX0_jumpOnTop 6 = .ok (.istore_n 2, 1) := by decide +kernel
theorem dX0_jumpOnTop_7 : decode cX0_jumpOnTop 7 = .ok (.iload_n 2, 1) := by decide +kernel
theorem dX0_jumpOnTop_8 : decode cX0_jumpOnTop 8 = .ok (.invokestatic 42, 3) := by decide +kernel
theorem dX0_jumpOnTop_11 : decode cX0_jumpOnTop 11 = .ok (.ifCond .ne 8, 3) := by decide +kernel
theorem dX0_jumpOnTop_14 : decode cX0_jumpOnTop 14 = .ok (.aload_n 0, 1) := by decide +kernel
theorem dX0_jumpOnTop_15 : decode cX0_jumpOnTop 15 = .ok (.invokevirtual 74, 3) := by decide +kernel
theorem dX0_jumpOnTop_18 : decode cX0_jumpOnTop 18 = .ok (.return_, 1) := by decide +kernel
theorem dX0_jumpOnTop_19 : decode cX0_jumpOnTop 19 = .ok (.aload_n 0, 1) := by decide +kernel
theorem dX0_jumpOnTop_20 : decode cX0_jumpOnTop 20 = .ok (.iload_n 1, 1) := by decide +kernel
theorem dX0_jumpOnTop_21 : decode cX0_jumpOnTop 21 = .ok (.iload_n 2, 1) := by decide +kernel
theorem dX0_jumpOnTop_22 : decode cX0_jumpOnTop 22 = .ok (.bipush 8, 2) := by decide +kernel
theorem dX0_jumpOnTop_24 : decode cX0_jumpOnTop 24 = .ok (.invokevirtual 155, 3) := by decide +kernel
theorem dX0_jumpOnTop_27 : decode cX0_jumpOnTop 27 = .ok (.return_, 1) := by decide +kernel
theorem dX0_jumpOnLike_0 : decode cX0_jumpOnLike 0 = .ok (.aload_n 0, 1) := by decide +kernel
theorem dX0_jumpOnLike_1 : decode cX0_jumpOnLike 1 = .ok (.getfield 21, 3) := by decide +kernel
theorem dX0_jumpOnLike_4 : decode cX0_jumpOnLike 4 = .ok (.iconst 1, 1) := by decide +kernel
theorem dX0_jumpOnLike_5 : decode cX0_jumpOnLike 5 = .ok (.isub, 1) := by decide +kernel
theorem dX0_jumpOnLike_6 : decode cX0_jumpOnLike 6 = .ok (.istore_n 1, 1) := by decide +kernel
theorem dX0_jumpOnLike_7 : decode cX0_jumpOnLike 7 = .ok (.aload_n 0, 1) := by decide +kernel
theorem dX0_jumpOnLike_8 : decode cX0_jumpOnLike 8 = .ok (.getfield 21, 3) := by decide +kernel
theorem dX0_jumpOnLike_11 : decode cX0_jumpOnLike 11 = .ok (.iconst 2, 1) := by decide +kernel
theorem dX0_jumpOnLike_12 : decode cX0_jumpOnLike 12 = .ok (.isub, 1) := by decide +kernel
theorem dX0_jumpOnLike_13 : decode cX0_jumpOnLike 13 = .ok (.istore_n 2, 1) := by decide +kernel
theorem dX0_jumpOnLike_14 : decode cX0_jumpOnLike 14 = .ok (.iload_n 1, 1) := by decide +kernel
theorem dX0_jumpOnLike_15 : decode cX0_jumpOnLike 15 = .ok (.invokestatic 42, 3) := by decide +kernel
theorem dX0_jumpOnLike_18 : decode cX0_jumpOnLike 18 = .ok (.ifCond .eq 10, 3) := by decide +kernel
theorem dX0_jumpOnLike_21 : decode cX0_jumpOnLike 21 = .ok (.iload_n 2, 1) := by decide +kernel
theorem dX0_jumpOnLike_22 : decode cX0_jumpOnLike 22 = .ok (.invokestatic 42, 3) := by decide +kernel
theorem dX0_jumpOnLike_25 : decode cX0_jumpOnLike 25 = .ok (.ifCond .ne 8, 3) := by decide +kernel
theorem dX0_jumpOnLike_28 : decode cX0_jumpOnLike 28 = .ok (.aload_n 0, 1) := by decide +kernel
theorem dX0_jumpOnLike_29 : decode cX0_jumpOnLike 29 = .ok (.invokevirtual 74, 3) := by decide +kernel
theorem dX0_jumpOnLike_32 : decode cX0_jumpOnLike 32 = .ok (.return_, 1) := by decide +kernel
theorem dX0_jumpOnLike_33 : decode cX0_jumpOnLike 33 = .ok (.aload_n 0, 1) := by decide +kernel
theorem dX0_jumpOnLike_34 : decode cX0_jumpOnLike 34 = .ok (.aload_n 0, 1) := by decide +kernel
theorem dX0_jumpOnLike_35 : decode cX0_jumpOnLike 35 = .ok (.getfield 30, 3) := by decide +kernel
theorem dX0_jumpOnLike_38 : decode cX0_jumpOnLike 38 = .ok (.aload_n 0, 1) := by decide +kernel
theorem dX0_jumpOnLike_39 : decode cX0_jumpOnLike 39 = .ok (.getfield 9, 3) := by decide +kernel
theorem dX0_jumpOnLike_42 : decode cX0_jumpOnLike 42 = .ok (.iload_n 1, 1) := by decide +kernel
theorem dX0_jumpOnLike_43 : decode cX0_jumpOnLike 43 = .ok (.iaload, 1) := by decide +kernel
theorem dX0_jumpOnLike_44 : decode cX0_jumpOnLike 44 = .ok (.if_icmp .ne 7, 3) := by decide +kernel
theorem dX0_jumpOnLike_47 : decode cX0_jumpOnLike 47 = .ok (.iconst 1, 1) := by decide +kernel
theorem dX0_jumpOnLike_48 : decode cX0_jumpOnLike 48 = .ok (.goto 4, 3) := by decide +kernel
theorem dX0_jumpOnLike_51 : decode cX0_jumpOnLike 51 = .ok (.iconst 0, 1) := by decide +kernel
theorem dX0_jumpOnLike_52 : decode cX0_jumpOnLike 52 = .ok (.iload_n 2, 1) := by decide +kernel
theorem dX0_jumpOnLike_53 : decode cX0_jumpOnLike 53 = .ok (.bipush 10, 2) := by decide +kernel
theorem dX0_jumpOnLike_55 : decode cX0_jumpOnLike 55 = .ok (.invokevirtual 155, 3) := by decide +kernel
theorem dX0_jumpOnLike_58 : decode cX0_jumpOnLike 58 = .ok (.return_, 1) := by decide +kernel
theorem dX0_branch_0 : decode cX0_branch 0 = .ok (.iload_n 1, 1) := by decide +kernel
theorem dX0_branch_1 : decode cX0_branch 1 = .ok (.ifCond .eq 19, 3) := by decide +kernel
theorem dX0_branch_4 : decode cX0_branch 4 = .ok (.aload_n 0, 1) := by decide +kernel
theorem dX0_branch_5 : decode cX0_branch 5 = .ok (.getfield 17, 3) := by decide +kernel
theorem dX0_branch_8 : decode cX0_branch 8 = .ok (.iconst 3, 1) := by decide +kernel
theorem dX0_branch_9 : decode cX0_branch 9 = .ok (.invokestatic 53, 3) := by decide +kernel
theorem dX0_branch_12 : decode cX0_branch 12 = .ok (.ifCond .ne 8, 3) := by decide +kernel
theorem dX0_branch_15 : decode cX0_branch 15 = .ok (.aload_n 0, 1) := by decide +kernel
theorem dX0_branch_16 : decode cX0_branch 16 = .ok (.invokevirtual 74, 3) := by decide +kernel
theorem dX0_branch_19 : decode cX0_branch 19 = .ok (.return_, 1) := by decide +kernel
theorem dX0_branch_20 : decode cX0_branch 20 = .ok (.aload_n 0, 1) := by decide +kernel
theorem dX0_branch_21 : decode cX0_branch 21 = .ok (.iload_n 2, 1) := by decide +kernel
theorem dX0_branch_22 : decode cX0_branch 22 = .ok (.putfield 21, 3) := by decide +kernel
theorem dX0_branch_25 : decode cX0_branch 25 = .ok (.aload_n 0, 1) := by decide +kernel
theorem dX0_branch_26 : decode cX0_branch 26 = .ok (.aload_n 0, 1) := by decide +kernel
theorem dX0_branch_27 : decode cX0_branch 27 = .ok (.getfield 9, 3) := by decide +kernel
theorem dX0_branch_30 : decode cX0_branch 30 = .ok (.iload_n 2, 1) := by decide +kernel
theorem dX0_branch_31 : decode cX0_branch 31 = .ok (.iaload, 1) := by decide +kernel
theorem dX0_branch_32 : decode cX0_branch 32 = .ok (.putfield 30, 3) := by decide +kernel
theorem dX0_branch_35 : decode cX0_branch 35 = .ok (.iload_n 1, 1) := by decide +kernel
theorem dX0_branch_36 : decode cX0_branch 36 = .ok (.ifCond .eq 13, 3) := by decide +kernel
theorem dX0_branch_39 : decode cX0_branch 39 = .ok (.aload_n 0, 1) := by decide +kernel
theorem dX0_branch_40 : decode cX0_branch 40 = .ok (.iload_n 3, 1) := by decide +kernel
theorem dX0_branch_41 : decode cX0_branch 41 = .ok (.iconst 3, 1) := by decide +kernel
theorem dX0_branch_42 : decode cX0_branch 42 = .ok (.iadd, 1) := by decide +kernel
theorem dX0_branch_43 : decode cX0_branch 43 = .ok (.invokevirtual 117, 3) := by decide +kernel
theorem dX0_branch_46 : decode cX0_branch 46 = .ok (.goto 14, 3) := by decide +kernel
theorem dX0_branch_49 : decode cX0_branch 49 = .ok (.aload_n 0, 1) := by decide +kernel
theorem dX0_branch_50 : decode cX0_branch 50 = .ok (.aload_n 0, 1) := by decide +kernel
theorem dX0_branch_51 : decode cX0_branch 51 = .ok (.getfield 17, 3) := by decide +kernel
theorem dX0_branch_54 : decode cX0_branch 54 = .ok (.iconst 3, 1) := by decide +kernel
theorem dX0_branch_55 : decode cX0_branch 55 = .ok (.iadd, 1) := by decide +kernel
theorem dX0_branch_56 : decode cX0_branch 56 = .ok (.iload_n 3, 1) := by decide +kernel
theorem dX0_branch_57 : decode cX0_branch 57 = .ok (.invokevirtual 81, 3) := by decide +kernel
theorem dX0_branch_60 : decode cX0_branch 60 = .ok (.return_, 1) := by decide +kernel
theorem dX0_enter_0 : decode cX0_enter 0 = .ok (.aload_n 0, 1) := by decide +kernel
theorem dX0_enter_1 : decode cX0_enter 1 = .ok (.getfield 17, 3) := by decide +kernel
theorem dX0_enter_4 : decode cX0_enter 4 = .ok (.iconst 3, 1) := by decide +kernel
theorem dX0_enter_5 : decode cX0_enter 5 = .ok (.invokestatic 53, 3) := by decide +kernel
theorem dX0_enter_8 : decode cX0_enter 8 = .ok (.ifCond .ne 8, 3) := by decide +kernel
theorem dX0_enter_11 : decode cX0_enter 11 = .ok (.aload_n 0, 1) := by decide +kernel
theorem dX0_enter_12 : decode cX0_enter 12 = .ok (.invokevirtual 74, 3) := by decide +kernel
theorem dX0_enter_15 : decode cX0_enter 15 = .ok (.return_, 1) := by decide +kernel
theorem dX0_enter_16 : decode cX0_enter 16 = .ok (.aload_n 0, 1) := by decide +kernel
theorem dX0_enter_17 : decode cX0_enter 17 = .ok (.getfield 27, 3) := by decide +kernel
theorem dX0_enter_20 : decode cX0_enter 20 = .ok (.aload_n 0, 1) := by decide +kernel
theorem dX0_enter_21 : decode cX0_enter 21 = .ok (.aload_n 0, 1) := by decide +kernel
theorem dX0_enter_22 : decode cX0_enter 22 = .ok (.getfield 17, 3) := by decide +kernel
theorem dX0_enter_25 : decode cX0_enter 25 = .ok (.iconst 1, 1) := by decide +kernel
theorem dX0_enter_26 : decode cX0_enter 26 = .ok (.iadd, 1) := by decide +kernel
theorem dX0_enter_27 : decode cX0_enter 27 = .ok (.invokevirtual 149, 3) := by decide +kernel
theorem dX0_enter_30 : decode cX0_enter 30 = .ok (.iadd, 1) := by decide +kernel
theorem dX0_enter_31 : decode cX0_enter 31 = .ok (.istore_n 1, 1) := by decide +kernel
theorem dX0_enter_32 : decode cX0_enter 32 = .ok (.iload_n 1, 1) := by decide +kernel
theorem dX0_enter_33 : decode cX0_enter 33 = .ok (.invokestatic 42, 3) := by decide +kernel
theorem dX0_enter_36 : decode cX0_enter 36 = .ok (.ifCond .eq 16, 3) := by decide +kernel
theorem dX0_enter_39 : decode cX0_enter 39 = .ok (.aload_n 0, 1) := by decide +kernel
theorem dX0_enter_40 : decode cX0_enter 40 = .ok (.getfield 9, 3) := by decide +kernel
theorem dX0_enter_43 : decode cX0_enter 43 = .ok (.iload_n 1, 1) := by decide +kernel
theorem dX0_enter_44 : decode cX0_enter 44 = .ok (.iaload, 1) := by decide +kernel
theorem dX0_enter_45 : decode cX0_enter 45 = .ok (.iconst 4, 1) := by decide +kernel
theorem dX0_enter_46 : decode cX0_enter 46 = .ok (.invokestatic 53, 3) := by decide +kernel
theorem dX0_enter_49 : decode cX0_enter 49 = .ok (.ifCond .ne 8, 3) := by decide +kernel
theorem dX0_enter_52 : decode cX0_enter 52 = .ok (.aload_n 0, 1) := by decide +kernel
theorem dX0_enter_53 : decode cX0_enter 53 = .ok (.invokevirtual 74, 3) := by decide +kernel
theorem dX0_enter_56 : decode cX0_enter 56 = .ok (.return_, 1) := by decide +kernel
theorem dX0_enter_57 : decode cX0_enter 57 = .ok (.aload_n 0, 1) := by decide +kernel
theorem dX0_enter_58 : decode cX0_enter 58 = .ok (.getfield 9, 3) := by decide +kernel
theorem dX0_enter_61 : decode cX0_enter 61 = .ok (.iload_n 1, 1) := by decide +kernel
theorem dX0_enter_62 : decode cX0_enter 62 = .ok (.iaload, 1) := by decide +kernel
theorem dX0_enter_63 : decode cX0_enter 63 = .ok (.istore_n 2, 1) := by decide +kernel
theorem dX0_enter_64 : decode cX0_enter 64 = .ok (.aload_n 0, 1) := by decide +kernel
theorem dX0_enter_65 : decode cX0_enter 65 = .ok (.getfield 21, 3) := by decide +kernel
theorem dX0_enter_68 : decode cX0_enter 68 = .ok (.aload_n 0, 1) := by decide +kernel
theorem dX0_enter_69 : decode cX0_enter 69 = .ok (.iload_n 2, 1) := by decide +kernel
theorem dX0_enter_70 : decode cX0_enter 70 = .ok (.invokevirtual 149, 3) := by decide +kernel
theorem dX0_enter_73 : decode cX0_enter 73 = .ok (.isub, 1) := by decide +kernel
theorem dX0_enter_74 : decode cX0_enter 74 = .ok (.iconst 1, 1) := by decide +kernel
theorem dX0_enter_75 : decode cX0_enter 75 = .ok (.iadd, 1) := by decide +kernel
theorem dX0_enter_76 : decode cX0_enter 76 = .ok (.istore_n 3, 1) := by decide +kernel
theorem dX0_enter_77 : decode cX0_enter 77 = .ok (.aload_n 0, 1) := by decide +kernel
theorem dX0_enter_78 : decode cX0_enter 78 = .ok (.getfield 21, 3) := by decide +kernel
theorem dX0_enter_81 : decode cX0_enter 81 = .ok (.aload_n 0, 1) := by decide +kernel
theorem dX0_enter_82 : decode cX0_enter 82 = .ok (.iload_n 2, 1) := by decide +kernel
theorem dX0_enter_83 : decode cX0_enter 83 = .ok (.iconst 2, 1) := by decide +kernel
theorem dX0_enter_84 : decode cX0_enter 84 = .ok (.iadd, 1) := by decide +kernel
theorem dX0_enter_85 : decode cX0_enter 85 = .ok (.invokevirtual 149, 3) := by decide +kernel
theorem dX0_enter_88 : decode cX0_enter 88 = .ok (.iadd, 1) := by decide +kernel
theorem dX0_enter_89 : decode cX0_enter 89 = .ok (.iconst 1, 1) := by decide +kernel
theorem dX0_enter_90 : decode cX0_enter 90 = .ok (.iadd, 1) := by decide +kernel
theorem dX0_enter_91 : decode cX0_enter 91 = .ok (.istore 4, 2) := by decide +kernel
theorem dX0_enter_93 : decode cX0_enter 93 = .ok (.iload_n 3, 1) := by decide +kernel
theorem dX0_enter_94 : decode cX0_enter 94 = .ok (.invokestatic 42, 3) := by decide +kernel
theorem dX0_enter_97 : decode cX0_enter 97 = .ok (.ifCond .eq 21, 3) := by decide +kernel
theorem dX0_enter_100 : decode cX0_enter 100 = .ok (.iload 4, 2) := by decide +kernel
theorem dX0_enter_102 : decode cX0_enter 102 = .ok (.invokestatic 42, 3) := by decide +kernel
theorem dX0_enter_105 : decode cX0_enter 105 = .ok (.ifCond .eq 13, 3) := by decide +kernel
theorem dX0_enter_108 : decode cX0_enter 108 = .ok (.iload 4, 2) := by decide +kernel
theorem dX0_enter_110 : decode cX0_enter 110 = .ok (.iconst 1, 1) := by decide +kernel
theorem dX0_enter_111 : decode cX0_enter 111 = .ok (.iadd, 1) := by decide +kernel
theorem dX0_enter_112 : decode cX0_enter 112 = .ok (.invokestatic 42, 3) := by decide +kernel
theorem dX0_enter_115 : decode cX0_enter 115 = .ok (.ifCond .ne 8, 3) := by decide +kernel
theorem dX0_enter_118 : decode cX0_enter 118 = .ok (.aload_n 0, 1) := by decide +kernel
theorem dX0_enter_119 : decode cX0_enter 119 = .ok (.invokevirtual 74, 3) := by decide +kernel
theorem dX0_enter_122 : decode cX0_enter 122 = .ok (.return_, 1) := by decide +kernel
theorem dX0_enter_123 : decode cX0_enter 123 = .ok (.aload_n 0, 1) := by decide +kernel
theorem dX0_enter_124 : decode cX0_enter 124 = .ok (.getfield 9, 3) := by decide +kernel
theorem dX0_enter_127 : decode cX0_enter 127 = .ok (.iload_n 3, 1) := by decide +kernel
theorem dX0_enter_128 : decode cX0_enter 128 = .ok (.iload 4, 2) := by decide +kernel
theorem dX0_enter_130 : decode cX0_enter 130 = .ok (.iastore, 1) := by decide +kernel
theorem dX0_enter_131 : decode cX0_enter 131 = .ok (.aload_n 0, 1) := by decide +kernel
theorem dX0_enter_132 : decode cX0_enter 132 = .ok (.getfield 9, 3) := by decide +kernel
theorem dX0_enter_135 : decode cX0_enter 135 = .ok (.iload 4, 2) := by decide +kernel
theorem dX0_enter_137 : decode cX0_enter 137 = .ok (.aload_n 0, 1) := by decide +kernel
theorem dX0_enter_138 : decode cX0_enter 138 = .ok (.getfield 17, 3) := by decide +kernel
theorem dX0_enter_141 : decode cX0_enter 141 = .ok (.iconst 3, 1) := by decide +kernel
theorem dX0_enter_142 : decode cX0_enter 142 = .ok (.iadd, 1) := by decide +kernel
theorem dX0_enter_143 : decode cX0_enter 143 = .ok (.iastore, 1) := by decide +kernel
theorem dX0_enter_144 : decode cX0_enter 144 = .ok (.aload_n 0, 1) := by decide +kernel
theorem dX0_enter_145 : decode cX0_enter 145 = .ok (.getfield 9, 3) := by decide +kernel
theorem dX0_enter_148 : decode cX0_enter 148 = .ok (.iload 4, 2) := by decide +kernel
theorem dX0_enter_150 : decode cX0_enter 150 = .ok (.iconst 1, 1) := by decide +kernel
theorem dX0_enter_151 : decode cX0_enter 151 = .ok (.iadd, 1) := by decide +kernel
theorem dX0_enter_152 : decode cX0_enter 152 = .ok (.aload_n 0, 1) := by decide +kernel
theorem dX0_enter_153 : decode cX0_enter 153 = .ok (.getfield 24, 3) := by decide +kernel
theorem dX0_enter_156 : decode cX0_enter 156 = .ok (.iastore, 1) := by decide +kernel
theorem dX0_enter_157 : decode cX0_enter 157 = .ok (.aload_n 0, 1) := by decide +kernel
theorem dX0_enter_158 : decode cX0_enter 158 = .ok (.iload 4, 2) := by decide +kernel
theorem dX0_enter_160 : decode cX0_enter 160 = .ok (.iconst 1, 1) := by decide +kernel
theorem dX0_enter_161 : decode cX0_enter 161 = .ok (.iadd, 1) := by decide +kernel
theorem dX0_enter_162 : decode cX0_enter 162 = .ok (.putfield 21, 3) := by decide +kernel
theorem dX0_enter_165 : decode cX0_enter 165 = .ok (.aload_n 0, 1) := by decide +kernel
theorem dX0_enter_166 : decode cX0_enter 166 = .ok (.iload_n 3, 1) := by decide +kernel
theorem dX0_enter_167 : decode cX0_enter 167 = .ok (.putfield 24, 3) := by decide +kernel
theorem dX0_enter_170 : decode cX0_enter 170 = .ok (.aload_n 0, 1) := by decide +kernel
theorem dX0_enter_171 : decode cX0_enter 171 = .ok (.iload_n 3, 1) := by decide +kernel
theorem dX0_enter_172 : decode cX0_enter 172 = .ok (.putfield 30, 3) := by decide +kernel
theorem dX0_enter_175 : decode cX0_enter 175 = .ok (.aload_n 0, 1) := by decide +kernel
theorem dX0_enter_176 : decode cX0_enter 176 = .ok (.iload_n 2, 1) := by decide +kernel
theorem dX0_enter_177 : decode cX0_enter 177 = .ok (.iconst 4, 1) := by decide +kernel
theorem dX0_enter_178 : decode cX0_enter 178 = .ok (.iadd, 1) := by decide +kernel
theorem dX0_enter_179 : decode cX0_enter 179 = .ok (.bipush 23, 2) := by decide +kernel
theorem dX0_enter_181 : decode cX0_enter 181 = .ok (.invokevirtual 81, 3) := by decide +kernel
theorem dX0_enter_184 : decode cX0_enter 184 = .ok (.return_, 1) := by decide +kernel
theorem dX0_leave_0 : decode cX0_leave 0 = .ok (.aload_n 0, 1) := by decide +kernel
theorem dX0_leave_1 : decode cX0_leave 1 = .ok (.getfield 24, 3) := by decide +kernel
theorem dX0_leave_4 : decode cX0_leave 4 = .ok (.invokestatic 42, 3) := by decide +kernel
theorem dX0_leave_7 : decode cX0_leave 7 = .ok (.ifCond .ne 8, 3) := by decide +kernel
theorem dX0_leave_10 : decode cX0_leave 10 = .ok (.aload_n 0, 1) := by decide +kernel
theorem dX0_leave_11 : decode cX0_leave 11 = .ok (.invokevirtual 74, 3) := by decide +kernel
theorem dX0_leave_14 : decode cX0_leave 14 = .ok (.return_, 1) := by decide +kernel
theorem dX0_leave_15 : decode cX0_leave 15 = .ok (.aload_n 0, 1) := by decide +kernel
theorem dX0_leave_16 : decode cX0_leave 16 = .ok (.getfield 9, 3) := by decide +kernel
theorem dX0_leave_19 : decode cX0_leave 19 = .ok (.aload_n 0, 1) := by decide +kernel
theorem dX0_leave_20 : decode cX0_leave 20 = .ok (.getfield 24, 3) := by decide +kernel
theorem dX0_leave_23 : decode cX0_leave 23 = .ok (.iaload, 1) := by decide +kernel
theorem dX0_leave_24 : decode cX0_leave 24 = .ok (.istore_n 1, 1) := by decide +kernel
theorem dX0_leave_25 : decode cX0_leave 25 = .ok (.iload_n 1, 1) := by decide +kernel
theorem dX0_leave_26 : decode cX0_leave 26 = .ok (.invokestatic 42, 3) := by decide +kernel
theorem dX0_leave_29 : decode cX0_leave 29 = .ok (.ifCond .eq 12, 3) := by decide +kernel
theorem dX0_leave_32 : decode cX0_leave 32 = .ok (.iload_n 1, 1) := by decide +kernel
theorem dX0_leave_33 : decode cX0_leave 33 = .ok (.iconst 1, 1) := by decide +kernel
theorem dX0_leave_34 : decode cX0_leave 34 = .ok (.iadd, 1) := by decide +kernel
theorem dX0_leave_35 : decode cX0_leave 35 = .ok (.invokestatic 42, 3) := by decide +kernel
theorem dX0_leave_38 : decode cX0_leave 38 = .ok (.ifCond .ne 8, 3) := by decide +kernel
theorem dX0_leave_41 : decode cX0_leave 41 = .ok (.aload_n 0, 1) := by decide +kernel
theorem dX0_leave_42 : decode cX0_leave 42 = .ok (.invokevirtual 74, 3) := by decide +kernel
theorem dX0_leave_45 : decode cX0_leave 45 = .ok (.return_, 1) := by decide +kernel
theorem dX0_leave_46 : decode cX0_leave 46 = .ok (.aload_n 0, 1) := by decide +kernel
theorem dX0_leave_47 : decode cX0_leave 47 = .ok (.getfield 9, 3) := by decide +kernel
theorem dX0_leave_50 : decode cX0_leave 50 = .ok (.iload_n 1, 1) := by decide +kernel
theorem dX0_leave_51 : decode cX0_leave 51 = .ok (.iaload, 1) := by decide +kernel
theorem dX0_leave_52 : decode cX0_leave 52 = .ok (.istore_n 2, 1) := by decide +kernel
theorem dX0_leave_53 : decode cX0_leave 53 = .ok (.aload_n 0, 1) := by decide +kernel
theorem dX0_leave_54 : decode cX0_leave 54 = .ok (.getfield 9, 3) := by decide +kernel
theorem dX0_leave_57 : decode cX0_leave 57 = .ok (.iload_n 1, 1) := by decide +kernel
theorem dX0_leave_58 : decode cX0_leave 58 = .ok (.iconst 1, 1) := by decide +kernel
theorem dX0_leave_59 : decode cX0_leave 59 = .ok (.iadd, 1) := by decide +kernel
theorem dX0_leave_60 : decode cX0_leave 60 = .ok (.iaload, 1) := by decide +kernel
theorem dX0_leave_61 : decode cX0_leave 61 = .ok (.istore_n 3, 1) := by decide +kernel
theorem dX0_leave_62 : decode cX0_leave 62 = .ok (.aload_n 0, 1) := by decide +kernel
theorem dX0_leave_63 : decode cX0_leave 63 = .ok (.getfield 9, 3) := by decide +kernel
theorem dX0_leave_66 : decode cX0_leave 66 = .ok (.aload_n 0, 1) := by decide +kernel
theorem dX0_leave_67 : decode cX0_leave 67 = .ok (.getfield 24, 3) := by decide +kernel
theorem dX0_leave_70 : decode cX0_leave 70 = .ok (.aload_n 0, 1) := by decide +kernel
theorem dX0_leave_71 : decode cX0_leave 71 = .ok (.getfield 30, 3) := by decide +kernel
theorem dX0_leave_74 : decode cX0_leave 74 = .ok (.iastore, 1) := by decide +kernel
theorem dX0_leave_75 : decode cX0_leave 75 = .ok (.aload_n 0, 1) := by decide +kernel
theorem dX0_leave_76 : decode cX0_leave 76 = .ok (.aload_n 0, 1) := by decide +kernel
theorem dX0_leave_77 : decode cX0_leave 77 = .ok (.getfield 24, 3) := by decide +kernel
theorem dX0_leave_80 : decode cX0_leave 80 = .ok (.putfield 21, 3) := by decide +kernel
theorem dX0_leave_83 : decode cX0_leave 83 = .ok (.aload_n 0, 1) := by decide +kernel
theorem dX0_leave_84 : decode cX0_leave 84 = .ok (.iload_n 3, 1) := by decide +kernel
theorem dX0_leave_85 : decode cX0_leave 85 = .ok (.putfield 24, 3) := by decide +kernel
theorem dX0_leave_88 : decode cX0_leave 88 = .ok (.aload_n 0, 1) := by decide +kernel
theorem dX0_leave_89 : decode cX0_leave 89 = .ok (.iload_n 2, 1) := by decide +kernel
theorem dX0_leave_90 : decode cX0_leave 90 = .ok (.bipush 9, 2) := by decide +kernel
theorem dX0_leave_92 : decode cX0_leave 92 = .ok (.invokevirtual 81, 3) := by decide +kernel
theorem dX0_leave_95 : decode cX0_leave 95 = .ok (.return_, 1) := by decide +kernel
theorem dX0_halt_0 : decode cX0_halt 0 = .ok (.aload_n 0, 1) := by decide +kernel
theorem dX0_halt_1 : decode cX0_halt 1 = .ok (.iconst 1, 1) := by decide +kernel
theorem dX0_halt_2 : decode cX0_halt 2 = .ok (.putfield 33, 3) := by decide +kernel
theorem dX0_halt_5 : decode cX0_halt 5 = .ok (.aload_n 0, 1) := by decide +kernel
theorem dX0_halt_6 : decode cX0_halt 6 = .ok (.aload_n 0, 1) := by decide +kernel
theorem dX0_halt_7 : decode cX0_halt 7 = .ok (.getfield 17, 3) := by decide +kernel
theorem dX0_halt_10 : decode cX0_halt 10 = .ok (.iconst 2, 1) := by decide +kernel
theorem dX0_halt_11 : decode cX0_halt 11 = .ok (.invokevirtual 81, 3) := by decide +kernel
theorem dX0_halt_14 : decode cX0_halt 14 = .ok (.return_, 1) := by decide +kernel
theorem dX0_trap_0 : decode cX0_trap 0 = .ok (.aload_n 0, 1) := by decide +kernel
theorem dX0_trap_1 : decode cX0_trap 1 = .ok (.iconst 2, 1) := by decide +kernel
theorem dX0_trap_2 : decode cX0_trap 2 = .ok (.putfield 33, 3) := by decide +kernel
theorem dX0_trap_5 : decode cX0_trap 5 = .ok (.return_, 1) := by decide +kernel
theorem dX0_fault_0 : decode cX0_fault 0 = .ok (.aload_n 0, 1) := by decide +kernel
theorem dX0_fault_1 : decode cX0_fault 1 = .ok (.iconst 3, 1) := by decide +kernel
theorem dX0_fault_2 : decode cX0_fault 2 = .ok (.putfield 33, 3) := by decide +kernel
theorem dX0_fault_5 : decode cX0_fault 5 = .ok (.return_, 1) := by decide +kernel
theorem dX0_finish_0 : decode cX0_finish 0 = .ok (.aload_n 0, 1) := by decide +kernel
theorem dX0_finish_1 : decode cX0_finish 1 = .ok (.iload_n 1, 1) := by decide +kernel
theorem dX0_finish_2 : decode cX0_finish 2 = .ok (.putfield 17, 3) := by decide +kernel
theorem dX0_finish_5 : decode cX0_finish 5 = .ok (.aload_n 0, 1) := by decide +kernel
theorem dX0_finish_6 : decode cX0_finish 6 = .ok (.dup, 1) := by decide +kernel
theorem dX0_finish_7 : decode cX0_finish 7 = .ok (.getfield 36, 3) := by decide +kernel
theorem dX0_finish_10 : decode cX0_finish 10 = .ok (.iload_n 2, 1) := by decide +kernel
theorem dX0_finish_11 : decode cX0_finish 11 = .ok (.iadd, 1) := by decide +kernel
theorem dX0_finish_12 : decode cX0_finish 12 = .ok (.putfield 36, 3) := by decide +kernel
theorem dX0_finish_15 : decode cX0_finish 15 = .ok (.aload_n 0, 1) := by decide +kernel
theorem dX0_finish_16 : decode cX0_finish 16 = .ok (.dup, 1) := by decide +kernel
theorem dX0_finish_17 : decode cX0_finish 17 = .ok (.getfield 39, 3) := by decide +kernel
theorem dX0_finish_20 : decode cX0_finish 20 = .ok (.iconst 1, 1) := by decide +kernel
theorem dX0_finish_21 : decode cX0_finish 21 = .ok (.iadd, 1) := by decide +kernel
theorem dX0_finish_22 : decode cX0_finish 22 = .ok (.putfield 39, 3) := by decide +kernel
theorem dX0_finish_25 : decode cX0_finish 25 = .ok (.return_, 1) := by decide +kernel
theorem dX0_isWord_0 : decode cX0_isWord 0 = .ok (.iload_n 0, 1) := by decide +kernel
theorem dX0_isWord_1 : decode cX0_isWord 1 = .ok (.ifCond .lt 14, 3) := by decide +kernel
theorem dX0_isWord_4 : decode cX0_isWord 4 = .ok (.iload_n 0, 1) := by decide +kernel
theorem dX0_isWord_5 : decode cX0_isWord 5 = .ok (.sipush 256, 3) := by decide +kernel
theorem dX0_isWord_8 : decode cX0_isWord 8 = .ok (.if_icmp .ge 7, 3) := by decide +kernel
theorem dX0_isWord_11 : decode cX0_isWord 11 = .ok (.iconst 1, 1) := by decide +kernel
theorem dX0_isWord_12 : decode cX0_isWord 12 = .ok (.goto 4, 3) := by decide +kernel
theorem dX0_isWord_15 : decode cX0_isWord 15 = .ok (.iconst 0, 1) := by decide +kernel
theorem dX0_isWord_16 : decode cX0_isWord 16 = .ok (.ireturn, 1) := by decide +kernel
theorem dX0_areBytes_0 : decode cX0_areBytes 0 = .ok (.iload_n 0, 1) := by decide +kernel
theorem dX0_areBytes_1 : decode cX0_areBytes 1 = .ok (.ifCond .lt 16, 3) := by decide +kernel
theorem dX0_areBytes_4 : decode cX0_areBytes 4 = .ok (.iload_n 0, 1) := by decide +kernel
theorem dX0_areBytes_5 : decode cX0_areBytes 5 = .ok (.sipush 512, 3) := by decide +kernel
theorem dX0_areBytes_8 : decode cX0_areBytes 8 = .ok (.iload_n 1, 1) := by decide +kernel
theorem dX0_areBytes_9 : decode cX0_areBytes 9 = .ok (.isub, 1) := by decide +kernel
theorem dX0_areBytes_10 : decode cX0_areBytes 10 = .ok (.if_icmp .gt 7, 3) := by decide +kernel
theorem dX0_areBytes_13 : decode cX0_areBytes 13 = .ok (.iconst 1, 1) := by decide +kernel
theorem dX0_areBytes_14 : decode cX0_areBytes 14 = .ok (.goto 4, 3) := by decide +kernel
theorem dX0_areBytes_17 : decode cX0_areBytes 17 = .ok (.iconst 0, 1) := by decide +kernel
theorem dX0_areBytes_18 : decode cX0_areBytes 18 = .ok (.ireturn, 1) := by decide +kernel
theorem dX0_unsignedByte_0 : decode cX0_unsignedByte 0 = .ok (.aload_n 0, 1) := by decide +kernel
theorem dX0_unsignedByte_1 : decode cX0_unsignedByte 1 = .ok (.getfield 13, 3) := by decide +kernel
theorem dX0_unsignedByte_4 : decode cX0_unsignedByte 4 = .ok (.iload_n 1, 1) := by decide +kernel
theorem dX0_unsignedByte_5 : decode cX0_unsignedByte 5 = .ok (.baload, 1) := by decide +kernel
theorem dX0_unsignedByte_6 : decode cX0_unsignedByte 6 = .ok (.sipush 255, 3) := by decide +kernel
theorem dX0_unsignedByte_9 : decode cX0_unsignedByte 9 = .ok (.iand, 1) := by decide +kernel
theorem dX0_unsignedByte_10 : decode cX0_unsignedByte 10 = .ok (.ireturn, 1) := by decide +kernel
theorem dX0_unsignedPair_0 : decode cX0_unsignedPair 0 = .ok (.aload_n 0, 1) := by decide +kernel
theorem dX0_unsignedPair_1 : decode cX0_unsignedPair 1 = .ok (.iload_n 1, 1) := by decide +kernel
theorem dX0_unsignedPair_2 : decode cX0_unsignedPair 2 = .ok (.invokevirtual 77, 3) := by decide +kernel
theorem dX0_unsignedPair_5 : decode cX0_unsignedPair 5 = .ok (.bipush 8, 2) := by decide +kernel
theorem dX0_unsignedPair_7 : decode cX0_unsignedPair 7 = .ok (.ishl, 1) := by decide +kernel
theorem dX0_unsignedPair_8 : decode cX0_unsignedPair 8 = .ok (.aload_n 0, 1) := by decide +kernel
theorem dX0_unsignedPair_9 : decode cX0_unsignedPair 9 = .ok (.iload_n 1, 1) := by decide +kernel
theorem dX0_unsignedPair_10 : decode cX0_unsignedPair 10 = .ok (.iconst 1, 1) := by decide +kernel
theorem dX0_unsignedPair_11 : decode cX0_unsignedPair 11 = .ok (.iadd, 1) := by decide +kernel
theorem dX0_unsignedPair_12 : decode cX0_unsignedPair 12 = .ok (.invokevirtual 77, 3) := by decide +kernel
theorem dX0_unsignedPair_15 : decode cX0_unsignedPair 15 = .ok (.ior, 1) := by decide +kernel
theorem dX0_unsignedPair_16 : decode cX0_unsignedPair 16 = .ok (.ireturn, 1) := by decide +kernel
theorem dX0_signedPair_0 : decode cX0_signedPair 0 = .ok (.aload_n 0, 1) := by decide +kernel
theorem dX0_signedPair_1 : decode cX0_signedPair 1 = .ok (.getfield 13, 3) := by decide +kernel
theorem dX0_signedPair_4 : decode cX0_signedPair 4 = .ok (.iload_n 1, 1) := by decide +kernel
theorem dX0_signedPair_5 : decode cX0_signedPair 5 = .ok (.baload, 1) := by decide +kernel
theorem dX0_signedPair_6 : decode cX0_signedPair 6 = .ok (.bipush 8, 2) := by decide +kernel
theorem dX0_signedPair_8 : decode cX0_signedPair 8 = .ok (.ishl, 1) := by decide +kernel
theorem dX0_signedPair_9 : decode cX0_signedPair 9 = .ok (.aload_n 0, 1) := by decide +kernel
theorem dX0_signedPair_10 : decode cX0_signedPair 10 = .ok (.iload_n 1, 1) := by decide +kernel
theorem dX0_signedPair_11 : decode cX0_signedPair 11 = .ok (.iconst 1, 1) := by decide +kernel
theorem dX0_signedPair_12 : decode cX0_signedPair 12 = .ok (.iadd, 1) := by decide +kernel
theorem dX0_signedPair_13 : decode cX0_signedPair 13 = .ok (.invokevirtual 77, 3) := by decide +kernel
theorem dX0_signedPair_16 : decode cX0_signedPair 16 = .ok (.ior, 1) := by decide +kernel
theorem dX0_signedPair_17 : decode cX0_signedPair 17 = .ok (.ireturn, 1) := by decide +kernel

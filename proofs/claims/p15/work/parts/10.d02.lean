theorem d_EX_init_0 : decode prog_2_method_1_code 0 = .ok (.aload_n 0, 1) := by decide +kernel
theorem d_EX_init_1 : decode prog_2_method_1_code 1 = .ok (.invokespecial 5, 3) := by decide +kernel
theorem d_EX_init_4 : decode prog_2_method_1_code 4 = .ok (.aload_n 0, 1) := by decide +kernel
theorem d_EX_init_5 : decode prog_2_method_1_code 5 = .ok (.bipush 6, 2) := by decide +kernel
theorem d_EX_init_7 : decode prog_2_method_1_code 7 = .ok (.anewarray 11, 3) := by decide +kernel
theorem d_EX_init_10 : decode prog_2_method_1_code 10 = .ok (.putfield 13, 3) := by decide +kernel
theorem d_EX_init_13 : decode prog_2_method_1_code 13 = .ok (.aload_n 0, 1) := by decide +kernel
theorem d_EX_init_14 : decode prog_2_method_1_code 14 = .ok (.bipush 6, 2) := by decide +kernel
theorem d_EX_init_16 : decode prog_2_method_1_code 16 = .ok (.newarray .int, 2) := by decide +kernel
theorem d_EX_init_18 : decode prog_2_method_1_code 18 = .ok (.putfield 17, 3) := by decide +kernel
theorem d_EX_init_21 : decode prog_2_method_1_code 21 = .ok (.aload_n 0, 1) := by decide +kernel
theorem d_EX_init_22 : decode prog_2_method_1_code 22 = .ok (.new 11, 3) := by decide +kernel
theorem d_EX_init_25 : decode prog_2_method_1_code 25 = .ok (.dup, 1) := by decide +kernel
theorem d_EX_init_26 : decode prog_2_method_1_code 26 = .ok (.sipush 300, 3) := by decide +kernel
theorem d_EX_init_29 : decode prog_2_method_1_code 29 = .ok (.invokespecial 21, 3) := by decide +kernel
theorem d_EX_init_32 : decode prog_2_method_1_code 32 = .ok (.putfield 24, 3) := by decide +kernel
theorem d_EX_init_35 : decode prog_2_method_1_code 35 = .ok (.aload_n 0, 1) := by decide +kernel
theorem d_EX_init_36 : decode prog_2_method_1_code 36 = .ok (.iconst 3, 1) := by decide +kernel
theorem d_EX_init_37 : decode prog_2_method_1_code 37 = .ok (.newarray .int, 2) := by decide +kernel
theorem d_EX_init_39 : decode prog_2_method_1_code 39 = .ok (.putfield 28, 3) := by decide +kernel
theorem d_EX_init_42 : decode prog_2_method_1_code 42 = .ok (.aload_n 0, 1) := by decide +kernel
theorem d_EX_init_43 : decode prog_2_method_1_code 43 = .ok (.iconst 3, 1) := by decide +kernel
theorem d_EX_init_44 : decode prog_2_method_1_code 44 = .ok (.newarray .int, 2) := by decide +kernel
theorem d_EX_init_46 : decode prog_2_method_1_code 46 = .ok (.putfield 31, 3) := by decide +kernel
theorem d_EX_init_49 : decode prog_2_method_1_code 49 = .ok (.iconst 0, 1) := by decide +kernel
theorem d_EX_init_50 : decode prog_2_method_1_code 50 = .ok (.istore_n 1, 1) := by decide +kernel
theorem d_EX_init_51 : decode prog_2_method_1_code 51 = .ok (.iload_n 1, 1) := by decide +kernel
theorem d_EX_init_52 : decode prog_2_method_1_code 52 = .ok (.bipush 6, 2) := by decide +kernel
theorem d_EX_init_54 : decode prog_2_method_1_code 54 = .ok (.if_icmp .ge 31, 3) := by decide +kernel
theorem d_EX_init_57 : decode prog_2_method_1_code 57 = .ok (.aload_n 0, 1) := by decide +kernel
theorem d_EX_init_58 : decode prog_2_method_1_code 58 = .ok (.getfield 13, 3) := by decide +kernel
theorem d_EX_init_61 : decode prog_2_method_1_code 61 = .ok (.iload_n 1, 1) := by decide +kernel
theorem d_EX_init_62 : decode prog_2_method_1_code 62 = .ok (.new 11, 3) := by decide +kernel
theorem d_EX_init_65 : decode prog_2_method_1_code 65 = .ok (.dup, 1) := by decide +kernel
theorem d_EX_init_66 : decode prog_2_method_1_code 66 = .ok (.bipush 40, 2) := by decide +kernel
theorem d_EX_init_68 : decode prog_2_method_1_code 68 = .ok (.invokespecial 21, 3) := by decide +kernel
theorem d_EX_init_71 : decode prog_2_method_1_code 71 = .ok (.aastore, 1) := by decide +kernel
theorem d_EX_init_72 : decode prog_2_method_1_code 72 = .ok (.aload_n 0, 1) := by decide +kernel
theorem d_EX_init_73 : decode prog_2_method_1_code 73 = .ok (.getfield 17, 3) := by decide +kernel
theorem d_EX_init_76 : decode prog_2_method_1_code 76 = .ok (.iload_n 1, 1) := by decide +kernel
theorem d_EX_init_77 : decode prog_2_method_1_code 77 = .ok (.iconst (-1), 1) := by decide +kernel
theorem d_EX_init_78 : decode prog_2_method_1_code 78 = .ok (.iastore, 1) := by decide +kernel
theorem d_EX_init_79 : decode prog_2_method_1_code 79 = .ok (.iinc 1 1, 3) := by decide +kernel
theorem d_EX_init_82 : decode prog_2_method_1_code 82 = .ok (.goto (-31), 3) := by decide +kernel
theorem d_EX_init_85 : decode prog_2_method_1_code 85 = .ok (.return_, 1) := by decide +kernel
theorem d_OU_init_0 : decode prog_4_method_1_code 0 = .ok (.aload_n 0, 1) := by decide +kernel
theorem d_OU_init_1 : decode prog_4_method_1_code 1 = .ok (.invokespecial 5, 3) := by decide +kernel
theorem d_OU_init_4 : decode prog_4_method_1_code 4 = .ok (.aload_n 0, 1) := by decide +kernel
theorem d_OU_init_5 : decode prog_4_method_1_code 5 = .ok (.bipush 74, 2) := by decide +kernel
theorem d_OU_init_7 : decode prog_4_method_1_code 7 = .ok (.newarray .int, 2) := by decide +kernel
theorem d_OU_init_9 : decode prog_4_method_1_code 9 = .ok (.putfield 11, 3) := by decide +kernel
theorem d_OU_init_12 : decode prog_4_method_1_code 12 = .ok (.aload_n 0, 1) := by decide +kernel
theorem d_OU_init_13 : decode prog_4_method_1_code 13 = .ok (.bipush 98, 2) := by decide +kernel
theorem d_OU_init_15 : decode prog_4_method_1_code 15 = .ok (.newarray .int, 2) := by decide +kernel
theorem d_OU_init_17 : decode prog_4_method_1_code 17 = .ok (.putfield 15, 3) := by decide +kernel
theorem d_OU_init_20 : decode prog_4_method_1_code 20 = .ok (.aload_n 0, 1) := by decide +kernel
theorem d_OU_init_21 : decode prog_4_method_1_code 21 = .ok (.bipush 98, 2) := by decide +kernel
theorem d_OU_init_23 : decode prog_4_method_1_code 23 = .ok (.newarray .int, 2) := by decide +kernel
theorem d_OU_init_25 : decode prog_4_method_1_code 25 = .ok (.putfield 18, 3) := by decide +kernel
theorem d_OU_init_28 : decode prog_4_method_1_code 28 = .ok (.return_, 1) := by decide +kernel
theorem d_EX_define_0 : decode prog_2_method_2_code 0 = .ok (.aload_n 0, 1) := by decide +kernel
theorem d_EX_define_1 : decode prog_2_method_2_code 1 = .ok (.getfield 13, 3) := by decide +kernel
theorem d_EX_define_4 : decode prog_2_method_2_code 4 = .ok (.iload_n 1, 1) := by decide +kernel
theorem d_EX_define_5 : decode prog_2_method_2_code 5 = .ok (.aaload, 1) := by decide +kernel
theorem d_EX_define_6 : decode prog_2_method_2_code 6 = .ok (.aload_n 3, 1) := by decide +kernel
theorem d_EX_define_7 : decode prog_2_method_2_code 7 = .ok (.invokevirtual 34, 3) := by decide +kernel
theorem d_EX_define_10 : decode prog_2_method_2_code 10 = .ok (.aload_n 0, 1) := by decide +kernel
theorem d_EX_define_11 : decode prog_2_method_2_code 11 = .ok (.getfield 17, 3) := by decide +kernel
theorem d_EX_define_14 : decode prog_2_method_2_code 14 = .ok (.iload_n 1, 1) := by decide +kernel
theorem d_EX_define_15 : decode prog_2_method_2_code 15 = .ok (.iload_n 2, 1) := by decide +kernel
theorem d_EX_define_16 : decode prog_2_method_2_code 16 = .ok (.iastore, 1) := by decide +kernel
theorem d_EX_define_17 : decode prog_2_method_2_code 17 = .ok (.return_, 1) := by decide +kernel
theorem d_EX_expand_0 : decode prog_2_method_4_code 0 = .ok (.aload_n 2, 1) := by decide +kernel
theorem d_EX_expand_1 : decode prog_2_method_4_code 1 = .ok (.aload_n 1, 1) := by decide +kernel
theorem d_EX_expand_2 : decode prog_2_method_4_code 2 = .ok (.invokevirtual 34, 3) := by decide +kernel
theorem d_EX_expand_5 : decode prog_2_method_4_code 5 = .ok (.aload_n 0, 1) := by decide +kernel
theorem d_EX_expand_6 : decode prog_2_method_4_code 6 = .ok (.iconst 0, 1) := by decide +kernel
theorem d_EX_expand_7 : decode prog_2_method_4_code 7 = .ok (.putfield 42, 3) := by decide +kernel
theorem d_EX_expand_10 : decode prog_2_method_4_code 10 = .ok (.aload_n 0, 1) := by decide +kernel
theorem d_EX_expand_11 : decode prog_2_method_4_code 11 = .ok (.iconst 0, 1) := by decide +kernel
theorem d_EX_expand_12 : decode prog_2_method_4_code 12 = .ok (.putfield 45, 3) := by decide +kernel
theorem d_EX_expand_15 : decode prog_2_method_4_code 15 = .ok (.iconst 0, 1) := by decide +kernel
theorem d_EX_expand_16 : decode prog_2_method_4_code 16 = .ok (.istore_n 3, 1) := by decide +kernel
theorem d_EX_expand_17 : decode prog_2_method_4_code 17 = .ok (.iconst 0, 1) := by decide +kernel
theorem d_EX_expand_18 : decode prog_2_method_4_code 18 = .ok (.istore 4, 2) := by decide +kernel
theorem d_EX_expand_20 : decode prog_2_method_4_code 20 = .ok (.iload 4, 2) := by decide +kernel
theorem d_EX_expand_22 : decode prog_2_method_4_code 22 = .ok (.sipush 401, 3) := by decide +kernel
theorem d_EX_expand_25 : decode prog_2_method_4_code 25 = .ok (.if_icmp .ge 75, 3) := by decide +kernel
theorem d_EX_expand_28 : decode prog_2_method_4_code 28 = .ok (.aload_n 0, 1) := by decide +kernel
theorem d_EX_expand_29 : decode prog_2_method_4_code 29 = .ok (.getfield 42, 3) := by decide +kernel
theorem d_EX_expand_32 : decode prog_2_method_4_code 32 = .ok (.aload_n 2, 1) := by decide +kernel
theorem d_EX_expand_33 : decode prog_2_method_4_code 33 = .ok (.getfield 38, 3) := by decide +kernel
theorem d_EX_expand_36 : decode prog_2_method_4_code 36 = .ok (.if_icmp .ge 64, 3) := by decide +kernel
theorem d_EX_expand_39 : decode prog_2_method_4_code 39 = .ok (.iload_n 3, 1) := by decide +kernel
theorem d_EX_expand_40 : decode prog_2_method_4_code 40 = .ok (.ifCond .ne 60, 3) := by decide +kernel
theorem d_EX_expand_43 : decode prog_2_method_4_code 43 = .ok (.aload_n 2, 1) := by decide +kernel
theorem d_EX_expand_44 : decode prog_2_method_4_code 44 = .ok (.getfield 48, 3) := by decide +kernel
theorem d_EX_expand_47 : decode prog_2_method_4_code 47 = .ok (.aload_n 0, 1) := by decide +kernel
theorem d_EX_expand_48 : decode prog_2_method_4_code 48 = .ok (.getfield 42, 3) := by decide +kernel
theorem d_EX_expand_51 : decode prog_2_method_4_code 51 = .ok (.iaload, 1) := by decide +kernel
theorem d_EX_expand_52 : decode prog_2_method_4_code 52 = .ok (.iconst 2, 1) := by decide +kernel
theorem d_EX_expand_53 : decode prog_2_method_4_code 53 = .ok (.if_icmp .ne 9, 3) := by decide +kernel
theorem d_EX_expand_56 : decode prog_2_method_4_code 56 = .ok (.bipush (-3), 2) := by decide +kernel
theorem d_EX_expand_58 : decode prog_2_method_4_code 58 = .ok (.istore_n 3, 1) := by decide +kernel
theorem d_EX_expand_59 : decode prog_2_method_4_code 59 = .ok (.goto 35, 3) := by decide +kernel
theorem d_EX_expand_62 : decode prog_2_method_4_code 62 = .ok (.aload_n 2, 1) := by decide +kernel
theorem d_EX_expand_63 : decode prog_2_method_4_code 63 = .ok (.getfield 48, 3) := by decide +kernel
theorem d_EX_expand_66 : decode prog_2_method_4_code 66 = .ok (.aload_n 0, 1) := by decide +kernel
theorem d_EX_expand_67 : decode prog_2_method_4_code 67 = .ok (.getfield 42, 3) := by decide +kernel
theorem d_EX_expand_70 : decode prog_2_method_4_code 70 = .ok (.iaload, 1) := by decide +kernel
theorem d_EX_expand_71 : decode prog_2_method_4_code 71 = .ok (.iconst 3, 1) := by decide +kernel
theorem d_EX_expand_72 : decode prog_2_method_4_code 72 = .ok (.if_icmp .ne 12, 3) := by decide +kernel
theorem d_EX_expand_75 : decode prog_2_method_4_code 75 = .ok (.aload_n 0, 1) := by decide +kernel
theorem d_EX_expand_76 : decode prog_2_method_4_code 76 = .ok (.aload_n 2, 1) := by decide +kernel
theorem d_EX_expand_77 : decode prog_2_method_4_code 77 = .ok (.invokevirtual 51, 3) := by decide +kernel
theorem d_EX_expand_80 : decode prog_2_method_4_code 80 = .ok (.istore_n 3, 1) := by decide +kernel
theorem d_EX_expand_81 : decode prog_2_method_4_code 81 = .ok (.goto 13, 3) := by decide +kernel
theorem d_EX_expand_84 : decode prog_2_method_4_code 84 = .ok (.aload_n 0, 1) := by decide +kernel
theorem d_EX_expand_85 : decode prog_2_method_4_code 85 = .ok (.dup, 1) := by decide +kernel
theorem d_EX_expand_86 : decode prog_2_method_4_code 86 = .ok (.getfield 42, 3) := by decide +kernel
theorem d_EX_expand_89 : decode prog_2_method_4_code 89 = .ok (.iconst 1, 1) := by decide +kernel
theorem d_EX_expand_90 : decode prog_2_method_4_code 90 = .ok (.iadd, 1) := by decide +kernel
theorem d_EX_expand_91 : decode prog_2_method_4_code 91 = .ok (.putfield 42, 3) := by decide +kernel
theorem d_EX_expand_94 : decode prog_2_method_4_code 94 = .ok (.iinc 4 1, 3) := by decide +kernel
theorem d_EX_expand_97 : decode prog_2_method_4_code 97 = .ok (.goto (-77), 3) := by decide +kernel
theorem d_EX_expand_100 : decode prog_2_method_4_code 100 = .ok (.iload_n 3, 1) := by decide +kernel
theorem d_EX_expand_101 : decode prog_2_method_4_code 101 = .ok (.ireturn, 1) := by decide +kernel
theorem d_EX_replaceCall_0 : decode prog_2_method_5_code 0 = .ok (.aload_n 1, 1) := by decide +kernel
theorem d_EX_replaceCall_1 : decode prog_2_method_5_code 1 = .ok (.getfield 55, 3) := by decide +kernel
theorem d_EX_replaceCall_4 : decode prog_2_method_5_code 4 = .ok (.aload_n 0, 1) := by decide +kernel
theorem d_EX_replaceCall_5 : decode prog_2_method_5_code 5 = .ok (.getfield 42, 3) := by decide +kernel
theorem d_EX_replaceCall_8 : decode prog_2_method_5_code 8 = .ok (.iaload, 1) := by decide +kernel
theorem d_EX_replaceCall_9 : decode prog_2_method_5_code 9 = .ok (.istore_n 2, 1) := by decide +kernel
theorem d_EX_replaceCall_10 : decode prog_2_method_5_code 10 = .ok (.aload_n 0, 1) := by decide +kernel
theorem d_EX_replaceCall_11 : decode prog_2_method_5_code 11 = .ok (.getfield 17, 3) := by decide +kernel
theorem d_EX_replaceCall_14 : decode prog_2_method_5_code 14 = .ok (.iload_n 2, 1) := by decide +kernel
theorem d_EX_replaceCall_15 : decode prog_2_method_5_code 15 = .ok (.iaload, 1) := by decide +kernel
theorem d_EX_replaceCall_16 : decode prog_2_method_5_code 16 = .ok (.iconst (-1), 1) := by decide +kernel
theorem d_EX_replaceCall_17 : decode prog_2_method_5_code 17 = .ok (.if_icmp .ne 6, 3) := by decide +kernel
theorem d_EX_replaceCall_20 : decode prog_2_method_5_code 20 = .ok (.bipush (-4), 2) := by decide +kernel
theorem d_EX_replaceCall_22 : decode prog_2_method_5_code 22 = .ok (.ireturn, 1) := by decide +kernel
theorem d_EX_replaceCall_23 : decode prog_2_method_5_code 23 = .ok (.aload_n 1, 1) := by decide +kernel
theorem d_EX_replaceCall_24 : decode prog_2_method_5_code 24 = .ok (.getfield 58, 3) := by decide +kernel
theorem d_EX_replaceCall_27 : decode prog_2_method_5_code 27 = .ok (.aload_n 0, 1) := by decide +kernel
theorem d_EX_replaceCall_28 : decode prog_2_method_5_code 28 = .ok (.getfield 42, 3) := by decide +kernel
theorem d_EX_replaceCall_31 : decode prog_2_method_5_code 31 = .ok (.iaload, 1) := by decide +kernel
theorem d_EX_replaceCall_32 : decode prog_2_method_5_code 32 = .ok (.bipush 6, 2) := by decide +kernel
theorem d_EX_replaceCall_34 : decode prog_2_method_5_code 34 = .ok (.if_icmp .lt 6, 3) := by decide +kernel
theorem d_EX_replaceCall_37 : decode prog_2_method_5_code 37 = .ok (.bipush (-5), 2) := by decide +kernel
theorem d_EX_replaceCall_39 : decode prog_2_method_5_code 39 = .ok (.ireturn, 1) := by decide +kernel
theorem d_EX_replaceCall_40 : decode prog_2_method_5_code 40 = .ok (.aload_n 0, 1) := by decide +kernel
theorem d_EX_replaceCall_41 : decode prog_2_method_5_code 41 = .ok (.getfield 17, 3) := by decide +kernel
theorem d_EX_replaceCall_44 : decode prog_2_method_5_code 44 = .ok (.iload_n 2, 1) := by decide +kernel
theorem d_EX_replaceCall_45 : decode prog_2_method_5_code 45 = .ok (.iaload, 1) := by decide +kernel
theorem d_EX_replaceCall_46 : decode prog_2_method_5_code 46 = .ok (.ifCond .ne 12, 3) := by decide +kernel
theorem d_EX_replaceCall_49 : decode prog_2_method_5_code 49 = .ok (.aload_n 0, 1) := by decide +kernel
theorem d_EX_replaceCall_50 : decode prog_2_method_5_code 50 = .ok (.getfield 42, 3) := by decide +kernel
theorem d_EX_replaceCall_53 : decode prog_2_method_5_code 53 = .ok (.iconst 1, 1) := by decide +kernel
theorem d_EX_replaceCall_54 : decode prog_2_method_5_code 54 = .ok (.iadd, 1) := by decide +kernel
theorem d_EX_replaceCall_55 : decode prog_2_method_5_code 55 = .ok (.goto 14, 3) := by decide +kernel
theorem d_EX_replaceCall_58 : decode prog_2_method_5_code 58 = .ok (.aload_n 0, 1) := by decide +kernel
theorem d_EX_replaceCall_59 : decode prog_2_method_5_code 59 = .ok (.aload_n 1, 1) := by decide +kernel
theorem d_EX_replaceCall_60 : decode prog_2_method_5_code 60 = .ok (.aload_n 0, 1) := by decide +kernel
theorem d_EX_replaceCall_61 : decode prog_2_method_5_code 61 = .ok (.getfield 17, 3) := by decide +kernel
theorem d_EX_replaceCall_64 : decode prog_2_method_5_code 64 = .ok (.iload_n 2, 1) := by decide +kernel
theorem d_EX_replaceCall_65 : decode prog_2_method_5_code 65 = .ok (.iaload, 1) := by decide +kernel
theorem d_EX_replaceCall_66 : decode prog_2_method_5_code 66 = .ok (.invokevirtual 61, 3) := by decide +kernel
theorem d_EX_replaceCall_69 : decode prog_2_method_5_code 69 = .ok (.istore_n 3, 1) := by decide +kernel
theorem d_EX_replaceCall_70 : decode prog_2_method_5_code 70 = .ok (.iload_n 3, 1) := by decide +kernel
theorem d_EX_replaceCall_71 : decode prog_2_method_5_code 71 = .ok (.bipush (-2), 2) := by decide +kernel
theorem d_EX_replaceCall_73 : decode prog_2_method_5_code 73 = .ok (.if_icmp .ne 6, 3) := by decide +kernel
theorem d_EX_replaceCall_76 : decode prog_2_method_5_code 76 = .ok (.bipush (-6), 2) := by decide +kernel
theorem d_EX_replaceCall_78 : decode prog_2_method_5_code 78 = .ok (.ireturn, 1) := by decide +kernel
theorem d_EX_replaceCall_79 : decode prog_2_method_5_code 79 = .ok (.aload_n 0, 1) := by decide +kernel
theorem d_EX_replaceCall_80 : decode prog_2_method_5_code 80 = .ok (.dup, 1) := by decide +kernel
theorem d_EX_replaceCall_81 : decode prog_2_method_5_code 81 = .ok (.getfield 45, 3) := by decide +kernel
theorem d_EX_replaceCall_84 : decode prog_2_method_5_code 84 = .ok (.iconst 1, 1) := by decide +kernel
theorem d_EX_replaceCall_85 : decode prog_2_method_5_code 85 = .ok (.iadd, 1) := by decide +kernel
theorem d_EX_replaceCall_86 : decode prog_2_method_5_code 86 = .ok (.putfield 45, 3) := by decide +kernel
theorem d_EX_replaceCall_89 : decode prog_2_method_5_code 89 = .ok (.aload_n 0, 1) := by decide +kernel
theorem d_EX_replaceCall_90 : decode prog_2_method_5_code 90 = .ok (.aload_n 1, 1) := by decide +kernel
theorem d_EX_replaceCall_91 : decode prog_2_method_5_code 91 = .ok (.aload_n 0, 1) := by decide +kernel
theorem d_EX_replaceCall_92 : decode prog_2_method_5_code 92 = .ok (.getfield 13, 3) := by decide +kernel
theorem d_EX_replaceCall_95 : decode prog_2_method_5_code 95 = .ok (.iload_n 2, 1) := by decide +kernel
theorem d_EX_replaceCall_96 : decode prog_2_method_5_code 96 = .ok (.aaload, 1) := by decide +kernel
theorem d_EX_replaceCall_97 : decode prog_2_method_5_code 97 = .ok (.iload_n 3, 1) := by decide +kernel
theorem d_EX_replaceCall_98 : decode prog_2_method_5_code 98 = .ok (.invokevirtual 65, 3) := by decide +kernel
theorem d_EX_replaceCall_101 : decode prog_2_method_5_code 101 = .ok (.sipush 300, 3) := by decide +kernel
theorem d_EX_replaceCall_104 : decode prog_2_method_5_code 104 = .ok (.if_icmp .gt 12, 3) := by decide +kernel
theorem d_EX_replaceCall_107 : decode prog_2_method_5_code 107 = .ok (.aload_n 0, 1) := by decide +kernel
theorem d_EX_replaceCall_108 : decode prog_2_method_5_code 108 = .ok (.getfield 45, 3) := by decide +kernel
theorem d_EX_replaceCall_111 : decode prog_2_method_5_code 111 = .ok (.bipush 100, 2) := by decide +kernel
theorem d_EX_replaceCall_113 : decode prog_2_method_5_code 113 = .ok (.if_icmp .le 6, 3) := by decide +kernel
theorem d_EX_replaceCall_116 : decode prog_2_method_5_code 116 = .ok (.bipush (-7), 2) := by decide +kernel
theorem d_EX_replaceCall_118 : decode prog_2_method_5_code 118 = .ok (.ireturn, 1) := by decide +kernel
theorem d_EX_replaceCall_119 : decode prog_2_method_5_code 119 = .ok (.aload_n 0, 1) := by decide +kernel
theorem d_EX_replaceCall_120 : decode prog_2_method_5_code 120 = .ok (.aload_n 1, 1) := by decide +kernel
theorem d_EX_replaceCall_121 : decode prog_2_method_5_code 121 = .ok (.aload_n 0, 1) := by decide +kernel
theorem d_EX_replaceCall_122 : decode prog_2_method_5_code 122 = .ok (.getfield 13, 3) := by decide +kernel
theorem d_EX_replaceCall_125 : decode prog_2_method_5_code 125 = .ok (.iload_n 2, 1) := by decide +kernel
theorem d_EX_replaceCall_126 : decode prog_2_method_5_code 126 = .ok (.aaload, 1) := by decide +kernel
theorem d_EX_replaceCall_127 : decode prog_2_method_5_code 127 = .ok (.iload_n 3, 1) := by decide +kernel
theorem d_EX_replaceCall_128 : decode prog_2_method_5_code 128 = .ok (.invokevirtual 69, 3) := by decide +kernel
theorem d_EX_replaceCall_131 : decode prog_2_method_5_code 131 = .ok (.iconst 0, 1) := by decide +kernel
theorem d_EX_replaceCall_132 : decode prog_2_method_5_code 132 = .ok (.ireturn, 1) := by decide +kernel
theorem d_EX_findArguments_0 : decode prog_2_method_6_code 0 = .ok (.aload_n 1, 1) := by decide +kernel
theorem d_EX_findArguments_1 : decode prog_2_method_6_code 1 = .ok (.aload_n 0, 1) := by decide +kernel
theorem d_EX_findArguments_2 : decode prog_2_method_6_code 2 = .ok (.getfield 42, 3) := by decide +kernel
theorem d_EX_findArguments_5 : decode prog_2_method_6_code 5 = .ok (.iconst 1, 1) := by decide +kernel
theorem d_EX_findArguments_6 : decode prog_2_method_6_code 6 = .ok (.iadd, 1) := by decide +kernel
theorem d_EX_findArguments_7 : decode prog_2_method_6_code 7 = .ok (.iconst 3, 1) := by decide +kernel
theorem d_EX_findArguments_8 : decode prog_2_method_6_code 8 = .ok (.invokevirtual 73, 3) := by decide +kernel
theorem d_EX_findArguments_11 : decode prog_2_method_6_code 11 = .ok (.ifCond .ne 6, 3) := by decide +kernel
theorem d_EX_findArguments_14 : decode prog_2_method_6_code 14 = .ok (.bipush (-2), 2) := by decide +kernel
theorem d_EX_findArguments_16 : decode prog_2_method_6_code 16 = .ok (.ireturn, 1) := by decide +kernel
theorem d_EX_findArguments_17 : decode prog_2_method_6_code 17 = .ok (.aload_n 0, 1) := by decide +kernel
theorem d_EX_findArguments_18 : decode prog_2_method_6_code 18 = .ok (.getfield 42, 3) := by decide +kernel
theorem d_EX_findArguments_21 : decode prog_2_method_6_code 21 = .ok (.iconst 2, 1) := by decide +kernel
theorem d_EX_findArguments_22 : decode prog_2_method_6_code 22 = .ok (.iadd, 1) := by decide +kernel
theorem d_EX_findArguments_23 : decode prog_2_method_6_code 23 = .ok (.istore_n 3, 1) := by decide +kernel
theorem d_EX_findArguments_24 : decode prog_2_method_6_code 24 = .ok (.iconst 0, 1) := by decide +kernel
theorem d_EX_findArguments_25 : decode prog_2_method_6_code 25 = .ok (.istore 4, 2) := by decide +kernel
theorem d_EX_findArguments_27 : decode prog_2_method_6_code 27 = .ok (.iload 4, 2) := by decide +kernel
theorem d_EX_findArguments_29 : decode prog_2_method_6_code 29 = .ok (.iload_n 2, 1) := by decide +kernel
theorem d_EX_findArguments_30 : decode prog_2_method_6_code 30 = .ok (.if_icmp .ge 69, 3) := by decide +kernel
theorem d_EX_findArguments_33 : decode prog_2_method_6_code 33 = .ok (.aload_n 0, 1) := by decide +kernel
theorem d_EX_findArguments_34 : decode prog_2_method_6_code 34 = .ok (.getfield 28, 3) := by decide +kernel
theorem d_EX_findArguments_37 : decode prog_2_method_6_code 37 = .ok (.iload 4, 2) := by decide +kernel
theorem d_EX_findArguments_39 : decode prog_2_method_6_code 39 = .ok (.iload_n 3, 1) := by decide +kernel
theorem d_EX_findArguments_40 : decode prog_2_method_6_code 40 = .ok (.iastore, 1) := by decide +kernel
theorem d_EX_findArguments_41 : decode prog_2_method_6_code 41 = .ok (.aload_n 0, 1) := by decide +kernel
theorem d_EX_findArguments_42 : decode prog_2_method_6_code 42 = .ok (.getfield 31, 3) := by decide +kernel
theorem d_EX_findArguments_45 : decode prog_2_method_6_code 45 = .ok (.iload 4, 2) := by decide +kernel
theorem d_EX_findArguments_47 : decode prog_2_method_6_code 47 = .ok (.aload_n 1, 1) := by decide +kernel
theorem d_EX_findArguments_48 : decode prog_2_method_6_code 48 = .ok (.iload_n 3, 1) := by decide +kernel
theorem d_EX_findArguments_49 : decode prog_2_method_6_code 49 = .ok (.invokestatic 77, 3) := by decide +kernel
theorem d_EX_findArguments_52 : decode prog_2_method_6_code 52 = .ok (.iastore, 1) := by decide +kernel
theorem d_EX_findArguments_53 : decode prog_2_method_6_code 53 = .ok (.aload_n 1, 1) := by decide +kernel
theorem d_EX_findArguments_54 : decode prog_2_method_6_code 54 = .ok (.aload_n 0, 1) := by decide +kernel
theorem d_EX_findArguments_55 : decode prog_2_method_6_code 55 = .ok (.getfield 31, 3) := by decide +kernel
theorem d_EX_findArguments_58 : decode prog_2_method_6_code 58 = .ok (.iload 4, 2) := by decide +kernel
theorem d_EX_findArguments_60 : decode prog_2_method_6_code 60 = .ok (.iaload, 1) := by decide +kernel
theorem d_EX_findArguments_61 : decode prog_2_method_6_code 61 = .ok (.iload 4, 2) := by decide +kernel
theorem d_EX_findArguments_63 : decode prog_2_method_6_code 63 = .ok (.iload_n 2, 1) := by decide +kernel
theorem d_EX_findArguments_64 : decode prog_2_method_6_code 64 = .ok (.iconst 1, 1) := by decide +kernel
theorem d_EX_findArguments_65 : decode prog_2_method_6_code 65 = .ok (.isub, 1) := by decide +kernel
theorem d_EX_findArguments_66 : decode prog_2_method_6_code 66 = .ok (.if_icmp .ne 7, 3) := by decide +kernel
theorem d_EX_findArguments_69 : decode prog_2_method_6_code 69 = .ok (.iconst 4, 1) := by decide +kernel
theorem d_EX_findArguments_70 : decode prog_2_method_6_code 70 = .ok (.goto 4, 3) := by decide +kernel
theorem d_EX_findArguments_73 : decode prog_2_method_6_code 73 = .ok (.iconst 5, 1) := by decide +kernel
theorem d_EX_findArguments_74 : decode prog_2_method_6_code 74 = .ok (.invokevirtual 73, 3) := by decide +kernel
theorem d_EX_findArguments_77 : decode prog_2_method_6_code 77 = .ok (.ifCond .ne 6, 3) := by decide +kernel
theorem d_EX_findArguments_80 : decode prog_2_method_6_code 80 = .ok (.bipush (-2), 2) := by decide +kernel
theorem d_EX_findArguments_82 : decode prog_2_method_6_code 82 = .ok (.ireturn, 1) := by decide +kernel
theorem d_EX_findArguments_83 : decode prog_2_method_6_code 83 = .ok (.aload_n 0, 1) := by decide +kernel
theorem d_EX_findArguments_84 : decode prog_2_method_6_code 84 = .ok (.getfield 31, 3) := by decide +kernel
theorem d_EX_findArguments_87 : decode prog_2_method_6_code 87 = .ok (.iload 4, 2) := by decide +kernel
theorem d_EX_findArguments_89 : decode prog_2_method_6_code 89 = .ok (.iaload, 1) := by decide +kernel
theorem d_EX_findArguments_90 : decode prog_2_method_6_code 90 = .ok (.iconst 1, 1) := by decide +kernel
theorem d_EX_findArguments_91 : decode prog_2_method_6_code 91 = .ok (.iadd, 1) := by decide +kernel
theorem d_EX_findArguments_92 : decode prog_2_method_6_code 92 = .ok (.istore_n 3, 1) := by decide +kernel
theorem d_EX_findArguments_93 : decode prog_2_method_6_code 93 = .ok (.iinc 4 1, 3) := by decide +kernel
theorem d_EX_findArguments_96 : decode prog_2_method_6_code 96 = .ok (.goto (-69), 3) := by decide +kernel
theorem d_EX_findArguments_99 : decode prog_2_method_6_code 99 = .ok (.iload_n 3, 1) := by decide +kernel
theorem d_EX_findArguments_100 : decode prog_2_method_6_code 100 = .ok (.ireturn, 1) := by decide +kernel
theorem d_EX_endOfArgument_0 : decode prog_2_method_7_code 0 = .ok (.iconst 0, 1) := by decide +kernel
theorem d_EX_endOfArgument_1 : decode prog_2_method_7_code 1 = .ok (.istore_n 2, 1) := by decide +kernel
theorem d_EX_endOfArgument_2 : decode prog_2_method_7_code 2 = .ok (.iload_n 1, 1) := by decide +kernel
theorem d_EX_endOfArgument_3 : decode prog_2_method_7_code 3 = .ok (.istore_n 3, 1) := by decide +kernel
theorem d_EX_endOfArgument_4 : decode prog_2_method_7_code 4 = .ok (.iload_n 3, 1) := by decide +kernel
theorem d_EX_endOfArgument_5 : decode prog_2_method_7_code 5 = .ok (.aload_n 0, 1) := by decide +kernel
theorem d_EX_endOfArgument_6 : decode prog_2_method_7_code 6 = .ok (.getfield 38, 3) := by decide +kernel
theorem d_EX_endOfArgument_9 : decode prog_2_method_7_code 9 = .ok (.if_icmp .ge 60, 3) := by decide +kernel
theorem d_EX_endOfArgument_12 : decode prog_2_method_7_code 12 = .ok (.aload_n 0, 1) := by decide +kernel
theorem d_EX_endOfArgument_13 : decode prog_2_method_7_code 13 = .ok (.iload_n 3, 1) := by decide +kernel
theorem d_EX_endOfArgument_14 : decode prog_2_method_7_code 14 = .ok (.iconst 4, 1) := by decide +kernel
theorem d_EX_endOfArgument_15 : decode prog_2_method_7_code 15 = .ok (.invokevirtual 73, 3) := by decide +kernel
theorem d_EX_endOfArgument_18 : decode prog_2_method_7_code 18 = .ok (.istore 4, 2) := by decide +kernel
theorem d_EX_endOfArgument_20 : decode prog_2_method_7_code 20 = .ok (.iload_n 2, 1) := by decide +kernel
theorem d_EX_endOfArgument_21 : decode prog_2_method_7_code 21 = .ok (.ifCond .ne 19, 3) := by decide +kernel
theorem d_EX_endOfArgument_24 : decode prog_2_method_7_code 24 = .ok (.iload 4, 2) := by decide +kernel
theorem d_EX_endOfArgument_26 : decode prog_2_method_7_code 26 = .ok (.ifCond .ne 12, 3) := by decide +kernel
theorem d_EX_endOfArgument_29 : decode prog_2_method_7_code 29 = .ok (.aload_n 0, 1) := by decide +kernel
theorem d_EX_endOfArgument_30 : decode prog_2_method_7_code 30 = .ok (.iload_n 3, 1) := by decide +kernel
theorem d_EX_endOfArgument_31 : decode prog_2_method_7_code 31 = .ok (.iconst 5, 1) := by decide +kernel
theorem d_EX_endOfArgument_32 : decode prog_2_method_7_code 32 = .ok (.invokevirtual 73, 3) := by decide +kernel
theorem d_EX_endOfArgument_35 : decode prog_2_method_7_code 35 = .ok (.ifCond .eq 5, 3) := by decide +kernel
theorem d_EX_endOfArgument_38 : decode prog_2_method_7_code 38 = .ok (.iload_n 3, 1) := by decide +kernel
theorem d_EX_endOfArgument_39 : decode prog_2_method_7_code 39 = .ok (.ireturn, 1) := by decide +kernel
theorem d_EX_endOfArgument_40 : decode prog_2_method_7_code 40 = .ok (.iload 4, 2) := by decide +kernel
theorem d_EX_endOfArgument_42 : decode prog_2_method_7_code 42 = .ok (.ifCond .eq 9, 3) := by decide +kernel
theorem d_EX_endOfArgument_45 : decode prog_2_method_7_code 45 = .ok (.iinc 2 (-1), 3) := by decide +kernel
theorem d_EX_endOfArgument_48 : decode prog_2_method_7_code 48 = .ok (.goto 15, 3) := by decide +kernel
theorem d_EX_endOfArgument_51 : decode prog_2_method_7_code 51 = .ok (.aload_n 0, 1) := by decide +kernel
theorem d_EX_endOfArgument_52 : decode prog_2_method_7_code 52 = .ok (.iload_n 3, 1) := by decide +kernel
theorem d_EX_endOfArgument_53 : decode prog_2_method_7_code 53 = .ok (.iconst 3, 1) := by decide +kernel
theorem d_EX_endOfArgument_54 : decode prog_2_method_7_code 54 = .ok (.invokevirtual 73, 3) := by decide +kernel
theorem d_EX_endOfArgument_57 : decode prog_2_method_7_code 57 = .ok (.ifCond .eq 6, 3) := by decide +kernel
theorem d_EX_endOfArgument_60 : decode prog_2_method_7_code 60 = .ok (.iinc 2 1, 3) := by decide +kernel
theorem d_EX_endOfArgument_63 : decode prog_2_method_7_code 63 = .ok (.iinc 3 1, 3) := by decide +kernel
theorem d_EX_endOfArgument_66 : decode prog_2_method_7_code 66 = .ok (.goto (-62), 3) := by decide +kernel
theorem d_EX_endOfArgument_69 : decode prog_2_method_7_code 69 = .ok (.aload_n 0, 1) := by decide +kernel
theorem d_EX_endOfArgument_70 : decode prog_2_method_7_code 70 = .ok (.getfield 38, 3) := by decide +kernel
theorem d_EX_endOfArgument_73 : decode prog_2_method_7_code 73 = .ok (.ireturn, 1) := by decide +kernel
theorem d_EX_lengthAfter_0 : decode prog_2_method_8_code 0 = .ok (.aload_n 0, 1) := by decide +kernel
theorem d_EX_lengthAfter_1 : decode prog_2_method_8_code 1 = .ok (.getfield 42, 3) := by decide +kernel
theorem d_EX_lengthAfter_4 : decode prog_2_method_8_code 4 = .ok (.aload_n 1, 1) := by decide +kernel
theorem d_EX_lengthAfter_5 : decode prog_2_method_8_code 5 = .ok (.getfield 38, 3) := by decide +kernel
theorem d_EX_lengthAfter_8 : decode prog_2_method_8_code 8 = .ok (.iadd, 1) := by decide +kernel
theorem d_EX_lengthAfter_9 : decode prog_2_method_8_code 9 = .ok (.iload_n 3, 1) := by decide +kernel
theorem d_EX_lengthAfter_10 : decode prog_2_method_8_code 10 = .ok (.isub, 1) := by decide +kernel
theorem d_EX_lengthAfter_11 : decode prog_2_method_8_code 11 = .ok (.istore 4, 2) := by decide +kernel
theorem d_EX_lengthAfter_13 : decode prog_2_method_8_code 13 = .ok (.iconst 0, 1) := by decide +kernel
theorem d_EX_lengthAfter_14 : decode prog_2_method_8_code 14 = .ok (.istore 5, 2) := by decide +kernel
theorem d_EX_lengthAfter_16 : decode prog_2_method_8_code 16 = .ok (.iload 5, 2) := by decide +kernel
theorem d_EX_lengthAfter_18 : decode prog_2_method_8_code 18 = .ok (.aload_n 2, 1) := by decide +kernel
theorem d_EX_lengthAfter_19 : decode prog_2_method_8_code 19 = .ok (.getfield 38, 3) := by decide +kernel
theorem d_EX_lengthAfter_22 : decode prog_2_method_8_code 22 = .ok (.if_icmp .ge 53, 3) := by decide +kernel
theorem d_EX_lengthAfter_25 : decode prog_2_method_8_code 25 = .ok (.aload_n 2, 1) := by decide +kernel
theorem d_EX_lengthAfter_26 : decode prog_2_method_8_code 26 = .ok (.getfield 55, 3) := by decide +kernel
theorem d_EX_lengthAfter_29 : decode prog_2_method_8_code 29 = .ok (.iload 5, 2) := by decide +kernel
theorem d_EX_lengthAfter_31 : decode prog_2_method_8_code 31 = .ok (.iaload, 1) := by decide +kernel
theorem d_EX_lengthAfter_32 : decode prog_2_method_8_code 32 = .ok (.istore 6, 2) := by decide +kernel
theorem d_EX_lengthAfter_34 : decode prog_2_method_8_code 34 = .ok (.iload 4, 2) := by decide +kernel
theorem d_EX_lengthAfter_36 : decode prog_2_method_8_code 36 = .ok (.aload_n 2, 1) := by decide +kernel
theorem d_EX_lengthAfter_37 : decode prog_2_method_8_code 37 = .ok (.getfield 48, 3) := by decide +kernel
theorem d_EX_lengthAfter_40 : decode prog_2_method_8_code 40 = .ok (.iload 5, 2) := by decide +kernel
theorem d_EX_lengthAfter_42 : decode prog_2_method_8_code 42 = .ok (.iaload, 1) := by decide +kernel
theorem d_EX_lengthAfter_43 : decode prog_2_method_8_code 43 = .ok (.iconst 2, 1) := by decide +kernel
theorem d_EX_lengthAfter_44 : decode prog_2_method_8_code 44 = .ok (.if_icmp .ne 21, 3) := by decide +kernel
theorem d_EX_lengthAfter_47 : decode prog_2_method_8_code 47 = .ok (.aload_n 0, 1) := by decide +kernel
theorem d_EX_lengthAfter_48 : decode prog_2_method_8_code 48 = .ok (.getfield 31, 3) := by decide +kernel
theorem d_EX_lengthAfter_51 : decode prog_2_method_8_code 51 = .ok (.iload 6, 2) := by decide +kernel
theorem d_EX_lengthAfter_53 : decode prog_2_method_8_code 53 = .ok (.iaload, 1) := by decide +kernel
theorem d_EX_lengthAfter_54 : decode prog_2_method_8_code 54 = .ok (.aload_n 0, 1) := by decide +kernel
theorem d_EX_lengthAfter_55 : decode prog_2_method_8_code 55 = .ok (.getfield 28, 3) := by decide +kernel
theorem d_EX_lengthAfter_58 : decode prog_2_method_8_code 58 = .ok (.iload 6, 2) := by decide +kernel
theorem d_EX_lengthAfter_60 : decode prog_2_method_8_code 60 = .ok (.iaload, 1) := by decide +kernel
theorem d_EX_lengthAfter_61 : decode prog_2_method_8_code 61 = .ok (.isub, 1) := by decide +kernel
theorem d_EX_lengthAfter_62 : decode prog_2_method_8_code 62 = .ok (.goto 4, 3) := by decide +kernel
theorem d_EX_lengthAfter_65 : decode prog_2_method_8_code 65 = .ok (.iconst 1, 1) := by decide +kernel
theorem d_EX_lengthAfter_66 : decode prog_2_method_8_code 66 = .ok (.iadd, 1) := by decide +kernel
theorem d_EX_lengthAfter_67 : decode prog_2_method_8_code 67 = .ok (.istore 4, 2) := by decide +kernel
theorem d_EX_lengthAfter_69 : decode prog_2_method_8_code 69 = .ok (.iinc 5 1, 3) := by decide +kernel
theorem d_EX_lengthAfter_72 : decode prog_2_method_8_code 72 = .ok (.goto (-56), 3) := by decide +kernel
theorem d_EX_lengthAfter_75 : decode prog_2_method_8_code 75 = .ok (.iload 4, 2) := by decide +kernel
theorem d_EX_lengthAfter_77 : decode prog_2_method_8_code 77 = .ok (.ireturn, 1) := by decide +kernel
theorem d_EX_putBody_0 : decode prog_2_method_9_code 0 = .ok (.aload_n 1, 1) := by decide +kernel
theorem d_EX_putBody_1 : decode prog_2_method_9_code 1 = .ok (.getfield 58, 3) := by decide +kernel
theorem d_EX_putBody_4 : decode prog_2_method_9_code 4 = .ok (.aload_n 0, 1) := by decide +kernel
theorem d_EX_putBody_5 : decode prog_2_method_9_code 5 = .ok (.getfield 42, 3) := by decide +kernel
theorem d_EX_putBody_8 : decode prog_2_method_9_code 8 = .ok (.iaload, 1) := by decide +kernel
theorem d_EX_putBody_9 : decode prog_2_method_9_code 9 = .ok (.iconst 1, 1) := by decide +kernel
theorem d_EX_putBody_10 : decode prog_2_method_9_code 10 = .ok (.iadd, 1) := by decide +kernel
theorem d_EX_putBody_11 : decode prog_2_method_9_code 11 = .ok (.istore 4, 2) := by decide +kernel
theorem d_EX_putBody_13 : decode prog_2_method_9_code 13 = .ok (.aload_n 0, 1) := by decide +kernel
theorem d_EX_putBody_14 : decode prog_2_method_9_code 14 = .ok (.getfield 24, 3) := by decide +kernel
theorem d_EX_putBody_17 : decode prog_2_method_9_code 17 = .ok (.iconst 0, 1) := by decide +kernel
theorem d_EX_putBody_18 : decode prog_2_method_9_code 18 = .ok (.putfield 38, 3) := by decide +kernel
theorem d_EX_putBody_21 : decode prog_2_method_9_code 21 = .ok (.iconst 0, 1) := by decide +kernel
theorem d_EX_putBody_22 : decode prog_2_method_9_code 22 = .ok (.istore 5, 2) := by decide +kernel
theorem d_EX_putBody_24 : decode prog_2_method_9_code 24 = .ok (.iload 5, 2) := by decide +kernel
theorem d_EX_putBody_26 : decode prog_2_method_9_code 26 = .ok (.aload_n 2, 1) := by decide +kernel
theorem d_EX_putBody_27 : decode prog_2_method_9_code 27 = .ok (.getfield 38, 3) := by decide +kernel
theorem d_EX_putBody_30 : decode prog_2_method_9_code 30 = .ok (.if_icmp .ge 72, 3) := by decide +kernel
theorem d_EX_putBody_33 : decode prog_2_method_9_code 33 = .ok (.aload_n 2, 1) := by decide +kernel
theorem d_EX_putBody_34 : decode prog_2_method_9_code 34 = .ok (.getfield 55, 3) := by decide +kernel
theorem d_EX_putBody_37 : decode prog_2_method_9_code 37 = .ok (.iload 5, 2) := by decide +kernel
theorem d_EX_putBody_39 : decode prog_2_method_9_code 39 = .ok (.iaload, 1) := by decide +kernel
theorem d_EX_putBody_40 : decode prog_2_method_9_code 40 = .ok (.istore 6, 2) := by decide +kernel
theorem d_EX_putBody_42 : decode prog_2_method_9_code 42 = .ok (.aload_n 2, 1) := by decide +kernel
theorem d_EX_putBody_43 : decode prog_2_method_9_code 43 = .ok (.getfield 48, 3) := by decide +kernel
theorem d_EX_putBody_46 : decode prog_2_method_9_code 46 = .ok (.iload 5, 2) := by decide +kernel
theorem d_EX_putBody_48 : decode prog_2_method_9_code 48 = .ok (.iaload, 1) := by decide +kernel
theorem d_EX_putBody_49 : decode prog_2_method_9_code 49 = .ok (.iconst 2, 1) := by decide +kernel
theorem d_EX_putBody_50 : decode prog_2_method_9_code 50 = .ok (.if_icmp .ne 28, 3) := by decide +kernel
theorem d_EX_putBody_53 : decode prog_2_method_9_code 53 = .ok (.aload_n 0, 1) := by decide +kernel
theorem d_EX_putBody_54 : decode prog_2_method_9_code 54 = .ok (.getfield 24, 3) := by decide +kernel
theorem d_EX_putBody_57 : decode prog_2_method_9_code 57 = .ok (.aload_n 1, 1) := by decide +kernel
theorem d_EX_putBody_58 : decode prog_2_method_9_code 58 = .ok (.aload_n 0, 1) := by decide +kernel
theorem d_EX_putBody_59 : decode prog_2_method_9_code 59 = .ok (.getfield 28, 3) := by decide +kernel
theorem d_EX_putBody_62 : decode prog_2_method_9_code 62 = .ok (.iload 6, 2) := by decide +kernel
theorem d_EX_putBody_64 : decode prog_2_method_9_code 64 = .ok (.iaload, 1) := by decide +kernel
theorem d_EX_putBody_65 : decode prog_2_method_9_code 65 = .ok (.aload_n 0, 1) := by decide +kernel
theorem d_EX_putBody_66 : decode prog_2_method_9_code 66 = .ok (.getfield 31, 3) := by decide +kernel
theorem d_EX_putBody_69 : decode prog_2_method_9_code 69 = .ok (.iload 6, 2) := by decide +kernel
theorem d_EX_putBody_71 : decode prog_2_method_9_code 71 = .ok (.iaload, 1) := by decide +kernel
theorem d_EX_putBody_72 : decode prog_2_method_9_code 72 = .ok (.invokevirtual 80, 3) := by decide +kernel
theorem d_EX_putBody_75 : decode prog_2_method_9_code 75 = .ok (.goto 21, 3) := by decide +kernel
theorem d_EX_putBody_78 : decode prog_2_method_9_code 78 = .ok (.aload_n 0, 1) := by decide +kernel
theorem d_EX_putBody_79 : decode prog_2_method_9_code 79 = .ok (.getfield 24, 3) := by decide +kernel
theorem d_EX_putBody_82 : decode prog_2_method_9_code 82 = .ok (.aload_n 2, 1) := by decide +kernel
theorem d_EX_putBody_83 : decode prog_2_method_9_code 83 = .ok (.getfield 48, 3) := by decide +kernel
theorem d_EX_putBody_86 : decode prog_2_method_9_code 86 = .ok (.iload 5, 2) := by decide +kernel
theorem d_EX_putBody_88 : decode prog_2_method_9_code 88 = .ok (.iaload, 1) := by decide +kernel
theorem d_EX_putBody_89 : decode prog_2_method_9_code 89 = .ok (.iload 6, 2) := by decide +kernel
theorem d_EX_putBody_91 : decode prog_2_method_9_code 91 = .ok (.iload 4, 2) := by decide +kernel
theorem d_EX_putBody_93 : decode prog_2_method_9_code 93 = .ok (.invokevirtual 84, 3) := by decide +kernel
theorem d_EX_putBody_96 : decode prog_2_method_9_code 96 = .ok (.iinc 5 1, 3) := by decide +kernel
theorem d_EX_putBody_99 : decode prog_2_method_9_code 99 = .ok (.goto (-75), 3) := by decide +kernel
theorem d_EX_putBody_102 : decode prog_2_method_9_code 102 = .ok (.aload_n 0, 1) := by decide +kernel
theorem d_EX_putBody_103 : decode prog_2_method_9_code 103 = .ok (.getfield 24, 3) := by decide +kernel
theorem d_EX_putBody_106 : decode prog_2_method_9_code 106 = .ok (.aload_n 1, 1) := by decide +kernel
theorem d_EX_putBody_107 : decode prog_2_method_9_code 107 = .ok (.iload_n 3, 1) := by decide +kernel
theorem d_EX_putBody_108 : decode prog_2_method_9_code 108 = .ok (.aload_n 1, 1) := by decide +kernel
theorem d_EX_putBody_109 : decode prog_2_method_9_code 109 = .ok (.getfield 38, 3) := by decide +kernel
theorem d_EX_putBody_112 : decode prog_2_method_9_code 112 = .ok (.invokevirtual 80, 3) := by decide +kernel
theorem d_EX_putBody_115 : decode prog_2_method_9_code 115 = .ok (.aload_n 1, 1) := by decide +kernel
theorem d_EX_putBody_116 : decode prog_2_method_9_code 116 = .ok (.aload_n 0, 1) := by decide +kernel
theorem d_EX_putBody_117 : decode prog_2_method_9_code 117 = .ok (.getfield 42, 3) := by decide +kernel
theorem d_EX_putBody_120 : decode prog_2_method_9_code 120 = .ok (.putfield 38, 3) := by decide +kernel
theorem d_EX_putBody_123 : decode prog_2_method_9_code 123 = .ok (.aload_n 1, 1) := by decide +kernel
theorem d_EX_putBody_124 : decode prog_2_method_9_code 124 = .ok (.aload_n 0, 1) := by decide +kernel
theorem d_EX_putBody_125 : decode prog_2_method_9_code 125 = .ok (.getfield 24, 3) := by decide +kernel
theorem d_EX_putBody_128 : decode prog_2_method_9_code 128 = .ok (.iconst 0, 1) := by decide +kernel
theorem d_EX_putBody_129 : decode prog_2_method_9_code 129 = .ok (.aload_n 0, 1) := by decide +kernel
theorem d_EX_putBody_130 : decode prog_2_method_9_code 130 = .ok (.getfield 24, 3) := by decide +kernel
theorem d_EX_putBody_133 : decode prog_2_method_9_code 133 = .ok (.getfield 38, 3) := by decide +kernel
theorem d_EX_putBody_136 : decode prog_2_method_9_code 136 = .ok (.invokevirtual 80, 3) := by decide +kernel
theorem d_EX_putBody_139 : decode prog_2_method_9_code 139 = .ok (.return_, 1) := by decide +kernel
theorem d_OU_takeNumbers_0 : decode prog_4_method_2_code 0 = .ok (.iconst 0, 1) := by decide +kernel
theorem d_OU_takeNumbers_1 : decode prog_4_method_2_code 1 = .ok (.istore_n 3, 1) := by decide +kernel
theorem d_OU_takeNumbers_2 : decode prog_4_method_2_code 2 = .ok (.iload_n 3, 1) := by decide +kernel
theorem d_OU_takeNumbers_3 : decode prog_4_method_2_code 3 = .ok (.iload_n 2, 1) := by decide +kernel
theorem d_OU_takeNumbers_4 : decode prog_4_method_2_code 4 = .ok (.if_icmp .ge 86, 3) := by decide +kernel
theorem d_OU_takeNumbers_7 : decode prog_4_method_2_code 7 = .ok (.iload_n 3, 1) := by decide +kernel
theorem d_OU_takeNumbers_8 : decode prog_4_method_2_code 8 = .ok (.bipush 74, 2) := by decide +kernel
theorem d_OU_takeNumbers_10 : decode prog_4_method_2_code 10 = .ok (.if_icmp .ge 80, 3) := by decide +kernel
theorem d_OU_takeNumbers_13 : decode prog_4_method_2_code 13 = .ok (.aload_n 1, 1) := by decide +kernel
theorem d_OU_takeNumbers_14 : decode prog_4_method_2_code 14 = .ok (.iload_n 3, 1) := by decide +kernel
theorem d_OU_takeNumbers_15 : decode prog_4_method_2_code 15 = .ok (.aaload, 1) := by decide +kernel
theorem d_OU_takeNumbers_16 : decode prog_4_method_2_code 16 = .ok (.getfield 21, 3) := by decide +kernel
theorem d_OU_takeNumbers_19 : decode prog_4_method_2_code 19 = .ok (.bipush 12, 2) := by decide +kernel
theorem d_OU_takeNumbers_21 : decode prog_4_method_2_code 21 = .ok (.laload, 1) := by decide +kernel
theorem d_OU_takeNumbers_22 : decode prog_4_method_2_code 22 = .ok (.lstore 4, 2) := by decide +kernel
theorem d_OU_takeNumbers_24 : decode prog_4_method_2_code 24 = .ok (.aload_n 1, 1) := by decide +kernel
theorem d_OU_takeNumbers_25 : decode prog_4_method_2_code 25 = .ok (.iload_n 3, 1) := by decide +kernel
theorem d_OU_takeNumbers_26 : decode prog_4_method_2_code 26 = .ok (.aaload, 1) := by decide +kernel
theorem d_OU_takeNumbers_27 : decode prog_4_method_2_code 27 = .ok (.invokevirtual 27, 3) := by decide +kernel
theorem d_OU_takeNumbers_30 : decode prog_4_method_2_code 30 = .ok (.ifCond .ne 6, 3) := by decide +kernel
theorem d_OU_takeNumbers_33 : decode prog_4_method_2_code 33 = .ok (.bipush (-12), 2) := by decide +kernel
theorem d_OU_takeNumbers_35 : decode prog_4_method_2_code 35 = .ok (.ireturn, 1) := by decide +kernel
theorem d_OU_takeNumbers_36 : decode prog_4_method_2_code 36 = .ok (.lload 4, 2) := by decide +kernel
theorem d_OU_takeNumbers_38 : decode prog_4_method_2_code 38 = .ok (.ldc2_w 31, 3) := by decide +kernel
theorem d_OU_takeNumbers_41 : decode prog_4_method_2_code 41 = .ok (.lrem, 1) := by decide +kernel
theorem d_OU_takeNumbers_42 : decode prog_4_method_2_code 42 = .ok (.lconst 0, 1) := by decide +kernel
theorem d_OU_takeNumbers_43 : decode prog_4_method_2_code 43 = .ok (.lcmp, 1) := by decide +kernel
theorem d_OU_takeNumbers_44 : decode prog_4_method_2_code 44 = .ok (.ifCond .eq 6, 3) := by decide +kernel
theorem d_OU_takeNumbers_47 : decode prog_4_method_2_code 47 = .ok (.bipush (-13), 2) := by decide +kernel
theorem d_OU_takeNumbers_49 : decode prog_4_method_2_code 49 = .ok (.ireturn, 1) := by decide +kernel
theorem d_OU_takeNumbers_50 : decode prog_4_method_2_code 50 = .ok (.lload 4, 2) := by decide +kernel
theorem d_OU_takeNumbers_52 : decode prog_4_method_2_code 52 = .ok (.ldc2_w 33, 3) := by decide +kernel
theorem d_OU_takeNumbers_55 : decode prog_4_method_2_code 55 = .ok (.lcmp, 1) := by decide +kernel
theorem d_OU_takeNumbers_56 : decode prog_4_method_2_code 56 = .ok (.ifCond .lt 12, 3) := by decide +kernel
theorem d_OU_takeNumbers_59 : decode prog_4_method_2_code 59 = .ok (.lload 4, 2) := by decide +kernel
theorem d_OU_takeNumbers_61 : decode prog_4_method_2_code 61 = .ok (.ldc2_w 35, 3) := by decide +kernel
theorem d_OU_takeNumbers_64 : decode prog_4_method_2_code 64 = .ok (.lcmp, 1) := by decide +kernel
theorem d_OU_takeNumbers_65 : decode prog_4_method_2_code 65 = .ok (.ifCond .le 6, 3) := by decide +kernel
theorem d_OU_takeNumbers_68 : decode prog_4_method_2_code 68 = .ok (.bipush (-9), 2) := by decide +kernel
theorem d_OU_takeNumbers_70 : decode prog_4_method_2_code 70 = .ok (.ireturn, 1) := by decide +kernel
theorem d_OU_takeNumbers_71 : decode prog_4_method_2_code 71 = .ok (.aload_n 0, 1) := by decide +kernel
theorem d_OU_takeNumbers_72 : decode prog_4_method_2_code 72 = .ok (.getfield 11, 3) := by decide +kernel
theorem d_OU_takeNumbers_75 : decode prog_4_method_2_code 75 = .ok (.iload_n 3, 1) := by decide +kernel
theorem d_OU_takeNumbers_76 : decode prog_4_method_2_code 76 = .ok (.lload 4, 2) := by decide +kernel
theorem d_OU_takeNumbers_78 : decode prog_4_method_2_code 78 = .ok (.ldc2_w 31, 3) := by decide +kernel
theorem d_OU_takeNumbers_81 : decode prog_4_method_2_code 81 = .ok (.ldiv, 1) := by decide +kernel
theorem d_OU_takeNumbers_82 : decode prog_4_method_2_code 82 = .ok (.l2i, 1) := by decide +kernel
theorem d_OU_takeNumbers_83 : decode prog_4_method_2_code 83 = .ok (.iastore, 1) := by decide +kernel
theorem d_OU_takeNumbers_84 : decode prog_4_method_2_code 84 = .ok (.iinc 3 1, 3) := by decide +kernel
theorem d_OU_takeNumbers_87 : decode prog_4_method_2_code 87 = .ok (.goto (-85), 3) := by decide +kernel
theorem d_OU_takeNumbers_90 : decode prog_4_method_2_code 90 = .ok (.iconst 0, 1) := by decide +kernel
theorem d_OU_takeNumbers_91 : decode prog_4_method_2_code 91 = .ok (.ireturn, 1) := by decide +kernel
theorem d_OU_trace_0 : decode prog_4_method_3_code 0 = .ok (.aload_n 0, 1) := by decide +kernel
theorem d_OU_trace_1 : decode prog_4_method_3_code 1 = .ok (.iconst 0, 1) := by decide +kernel
theorem d_OU_trace_2 : decode prog_4_method_3_code 2 = .ok (.putfield 37, 3) := by decide +kernel
theorem d_OU_trace_5 : decode prog_4_method_3_code 5 = .ok (.iconst 0, 1) := by decide +kernel
theorem d_OU_trace_6 : decode prog_4_method_3_code 6 = .ok (.istore_n 3, 1) := by decide +kernel
theorem d_OU_trace_7 : decode prog_4_method_3_code 7 = .ok (.aload_n 0, 1) := by decide +kernel
theorem d_OU_trace_8 : decode prog_4_method_3_code 8 = .ok (.aload_n 0, 1) := by decide +kernel
theorem d_OU_trace_9 : decode prog_4_method_3_code 9 = .ok (.getfield 11, 3) := by decide +kernel
theorem d_OU_trace_12 : decode prog_4_method_3_code 12 = .ok (.iconst 0, 1) := by decide +kernel
theorem d_OU_trace_13 : decode prog_4_method_3_code 13 = .ok (.iaload, 1) := by decide +kernel
theorem d_OU_trace_14 : decode prog_4_method_3_code 14 = .ok (.sipush 512, 3) := by decide +kernel
theorem d_OU_trace_17 : decode prog_4_method_3_code 17 = .ok (.imul, 1) := by decide +kernel
theorem d_OU_trace_18 : decode prog_4_method_3_code 18 = .ok (.aload_n 0, 1) := by decide +kernel
theorem d_OU_trace_19 : decode prog_4_method_3_code 19 = .ok (.getfield 11, 3) := by decide +kernel
theorem d_OU_trace_22 : decode prog_4_method_3_code 22 = .ok (.iconst 1, 1) := by decide +kernel
theorem d_OU_trace_23 : decode prog_4_method_3_code 23 = .ok (.iaload, 1) := by decide +kernel
theorem d_OU_trace_24 : decode prog_4_method_3_code 24 = .ok (.sipush 512, 3) := by decide +kernel
theorem d_OU_trace_27 : decode prog_4_method_3_code 27 = .ok (.imul, 1) := by decide +kernel
theorem d_OU_trace_28 : decode prog_4_method_3_code 28 = .ok (.invokevirtual 41, 3) := by decide +kernel
theorem d_OU_trace_31 : decode prog_4_method_3_code 31 = .ok (.iconst 0, 1) := by decide +kernel
theorem d_OU_trace_32 : decode prog_4_method_3_code 32 = .ok (.istore 4, 2) := by decide +kernel
theorem d_OU_trace_34 : decode prog_4_method_3_code 34 = .ok (.iload 4, 2) := by decide +kernel
theorem d_OU_trace_36 : decode prog_4_method_3_code 36 = .ok (.iload_n 2, 1) := by decide +kernel
theorem d_OU_trace_37 : decode prog_4_method_3_code 37 = .ok (.if_icmp .ge 63, 3) := by decide +kernel
theorem d_OU_trace_40 : decode prog_4_method_3_code 40 = .ok (.iload 4, 2) := by decide +kernel
theorem d_OU_trace_42 : decode prog_4_method_3_code 42 = .ok (.bipush 12, 2) := by decide +kernel
theorem d_OU_trace_44 : decode prog_4_method_3_code 44 = .ok (.if_icmp .ge 56, 3) := by decide +kernel
theorem d_OU_trace_47 : decode prog_4_method_3_code 47 = .ok (.aload_n 1, 1) := by decide +kernel
theorem d_OU_trace_48 : decode prog_4_method_3_code 48 = .ok (.iload 4, 2) := by decide +kernel
theorem d_OU_trace_50 : decode prog_4_method_3_code 50 = .ok (.baload, 1) := by decide +kernel
theorem d_OU_trace_51 : decode prog_4_method_3_code 51 = .ok (.ifCond .eq 14, 3) := by decide +kernel
theorem d_OU_trace_54 : decode prog_4_method_3_code 54 = .ok (.aload_n 0, 1) := by decide +kernel
theorem d_OU_trace_55 : decode prog_4_method_3_code 55 = .ok (.iload_n 3, 1) := by decide +kernel
theorem d_OU_trace_56 : decode prog_4_method_3_code 56 = .ok (.invokevirtual 45, 3) := by decide +kernel
theorem d_OU_trace_59 : decode prog_4_method_3_code 59 = .ok (.iinc 3 6, 3) := by decide +kernel
theorem d_OU_trace_62 : decode prog_4_method_3_code 62 = .ok (.goto 32, 3) := by decide +kernel
theorem d_OU_trace_65 : decode prog_4_method_3_code 65 = .ok (.iinc 3 2, 3) := by decide +kernel
theorem d_OU_trace_68 : decode prog_4_method_3_code 68 = .ok (.aload_n 0, 1) := by decide +kernel
theorem d_OU_trace_69 : decode prog_4_method_3_code 69 = .ok (.aload_n 0, 1) := by decide +kernel
theorem d_OU_trace_70 : decode prog_4_method_3_code 70 = .ok (.getfield 11, 3) := by decide +kernel
theorem d_OU_trace_73 : decode prog_4_method_3_code 73 = .ok (.iload_n 3, 1) := by decide +kernel
theorem d_OU_trace_74 : decode prog_4_method_3_code 74 = .ok (.iaload, 1) := by decide +kernel
theorem d_OU_trace_75 : decode prog_4_method_3_code 75 = .ok (.sipush 512, 3) := by decide +kernel
theorem d_OU_trace_78 : decode prog_4_method_3_code 78 = .ok (.imul, 1) := by decide +kernel
theorem d_OU_trace_79 : decode prog_4_method_3_code 79 = .ok (.aload_n 0, 1) := by decide +kernel
theorem d_OU_trace_80 : decode prog_4_method_3_code 80 = .ok (.getfield 11, 3) := by decide +kernel
theorem d_OU_trace_83 : decode prog_4_method_3_code 83 = .ok (.iload_n 3, 1) := by decide +kernel
theorem d_OU_trace_84 : decode prog_4_method_3_code 84 = .ok (.iconst 1, 1) := by decide +kernel
theorem d_OU_trace_85 : decode prog_4_method_3_code 85 = .ok (.iadd, 1) := by decide +kernel
theorem d_OU_trace_86 : decode prog_4_method_3_code 86 = .ok (.iaload, 1) := by decide +kernel
theorem d_OU_trace_87 : decode prog_4_method_3_code 87 = .ok (.sipush 512, 3) := by decide +kernel
theorem d_OU_trace_90 : decode prog_4_method_3_code 90 = .ok (.imul, 1) := by decide +kernel
theorem d_OU_trace_91 : decode prog_4_method_3_code 91 = .ok (.invokevirtual 41, 3) := by decide +kernel
theorem d_OU_trace_94 : decode prog_4_method_3_code 94 = .ok (.iinc 4 1, 3) := by decide +kernel
theorem d_OU_trace_97 : decode prog_4_method_3_code 97 = .ok (.goto (-63), 3) := by decide +kernel
theorem d_OU_trace_100 : decode prog_4_method_3_code 100 = .ok (.aload_n 0, 1) := by decide +kernel
theorem d_OU_trace_101 : decode prog_4_method_3_code 101 = .ok (.aload_n 0, 1) := by decide +kernel
theorem d_OU_trace_102 : decode prog_4_method_3_code 102 = .ok (.getfield 15, 3) := by decide +kernel
theorem d_OU_trace_105 : decode prog_4_method_3_code 105 = .ok (.iconst 0, 1) := by decide +kernel
theorem d_OU_trace_106 : decode prog_4_method_3_code 106 = .ok (.iaload, 1) := by decide +kernel
theorem d_OU_trace_107 : decode prog_4_method_3_code 107 = .ok (.aload_n 0, 1) := by decide +kernel
theorem d_OU_trace_108 : decode prog_4_method_3_code 108 = .ok (.getfield 18, 3) := by decide +kernel
theorem d_OU_trace_111 : decode prog_4_method_3_code 111 = .ok (.iconst 0, 1) := by decide +kernel
theorem d_OU_trace_112 : decode prog_4_method_3_code 112 = .ok (.iaload, 1) := by decide +kernel
theorem d_OU_trace_113 : decode prog_4_method_3_code 113 = .ok (.invokevirtual 41, 3) := by decide +kernel
theorem d_OU_trace_116 : decode prog_4_method_3_code 116 = .ok (.return_, 1) := by decide +kernel
theorem d_OU_addPoint_0 : decode prog_4_method_4_code 0 = .ok (.aload_n 0, 1) := by decide +kernel
theorem d_OU_addPoint_1 : decode prog_4_method_4_code 1 = .ok (.getfield 37, 3) := by decide +kernel
theorem d_OU_addPoint_4 : decode prog_4_method_4_code 4 = .ok (.bipush 98, 2) := by decide +kernel
theorem d_OU_addPoint_6 : decode prog_4_method_4_code 6 = .ok (.if_icmp .ge 33, 3) := by decide +kernel
theorem d_OU_addPoint_9 : decode prog_4_method_4_code 9 = .ok (.aload_n 0, 1) := by decide +kernel
theorem d_OU_addPoint_10 : decode prog_4_method_4_code 10 = .ok (.getfield 15, 3) := by decide +kernel
theorem d_OU_addPoint_13 : decode prog_4_method_4_code 13 = .ok (.aload_n 0, 1) := by decide +kernel
theorem d_OU_addPoint_14 : decode prog_4_method_4_code 14 = .ok (.getfield 37, 3) := by decide +kernel
theorem d_OU_addPoint_17 : decode prog_4_method_4_code 17 = .ok (.iload_n 1, 1) := by decide +kernel
theorem d_OU_addPoint_18 : decode prog_4_method_4_code 18 = .ok (.iastore, 1) := by decide +kernel
theorem d_OU_addPoint_19 : decode prog_4_method_4_code 19 = .ok (.aload_n 0, 1) := by decide +kernel
theorem d_OU_addPoint_20 : decode prog_4_method_4_code 20 = .ok (.getfield 18, 3) := by decide +kernel
theorem d_OU_addPoint_23 : decode prog_4_method_4_code 23 = .ok (.aload_n 0, 1) := by decide +kernel
theorem d_OU_addPoint_24 : decode prog_4_method_4_code 24 = .ok (.getfield 37, 3) := by decide +kernel
theorem d_OU_addPoint_27 : decode prog_4_method_4_code 27 = .ok (.iload_n 2, 1) := by decide +kernel
theorem d_OU_addPoint_28 : decode prog_4_method_4_code 28 = .ok (.iastore, 1) := by decide +kernel
theorem d_OU_addPoint_29 : decode prog_4_method_4_code 29 = .ok (.aload_n 0, 1) := by decide +kernel
theorem d_OU_addPoint_30 : decode prog_4_method_4_code 30 = .ok (.dup, 1) := by decide +kernel
theorem d_OU_addPoint_31 : decode prog_4_method_4_code 31 = .ok (.getfield 37, 3) := by decide +kernel
theorem d_OU_addPoint_34 : decode prog_4_method_4_code 34 = .ok (.iconst 1, 1) := by decide +kernel
theorem d_OU_addPoint_35 : decode prog_4_method_4_code 35 = .ok (.iadd, 1) := by decide +kernel
theorem d_OU_addPoint_36 : decode prog_4_method_4_code 36 = .ok (.putfield 37, 3) := by decide +kernel
theorem d_OU_addPoint_39 : decode prog_4_method_4_code 39 = .ok (.return_, 1) := by decide +kernel
theorem d_OU_addCurve_0 : decode prog_4_method_5_code 0 = .ok (.iconst 1, 1) := by decide +kernel
theorem d_OU_addCurve_1 : decode prog_4_method_5_code 1 = .ok (.istore_n 2, 1) := by decide +kernel
theorem d_OU_addCurve_2 : decode prog_4_method_5_code 2 = .ok (.iload_n 2, 1) := by decide +kernel
theorem d_OU_addCurve_3 : decode prog_4_method_5_code 3 = .ok (.bipush 8, 2) := by decide +kernel
theorem d_OU_addCurve_5 : decode prog_4_method_5_code 5 = .ok (.if_icmp .gt 27, 3) := by decide +kernel
theorem d_OU_addCurve_8 : decode prog_4_method_5_code 8 = .ok (.aload_n 0, 1) := by decide +kernel
theorem d_OU_addCurve_9 : decode prog_4_method_5_code 9 = .ok (.aload_n 0, 1) := by decide +kernel
theorem d_OU_addCurve_10 : decode prog_4_method_5_code 10 = .ok (.iload_n 1, 1) := by decide +kernel
theorem d_OU_addCurve_11 : decode prog_4_method_5_code 11 = .ok (.iload_n 2, 1) := by decide +kernel
theorem d_OU_addCurve_12 : decode prog_4_method_5_code 12 = .ok (.invokevirtual 49, 3) := by decide +kernel
theorem d_OU_addCurve_15 : decode prog_4_method_5_code 15 = .ok (.aload_n 0, 1) := by decide +kernel
theorem d_OU_addCurve_16 : decode prog_4_method_5_code 16 = .ok (.iload_n 1, 1) := by decide +kernel
theorem d_OU_addCurve_17 : decode prog_4_method_5_code 17 = .ok (.iconst 1, 1) := by decide +kernel
theorem d_OU_addCurve_18 : decode prog_4_method_5_code 18 = .ok (.iadd, 1) := by decide +kernel
theorem d_OU_addCurve_19 : decode prog_4_method_5_code 19 = .ok (.iload_n 2, 1) := by decide +kernel
theorem d_OU_addCurve_20 : decode prog_4_method_5_code 20 = .ok (.invokevirtual 49, 3) := by decide +kernel
theorem d_OU_addCurve_23 : decode prog_4_method_5_code 23 = .ok (.invokevirtual 41, 3) := by decide +kernel
theorem d_OU_addCurve_26 : decode prog_4_method_5_code 26 = .ok (.iinc 2 1, 3) := by decide +kernel
theorem d_OU_addCurve_29 : decode prog_4_method_5_code 29 = .ok (.goto (-27), 3) := by decide +kernel
theorem d_OU_addCurve_32 : decode prog_4_method_5_code 32 = .ok (.return_, 1) := by decide +kernel
theorem d_OU_onCurve_0 : decode prog_4_method_6_code 0 = .ok (.bipush 8, 2) := by decide +kernel
theorem d_OU_onCurve_2 : decode prog_4_method_6_code 2 = .ok (.iload_n 2, 1) := by decide +kernel
theorem d_OU_onCurve_3 : decode prog_4_method_6_code 3 = .ok (.isub, 1) := by decide +kernel
theorem d_OU_onCurve_4 : decode prog_4_method_6_code 4 = .ok (.istore_n 3, 1) := by decide +kernel
theorem d_OU_onCurve_5 : decode prog_4_method_6_code 5 = .ok (.iload_n 3, 1) := by decide +kernel
theorem d_OU_onCurve_6 : decode prog_4_method_6_code 6 = .ok (.iload_n 3, 1) := by decide +kernel
theorem d_OU_onCurve_7 : decode prog_4_method_6_code 7 = .ok (.imul, 1) := by decide +kernel
theorem d_OU_onCurve_8 : decode prog_4_method_6_code 8 = .ok (.iload_n 3, 1) := by decide +kernel
theorem d_OU_onCurve_9 : decode prog_4_method_6_code 9 = .ok (.imul, 1) := by decide +kernel
theorem d_OU_onCurve_10 : decode prog_4_method_6_code 10 = .ok (.aload_n 0, 1) := by decide +kernel
theorem d_OU_onCurve_11 : decode prog_4_method_6_code 11 = .ok (.getfield 11, 3) := by decide +kernel
theorem d_OU_onCurve_14 : decode prog_4_method_6_code 14 = .ok (.iload_n 1, 1) := by decide +kernel
theorem d_OU_onCurve_15 : decode prog_4_method_6_code 15 = .ok (.iaload, 1) := by decide +kernel
theorem d_OU_onCurve_16 : decode prog_4_method_6_code 16 = .ok (.imul, 1) := by decide +kernel
theorem d_OU_onCurve_17 : decode prog_4_method_6_code 17 = .ok (.iconst 3, 1) := by decide +kernel
theorem d_OU_onCurve_18 : decode prog_4_method_6_code 18 = .ok (.iload_n 3, 1) := by decide +kernel
theorem d_OU_onCurve_19 : decode prog_4_method_6_code 19 = .ok (.imul, 1) := by decide +kernel
theorem d_OU_onCurve_20 : decode prog_4_method_6_code 20 = .ok (.iload_n 3, 1) := by decide +kernel
theorem d_OU_onCurve_21 : decode prog_4_method_6_code 21 = .ok (.imul, 1) := by decide +kernel
theorem d_OU_onCurve_22 : decode prog_4_method_6_code 22 = .ok (.iload_n 2, 1) := by decide +kernel
theorem d_OU_onCurve_23 : decode prog_4_method_6_code 23 = .ok (.imul, 1) := by decide +kernel
theorem d_OU_onCurve_24 : decode prog_4_method_6_code 24 = .ok (.aload_n 0, 1) := by decide +kernel
theorem d_OU_onCurve_25 : decode prog_4_method_6_code 25 = .ok (.getfield 11, 3) := by decide +kernel
theorem d_OU_onCurve_28 : decode prog_4_method_6_code 28 = .ok (.iload_n 1, 1) := by decide +kernel
theorem d_OU_onCurve_29 : decode prog_4_method_6_code 29 = .ok (.iconst 2, 1) := by decide +kernel
theorem d_OU_onCurve_30 : decode prog_4_method_6_code 30 = .ok (.iadd, 1) := by decide +kernel
theorem d_OU_onCurve_31 : decode prog_4_method_6_code 31 = .ok (.iaload, 1) := by decide +kernel
theorem d_OU_onCurve_32 : decode prog_4_method_6_code 32 = .ok (.imul, 1) := by decide +kernel
theorem d_OU_onCurve_33 : decode prog_4_method_6_code 33 = .ok (.iadd, 1) := by decide +kernel
theorem d_OU_onCurve_34 : decode prog_4_method_6_code 34 = .ok (.iconst 3, 1) := by decide +kernel
theorem d_OU_onCurve_35 : decode prog_4_method_6_code 35 = .ok (.iload_n 3, 1) := by decide +kernel
theorem d_OU_onCurve_36 : decode prog_4_method_6_code 36 = .ok (.imul, 1) := by decide +kernel
theorem d_OU_onCurve_37 : decode prog_4_method_6_code 37 = .ok (.iload_n 2, 1) := by decide +kernel
theorem d_OU_onCurve_38 : decode prog_4_method_6_code 38 = .ok (.imul, 1) := by decide +kernel
theorem d_OU_onCurve_39 : decode prog_4_method_6_code 39 = .ok (.iload_n 2, 1) := by decide +kernel
theorem d_OU_onCurve_40 : decode prog_4_method_6_code 40 = .ok (.imul, 1) := by decide +kernel
theorem d_OU_onCurve_41 : decode prog_4_method_6_code 41 = .ok (.aload_n 0, 1) := by decide +kernel
theorem d_OU_onCurve_42 : decode prog_4_method_6_code 42 = .ok (.getfield 11, 3) := by decide +kernel
theorem d_OU_onCurve_45 : decode prog_4_method_6_code 45 = .ok (.iload_n 1, 1) := by decide +kernel
theorem d_OU_onCurve_46 : decode prog_4_method_6_code 46 = .ok (.iconst 4, 1) := by decide +kernel
theorem d_OU_onCurve_47 : decode prog_4_method_6_code 47 = .ok (.iadd, 1) := by decide +kernel
theorem d_OU_onCurve_48 : decode prog_4_method_6_code 48 = .ok (.iaload, 1) := by decide +kernel
theorem d_OU_onCurve_49 : decode prog_4_method_6_code 49 = .ok (.imul, 1) := by decide +kernel
theorem d_OU_onCurve_50 : decode prog_4_method_6_code 50 = .ok (.iadd, 1) := by decide +kernel
theorem d_OU_onCurve_51 : decode prog_4_method_6_code 51 = .ok (.iload_n 2, 1) := by decide +kernel
theorem d_OU_onCurve_52 : decode prog_4_method_6_code 52 = .ok (.iload_n 2, 1) := by decide +kernel
theorem d_OU_onCurve_53 : decode prog_4_method_6_code 53 = .ok (.imul, 1) := by decide +kernel
theorem d_OU_onCurve_54 : decode prog_4_method_6_code 54 = .ok (.iload_n 2, 1) := by decide +kernel
theorem d_OU_onCurve_55 : decode prog_4_method_6_code 55 = .ok (.imul, 1) := by decide +kernel
theorem d_OU_onCurve_56 : decode prog_4_method_6_code 56 = .ok (.aload_n 0, 1) := by decide +kernel
theorem d_OU_onCurve_57 : decode prog_4_method_6_code 57 = .ok (.getfield 11, 3) := by decide +kernel
theorem d_OU_onCurve_60 : decode prog_4_method_6_code 60 = .ok (.iload_n 1, 1) := by decide +kernel
theorem d_OU_onCurve_61 : decode prog_4_method_6_code 61 = .ok (.bipush 6, 2) := by decide +kernel
theorem d_OU_onCurve_63 : decode prog_4_method_6_code 63 = .ok (.iadd, 1) := by decide +kernel
theorem d_OU_onCurve_64 : decode prog_4_method_6_code 64 = .ok (.iaload, 1) := by decide +kernel
theorem d_OU_onCurve_65 : decode prog_4_method_6_code 65 = .ok (.imul, 1) := by decide +kernel
theorem d_OU_onCurve_66 : decode prog_4_method_6_code 66 = .ok (.iadd, 1) := by decide +kernel
theorem d_OU_onCurve_67 : decode prog_4_method_6_code 67 = .ok (.ireturn, 1) := by decide +kernel
theorem d_EX_bodyLength_0 : decode prog_2_method_3_code 0 = .ok (.aload_n 0, 1) := by decide +kernel
theorem d_EX_bodyLength_1 : decode prog_2_method_3_code 1 = .ok (.getfield 17, 3) := by decide +kernel
theorem d_EX_bodyLength_4 : decode prog_2_method_3_code 4 = .ok (.iload_n 1, 1) := by decide +kernel
theorem d_EX_bodyLength_5 : decode prog_2_method_3_code 5 = .ok (.iaload, 1) := by decide +kernel
theorem d_EX_bodyLength_6 : decode prog_2_method_3_code 6 = .ok (.iconst (-1), 1) := by decide +kernel
theorem d_EX_bodyLength_7 : decode prog_2_method_3_code 7 = .ok (.if_icmp .ne 8, 3) := by decide +kernel
theorem d_EX_bodyLength_10 : decode prog_2_method_3_code 10 = .ok (.bipush (-2), 2) := by decide +kernel
theorem d_EX_bodyLength_12 : decode prog_2_method_3_code 12 = .ok (.goto 12, 3) := by decide +kernel
theorem d_EX_bodyLength_15 : decode prog_2_method_3_code 15 = .ok (.aload_n 0, 1) := by decide +kernel
theorem d_EX_bodyLength_16 : decode prog_2_method_3_code 16 = .ok (.getfield 13, 3) := by decide +kernel
theorem d_EX_bodyLength_19 : decode prog_2_method_3_code 19 = .ok (.iload_n 1, 1) := by decide +kernel
theorem d_EX_bodyLength_20 : decode prog_2_method_3_code 20 = .ok (.aaload, 1) := by decide +kernel
theorem d_EX_bodyLength_21 : decode prog_2_method_3_code 21 = .ok (.getfield 38, 3) := by decide +kernel
theorem d_EX_bodyLength_24 : decode prog_2_method_3_code 24 = .ok (.ireturn, 1) := by decide +kernel
theorem EX_o5 : Cond.methodLink "GlyphCompiler$Expander" 5 objectInit ∈ jTs ∧ Cond.instanceMethod objectInit ∈ jTs ∧ Cond.code objectInit ⟨#[0xb1]⟩ 1 none ∈ jTs := ⟨(jin_t (jin_1 55 rfl) rfl), (jin_t (jin_1 20 rfl) rfl), (jin_t (jin_1 21 rfl) rfl)⟩
theorem EX_w13 (y : MethodName) (h : y.cls = "GlyphCompiler$Expander") (h2 : y.name = "<init>") : jFw y 13 1 0 (.array (.object "GlyphCompiler$TokenRow")) := ⟨R_EX, T_EX, 7, rfl, Nat.le_of_ble_eq_true rfl, by decide +kernel, Or.inr ⟨rfl, h2, h.symm, by rw [h]; exact (jin_t (jin_1 59 rfl) rfl)⟩⟩
theorem EX_w17 (y : MethodName) (h : y.cls = "GlyphCompiler$Expander") (h2 : y.name = "<init>") : jFw y 17 1 1 (.array .int) := ⟨R_EX, T_EX, 7, rfl, Nat.le_of_ble_eq_true rfl, by decide +kernel, Or.inr ⟨rfl, h2, h.symm, by rw [h]; exact (jin_t (jin_1 60 rfl) rfl)⟩⟩
theorem EX_c21 : jLk "GlyphCompiler$Expander" 21 Y_TR_init := Or.inl (jin_t (jin_1 58 rfl) rfl)
theorem EX_w24 (y : MethodName) (h : y.cls = "GlyphCompiler$Expander") (h2 : y.name = "<init>") : jFw y 24 1 2 (.object "GlyphCompiler$TokenRow") := ⟨R_EX, T_EX, 7, rfl, Nat.le_of_ble_eq_true rfl, by decide +kernel, Or.inr ⟨rfl, h2, h.symm, by rw [h]; exact (jin_t (jin_1 61 rfl) rfl)⟩⟩
theorem EX_w28 (y : MethodName) (h : y.cls = "GlyphCompiler$Expander") (h2 : y.name = "<init>") : jFw y 28 1 3 (.array .int) := ⟨R_EX, T_EX, 7, rfl, Nat.le_of_ble_eq_true rfl, by decide +kernel, Or.inr ⟨rfl, h2, h.symm, by rw [h]; exact (jin_t (jin_1 62 rfl) rfl)⟩⟩
theorem EX_w31 (y : MethodName) (h : y.cls = "GlyphCompiler$Expander") (h2 : y.name = "<init>") : jFw y 31 1 4 (.array .int) := ⟨R_EX, T_EX, 7, rfl, Nat.le_of_ble_eq_true rfl, by decide +kernel, Or.inr ⟨rfl, h2, h.symm, by rw [h]; exact (jin_t (jin_1 63 rfl) rfl)⟩⟩
theorem EX_f13 : jFl "GlyphCompiler$Expander" 13 1 0 := ⟨R_EX, T_EX, 7, rfl, Nat.le_of_ble_eq_true rfl, Or.inl (jin_t (jin_1 59 rfl) rfl)⟩
theorem EX_f17 : jFl "GlyphCompiler$Expander" 17 1 1 := ⟨R_EX, T_EX, 7, rfl, Nat.le_of_ble_eq_true rfl, Or.inl (jin_t (jin_1 60 rfl) rfl)⟩
theorem OU_o5 : Cond.methodLink "GlyphCompiler$Outline" 5 objectInit ∈ jTs ∧ Cond.instanceMethod objectInit ∈ jTs ∧ Cond.code objectInit ⟨#[0xb1]⟩ 1 none ∈ jTs := ⟨(jin_t (jin_1 197 rfl) rfl), (jin_t (jin_1 20 rfl) rfl), (jin_t (jin_1 21 rfl) rfl)⟩
theorem OU_w11 (y : MethodName) (h : y.cls = "GlyphCompiler$Outline") (h2 : y.name = "<init>") : jFw y 11 5 0 (.array .int) := ⟨R_OU, T_OU, 4, rfl, Nat.le_of_ble_eq_true rfl, by decide +kernel, Or.inr ⟨rfl, h2, h.symm, by rw [h]; exact (jin_t (jin_1 198 rfl) rfl)⟩⟩
theorem OU_w15 (y : MethodName) (h : y.cls = "GlyphCompiler$Outline") (h2 : y.name = "<init>") : jFw y 15 5 1 (.array .int) := ⟨R_OU, T_OU, 4, rfl, Nat.le_of_ble_eq_true rfl, by decide +kernel, Or.inr ⟨rfl, h2, h.symm, by rw [h]; exact (jin_t (jin_1 199 rfl) rfl)⟩⟩
theorem OU_w18 (y : MethodName) (h : y.cls = "GlyphCompiler$Outline") (h2 : y.name = "<init>") : jFw y 18 5 2 (.array .int) := ⟨R_OU, T_OU, 4, rfl, Nat.le_of_ble_eq_true rfl, by decide +kernel, Or.inr ⟨rfl, h2, h.symm, by rw [h]; exact (jin_t (jin_1 201 rfl) rfl)⟩⟩
theorem EX_c34 : jLk "GlyphCompiler$Expander" 34 Y_TR_copy := Or.inl (jin_t (jin_2 51 rfl) rfl)
theorem EX_w42 (y : MethodName) (h : y.cls = "GlyphCompiler$Expander") : jFw y 42 1 5 .int := ⟨R_EX, T_EX, 7, rfl, Nat.le_of_ble_eq_true rfl, by decide +kernel, Or.inl ⟨rfl, Or.inl (by rw [h]; exact (jin_t (jin_1 64 rfl) rfl))⟩⟩
theorem EX_w45 (y : MethodName) (h : y.cls = "GlyphCompiler$Expander") : jFw y 45 1 6 .int := ⟨R_EX, T_EX, 7, rfl, Nat.le_of_ble_eq_true rfl, by decide +kernel, Or.inl ⟨rfl, Or.inl (by rw [h]; exact (jin_t (jin_1 66 rfl) rfl))⟩⟩
theorem EX_f42 : jFl "GlyphCompiler$Expander" 42 1 5 := ⟨R_EX, T_EX, 7, rfl, Nat.le_of_ble_eq_true rfl, Or.inl (jin_t (jin_1 64 rfl) rfl)⟩
theorem EX_f38 : jFl "GlyphCompiler$Expander" 38 0 3 := ⟨R_TR, T_TR, 4, rfl, Nat.le_of_ble_eq_true rfl, Or.inl (jin_t (jin_1 38 rfl) rfl)⟩
theorem EX_f48 : jFl "GlyphCompiler$Expander" 48 0 0 := ⟨R_TR, T_TR, 4, rfl, Nat.le_of_ble_eq_true rfl, Or.inl (jin_t (jin_1 29 rfl) rfl)⟩
theorem EX_c51 : jLk "GlyphCompiler$Expander" 51 Y_EX_replaceCall := Or.inl (jin_t (jin_2 73 rfl) rfl)
theorem EX_f55 : jFl "GlyphCompiler$Expander" 55 0 1 := ⟨R_TR, T_TR, 4, rfl, Nat.le_of_ble_eq_true rfl, Or.inl (jin_t (jin_1 33 rfl) rfl)⟩
theorem EX_f58 : jFl "GlyphCompiler$Expander" 58 0 2 := ⟨R_TR, T_TR, 4, rfl, Nat.le_of_ble_eq_true rfl, Or.inl (jin_t (jin_1 35 rfl) rfl)⟩
theorem EX_c61 : jLk "GlyphCompiler$Expander" 61 Y_EX_findArguments := Or.inl (jin_t (jin_2 77 rfl) rfl)
theorem EX_f45 : jFl "GlyphCompiler$Expander" 45 1 6 := ⟨R_EX, T_EX, 7, rfl, Nat.le_of_ble_eq_true rfl, Or.inl (jin_t (jin_1 66 rfl) rfl)⟩
theorem EX_c65 : jLk "GlyphCompiler$Expander" 65 Y_EX_lengthAfter := Or.inl (jin_t (jin_2 88 rfl) rfl)
theorem EX_c69 : jLk "GlyphCompiler$Expander" 69 Y_EX_putBody := Or.inl (jin_t (jin_2 92 rfl) rfl)
theorem EX_c73 : jLk "GlyphCompiler$Expander" 73 Y_TR_isWord := Or.inl (jin_t (jin_2 81 rfl) rfl)
theorem EX_f28 : jFl "GlyphCompiler$Expander" 28 1 3 := ⟨R_EX, T_EX, 7, rfl, Nat.le_of_ble_eq_true rfl, Or.inl (jin_t (jin_1 62 rfl) rfl)⟩
theorem EX_f31 : jFl "GlyphCompiler$Expander" 31 1 4 := ⟨R_EX, T_EX, 7, rfl, Nat.le_of_ble_eq_true rfl, Or.inl (jin_t (jin_1 63 rfl) rfl)⟩
theorem EX_c77 : jLk "GlyphCompiler$Expander" 77 Y_EX_endOfArgument := Or.inl (jin_t (jin_2 85 rfl) rfl)
theorem EX_f24 : jFl "GlyphCompiler$Expander" 24 1 2 := ⟨R_EX, T_EX, 7, rfl, Nat.le_of_ble_eq_true rfl, Or.inl (jin_t (jin_1 61 rfl) rfl)⟩
theorem EX_w38 (y : MethodName) (h : y.cls = "GlyphCompiler$Expander") : jFw y 38 0 3 .int := ⟨R_TR, T_TR, 4, rfl, Nat.le_of_ble_eq_true rfl, by decide +kernel, Or.inl ⟨rfl, Or.inl (by rw [h]; exact (jin_t (jin_1 38 rfl) rfl))⟩⟩
theorem EX_c80 : jLk "GlyphCompiler$Expander" 80 Y_TR_addAll := Or.inl (jin_t (jin_2 96 rfl) rfl)
theorem EX_c84 : jLk "GlyphCompiler$Expander" 84 Y_TR_add := Or.inl (jin_t (jin_2 97 rfl) rfl)
theorem OU_f21 : jFl "GlyphCompiler$Outline" 21 4 0 := ⟨R_FO, T_FO, 1, rfl, Nat.le_of_ble_eq_true rfl, Or.inl (jin_t (jin_1 108 rfl) rfl)⟩
theorem OU_c27 : jLk "GlyphCompiler$Outline" 27 Y_FO_isPlain := Or.inl (jin_t (jin_2 204 rfl) rfl)
theorem OU_k31 : Jvm.Cond.constantLong "GlyphCompiler$Outline" 31 (jL 4096) ∈ jTs := by rw [show jL 4096 = 4096 by decide]; exact (jin_t (jin_2 205 rfl) rfl)
theorem OU_k33 : Jvm.Cond.constantLong "GlyphCompiler$Outline" 33 (jL (-2097152)) ∈ jTs := by rw [show jL (-2097152) = (-2097152) by decide]; exact (jin_t (jin_2 206 rfl) rfl)
theorem OU_k35 : Jvm.Cond.constantLong "GlyphCompiler$Outline" 35 (jL 6291456) ∈ jTs := by rw [show jL 6291456 = 6291456 by decide]; exact (jin_t (jin_2 207 rfl) rfl)
theorem OU_f11 : jFl "GlyphCompiler$Outline" 11 5 0 := ⟨R_OU, T_OU, 4, rfl, Nat.le_of_ble_eq_true rfl, Or.inl (jin_t (jin_1 198 rfl) rfl)⟩
theorem OU_w37 (y : MethodName) (h : y.cls = "GlyphCompiler$Outline") : jFw y 37 5 3 .int := ⟨R_OU, T_OU, 4, rfl, Nat.le_of_ble_eq_true rfl, by decide +kernel, Or.inl ⟨rfl, Or.inl (by rw [h]; exact (jin_t (jin_1 203 rfl) rfl))⟩⟩
theorem OU_c41 : jLk "GlyphCompiler$Outline" 41 Y_OU_addPoint := Or.inl (jin_t (jin_2 212 rfl) rfl)
theorem OU_c45 : jLk "GlyphCompiler$Outline" 45 Y_OU_addCurve := Or.inl (jin_t (jin_2 216 rfl) rfl)
theorem OU_f15 : jFl "GlyphCompiler$Outline" 15 5 1 := ⟨R_OU, T_OU, 4, rfl, Nat.le_of_ble_eq_true rfl, Or.inl (jin_t (jin_1 199 rfl) rfl)⟩
theorem OU_f18 : jFl "GlyphCompiler$Outline" 18 5 2 := ⟨R_OU, T_OU, 4, rfl, Nat.le_of_ble_eq_true rfl, Or.inl (jin_t (jin_1 201 rfl) rfl)⟩
theorem OU_f37 : jFl "GlyphCompiler$Outline" 37 5 3 := ⟨R_OU, T_OU, 4, rfl, Nat.le_of_ble_eq_true rfl, Or.inl (jin_t (jin_1 203 rfl) rfl)⟩
theorem OU_c49 : jLk "GlyphCompiler$Outline" 49 Y_OU_onCurve := Or.inl (jin_t (jin_2 220 rfl) rfl)
theorem yk_EX_init : jYok Y_EX_init 0 := ⟨(jin_t (jin_1 54 rfl) rfl), (jin_t (jin_1 3 rfl) rfl), ⟨by decide +kernel, by decide +kernel⟩, by decide +kernel⟩
theorem yv_EX_init : Cond.instanceMethod (yN Y_EX_init) ∈ jTs := (jin_t (jin_1 53 rfl) rfl)
theorem yk_OU_init : jYok Y_OU_init 0 := ⟨(jin_t (jin_1 196 rfl) rfl), (jin_t (jin_1 7 rfl) rfl), ⟨by decide +kernel, by decide +kernel⟩, by decide +kernel⟩
theorem yv_OU_init : Cond.instanceMethod (yN Y_OU_init) ∈ jTs := (jin_t (jin_1 195 rfl) rfl)
theorem yk_EX_define : jYok Y_EX_define 3 := ⟨(jin_t (jin_2 50 rfl) rfl), (jin_t (jin_1 3 rfl) rfl), ⟨by decide +kernel, by decide +kernel⟩, by decide +kernel⟩
theorem yv_EX_define : Cond.instanceMethod (yN Y_EX_define) ∈ jTs ∧ Cond.selects (yN Y_EX_define).cls (yN Y_EX_define) (yN Y_EX_define) ∈ jTs := ⟨(jin_t (jin_2 48 rfl) rfl), (jin_t (jin_2 49 rfl) rfl)⟩
theorem yk_EX_expand : jYok Y_EX_expand 2 := ⟨(jin_t (jin_2 72 rfl) rfl), (jin_t (jin_1 3 rfl) rfl), ⟨by decide +kernel, by decide +kernel⟩, by decide +kernel⟩
theorem yv_EX_expand : Cond.instanceMethod (yN Y_EX_expand) ∈ jTs ∧ Cond.selects (yN Y_EX_expand).cls (yN Y_EX_expand) (yN Y_EX_expand) ∈ jTs := ⟨(jin_t (jin_2 70 rfl) rfl), (jin_t (jin_2 71 rfl) rfl)⟩
theorem yk_EX_replaceCall : jYok Y_EX_replaceCall 1 := ⟨(jin_t (jin_2 76 rfl) rfl), (jin_t (jin_1 3 rfl) rfl), ⟨by decide +kernel, by decide +kernel⟩, by decide +kernel⟩
theorem yv_EX_replaceCall : Cond.instanceMethod (yN Y_EX_replaceCall) ∈ jTs ∧ Cond.selects (yN Y_EX_replaceCall).cls (yN Y_EX_replaceCall) (yN Y_EX_replaceCall) ∈ jTs := ⟨(jin_t (jin_2 75 rfl) rfl), (jin_p (List.mem_map.mpr ⟨(({ cls := "GlyphCompiler$Expander", name := "replaceCall", desc := "(LGlyphCompiler$TokenRow;)I" } : Jvm.MethodName), 7), by decide +kernel, rfl⟩) rfl)⟩
theorem yk_EX_findArguments : jYok Y_EX_findArguments 2 := ⟨(jin_t (jin_2 80 rfl) rfl), (jin_t (jin_1 3 rfl) rfl), ⟨by decide +kernel, by decide +kernel⟩, by decide +kernel⟩
theorem yv_EX_findArguments : Cond.instanceMethod (yN Y_EX_findArguments) ∈ jTs ∧ Cond.selects (yN Y_EX_findArguments).cls (yN Y_EX_findArguments) (yN Y_EX_findArguments) ∈ jTs := ⟨(jin_t (jin_2 79 rfl) rfl), (jin_p (List.mem_map.mpr ⟨(({ cls := "GlyphCompiler$Expander", name := "findArguments", desc := "(LGlyphCompiler$TokenRow;I)I" } : Jvm.MethodName), 7), by decide +kernel, rfl⟩) rfl)⟩
theorem yk_EX_endOfArgument : jYok Y_EX_endOfArgument 2 := ⟨(jin_t (jin_2 87 rfl) rfl), (jin_t (jin_1 3 rfl) rfl), ⟨by decide +kernel, by decide +kernel⟩, by decide +kernel⟩
theorem ys_EX_endOfArgument : Cond.static (yN Y_EX_endOfArgument) ∈ jTs := (jin_t (jin_2 86 rfl) rfl)
theorem yk_EX_lengthAfter : jYok Y_EX_lengthAfter 3 := ⟨(jin_t (jin_2 91 rfl) rfl), (jin_t (jin_1 3 rfl) rfl), ⟨by decide +kernel, by decide +kernel⟩, by decide +kernel⟩
theorem yv_EX_lengthAfter : Cond.instanceMethod (yN Y_EX_lengthAfter) ∈ jTs ∧ Cond.selects (yN Y_EX_lengthAfter).cls (yN Y_EX_lengthAfter) (yN Y_EX_lengthAfter) ∈ jTs := ⟨(jin_t (jin_2 90 rfl) rfl), (jin_p (List.mem_map.mpr ⟨(({ cls := "GlyphCompiler$Expander", name := "lengthAfter", desc := "(LGlyphCompiler$TokenRow;LGlyphCompiler$TokenRow;I)I" } : Jvm.MethodName), 7), by decide +kernel, rfl⟩) rfl)⟩
theorem yk_EX_putBody : jYok Y_EX_putBody 3 := ⟨(jin_t (jin_2 95 rfl) rfl), (jin_t (jin_1 3 rfl) rfl), ⟨by decide +kernel, by decide +kernel⟩, by decide +kernel⟩
theorem yv_EX_putBody : Cond.instanceMethod (yN Y_EX_putBody) ∈ jTs ∧ Cond.selects (yN Y_EX_putBody).cls (yN Y_EX_putBody) (yN Y_EX_putBody) ∈ jTs := ⟨(jin_t (jin_2 94 rfl) rfl), (jin_p (List.mem_map.mpr ⟨(({ cls := "GlyphCompiler$Expander", name := "putBody", desc := "(LGlyphCompiler$TokenRow;LGlyphCompiler$TokenRow;I)V" } : Jvm.MethodName), 7), by decide +kernel, rfl⟩) rfl)⟩
theorem yk_OU_takeNumbers : jYok Y_OU_takeNumbers 2 := ⟨(jin_t (jin_2 203 rfl) rfl), (jin_t (jin_1 7 rfl) rfl), ⟨by decide +kernel, by decide +kernel⟩, by decide +kernel⟩
theorem yv_OU_takeNumbers : Cond.instanceMethod (yN Y_OU_takeNumbers) ∈ jTs ∧ Cond.selects (yN Y_OU_takeNumbers).cls (yN Y_OU_takeNumbers) (yN Y_OU_takeNumbers) ∈ jTs := ⟨(jin_t (jin_2 201 rfl) rfl), (jin_t (jin_2 202 rfl) rfl)⟩
theorem yk_OU_trace : jYok Y_OU_trace 2 := ⟨(jin_t (jin_2 211 rfl) rfl), (jin_t (jin_1 7 rfl) rfl), ⟨by decide +kernel, by decide +kernel⟩, by decide +kernel⟩
theorem yv_OU_trace : Cond.instanceMethod (yN Y_OU_trace) ∈ jTs ∧ Cond.selects (yN Y_OU_trace).cls (yN Y_OU_trace) (yN Y_OU_trace) ∈ jTs := ⟨(jin_t (jin_2 209 rfl) rfl), (jin_t (jin_2 210 rfl) rfl)⟩
theorem yk_OU_addPoint : jYok Y_OU_addPoint 2 := ⟨(jin_t (jin_2 215 rfl) rfl), (jin_t (jin_1 7 rfl) rfl), ⟨by decide +kernel, by decide +kernel⟩, by decide +kernel⟩
theorem yv_OU_addPoint : Cond.instanceMethod (yN Y_OU_addPoint) ∈ jTs ∧ Cond.selects (yN Y_OU_addPoint).cls (yN Y_OU_addPoint) (yN Y_OU_addPoint) ∈ jTs := ⟨(jin_t (jin_2 214 rfl) rfl), (jin_p (List.mem_map.mpr ⟨(({ cls := "GlyphCompiler$Outline", name := "addPoint", desc := "(II)V" } : Jvm.MethodName), 4), by decide +kernel, rfl⟩) rfl)⟩
theorem yk_OU_addCurve : jYok Y_OU_addCurve 1 := ⟨(jin_t (jin_2 219 rfl) rfl), (jin_t (jin_1 7 rfl) rfl), ⟨by decide +kernel, by decide +kernel⟩, by decide +kernel⟩
theorem yv_OU_addCurve : Cond.instanceMethod (yN Y_OU_addCurve) ∈ jTs ∧ Cond.selects (yN Y_OU_addCurve).cls (yN Y_OU_addCurve) (yN Y_OU_addCurve) ∈ jTs := ⟨(jin_t (jin_2 218 rfl) rfl), (jin_p (List.mem_map.mpr ⟨(({ cls := "GlyphCompiler$Outline", name := "addCurve", desc := "(I)V" } : Jvm.MethodName), 4), by decide +kernel, rfl⟩) rfl)⟩
theorem yk_OU_onCurve : jYok Y_OU_onCurve 2 := ⟨(jin_t (jin_2 223 rfl) rfl), (jin_t (jin_1 7 rfl) rfl), ⟨by decide +kernel, by decide +kernel⟩, by decide +kernel⟩
theorem yv_OU_onCurve : Cond.instanceMethod (yN Y_OU_onCurve) ∈ jTs ∧ Cond.selects (yN Y_OU_onCurve).cls (yN Y_OU_onCurve) (yN Y_OU_onCurve) ∈ jTs := ⟨(jin_t (jin_2 222 rfl) rfl), (jin_p (List.mem_map.mpr ⟨(({ cls := "GlyphCompiler$Outline", name := "onCurve", desc := "(II)I" } : Jvm.MethodName), 4), by decide +kernel, rfl⟩) rfl)⟩
theorem yk_EX_bodyLength : jYok Y_EX_bodyLength 1 := ⟨(jin_t (jin_3 115 rfl) rfl), (jin_t (jin_1 3 rfl) rfl), ⟨by decide +kernel, by decide +kernel⟩, by decide +kernel⟩
theorem yv_EX_bodyLength : Cond.instanceMethod (yN Y_EX_bodyLength) ∈ jTs ∧ Cond.selects (yN Y_EX_bodyLength).cls (yN Y_EX_bodyLength) (yN Y_EX_bodyLength) ∈ jTs := ⟨(jin_t (jin_3 113 rfl) rfl), (jin_t (jin_3 114 rfl) rfl)⟩

theorem d_GC_init_0 : decode prog_1_method_1_code 0 = .ok (.aload_n 0, 1) := by decide +kernel
theorem d_GC_init_1 : decode prog_1_method_1_code 1 = .ok (.invokespecial 1, 3) := by decide +kernel
theorem d_GC_init_4 : decode prog_1_method_1_code 4 = .ok (.aload_n 0, 1) := by decide +kernel
theorem d_GC_init_5 : decode prog_1_method_1_code 5 = .ok (.new 7, 3) := by decide +kernel
theorem d_GC_init_8 : decode prog_1_method_1_code 8 = .ok (.dup, 1) := by decide +kernel
theorem d_GC_init_9 : decode prog_1_method_1_code 9 = .ok (.bipush 120, 2) := by decide +kernel
theorem d_GC_init_11 : decode prog_1_method_1_code 11 = .ok (.invokespecial 11, 3) := by decide +kernel
theorem d_GC_init_14 : decode prog_1_method_1_code 14 = .ok (.putfield 14, 3) := by decide +kernel
theorem d_GC_init_17 : decode prog_1_method_1_code 17 = .ok (.aload_n 0, 1) := by decide +kernel
theorem d_GC_init_18 : decode prog_1_method_1_code 18 = .ok (.new 18, 3) := by decide +kernel
theorem d_GC_init_21 : decode prog_1_method_1_code 21 = .ok (.dup, 1) := by decide +kernel
theorem d_GC_init_22 : decode prog_1_method_1_code 22 = .ok (.invokespecial 20, 3) := by decide +kernel
theorem d_GC_init_25 : decode prog_1_method_1_code 25 = .ok (.putfield 21, 3) := by decide +kernel
theorem d_GC_init_28 : decode prog_1_method_1_code 28 = .ok (.aload_n 0, 1) := by decide +kernel
theorem d_GC_init_29 : decode prog_1_method_1_code 29 = .ok (.new 25, 3) := by decide +kernel
theorem d_GC_init_32 : decode prog_1_method_1_code 32 = .ok (.dup, 1) := by decide +kernel
theorem d_GC_init_33 : decode prog_1_method_1_code 33 = .ok (.invokespecial 27, 3) := by decide +kernel
theorem d_GC_init_36 : decode prog_1_method_1_code 36 = .ok (.putfield 28, 3) := by decide +kernel
theorem d_GC_init_39 : decode prog_1_method_1_code 39 = .ok (.aload_n 0, 1) := by decide +kernel
theorem d_GC_init_40 : decode prog_1_method_1_code 40 = .ok (.new 32, 3) := by decide +kernel
theorem d_GC_init_43 : decode prog_1_method_1_code 43 = .ok (.dup, 1) := by decide +kernel
theorem d_GC_init_44 : decode prog_1_method_1_code 44 = .ok (.invokespecial 34, 3) := by decide +kernel
theorem d_GC_init_47 : decode prog_1_method_1_code 47 = .ok (.putfield 35, 3) := by decide +kernel
theorem d_GC_init_50 : decode prog_1_method_1_code 50 = .ok (.aload_n 0, 1) := by decide +kernel
theorem d_GC_init_51 : decode prog_1_method_1_code 51 = .ok (.new 39, 3) := by decide +kernel
theorem d_GC_init_54 : decode prog_1_method_1_code 54 = .ok (.dup, 1) := by decide +kernel
theorem d_GC_init_55 : decode prog_1_method_1_code 55 = .ok (.invokespecial 41, 3) := by decide +kernel
theorem d_GC_init_58 : decode prog_1_method_1_code 58 = .ok (.putfield 42, 3) := by decide +kernel
theorem d_GC_init_61 : decode prog_1_method_1_code 61 = .ok (.aload_n 0, 1) := by decide +kernel
theorem d_GC_init_62 : decode prog_1_method_1_code 62 = .ok (.new 46, 3) := by decide +kernel
theorem d_GC_init_65 : decode prog_1_method_1_code 65 = .ok (.dup, 1) := by decide +kernel
theorem d_GC_init_66 : decode prog_1_method_1_code 66 = .ok (.invokespecial 48, 3) := by decide +kernel
theorem d_GC_init_69 : decode prog_1_method_1_code 69 = .ok (.putfield 49, 3) := by decide +kernel
theorem d_GC_init_72 : decode prog_1_method_1_code 72 = .ok (.aload_n 0, 1) := by decide +kernel
theorem d_GC_init_73 : decode prog_1_method_1_code 73 = .ok (.bipush 8, 2) := by decide +kernel
theorem d_GC_init_75 : decode prog_1_method_1_code 75 = .ok (.newarray .long, 2) := by decide +kernel
theorem d_GC_init_77 : decode prog_1_method_1_code 77 = .ok (.putfield 53, 3) := by decide +kernel
theorem d_GC_init_80 : decode prog_1_method_1_code 80 = .ok (.aload_n 0, 1) := by decide +kernel
theorem d_GC_init_81 : decode prog_1_method_1_code 81 = .ok (.iconst (-1), 1) := by decide +kernel
theorem d_GC_init_82 : decode prog_1_method_1_code 82 = .ok (.putfield 57, 3) := by decide +kernel
theorem d_GC_init_85 : decode prog_1_method_1_code 85 = .ok (.return_, 1) := by decide +kernel
theorem d_GC_feed_0 : decode prog_1_method_2_code 0 = .ok (.iload_n 1, 1) := by decide +kernel
theorem d_GC_feed_1 : decode prog_1_method_2_code 1 = .ok (.iload_n 2, 1) := by decide +kernel
theorem d_GC_feed_2 : decode prog_1_method_2_code 2 = .ok (.invokestatic 61, 3) := by decide +kernel
theorem d_GC_feed_5 : decode prog_1_method_2_code 5 = .ok (.ifCond .ne 5, 3) := by decide +kernel
theorem d_GC_feed_8 : decode prog_1_method_2_code 8 = .ok (.iconst (-1), 1) := by decide +kernel
theorem d_GC_feed_9 : decode prog_1_method_2_code 9 = .ok (.ireturn, 1) := by decide +kernel
theorem d_GC_feed_10 : decode prog_1_method_2_code 10 = .ok (.aload_n 0, 1) := by decide +kernel
theorem d_GC_feed_11 : decode prog_1_method_2_code 11 = .ok (.getfield 14, 3) := by decide +kernel
theorem d_GC_feed_14 : decode prog_1_method_2_code 14 = .ok (.getfield 65, 3) := by decide +kernel
theorem d_GC_feed_17 : decode prog_1_method_2_code 17 = .ok (.bipush 120, 2) := by decide +kernel
theorem d_GC_feed_19 : decode prog_1_method_2_code 19 = .ok (.if_icmp .ne 6, 3) := by decide +kernel
theorem d_GC_feed_22 : decode prog_1_method_2_code 22 = .ok (.bipush (-2), 2) := by decide +kernel
theorem d_GC_feed_24 : decode prog_1_method_2_code 24 = .ok (.ireturn, 1) := by decide +kernel
theorem d_GC_feed_25 : decode prog_1_method_2_code 25 = .ok (.aload_n 0, 1) := by decide +kernel
theorem d_GC_feed_26 : decode prog_1_method_2_code 26 = .ok (.getfield 14, 3) := by decide +kernel
theorem d_GC_feed_29 : decode prog_1_method_2_code 29 = .ok (.iload_n 1, 1) := by decide +kernel
theorem d_GC_feed_30 : decode prog_1_method_2_code 30 = .ok (.iload_n 2, 1) := by decide +kernel
theorem d_GC_feed_31 : decode prog_1_method_2_code 31 = .ok (.iconst 0, 1) := by decide +kernel
theorem d_GC_feed_32 : decode prog_1_method_2_code 32 = .ok (.invokevirtual 68, 3) := by decide +kernel
theorem d_GC_feed_35 : decode prog_1_method_2_code 35 = .ok (.aload_n 0, 1) := by decide +kernel
theorem d_GC_feed_36 : decode prog_1_method_2_code 36 = .ok (.getfield 14, 3) := by decide +kernel
theorem d_GC_feed_39 : decode prog_1_method_2_code 39 = .ok (.getfield 65, 3) := by decide +kernel
theorem d_GC_feed_42 : decode prog_1_method_2_code 42 = .ok (.ireturn, 1) := by decide +kernel
theorem d_GC_isToken_0 : decode prog_1_method_3_code 0 = .ok (.iload_n 0, 1) := by decide +kernel
theorem d_GC_isToken_1 : decode prog_1_method_3_code 1 = .ok (.tableswitch 82 0 4 #[35, 55, 62, 68, 75], 35) := by decide +kernel
theorem d_GC_isToken_36 : decode prog_1_method_3_code 36 = .ok (.iload_n 1, 1) := by decide +kernel
theorem d_GC_isToken_37 : decode prog_1_method_3_code 37 = .ok (.sipush (-16000), 3) := by decide +kernel
theorem d_GC_isToken_40 : decode prog_1_method_3_code 40 = .ok (.if_icmp .lt 14, 3) := by decide +kernel
theorem d_GC_isToken_43 : decode prog_1_method_3_code 43 = .ok (.iload_n 1, 1) := by decide +kernel
theorem d_GC_isToken_44 : decode prog_1_method_3_code 44 = .ok (.sipush 16000, 3) := by decide +kernel
theorem d_GC_isToken_47 : decode prog_1_method_3_code 47 = .ok (.if_icmp .gt 7, 3) := by decide +kernel
theorem d_GC_isToken_50 : decode prog_1_method_3_code 50 = .ok (.iconst 1, 1) := by decide +kernel
theorem d_GC_isToken_51 : decode prog_1_method_3_code 51 = .ok (.goto 4, 3) := by decide +kernel
theorem d_GC_isToken_54 : decode prog_1_method_3_code 54 = .ok (.iconst 0, 1) := by decide +kernel
theorem d_GC_isToken_55 : decode prog_1_method_3_code 55 = .ok (.ireturn, 1) := by decide +kernel
theorem d_GC_isToken_56 : decode prog_1_method_3_code 56 = .ok (.iload_n 1, 1) := by decide +kernel
theorem d_GC_isToken_57 : decode prog_1_method_3_code 57 = .ok (.bipush 12, 2) := by decide +kernel
theorem d_GC_isToken_59 : decode prog_1_method_3_code 59 = .ok (.invokestatic 72, 3) := by decide +kernel
theorem d_GC_isToken_62 : decode prog_1_method_3_code 62 = .ok (.ireturn, 1) := by decide +kernel
theorem d_GC_isToken_63 : decode prog_1_method_3_code 63 = .ok (.iload_n 1, 1) := by decide +kernel
theorem d_GC_isToken_64 : decode prog_1_method_3_code 64 = .ok (.iconst 3, 1) := by decide +kernel
theorem d_GC_isToken_65 : decode prog_1_method_3_code 65 = .ok (.invokestatic 72, 3) := by decide +kernel
theorem d_GC_isToken_68 : decode prog_1_method_3_code 68 = .ok (.ireturn, 1) := by decide +kernel
theorem d_GC_isToken_69 : decode prog_1_method_3_code 69 = .ok (.iload_n 1, 1) := by decide +kernel
theorem d_GC_isToken_70 : decode prog_1_method_3_code 70 = .ok (.bipush 6, 2) := by decide +kernel
theorem d_GC_isToken_72 : decode prog_1_method_3_code 72 = .ok (.invokestatic 72, 3) := by decide +kernel
theorem d_GC_isToken_75 : decode prog_1_method_3_code 75 = .ok (.ireturn, 1) := by decide +kernel
theorem d_GC_isToken_76 : decode prog_1_method_3_code 76 = .ok (.iload_n 1, 1) := by decide +kernel
theorem d_GC_isToken_77 : decode prog_1_method_3_code 77 = .ok (.bipush 14, 2) := by decide +kernel
theorem d_GC_isToken_79 : decode prog_1_method_3_code 79 = .ok (.invokestatic 72, 3) := by decide +kernel
theorem d_GC_isToken_82 : decode prog_1_method_3_code 82 = .ok (.ireturn, 1) := by decide +kernel
theorem d_GC_isToken_83 : decode prog_1_method_3_code 83 = .ok (.iconst 0, 1) := by decide +kernel
theorem d_GC_isToken_84 : decode prog_1_method_3_code 84 = .ok (.ireturn, 1) := by decide +kernel
theorem d_GC_isBelow_0 : decode prog_1_method_4_code 0 = .ok (.iload_n 0, 1) := by decide +kernel
theorem d_GC_isBelow_1 : decode prog_1_method_4_code 1 = .ok (.ifCond .lt 12, 3) := by decide +kernel
theorem d_GC_isBelow_4 : decode prog_1_method_4_code 4 = .ok (.iload_n 0, 1) := by decide +kernel
theorem d_GC_isBelow_5 : decode prog_1_method_4_code 5 = .ok (.iload_n 1, 1) := by decide +kernel
theorem d_GC_isBelow_6 : decode prog_1_method_4_code 6 = .ok (.if_icmp .ge 7, 3) := by decide +kernel
theorem d_GC_isBelow_9 : decode prog_1_method_4_code 9 = .ok (.iconst 1, 1) := by decide +kernel
theorem d_GC_isBelow_10 : decode prog_1_method_4_code 10 = .ok (.goto 4, 3) := by decide +kernel
theorem d_GC_isBelow_13 : decode prog_1_method_4_code 13 = .ok (.iconst 0, 1) := by decide +kernel
theorem d_GC_isBelow_14 : decode prog_1_method_4_code 14 = .ok (.ireturn, 1) := by decide +kernel
theorem d_GC_wipe_0 : decode prog_1_method_5_code 0 = .ok (.aload_n 0, 1) := by decide +kernel
theorem d_GC_wipe_1 : decode prog_1_method_5_code 1 = .ok (.getfield 14, 3) := by decide +kernel
theorem d_GC_wipe_4 : decode prog_1_method_5_code 4 = .ok (.getfield 65, 3) := by decide +kernel
theorem d_GC_wipe_7 : decode prog_1_method_5_code 7 = .ok (.istore_n 1, 1) := by decide +kernel
theorem d_GC_wipe_8 : decode prog_1_method_5_code 8 = .ok (.aload_n 0, 1) := by decide +kernel
theorem d_GC_wipe_9 : decode prog_1_method_5_code 9 = .ok (.getfield 14, 3) := by decide +kernel
theorem d_GC_wipe_12 : decode prog_1_method_5_code 12 = .ok (.iconst 0, 1) := by decide +kernel
theorem d_GC_wipe_13 : decode prog_1_method_5_code 13 = .ok (.putfield 65, 3) := by decide +kernel
theorem d_GC_wipe_16 : decode prog_1_method_5_code 16 = .ok (.iload_n 1, 1) := by decide +kernel
theorem d_GC_wipe_17 : decode prog_1_method_5_code 17 = .ok (.ireturn, 1) := by decide +kernel
theorem d_GC_macro_0 : decode prog_1_method_6_code 0 = .ok (.iload_n 1, 1) := by decide +kernel
theorem d_GC_macro_1 : decode prog_1_method_6_code 1 = .ok (.bipush 6, 2) := by decide +kernel
theorem d_GC_macro_3 : decode prog_1_method_6_code 3 = .ok (.invokestatic 72, 3) := by decide +kernel
theorem d_GC_macro_6 : decode prog_1_method_6_code 6 = .ok (.ifCond .eq 11, 3) := by decide +kernel
theorem d_GC_macro_9 : decode prog_1_method_6_code 9 = .ok (.iload_n 2, 1) := by decide +kernel
theorem d_GC_macro_10 : decode prog_1_method_6_code 10 = .ok (.iconst 4, 1) := by decide +kernel
theorem d_GC_macro_11 : decode prog_1_method_6_code 11 = .ok (.invokestatic 72, 3) := by decide +kernel
theorem d_GC_macro_14 : decode prog_1_method_6_code 14 = .ok (.ifCond .ne 5, 3) := by decide +kernel
theorem d_GC_macro_17 : decode prog_1_method_6_code 17 = .ok (.iconst (-1), 1) := by decide +kernel
theorem d_GC_macro_18 : decode prog_1_method_6_code 18 = .ok (.ireturn, 1) := by decide +kernel
theorem d_GC_macro_19 : decode prog_1_method_6_code 19 = .ok (.aload_n 0, 1) := by decide +kernel
theorem d_GC_macro_20 : decode prog_1_method_6_code 20 = .ok (.getfield 14, 3) := by decide +kernel
theorem d_GC_macro_23 : decode prog_1_method_6_code 23 = .ok (.getfield 65, 3) := by decide +kernel
theorem d_GC_macro_26 : decode prog_1_method_6_code 26 = .ok (.bipush 40, 2) := by decide +kernel
theorem d_GC_macro_28 : decode prog_1_method_6_code 28 = .ok (.if_icmp .gt 14, 3) := by decide +kernel
theorem d_GC_macro_31 : decode prog_1_method_6_code 31 = .ok (.aload_n 0, 1) := by decide +kernel
theorem d_GC_macro_32 : decode prog_1_method_6_code 32 = .ok (.getfield 14, 3) := by decide +kernel
theorem d_GC_macro_35 : decode prog_1_method_6_code 35 = .ok (.invokevirtual 75, 3) := by decide +kernel
theorem d_GC_macro_38 : decode prog_1_method_6_code 38 = .ok (.iload_n 2, 1) := by decide +kernel
theorem d_GC_macro_39 : decode prog_1_method_6_code 39 = .ok (.if_icmp .lt 5, 3) := by decide +kernel
theorem d_GC_macro_42 : decode prog_1_method_6_code 42 = .ok (.iconst (-1), 1) := by decide +kernel
theorem d_GC_macro_43 : decode prog_1_method_6_code 43 = .ok (.ireturn, 1) := by decide +kernel
theorem d_GC_macro_44 : decode prog_1_method_6_code 44 = .ok (.aload_n 0, 1) := by decide +kernel
theorem d_GC_macro_45 : decode prog_1_method_6_code 45 = .ok (.getfield 21, 3) := by decide +kernel
theorem d_GC_macro_48 : decode prog_1_method_6_code 48 = .ok (.iload_n 1, 1) := by decide +kernel
theorem d_GC_macro_49 : decode prog_1_method_6_code 49 = .ok (.iload_n 2, 1) := by decide +kernel
theorem d_GC_macro_50 : decode prog_1_method_6_code 50 = .ok (.aload_n 0, 1) := by decide +kernel
theorem d_GC_macro_51 : decode prog_1_method_6_code 51 = .ok (.getfield 14, 3) := by decide +kernel
theorem d_GC_macro_54 : decode prog_1_method_6_code 54 = .ok (.invokevirtual 79, 3) := by decide +kernel
theorem d_GC_macro_57 : decode prog_1_method_6_code 57 = .ok (.aload_n 0, 1) := by decide +kernel
theorem d_GC_macro_58 : decode prog_1_method_6_code 58 = .ok (.getfield 14, 3) := by decide +kernel
theorem d_GC_macro_61 : decode prog_1_method_6_code 61 = .ok (.iconst 0, 1) := by decide +kernel
theorem d_GC_macro_62 : decode prog_1_method_6_code 62 = .ok (.putfield 65, 3) := by decide +kernel
theorem d_GC_macro_65 : decode prog_1_method_6_code 65 = .ok (.iconst 0, 1) := by decide +kernel
theorem d_GC_macro_66 : decode prog_1_method_6_code 66 = .ok (.ireturn, 1) := by decide +kernel
theorem d_GC_run_0 : decode prog_1_method_7_code 0 = .ok (.aload_n 0, 1) := by decide +kernel
theorem d_GC_run_1 : decode prog_1_method_7_code 1 = .ok (.getfield 21, 3) := by decide +kernel
theorem d_GC_run_4 : decode prog_1_method_7_code 4 = .ok (.aload_n 0, 1) := by decide +kernel
theorem d_GC_run_5 : decode prog_1_method_7_code 5 = .ok (.getfield 14, 3) := by decide +kernel
theorem d_GC_run_8 : decode prog_1_method_7_code 8 = .ok (.aload_n 0, 1) := by decide +kernel
theorem d_GC_run_9 : decode prog_1_method_7_code 9 = .ok (.getfield 28, 3) := by decide +kernel
theorem d_GC_run_12 : decode prog_1_method_7_code 12 = .ok (.getfield 83, 3) := by decide +kernel
theorem d_GC_run_15 : decode prog_1_method_7_code 15 = .ok (.invokevirtual 86, 3) := by decide +kernel
theorem d_GC_run_18 : decode prog_1_method_7_code 18 = .ok (.istore_n 1, 1) := by decide +kernel
theorem d_GC_run_19 : decode prog_1_method_7_code 19 = .ok (.aload_n 0, 1) := by decide +kernel
theorem d_GC_run_20 : decode prog_1_method_7_code 20 = .ok (.getfield 14, 3) := by decide +kernel
theorem d_GC_run_23 : decode prog_1_method_7_code 23 = .ok (.iconst 0, 1) := by decide +kernel
theorem d_GC_run_24 : decode prog_1_method_7_code 24 = .ok (.putfield 65, 3) := by decide +kernel
theorem d_GC_run_27 : decode prog_1_method_7_code 27 = .ok (.aload_n 0, 1) := by decide +kernel
theorem d_GC_run_28 : decode prog_1_method_7_code 28 = .ok (.aload_n 0, 1) := by decide +kernel
theorem d_GC_run_29 : decode prog_1_method_7_code 29 = .ok (.getfield 21, 3) := by decide +kernel
theorem d_GC_run_32 : decode prog_1_method_7_code 32 = .ok (.getfield 90, 3) := by decide +kernel
theorem d_GC_run_35 : decode prog_1_method_7_code 35 = .ok (.putfield 57, 3) := by decide +kernel
theorem d_GC_run_38 : decode prog_1_method_7_code 38 = .ok (.iload_n 1, 1) := by decide +kernel
theorem d_GC_run_39 : decode prog_1_method_7_code 39 = .ok (.ifCond .eq 5, 3) := by decide +kernel
theorem d_GC_run_42 : decode prog_1_method_7_code 42 = .ok (.iload_n 1, 1) := by decide +kernel
theorem d_GC_run_43 : decode prog_1_method_7_code 43 = .ok (.ireturn, 1) := by decide +kernel
theorem d_GC_run_44 : decode prog_1_method_7_code 44 = .ok (.aload_n 0, 1) := by decide +kernel
theorem d_GC_run_45 : decode prog_1_method_7_code 45 = .ok (.getfield 28, 3) := by decide +kernel
theorem d_GC_run_48 : decode prog_1_method_7_code 48 = .ok (.iconst 0, 1) := by decide +kernel
theorem d_GC_run_49 : decode prog_1_method_7_code 49 = .ok (.putfield 93, 3) := by decide +kernel
theorem d_GC_run_52 : decode prog_1_method_7_code 52 = .ok (.iconst 0, 1) := by decide +kernel
theorem d_GC_run_53 : decode prog_1_method_7_code 53 = .ok (.istore_n 2, 1) := by decide +kernel
theorem d_GC_run_54 : decode prog_1_method_7_code 54 = .ok (.iload_n 2, 1) := by decide +kernel
theorem d_GC_run_55 : decode prog_1_method_7_code 55 = .ok (.sipush 300, 3) := by decide +kernel
theorem d_GC_run_58 : decode prog_1_method_7_code 58 = .ok (.if_icmp .ge 92, 3) := by decide +kernel
theorem d_GC_run_61 : decode prog_1_method_7_code 61 = .ok (.aload_n 0, 1) := by decide +kernel
theorem d_GC_run_62 : decode prog_1_method_7_code 62 = .ok (.getfield 28, 3) := by decide +kernel
theorem d_GC_run_65 : decode prog_1_method_7_code 65 = .ok (.getfield 93, 3) := by decide +kernel
theorem d_GC_run_68 : decode prog_1_method_7_code 68 = .ok (.aload_n 0, 1) := by decide +kernel
theorem d_GC_run_69 : decode prog_1_method_7_code 69 = .ok (.getfield 28, 3) := by decide +kernel
theorem d_GC_run_72 : decode prog_1_method_7_code 72 = .ok (.getfield 83, 3) := by decide +kernel
theorem d_GC_run_75 : decode prog_1_method_7_code 75 = .ok (.getfield 65, 3) := by decide +kernel
theorem d_GC_run_78 : decode prog_1_method_7_code 78 = .ok (.if_icmp .ge 72, 3) := by decide +kernel
theorem d_GC_run_81 : decode prog_1_method_7_code 81 = .ok (.aload_n 0, 1) := by decide +kernel
theorem d_GC_run_82 : decode prog_1_method_7_code 82 = .ok (.getfield 28, 3) := by decide +kernel
theorem d_GC_run_85 : decode prog_1_method_7_code 85 = .ok (.invokevirtual 94, 3) := by decide +kernel
theorem d_GC_run_88 : decode prog_1_method_7_code 88 = .ok (.ifCond .ne 22, 3) := by decide +kernel
theorem d_GC_run_91 : decode prog_1_method_7_code 91 = .ok (.aload_n 0, 1) := by decide +kernel
theorem d_GC_run_92 : decode prog_1_method_7_code 92 = .ok (.aload_n 0, 1) := by decide +kernel
theorem d_GC_run_93 : decode prog_1_method_7_code 93 = .ok (.getfield 28, 3) := by decide +kernel
theorem d_GC_run_96 : decode prog_1_method_7_code 96 = .ok (.getfield 93, 3) := by decide +kernel
theorem d_GC_run_99 : decode prog_1_method_7_code 99 = .ok (.putfield 57, 3) := by decide +kernel
theorem d_GC_run_102 : decode prog_1_method_7_code 102 = .ok (.aload_n 0, 1) := by decide +kernel
theorem d_GC_run_103 : decode prog_1_method_7_code 103 = .ok (.getfield 28, 3) := by decide +kernel
theorem d_GC_run_106 : decode prog_1_method_7_code 106 = .ok (.getfield 98, 3) := by decide +kernel
theorem d_GC_run_109 : decode prog_1_method_7_code 109 = .ok (.ireturn, 1) := by decide +kernel
theorem d_GC_run_110 : decode prog_1_method_7_code 110 = .ok (.aload_n 0, 1) := by decide +kernel
theorem d_GC_run_111 : decode prog_1_method_7_code 111 = .ok (.invokevirtual 101, 3) := by decide +kernel
theorem d_GC_run_114 : decode prog_1_method_7_code 114 = .ok (.istore_n 1, 1) := by decide +kernel
theorem d_GC_run_115 : decode prog_1_method_7_code 115 = .ok (.iload_n 1, 1) := by decide +kernel
theorem d_GC_run_116 : decode prog_1_method_7_code 116 = .ok (.ifCond .eq 18, 3) := by decide +kernel
theorem d_GC_run_119 : decode prog_1_method_7_code 119 = .ok (.aload_n 0, 1) := by decide +kernel
theorem d_GC_run_120 : decode prog_1_method_7_code 120 = .ok (.aload_n 0, 1) := by decide +kernel
theorem d_GC_run_121 : decode prog_1_method_7_code 121 = .ok (.getfield 28, 3) := by decide +kernel
theorem d_GC_run_124 : decode prog_1_method_7_code 124 = .ok (.getfield 93, 3) := by decide +kernel
theorem d_GC_run_127 : decode prog_1_method_7_code 127 = .ok (.iconst 1, 1) := by decide +kernel
theorem d_GC_run_128 : decode prog_1_method_7_code 128 = .ok (.isub, 1) := by decide +kernel
theorem d_GC_run_129 : decode prog_1_method_7_code 129 = .ok (.putfield 57, 3) := by decide +kernel
theorem d_GC_run_132 : decode prog_1_method_7_code 132 = .ok (.iload_n 1, 1) := by decide +kernel
theorem d_GC_run_133 : decode prog_1_method_7_code 133 = .ok (.ireturn, 1) := by decide +kernel
theorem d_GC_run_134 : decode prog_1_method_7_code 134 = .ok (.aload_n 0, 1) := by decide +kernel
theorem d_GC_run_135 : decode prog_1_method_7_code 135 = .ok (.dup, 1) := by decide +kernel
theorem d_GC_run_136 : decode prog_1_method_7_code 136 = .ok (.getfield 104, 3) := by decide +kernel
theorem d_GC_run_139 : decode prog_1_method_7_code 139 = .ok (.iconst 1, 1) := by decide +kernel
theorem d_GC_run_140 : decode prog_1_method_7_code 140 = .ok (.iadd, 1) := by decide +kernel
theorem d_GC_run_141 : decode prog_1_method_7_code 141 = .ok (.putfield 104, 3) := by decide +kernel
theorem d_GC_run_144 : decode prog_1_method_7_code 144 = .ok (.iinc 2 1, 3) := by decide +kernel
theorem d_GC_run_147 : decode prog_1_method_7_code 147 = .ok (.goto (-93), 3) := by decide +kernel
theorem d_GC_run_150 : decode prog_1_method_7_code 150 = .ok (.iconst 0, 1) := by decide +kernel
theorem d_GC_run_151 : decode prog_1_method_7_code 151 = .ok (.ireturn, 1) := by decide +kernel
theorem d_GC_carryOut_0 : decode prog_1_method_8_code 0 = .ok (.aload_n 0, 1) := by decide +kernel
theorem d_GC_carryOut_1 : decode prog_1_method_8_code 1 = .ok (.getfield 28, 3) := by decide +kernel
theorem d_GC_carryOut_4 : decode prog_1_method_8_code 4 = .ok (.getfield 107, 3) := by decide +kernel
theorem d_GC_carryOut_7 : decode prog_1_method_8_code 7 = .ok (.ifCond .ne 6, 3) := by decide +kernel
theorem d_GC_carryOut_10 : decode prog_1_method_8_code 10 = .ok (.bipush (-9), 2) := by decide +kernel
theorem d_GC_carryOut_12 : decode prog_1_method_8_code 12 = .ok (.ireturn, 1) := by decide +kernel
theorem d_GC_carryOut_13 : decode prog_1_method_8_code 13 = .ok (.aload_n 0, 1) := by decide +kernel
theorem d_GC_carryOut_14 : decode prog_1_method_8_code 14 = .ok (.getfield 28, 3) := by decide +kernel
theorem d_GC_carryOut_17 : decode prog_1_method_8_code 17 = .ok (.getfield 111, 3) := by decide +kernel
theorem d_GC_carryOut_20 : decode prog_1_method_8_code 20 = .ok (.lookupswitch 75 #[(2, 70), (10, 58), (11, 64), (12, 44)], 44) := by decide +kernel
theorem d_GC_carryOut_64 : decode prog_1_method_8_code 64 = .ok (.aload_n 0, 1) := by decide +kernel
theorem d_GC_carryOut_65 : decode prog_1_method_8_code 65 = .ok (.aload_n 0, 1) := by decide +kernel
theorem d_GC_carryOut_66 : decode prog_1_method_8_code 66 = .ok (.getfield 28, 3) := by decide +kernel
theorem d_GC_carryOut_69 : decode prog_1_method_8_code 69 = .ok (.getfield 114, 3) := by decide +kernel
theorem d_GC_carryOut_72 : decode prog_1_method_8_code 72 = .ok (.iconst 0, 1) := by decide +kernel
theorem d_GC_carryOut_73 : decode prog_1_method_8_code 73 = .ok (.aaload, 1) := by decide +kernel
theorem d_GC_carryOut_74 : decode prog_1_method_8_code 74 = .ok (.invokevirtual 118, 3) := by decide +kernel
theorem d_GC_carryOut_77 : decode prog_1_method_8_code 77 = .ok (.ireturn, 1) := by decide +kernel
theorem d_GC_carryOut_78 : decode prog_1_method_8_code 78 = .ok (.aload_n 0, 1) := by decide +kernel
theorem d_GC_carryOut_79 : decode prog_1_method_8_code 79 = .ok (.iconst 1, 1) := by decide +kernel
theorem d_GC_carryOut_80 : decode prog_1_method_8_code 80 = .ok (.invokevirtual 122, 3) := by decide +kernel
theorem d_GC_carryOut_83 : decode prog_1_method_8_code 83 = .ok (.ireturn, 1) := by decide +kernel
theorem d_GC_carryOut_84 : decode prog_1_method_8_code 84 = .ok (.aload_n 0, 1) := by decide +kernel
theorem d_GC_carryOut_85 : decode prog_1_method_8_code 85 = .ok (.iconst 0, 1) := by decide +kernel
theorem d_GC_carryOut_86 : decode prog_1_method_8_code 86 = .ok (.invokevirtual 122, 3) := by decide +kernel
theorem d_GC_carryOut_89 : decode prog_1_method_8_code 89 = .ok (.ireturn, 1) := by decide +kernel
theorem d_GC_carryOut_90 : decode prog_1_method_8_code 90 = .ok (.aload_n 0, 1) := by decide +kernel
theorem d_GC_carryOut_91 : decode prog_1_method_8_code 91 = .ok (.invokevirtual 126, 3) := by decide +kernel
theorem d_GC_carryOut_94 : decode prog_1_method_8_code 94 = .ok (.ireturn, 1) := by decide +kernel
theorem d_GC_carryOut_95 : decode prog_1_method_8_code 95 = .ok (.iconst 0, 1) := by decide +kernel
theorem d_GC_carryOut_96 : decode prog_1_method_8_code 96 = .ok (.ireturn, 1) := by decide +kernel
theorem d_GC_note_0 : decode prog_1_method_9_code 0 = .ok (.aload_n 1, 1) := by decide +kernel
theorem d_GC_note_1 : decode prog_1_method_9_code 1 = .ok (.invokevirtual 129, 3) := by decide +kernel
theorem d_GC_note_4 : decode prog_1_method_9_code 4 = .ok (.ifCond .ne 6, 3) := by decide +kernel
theorem d_GC_note_7 : decode prog_1_method_9_code 7 = .ok (.bipush (-12), 2) := by decide +kernel
theorem d_GC_note_9 : decode prog_1_method_9_code 9 = .ok (.ireturn, 1) := by decide +kernel
theorem d_GC_note_10 : decode prog_1_method_9_code 10 = .ok (.aload_n 0, 1) := by decide +kernel
theorem d_GC_note_11 : decode prog_1_method_9_code 11 = .ok (.getfield 53, 3) := by decide +kernel
theorem d_GC_note_14 : decode prog_1_method_9_code 14 = .ok (.aload_n 0, 1) := by decide +kernel
theorem d_GC_note_15 : decode prog_1_method_9_code 15 = .ok (.getfield 134, 3) := by decide +kernel
theorem d_GC_note_18 : decode prog_1_method_9_code 18 = .ok (.bipush 8, 2) := by decide +kernel
theorem d_GC_note_20 : decode prog_1_method_9_code 20 = .ok (.irem, 1) := by decide +kernel
theorem d_GC_note_21 : decode prog_1_method_9_code 21 = .ok (.aload_n 1, 1) := by decide +kernel
theorem d_GC_note_22 : decode prog_1_method_9_code 22 = .ok (.getfield 137, 3) := by decide +kernel
theorem d_GC_note_25 : decode prog_1_method_9_code 25 = .ok (.bipush 12, 2) := by decide +kernel
theorem d_GC_note_27 : decode prog_1_method_9_code 27 = .ok (.laload, 1) := by decide +kernel
theorem d_GC_note_28 : decode prog_1_method_9_code 28 = .ok (.lastore, 1) := by decide +kernel
theorem d_GC_note_29 : decode prog_1_method_9_code 29 = .ok (.aload_n 0, 1) := by decide +kernel
theorem d_GC_note_30 : decode prog_1_method_9_code 30 = .ok (.dup, 1) := by decide +kernel
theorem d_GC_note_31 : decode prog_1_method_9_code 31 = .ok (.getfield 134, 3) := by decide +kernel
theorem d_GC_note_34 : decode prog_1_method_9_code 34 = .ok (.iconst 1, 1) := by decide +kernel
theorem d_GC_note_35 : decode prog_1_method_9_code 35 = .ok (.iadd, 1) := by decide +kernel
theorem d_GC_note_36 : decode prog_1_method_9_code 36 = .ok (.putfield 134, 3) := by decide +kernel
theorem d_GC_note_39 : decode prog_1_method_9_code 39 = .ok (.iconst 0, 1) := by decide +kernel
theorem d_GC_note_40 : decode prog_1_method_9_code 40 = .ok (.ireturn, 1) := by decide +kernel
theorem d_GC_paint_0 : decode prog_1_method_11_code 0 = .ok (.aload_n 0, 1) := by decide +kernel
theorem d_GC_paint_1 : decode prog_1_method_11_code 1 = .ok (.getfield 28, 3) := by decide +kernel
theorem d_GC_paint_4 : decode prog_1_method_11_code 4 = .ok (.getfield 154, 3) := by decide +kernel
theorem d_GC_paint_7 : decode prog_1_method_11_code 7 = .ok (.bipush 12, 2) := by decide +kernel
theorem d_GC_paint_9 : decode prog_1_method_11_code 9 = .ok (.if_icmp .le 6, 3) := by decide +kernel
theorem d_GC_paint_12 : decode prog_1_method_11_code 12 = .ok (.bipush (-7), 2) := by decide +kernel
theorem d_GC_paint_14 : decode prog_1_method_11_code 14 = .ok (.ireturn, 1) := by decide +kernel
theorem d_GC_paint_15 : decode prog_1_method_11_code 15 = .ok (.aload_n 0, 1) := by decide +kernel
theorem d_GC_paint_16 : decode prog_1_method_11_code 16 = .ok (.getfield 42, 3) := by decide +kernel
theorem d_GC_paint_19 : decode prog_1_method_11_code 19 = .ok (.aload_n 0, 1) := by decide +kernel
theorem d_GC_paint_20 : decode prog_1_method_11_code 20 = .ok (.getfield 28, 3) := by decide +kernel
theorem d_GC_paint_23 : decode prog_1_method_11_code 23 = .ok (.getfield 114, 3) := by decide +kernel
theorem d_GC_paint_26 : decode prog_1_method_11_code 26 = .ok (.aload_n 0, 1) := by decide +kernel
theorem d_GC_paint_27 : decode prog_1_method_11_code 27 = .ok (.getfield 28, 3) := by decide +kernel
theorem d_GC_paint_30 : decode prog_1_method_11_code 30 = .ok (.getfield 147, 3) := by decide +kernel
theorem d_GC_paint_33 : decode prog_1_method_11_code 33 = .ok (.invokevirtual 157, 3) := by decide +kernel
theorem d_GC_paint_36 : decode prog_1_method_11_code 36 = .ok (.istore_n 2, 1) := by decide +kernel
theorem d_GC_paint_37 : decode prog_1_method_11_code 37 = .ok (.iload_n 2, 1) := by decide +kernel
theorem d_GC_paint_38 : decode prog_1_method_11_code 38 = .ok (.ifCond .ne 36, 3) := by decide +kernel
theorem d_GC_paint_41 : decode prog_1_method_11_code 41 = .ok (.aload_n 0, 1) := by decide +kernel
theorem d_GC_paint_42 : decode prog_1_method_11_code 42 = .ok (.getfield 42, 3) := by decide +kernel
theorem d_GC_paint_45 : decode prog_1_method_11_code 45 = .ok (.aload_n 0, 1) := by decide +kernel
theorem d_GC_paint_46 : decode prog_1_method_11_code 46 = .ok (.getfield 28, 3) := by decide +kernel
theorem d_GC_paint_49 : decode prog_1_method_11_code 49 = .ok (.getfield 161, 3) := by decide +kernel
theorem d_GC_paint_52 : decode prog_1_method_11_code 52 = .ok (.aload_n 0, 1) := by decide +kernel
theorem d_GC_paint_53 : decode prog_1_method_11_code 53 = .ok (.getfield 28, 3) := by decide +kernel
theorem d_GC_paint_56 : decode prog_1_method_11_code 56 = .ok (.getfield 154, 3) := by decide +kernel
theorem d_GC_paint_59 : decode prog_1_method_11_code 59 = .ok (.invokevirtual 165, 3) := by decide +kernel
theorem d_GC_paint_62 : decode prog_1_method_11_code 62 = .ok (.aload_n 0, 1) := by decide +kernel
theorem d_GC_paint_63 : decode prog_1_method_11_code 63 = .ok (.getfield 49, 3) := by decide +kernel
theorem d_GC_paint_66 : decode prog_1_method_11_code 66 = .ok (.aload_n 0, 1) := by decide +kernel
theorem d_GC_paint_67 : decode prog_1_method_11_code 67 = .ok (.getfield 42, 3) := by decide +kernel
theorem d_GC_paint_70 : decode prog_1_method_11_code 70 = .ok (.iload_n 1, 1) := by decide +kernel
theorem d_GC_paint_71 : decode prog_1_method_11_code 71 = .ok (.invokevirtual 169, 3) := by decide +kernel
theorem d_GC_paint_74 : decode prog_1_method_11_code 74 = .ok (.iload_n 2, 1) := by decide +kernel
theorem d_GC_paint_75 : decode prog_1_method_11_code 75 = .ok (.ireturn, 1) := by decide +kernel
theorem d_GC_equateAll_0 : decode prog_1_method_10_code 0 = .ok (.aload_n 0, 1) := by decide +kernel
theorem d_GC_equateAll_1 : decode prog_1_method_10_code 1 = .ok (.getfield 35, 3) := by decide +kernel
theorem d_GC_equateAll_4 : decode prog_1_method_10_code 4 = .ok (.aload_n 0, 1) := by decide +kernel
theorem d_GC_equateAll_5 : decode prog_1_method_10_code 5 = .ok (.getfield 28, 3) := by decide +kernel
theorem d_GC_equateAll_8 : decode prog_1_method_10_code 8 = .ok (.getfield 140, 3) := by decide +kernel
theorem d_GC_equateAll_11 : decode prog_1_method_10_code 11 = .ok (.invokevirtual 143, 3) := by decide +kernel
theorem d_GC_equateAll_14 : decode prog_1_method_10_code 14 = .ok (.iconst 0, 1) := by decide +kernel
theorem d_GC_equateAll_15 : decode prog_1_method_10_code 15 = .ok (.istore_n 1, 1) := by decide +kernel
theorem d_GC_equateAll_16 : decode prog_1_method_10_code 16 = .ok (.iconst 1, 1) := by decide +kernel
theorem d_GC_equateAll_17 : decode prog_1_method_10_code 17 = .ok (.istore_n 2, 1) := by decide +kernel
theorem d_GC_equateAll_18 : decode prog_1_method_10_code 18 = .ok (.iload_n 2, 1) := by decide +kernel
theorem d_GC_equateAll_19 : decode prog_1_method_10_code 19 = .ok (.aload_n 0, 1) := by decide +kernel
theorem d_GC_equateAll_20 : decode prog_1_method_10_code 20 = .ok (.getfield 28, 3) := by decide +kernel
theorem d_GC_equateAll_23 : decode prog_1_method_10_code 23 = .ok (.getfield 147, 3) := by decide +kernel
theorem d_GC_equateAll_26 : decode prog_1_method_10_code 26 = .ok (.if_icmp .ge 44, 3) := by decide +kernel
theorem d_GC_equateAll_29 : decode prog_1_method_10_code 29 = .ok (.iload_n 1, 1) := by decide +kernel
theorem d_GC_equateAll_30 : decode prog_1_method_10_code 30 = .ok (.ifCond .ne 40, 3) := by decide +kernel
theorem d_GC_equateAll_33 : decode prog_1_method_10_code 33 = .ok (.aload_n 0, 1) := by decide +kernel
theorem d_GC_equateAll_34 : decode prog_1_method_10_code 34 = .ok (.getfield 28, 3) := by decide +kernel
theorem d_GC_equateAll_37 : decode prog_1_method_10_code 37 = .ok (.getfield 140, 3) := by decide +kernel
theorem d_GC_equateAll_40 : decode prog_1_method_10_code 40 = .ok (.aload_n 0, 1) := by decide +kernel
theorem d_GC_equateAll_41 : decode prog_1_method_10_code 41 = .ok (.getfield 28, 3) := by decide +kernel
theorem d_GC_equateAll_44 : decode prog_1_method_10_code 44 = .ok (.getfield 114, 3) := by decide +kernel
theorem d_GC_equateAll_47 : decode prog_1_method_10_code 47 = .ok (.iload_n 2, 1) := by decide +kernel
theorem d_GC_equateAll_48 : decode prog_1_method_10_code 48 = .ok (.iconst 1, 1) := by decide +kernel
theorem d_GC_equateAll_49 : decode prog_1_method_10_code 49 = .ok (.isub, 1) := by decide +kernel
theorem d_GC_equateAll_50 : decode prog_1_method_10_code 50 = .ok (.aaload, 1) := by decide +kernel
theorem d_GC_equateAll_51 : decode prog_1_method_10_code 51 = .ok (.aload_n 0, 1) := by decide +kernel
theorem d_GC_equateAll_52 : decode prog_1_method_10_code 52 = .ok (.getfield 28, 3) := by decide +kernel
theorem d_GC_equateAll_55 : decode prog_1_method_10_code 55 = .ok (.getfield 114, 3) := by decide +kernel
theorem d_GC_equateAll_58 : decode prog_1_method_10_code 58 = .ok (.iload_n 2, 1) := by decide +kernel
theorem d_GC_equateAll_59 : decode prog_1_method_10_code 59 = .ok (.aaload, 1) := by decide +kernel
theorem d_GC_equateAll_60 : decode prog_1_method_10_code 60 = .ok (.invokevirtual 150, 3) := by decide +kernel
theorem d_GC_equateAll_63 : decode prog_1_method_10_code 63 = .ok (.istore_n 1, 1) := by decide +kernel
theorem d_GC_equateAll_64 : decode prog_1_method_10_code 64 = .ok (.iinc 2 1, 3) := by decide +kernel
theorem d_GC_equateAll_67 : decode prog_1_method_10_code 67 = .ok (.goto (-49), 3) := by decide +kernel
theorem d_GC_equateAll_70 : decode prog_1_method_10_code 70 = .ok (.iload_n 1, 1) := by decide +kernel
theorem d_GC_equateAll_71 : decode prog_1_method_10_code 71 = .ok (.ifCond .eq 17, 3) := by decide +kernel
theorem d_GC_equateAll_74 : decode prog_1_method_10_code 74 = .ok (.aload_n 0, 1) := by decide +kernel
theorem d_GC_equateAll_75 : decode prog_1_method_10_code 75 = .ok (.getfield 28, 3) := by decide +kernel
theorem d_GC_equateAll_78 : decode prog_1_method_10_code 78 = .ok (.getfield 140, 3) := by decide +kernel
theorem d_GC_equateAll_81 : decode prog_1_method_10_code 81 = .ok (.aload_n 0, 1) := by decide +kernel
theorem d_GC_equateAll_82 : decode prog_1_method_10_code 82 = .ok (.getfield 35, 3) := by decide +kernel
theorem d_GC_equateAll_85 : decode prog_1_method_10_code 85 = .ok (.invokevirtual 143, 3) := by decide +kernel
theorem d_GC_equateAll_88 : decode prog_1_method_10_code 88 = .ok (.iload_n 1, 1) := by decide +kernel
theorem d_GC_equateAll_89 : decode prog_1_method_10_code 89 = .ok (.ireturn, 1) := by decide +kernel
theorem d_GC_place_0 : decode prog_1_method_12_code 0 = .ok (.aload_n 0, 1) := by decide +kernel
theorem d_GC_place_1 : decode prog_1_method_12_code 1 = .ok (.getfield 57, 3) := by decide +kernel
theorem d_GC_place_4 : decode prog_1_method_12_code 4 = .ok (.ireturn, 1) := by decide +kernel
theorem d_GC_forget_0 : decode prog_1_method_13_code 0 = .ok (.aload_n 0, 1) := by decide +kernel
theorem d_GC_forget_1 : decode prog_1_method_13_code 1 = .ok (.getfield 28, 3) := by decide +kernel
theorem d_GC_forget_4 : decode prog_1_method_13_code 4 = .ok (.getfield 140, 3) := by decide +kernel
theorem d_GC_forget_7 : decode prog_1_method_13_code 7 = .ok (.invokevirtual 172, 3) := by decide +kernel
theorem d_GC_forget_10 : decode prog_1_method_13_code 10 = .ok (.iconst 0, 1) := by decide +kernel
theorem d_GC_forget_11 : decode prog_1_method_13_code 11 = .ok (.ireturn, 1) := by decide +kernel
theorem d_GC_clean_0 : decode prog_1_method_14_code 0 = .ok (.aload_n 0, 1) := by decide +kernel
theorem d_GC_clean_1 : decode prog_1_method_14_code 1 = .ok (.getfield 49, 3) := by decide +kernel
theorem d_GC_clean_4 : decode prog_1_method_14_code 4 = .ok (.invokevirtual 175, 3) := by decide +kernel
theorem d_GC_clean_7 : decode prog_1_method_14_code 7 = .ok (.iconst 0, 1) := by decide +kernel
theorem d_GC_clean_8 : decode prog_1_method_14_code 8 = .ok (.ireturn, 1) := by decide +kernel
theorem d_GC_state_0 : decode prog_1_method_15_code 0 = .ok (.iload_n 1, 1) := by decide +kernel
theorem d_GC_state_1 : decode prog_1_method_15_code 1 = .ok (.bipush 12, 2) := by decide +kernel
theorem d_GC_state_3 : decode prog_1_method_15_code 3 = .ok (.invokestatic 72, 3) := by decide +kernel
theorem d_GC_state_6 : decode prog_1_method_15_code 6 = .ok (.ifCond .eq 18, 3) := by decide +kernel
theorem d_GC_state_9 : decode prog_1_method_15_code 9 = .ok (.aload_n 0, 1) := by decide +kernel
theorem d_GC_state_10 : decode prog_1_method_15_code 10 = .ok (.getfield 28, 3) := by decide +kernel
theorem d_GC_state_13 : decode prog_1_method_15_code 13 = .ok (.getfield 140, 3) := by decide +kernel
theorem d_GC_state_16 : decode prog_1_method_15_code 16 = .ok (.getfield 178, 3) := by decide +kernel
theorem d_GC_state_19 : decode prog_1_method_15_code 19 = .ok (.iload_n 1, 1) := by decide +kernel
theorem d_GC_state_20 : decode prog_1_method_15_code 20 = .ok (.iaload, 1) := by decide +kernel
theorem d_GC_state_21 : decode prog_1_method_15_code 21 = .ok (.goto 4, 3) := by decide +kernel
theorem d_GC_state_24 : decode prog_1_method_15_code 24 = .ok (.iconst (-1), 1) := by decide +kernel
theorem d_GC_state_25 : decode prog_1_method_15_code 25 = .ok (.ireturn, 1) := by decide +kernel
theorem d_GC_number_0 : decode prog_1_method_16_code 0 = .ok (.iload_n 1, 1) := by decide +kernel
theorem d_GC_number_1 : decode prog_1_method_16_code 1 = .ok (.bipush 12, 2) := by decide +kernel
theorem d_GC_number_3 : decode prog_1_method_16_code 3 = .ok (.invokestatic 72, 3) := by decide +kernel
theorem d_GC_number_6 : decode prog_1_method_16_code 6 = .ok (.ifCond .eq 18, 3) := by decide +kernel
theorem d_GC_number_9 : decode prog_1_method_16_code 9 = .ok (.aload_n 0, 1) := by decide +kernel
theorem d_GC_number_10 : decode prog_1_method_16_code 10 = .ok (.getfield 28, 3) := by decide +kernel
theorem d_GC_number_13 : decode prog_1_method_16_code 13 = .ok (.getfield 140, 3) := by decide +kernel
theorem d_GC_number_16 : decode prog_1_method_16_code 16 = .ok (.getfield 178, 3) := by decide +kernel
theorem d_GC_number_19 : decode prog_1_method_16_code 19 = .ok (.iload_n 1, 1) := by decide +kernel
theorem d_GC_number_20 : decode prog_1_method_16_code 20 = .ok (.iaload, 1) := by decide +kernel
theorem d_GC_number_21 : decode prog_1_method_16_code 21 = .ok (.ifCond .ne 7, 3) := by decide +kernel
theorem d_GC_number_24 : decode prog_1_method_16_code 24 = .ok (.ldc2_w 182, 3) := by decide +kernel
theorem d_GC_number_27 : decode prog_1_method_16_code 27 = .ok (.lreturn, 1) := by decide +kernel
theorem d_GC_number_28 : decode prog_1_method_16_code 28 = .ok (.aload_n 0, 1) := by decide +kernel
theorem d_GC_number_29 : decode prog_1_method_16_code 29 = .ok (.getfield 28, 3) := by decide +kernel
theorem d_GC_number_32 : decode prog_1_method_16_code 32 = .ok (.getfield 140, 3) := by decide +kernel
theorem d_GC_number_35 : decode prog_1_method_16_code 35 = .ok (.getfield 184, 3) := by decide +kernel
theorem d_GC_number_38 : decode prog_1_method_16_code 38 = .ok (.iload_n 1, 1) := by decide +kernel
theorem d_GC_number_39 : decode prog_1_method_16_code 39 = .ok (.aaload, 1) := by decide +kernel
theorem d_GC_number_40 : decode prog_1_method_16_code 40 = .ok (.getfield 137, 3) := by decide +kernel
theorem d_GC_number_43 : decode prog_1_method_16_code 43 = .ok (.bipush 12, 2) := by decide +kernel
theorem d_GC_number_45 : decode prog_1_method_16_code 45 = .ok (.laload, 1) := by decide +kernel
theorem d_GC_number_46 : decode prog_1_method_16_code 46 = .ok (.lreturn, 1) := by decide +kernel
theorem d_GC_factor_0 : decode prog_1_method_17_code 0 = .ok (.iload_n 1, 1) := by decide +kernel
theorem d_GC_factor_1 : decode prog_1_method_17_code 1 = .ok (.bipush 12, 2) := by decide +kernel
theorem d_GC_factor_3 : decode prog_1_method_17_code 3 = .ok (.invokestatic 72, 3) := by decide +kernel
theorem d_GC_factor_6 : decode prog_1_method_17_code 6 = .ok (.ifCond .eq 28, 3) := by decide +kernel
theorem d_GC_factor_9 : decode prog_1_method_17_code 9 = .ok (.iload_n 2, 1) := by decide +kernel
theorem d_GC_factor_10 : decode prog_1_method_17_code 10 = .ok (.bipush 12, 2) := by decide +kernel
theorem d_GC_factor_12 : decode prog_1_method_17_code 12 = .ok (.invokestatic 72, 3) := by decide +kernel
theorem d_GC_factor_15 : decode prog_1_method_17_code 15 = .ok (.ifCond .eq 19, 3) := by decide +kernel
theorem d_GC_factor_18 : decode prog_1_method_17_code 18 = .ok (.aload_n 0, 1) := by decide +kernel
theorem d_GC_factor_19 : decode prog_1_method_17_code 19 = .ok (.getfield 28, 3) := by decide +kernel
theorem d_GC_factor_22 : decode prog_1_method_17_code 22 = .ok (.getfield 140, 3) := by decide +kernel
theorem d_GC_factor_25 : decode prog_1_method_17_code 25 = .ok (.getfield 178, 3) := by decide +kernel
theorem d_GC_factor_28 : decode prog_1_method_17_code 28 = .ok (.iload_n 1, 1) := by decide +kernel
theorem d_GC_factor_29 : decode prog_1_method_17_code 29 = .ok (.iaload, 1) := by decide +kernel
theorem d_GC_factor_30 : decode prog_1_method_17_code 30 = .ok (.iconst 1, 1) := by decide +kernel
theorem d_GC_factor_31 : decode prog_1_method_17_code 31 = .ok (.if_icmp .eq 7, 3) := by decide +kernel
theorem d_GC_factor_34 : decode prog_1_method_17_code 34 = .ok (.ldc2_w 182, 3) := by decide +kernel
theorem d_GC_factor_37 : decode prog_1_method_17_code 37 = .ok (.lreturn, 1) := by decide +kernel
theorem d_GC_factor_38 : decode prog_1_method_17_code 38 = .ok (.aload_n 0, 1) := by decide +kernel
theorem d_GC_factor_39 : decode prog_1_method_17_code 39 = .ok (.getfield 28, 3) := by decide +kernel
theorem d_GC_factor_42 : decode prog_1_method_17_code 42 = .ok (.getfield 140, 3) := by decide +kernel
theorem d_GC_factor_45 : decode prog_1_method_17_code 45 = .ok (.getfield 184, 3) := by decide +kernel
theorem d_GC_factor_48 : decode prog_1_method_17_code 48 = .ok (.iload_n 1, 1) := by decide +kernel
theorem d_GC_factor_49 : decode prog_1_method_17_code 49 = .ok (.aaload, 1) := by decide +kernel
theorem d_GC_factor_50 : decode prog_1_method_17_code 50 = .ok (.getfield 137, 3) := by decide +kernel
theorem d_GC_factor_53 : decode prog_1_method_17_code 53 = .ok (.iload_n 2, 1) := by decide +kernel
theorem d_GC_factor_54 : decode prog_1_method_17_code 54 = .ok (.laload, 1) := by decide +kernel
theorem d_GC_factor_55 : decode prog_1_method_17_code 55 = .ok (.lreturn, 1) := by decide +kernel
theorem d_GC_black_0 : decode prog_1_method_18_code 0 = .ok (.iload_n 1, 1) := by decide +kernel
theorem d_GC_black_1 : decode prog_1_method_18_code 1 = .ok (.bipush 32, 2) := by decide +kernel
theorem d_GC_black_3 : decode prog_1_method_18_code 3 = .ok (.invokestatic 72, 3) := by decide +kernel
theorem d_GC_black_6 : decode prog_1_method_18_code 6 = .ok (.ifCond .eq 28, 3) := by decide +kernel
theorem d_GC_black_9 : decode prog_1_method_18_code 9 = .ok (.iload_n 2, 1) := by decide +kernel
theorem d_GC_black_10 : decode prog_1_method_18_code 10 = .ok (.bipush 24, 2) := by decide +kernel
theorem d_GC_black_12 : decode prog_1_method_18_code 12 = .ok (.invokestatic 72, 3) := by decide +kernel
theorem d_GC_black_15 : decode prog_1_method_18_code 15 = .ok (.ifCond .eq 19, 3) := by decide +kernel
theorem d_GC_black_18 : decode prog_1_method_18_code 18 = .ok (.aload_n 0, 1) := by decide +kernel
theorem d_GC_black_19 : decode prog_1_method_18_code 19 = .ok (.getfield 49, 3) := by decide +kernel
theorem d_GC_black_22 : decode prog_1_method_18_code 22 = .ok (.iload_n 1, 1) := by decide +kernel
theorem d_GC_black_23 : decode prog_1_method_18_code 23 = .ok (.iload_n 2, 1) := by decide +kernel
theorem d_GC_black_24 : decode prog_1_method_18_code 24 = .ok (.invokevirtual 187, 3) := by decide +kernel
theorem d_GC_black_27 : decode prog_1_method_18_code 27 = .ok (.ifCond .eq 7, 3) := by decide +kernel
theorem d_GC_black_30 : decode prog_1_method_18_code 30 = .ok (.iconst 1, 1) := by decide +kernel
theorem d_GC_black_31 : decode prog_1_method_18_code 31 = .ok (.goto 4, 3) := by decide +kernel
theorem d_GC_black_34 : decode prog_1_method_18_code 34 = .ok (.iconst 0, 1) := by decide +kernel
theorem d_GC_black_35 : decode prog_1_method_18_code 35 = .ok (.ireturn, 1) := by decide +kernel
theorem d_GC_stretch_0 : decode prog_1_method_19_code 0 = .ok (.iload_n 1, 1) := by decide +kernel
theorem d_GC_stretch_1 : decode prog_1_method_19_code 1 = .ok (.bipush 24, 2) := by decide +kernel
theorem d_GC_stretch_3 : decode prog_1_method_19_code 3 = .ok (.invokestatic 72, 3) := by decide +kernel
theorem d_GC_stretch_6 : decode prog_1_method_19_code 6 = .ok (.ifCond .eq 19, 3) := by decide +kernel
theorem d_GC_stretch_9 : decode prog_1_method_19_code 9 = .ok (.iload_n 2, 1) := by decide +kernel
theorem d_GC_stretch_10 : decode prog_1_method_19_code 10 = .ok (.ifCond .lt 15, 3) := by decide +kernel
theorem d_GC_stretch_13 : decode prog_1_method_19_code 13 = .ok (.aload_n 0, 1) := by decide +kernel
theorem d_GC_stretch_14 : decode prog_1_method_19_code 14 = .ok (.getfield 49, 3) := by decide +kernel
theorem d_GC_stretch_17 : decode prog_1_method_19_code 17 = .ok (.iload_n 1, 1) := by decide +kernel
theorem d_GC_stretch_18 : decode prog_1_method_19_code 18 = .ok (.iload_n 2, 1) := by decide +kernel
theorem d_GC_stretch_19 : decode prog_1_method_19_code 19 = .ok (.invokevirtual 190, 3) := by decide +kernel
theorem d_GC_stretch_22 : decode prog_1_method_19_code 22 = .ok (.goto 4, 3) := by decide +kernel
theorem d_GC_stretch_25 : decode prog_1_method_19_code 25 = .ok (.iconst (-1), 1) := by decide +kernel
theorem d_GC_stretch_26 : decode prog_1_method_19_code 26 = .ok (.ireturn, 1) := by decide +kernel
theorem d_GC_shown_0 : decode prog_1_method_20_code 0 = .ok (.iload_n 1, 1) := by decide +kernel
theorem d_GC_shown_1 : decode prog_1_method_20_code 1 = .ok (.bipush 8, 2) := by decide +kernel
theorem d_GC_shown_3 : decode prog_1_method_20_code 3 = .ok (.invokestatic 72, 3) := by decide +kernel
theorem d_GC_shown_6 : decode prog_1_method_20_code 6 = .ok (.ifCond .eq 30, 3) := by decide +kernel
theorem d_GC_shown_9 : decode prog_1_method_20_code 9 = .ok (.iload_n 1, 1) := by decide +kernel
theorem d_GC_shown_10 : decode prog_1_method_20_code 10 = .ok (.aload_n 0, 1) := by decide +kernel
theorem d_GC_shown_11 : decode prog_1_method_20_code 11 = .ok (.getfield 134, 3) := by decide +kernel
theorem d_GC_shown_14 : decode prog_1_method_20_code 14 = .ok (.if_icmp .ge 22, 3) := by decide +kernel
theorem d_GC_shown_17 : decode prog_1_method_20_code 17 = .ok (.aload_n 0, 1) := by decide +kernel
theorem d_GC_shown_18 : decode prog_1_method_20_code 18 = .ok (.getfield 53, 3) := by decide +kernel
theorem d_GC_shown_21 : decode prog_1_method_20_code 21 = .ok (.aload_n 0, 1) := by decide +kernel
theorem d_GC_shown_22 : decode prog_1_method_20_code 22 = .ok (.getfield 134, 3) := by decide +kernel
theorem d_GC_shown_25 : decode prog_1_method_20_code 25 = .ok (.iconst 1, 1) := by decide +kernel
theorem d_GC_shown_26 : decode prog_1_method_20_code 26 = .ok (.isub, 1) := by decide +kernel
theorem d_GC_shown_27 : decode prog_1_method_20_code 27 = .ok (.iload_n 1, 1) := by decide +kernel
theorem d_GC_shown_28 : decode prog_1_method_20_code 28 = .ok (.isub, 1) := by decide +kernel
theorem d_GC_shown_29 : decode prog_1_method_20_code 29 = .ok (.bipush 8, 2) := by decide +kernel
theorem d_GC_shown_31 : decode prog_1_method_20_code 31 = .ok (.irem, 1) := by decide +kernel
theorem d_GC_shown_32 : decode prog_1_method_20_code 32 = .ok (.laload, 1) := by decide +kernel
theorem d_GC_shown_33 : decode prog_1_method_20_code 33 = .ok (.goto 6, 3) := by decide +kernel
theorem d_GC_shown_36 : decode prog_1_method_20_code 36 = .ok (.ldc2_w 182, 3) := by decide +kernel
theorem d_GC_shown_39 : decode prog_1_method_20_code 39 = .ok (.lreturn, 1) := by decide +kernel
theorem d_GC_count_0 : decode prog_1_method_21_code 0 = .ok (.iload_n 1, 1) := by decide +kernel
theorem d_GC_count_1 : decode prog_1_method_21_code 1 = .ok (.tableswitch 125 0 8 #[51, 59, 67, 77, 87, 97, 107, 112, 117], 51) := by decide +kernel
theorem d_GC_count_52 : decode prog_1_method_21_code 52 = .ok (.aload_n 0, 1) := by decide +kernel
theorem d_GC_count_53 : decode prog_1_method_21_code 53 = .ok (.getfield 14, 3) := by decide +kernel
theorem d_GC_count_56 : decode prog_1_method_21_code 56 = .ok (.getfield 65, 3) := by decide +kernel
theorem d_GC_count_59 : decode prog_1_method_21_code 59 = .ok (.ireturn, 1) := by decide +kernel
theorem d_GC_count_60 : decode prog_1_method_21_code 60 = .ok (.aload_n 0, 1) := by decide +kernel
theorem d_GC_count_61 : decode prog_1_method_21_code 61 = .ok (.getfield 49, 3) := by decide +kernel
theorem d_GC_count_64 : decode prog_1_method_21_code 64 = .ok (.invokevirtual 194, 3) := by decide +kernel
theorem d_GC_count_67 : decode prog_1_method_21_code 67 = .ok (.ireturn, 1) := by decide +kernel
theorem d_GC_count_68 : decode prog_1_method_21_code 68 = .ok (.aload_n 0, 1) := by decide +kernel
theorem d_GC_count_69 : decode prog_1_method_21_code 69 = .ok (.getfield 49, 3) := by decide +kernel
theorem d_GC_count_72 : decode prog_1_method_21_code 72 = .ok (.iconst 1, 1) := by decide +kernel
theorem d_GC_count_73 : decode prog_1_method_21_code 73 = .ok (.iconst 0, 1) := by decide +kernel
theorem d_GC_count_74 : decode prog_1_method_21_code 74 = .ok (.invokevirtual 197, 3) := by decide +kernel
theorem d_GC_count_77 : decode prog_1_method_21_code 77 = .ok (.ireturn, 1) := by decide +kernel
theorem d_GC_count_78 : decode prog_1_method_21_code 78 = .ok (.aload_n 0, 1) := by decide +kernel
theorem d_GC_count_79 : decode prog_1_method_21_code 79 = .ok (.getfield 49, 3) := by decide +kernel
theorem d_GC_count_82 : decode prog_1_method_21_code 82 = .ok (.iconst 1, 1) := by decide +kernel
theorem d_GC_count_83 : decode prog_1_method_21_code 83 = .ok (.iconst 1, 1) := by decide +kernel
theorem d_GC_count_84 : decode prog_1_method_21_code 84 = .ok (.invokevirtual 197, 3) := by decide +kernel
theorem d_GC_count_87 : decode prog_1_method_21_code 87 = .ok (.ireturn, 1) := by decide +kernel
theorem d_GC_count_88 : decode prog_1_method_21_code 88 = .ok (.aload_n 0, 1) := by decide +kernel
theorem d_GC_count_89 : decode prog_1_method_21_code 89 = .ok (.getfield 49, 3) := by decide +kernel
theorem d_GC_count_92 : decode prog_1_method_21_code 92 = .ok (.iconst 0, 1) := by decide +kernel
theorem d_GC_count_93 : decode prog_1_method_21_code 93 = .ok (.iconst 0, 1) := by decide +kernel
theorem d_GC_count_94 : decode prog_1_method_21_code 94 = .ok (.invokevirtual 197, 3) := by decide +kernel
theorem d_GC_count_97 : decode prog_1_method_21_code 97 = .ok (.ireturn, 1) := by decide +kernel
theorem d_GC_count_98 : decode prog_1_method_21_code 98 = .ok (.aload_n 0, 1) := by decide +kernel
theorem d_GC_count_99 : decode prog_1_method_21_code 99 = .ok (.getfield 49, 3) := by decide +kernel
theorem d_GC_count_102 : decode prog_1_method_21_code 102 = .ok (.iconst 0, 1) := by decide +kernel
theorem d_GC_count_103 : decode prog_1_method_21_code 103 = .ok (.iconst 1, 1) := by decide +kernel
theorem d_GC_count_104 : decode prog_1_method_21_code 104 = .ok (.invokevirtual 197, 3) := by decide +kernel
theorem d_GC_count_107 : decode prog_1_method_21_code 107 = .ok (.ireturn, 1) := by decide +kernel
theorem d_GC_count_108 : decode prog_1_method_21_code 108 = .ok (.aload_n 0, 1) := by decide +kernel
theorem d_GC_count_109 : decode prog_1_method_21_code 109 = .ok (.getfield 134, 3) := by decide +kernel
theorem d_GC_count_112 : decode prog_1_method_21_code 112 = .ok (.ireturn, 1) := by decide +kernel
theorem d_GC_count_113 : decode prog_1_method_21_code 113 = .ok (.aload_n 0, 1) := by decide +kernel
theorem d_GC_count_114 : decode prog_1_method_21_code 114 = .ok (.getfield 104, 3) := by decide +kernel
theorem d_GC_count_117 : decode prog_1_method_21_code 117 = .ok (.ireturn, 1) := by decide +kernel
theorem d_GC_count_118 : decode prog_1_method_21_code 118 = .ok (.aload_n 0, 1) := by decide +kernel
theorem d_GC_count_119 : decode prog_1_method_21_code 119 = .ok (.getfield 21, 3) := by decide +kernel
theorem d_GC_count_122 : decode prog_1_method_21_code 122 = .ok (.getfield 201, 3) := by decide +kernel
theorem d_GC_count_125 : decode prog_1_method_21_code 125 = .ok (.ireturn, 1) := by decide +kernel
theorem d_GC_count_126 : decode prog_1_method_21_code 126 = .ok (.iload_n 1, 1) := by decide +kernel
theorem d_GC_count_127 : decode prog_1_method_21_code 127 = .ok (.bipush 9, 2) := by decide +kernel
theorem d_GC_count_129 : decode prog_1_method_21_code 129 = .ok (.isub, 1) := by decide +kernel
theorem d_GC_count_130 : decode prog_1_method_21_code 130 = .ok (.bipush 6, 2) := by decide +kernel
theorem d_GC_count_132 : decode prog_1_method_21_code 132 = .ok (.invokestatic 72, 3) := by decide +kernel
theorem d_GC_count_135 : decode prog_1_method_21_code 135 = .ok (.ifCond .eq 17, 3) := by decide +kernel
theorem d_GC_count_138 : decode prog_1_method_21_code 138 = .ok (.aload_n 0, 1) := by decide +kernel
theorem d_GC_count_139 : decode prog_1_method_21_code 139 = .ok (.getfield 21, 3) := by decide +kernel
theorem d_GC_count_142 : decode prog_1_method_21_code 142 = .ok (.iload_n 1, 1) := by decide +kernel
theorem d_GC_count_143 : decode prog_1_method_21_code 143 = .ok (.bipush 9, 2) := by decide +kernel
theorem d_GC_count_145 : decode prog_1_method_21_code 145 = .ok (.isub, 1) := by decide +kernel
theorem d_GC_count_146 : decode prog_1_method_21_code 146 = .ok (.invokevirtual 204, 3) := by decide +kernel
theorem d_GC_count_149 : decode prog_1_method_21_code 149 = .ok (.goto 4, 3) := by decide +kernel
theorem d_GC_count_152 : decode prog_1_method_21_code 152 = .ok (.iconst (-1), 1) := by decide +kernel
theorem d_GC_count_153 : decode prog_1_method_21_code 153 = .ok (.ireturn, 1) := by decide +kernel
theorem GC_o1 : Cond.methodLink "GlyphCompiler" 1 objectInit ∈ jTs ∧ Cond.instanceMethod objectInit ∈ jTs ∧ Cond.code objectInit ⟨#[0xb1]⟩ 1 none ∈ jTs := ⟨(jin_t (jin_1 19 rfl) rfl), (jin_t (jin_1 20 rfl) rfl), (jin_t (jin_1 21 rfl) rfl)⟩
theorem GC_c11 : jLk "GlyphCompiler" 11 Y_TR_init := Or.inl (jin_t (jin_1 24 rfl) rfl)
theorem GC_w14 (y : MethodName) (h : y.cls = "GlyphCompiler") (h2 : y.name = "<init>") : jFw y 14 7 0 (.object "GlyphCompiler$TokenRow") := ⟨R_GC, T_GC, 10, rfl, Nat.le_of_ble_eq_true rfl, by decide +kernel, Or.inr ⟨rfl, h2, h.symm, by rw [h]; exact (jin_t (jin_1 227 rfl) rfl)⟩⟩
theorem GC_c20 : jLk "GlyphCompiler" 20 Y_EX_init := Or.inl (jin_t (jin_1 52 rfl) rfl)
theorem GC_w21 (y : MethodName) (h : y.cls = "GlyphCompiler") (h2 : y.name = "<init>") : jFw y 21 7 1 (.object "GlyphCompiler$Expander") := ⟨R_GC, T_GC, 10, rfl, Nat.le_of_ble_eq_true rfl, by decide +kernel, Or.inr ⟨rfl, h2, h.symm, by rw [h]; exact (jin_t (jin_1 228 rfl) rfl)⟩⟩
theorem GC_c27 : jLk "GlyphCompiler" 27 Y_RD_init := Or.inr ⟨"GlyphCompiler", by decide +kernel⟩
theorem GC_w28 (y : MethodName) (h : y.cls = "GlyphCompiler") (h2 : y.name = "<init>") : jFw y 28 7 2 (.object "GlyphCompiler$Reader") := ⟨R_GC, T_GC, 10, rfl, Nat.le_of_ble_eq_true rfl, by decide +kernel, Or.inr ⟨rfl, h2, h.symm, by rw [h]; exact (jin_t (jin_1 229 rfl) rfl)⟩⟩
theorem GC_c34 : jLk "GlyphCompiler" 34 Y_VA_init := Or.inl (jin_t (jin_1 191 rfl) rfl)
theorem GC_w35 (y : MethodName) (h : y.cls = "GlyphCompiler") (h2 : y.name = "<init>") : jFw y 35 7 3 (.object "GlyphCompiler$Variables") := ⟨R_GC, T_GC, 10, rfl, Nat.le_of_ble_eq_true rfl, by decide +kernel, Or.inr ⟨rfl, h2, h.symm, by rw [h]; exact (jin_t (jin_1 230 rfl) rfl)⟩⟩
theorem GC_c41 : jLk "GlyphCompiler" 41 Y_OU_init := Or.inr ⟨"GlyphCompiler", by decide +kernel⟩
theorem GC_w42 (y : MethodName) (h : y.cls = "GlyphCompiler") (h2 : y.name = "<init>") : jFw y 42 7 4 (.object "GlyphCompiler$Outline") := ⟨R_GC, T_GC, 10, rfl, Nat.le_of_ble_eq_true rfl, by decide +kernel, Or.inr ⟨rfl, h2, h.symm, by rw [h]; exact (jin_t (jin_1 231 rfl) rfl)⟩⟩
theorem GC_c48 : jLk "GlyphCompiler" 48 Y_PI_init := Or.inr ⟨"GlyphCompiler", by decide +kernel⟩
theorem GC_w49 (y : MethodName) (h : y.cls = "GlyphCompiler") (h2 : y.name = "<init>") : jFw y 49 7 5 (.object "GlyphCompiler$Picture") := ⟨R_GC, T_GC, 10, rfl, Nat.le_of_ble_eq_true rfl, by decide +kernel, Or.inr ⟨rfl, h2, h.symm, by rw [h]; exact (jin_t (jin_1 232 rfl) rfl)⟩⟩
theorem GC_w53 (y : MethodName) (h : y.cls = "GlyphCompiler") (h2 : y.name = "<init>") : jFw y 53 7 6 (.array .long) := ⟨R_GC, T_GC, 10, rfl, Nat.le_of_ble_eq_true rfl, by decide +kernel, Or.inr ⟨rfl, h2, h.symm, by rw [h]; exact (jin_t (jin_1 233 rfl) rfl)⟩⟩
theorem GC_w57 (y : MethodName) (h : y.cls = "GlyphCompiler") : jFw y 57 7 9 .int := ⟨R_GC, T_GC, 10, rfl, Nat.le_of_ble_eq_true rfl, by decide +kernel, Or.inl ⟨rfl, Or.inl (by rw [h]; exact (jin_t (jin_1 236 rfl) rfl))⟩⟩
theorem GC_c61 : jLk "GlyphCompiler" 61 Y_GC_isToken := Or.inl (jin_t (jin_2 22 rfl) rfl)
theorem GC_f14 : jFl "GlyphCompiler" 14 7 0 := ⟨R_GC, T_GC, 10, rfl, Nat.le_of_ble_eq_true rfl, Or.inl (jin_t (jin_1 227 rfl) rfl)⟩
theorem GC_f65 : jFl "GlyphCompiler" 65 0 3 := ⟨R_TR, T_TR, 4, rfl, Nat.le_of_ble_eq_true rfl, Or.inl (jin_t (jin_1 37 rfl) rfl)⟩
theorem GC_c68 : jLk "GlyphCompiler" 68 Y_TR_add := Or.inl (jin_t (jin_2 28 rfl) rfl)
theorem GC_c72 : jLk "GlyphCompiler" 72 Y_GC_isBelow := Or.inl (jin_t (jin_2 25 rfl) rfl)
theorem GC_w65 (y : MethodName) (h : y.cls = "GlyphCompiler") : jFw y 65 0 3 .int := ⟨R_TR, T_TR, 4, rfl, Nat.le_of_ble_eq_true rfl, by decide +kernel, Or.inl ⟨rfl, Or.inl (by rw [h]; exact (jin_t (jin_1 37 rfl) rfl))⟩⟩
theorem GC_c75 : jLk "GlyphCompiler" 75 Y_TR_greatestArgument := Or.inl (jin_t (jin_2 40 rfl) rfl)
theorem GC_f21 : jFl "GlyphCompiler" 21 7 1 := ⟨R_GC, T_GC, 10, rfl, Nat.le_of_ble_eq_true rfl, Or.inl (jin_t (jin_1 228 rfl) rfl)⟩
theorem GC_c79 : jLk "GlyphCompiler" 79 Y_EX_define := Or.inl (jin_t (jin_2 47 rfl) rfl)
theorem GC_f28 : jFl "GlyphCompiler" 28 7 2 := ⟨R_GC, T_GC, 10, rfl, Nat.le_of_ble_eq_true rfl, Or.inl (jin_t (jin_1 229 rfl) rfl)⟩
theorem GC_f83 : jFl "GlyphCompiler" 83 2 0 := ⟨R_RD, T_RD, 13, rfl, Nat.le_of_ble_eq_true rfl, Or.inl (jin_t (jin_1 140 rfl) rfl)⟩
theorem GC_c86 : jLk "GlyphCompiler" 86 Y_EX_expand := Or.inl (jin_t (jin_2 69 rfl) rfl)
theorem GC_f90 : jFl "GlyphCompiler" 90 1 5 := ⟨R_EX, T_EX, 7, rfl, Nat.le_of_ble_eq_true rfl, Or.inl (jin_t (jin_1 65 rfl) rfl)⟩
theorem GC_w93 (y : MethodName) (h : y.cls = "GlyphCompiler") : jFw y 93 2 2 .int := ⟨R_RD, T_RD, 13, rfl, Nat.le_of_ble_eq_true rfl, by decide +kernel, Or.inl ⟨rfl, Or.inl (by rw [h]; exact (jin_t (jin_1 144 rfl) rfl))⟩⟩
theorem GC_f93 : jFl "GlyphCompiler" 93 2 2 := ⟨R_RD, T_RD, 13, rfl, Nat.le_of_ble_eq_true rfl, Or.inl (jin_t (jin_1 144 rfl) rfl)⟩
theorem GC_c94 : jLk "GlyphCompiler" 94 Y_RD_readStatement := Or.inl (jin_t (jin_2 98 rfl) rfl)
theorem GC_f98 : jFl "GlyphCompiler" 98 2 3 := ⟨R_RD, T_RD, 13, rfl, Nat.le_of_ble_eq_true rfl, Or.inl (jin_t (jin_1 145 rfl) rfl)⟩
theorem GC_c101 : jLk "GlyphCompiler" 101 Y_GC_carryOut := Or.inl (jin_t (jin_2 184 rfl) rfl)
theorem GC_f104 : jFl "GlyphCompiler" 104 7 8 := ⟨R_GC, T_GC, 10, rfl, Nat.le_of_ble_eq_true rfl, Or.inl (jin_t (jin_1 235 rfl) rfl)⟩
theorem GC_w104 (y : MethodName) (h : y.cls = "GlyphCompiler") : jFw y 104 7 8 .int := ⟨R_GC, T_GC, 10, rfl, Nat.le_of_ble_eq_true rfl, by decide +kernel, Or.inl ⟨rfl, Or.inl (by rw [h]; exact (jin_t (jin_1 235 rfl) rfl))⟩⟩
theorem GC_f107 : jFl "GlyphCompiler" 107 2 7 := ⟨R_RD, T_RD, 13, rfl, Nat.le_of_ble_eq_true rfl, Or.inl (jin_t (jin_1 154 rfl) rfl)⟩
theorem GC_f111 : jFl "GlyphCompiler" 111 2 4 := ⟨R_RD, T_RD, 13, rfl, Nat.le_of_ble_eq_true rfl, Or.inl (jin_t (jin_1 148 rfl) rfl)⟩
theorem GC_f114 : jFl "GlyphCompiler" 114 2 5 := ⟨R_RD, T_RD, 13, rfl, Nat.le_of_ble_eq_true rfl, Or.inl (jin_t (jin_1 150 rfl) rfl)⟩
theorem GC_c118 : jLk "GlyphCompiler" 118 Y_GC_note := Or.inl (jin_t (jin_2 188 rfl) rfl)
theorem GC_c122 : jLk "GlyphCompiler" 122 Y_GC_paint := Or.inl (jin_t (jin_2 196 rfl) rfl)
theorem GC_c126 : jLk "GlyphCompiler" 126 Y_GC_equateAll := Or.inl (jin_t (jin_2 238 rfl) rfl)
theorem GC_c129 : jLk "GlyphCompiler" 129 Y_FO_isPlain := Or.inl (jin_t (jin_2 192 rfl) rfl)
theorem GC_f53 : jFl "GlyphCompiler" 53 7 6 := ⟨R_GC, T_GC, 10, rfl, Nat.le_of_ble_eq_true rfl, Or.inl (jin_t (jin_1 233 rfl) rfl)⟩
theorem GC_f134 : jFl "GlyphCompiler" 134 7 7 := ⟨R_GC, T_GC, 10, rfl, Nat.le_of_ble_eq_true rfl, Or.inl (jin_t (jin_1 234 rfl) rfl)⟩
theorem GC_f137 : jFl "GlyphCompiler" 137 4 0 := ⟨R_FO, T_FO, 1, rfl, Nat.le_of_ble_eq_true rfl, Or.inl (jin_t (jin_1 110 rfl) rfl)⟩
theorem GC_w134 (y : MethodName) (h : y.cls = "GlyphCompiler") : jFw y 134 7 7 .int := ⟨R_GC, T_GC, 10, rfl, Nat.le_of_ble_eq_true rfl, by decide +kernel, Or.inl ⟨rfl, Or.inl (by rw [h]; exact (jin_t (jin_1 234 rfl) rfl))⟩⟩
theorem GC_f154 : jFl "GlyphCompiler" 154 2 9 := ⟨R_RD, T_RD, 13, rfl, Nat.le_of_ble_eq_true rfl, Or.inl (jin_t (jin_1 158 rfl) rfl)⟩
theorem GC_f42 : jFl "GlyphCompiler" 42 7 4 := ⟨R_GC, T_GC, 10, rfl, Nat.le_of_ble_eq_true rfl, Or.inl (jin_t (jin_1 231 rfl) rfl)⟩
theorem GC_f147 : jFl "GlyphCompiler" 147 2 6 := ⟨R_RD, T_RD, 13, rfl, Nat.le_of_ble_eq_true rfl, Or.inl (jin_t (jin_1 152 rfl) rfl)⟩
theorem GC_c157 : jLk "GlyphCompiler" 157 Y_OU_takeNumbers := Or.inl (jin_t (jin_2 200 rfl) rfl)
theorem GC_f161 : jFl "GlyphCompiler" 161 2 8 := ⟨R_RD, T_RD, 13, rfl, Nat.le_of_ble_eq_true rfl, Or.inl (jin_t (jin_1 156 rfl) rfl)⟩
theorem GC_c165 : jLk "GlyphCompiler" 165 Y_OU_trace := Or.inl (jin_t (jin_2 208 rfl) rfl)
theorem GC_f49 : jFl "GlyphCompiler" 49 7 5 := ⟨R_GC, T_GC, 10, rfl, Nat.le_of_ble_eq_true rfl, Or.inl (jin_t (jin_1 232 rfl) rfl)⟩
theorem GC_c169 : jLk "GlyphCompiler" 169 Y_PI_paint := Or.inl (jin_t (jin_2 224 rfl) rfl)
theorem GC_f35 : jFl "GlyphCompiler" 35 7 3 := ⟨R_GC, T_GC, 10, rfl, Nat.le_of_ble_eq_true rfl, Or.inl (jin_t (jin_1 230 rfl) rfl)⟩
theorem GC_f140 : jFl "GlyphCompiler" 140 2 1 := ⟨R_RD, T_RD, 13, rfl, Nat.le_of_ble_eq_true rfl, Or.inl (jin_t (jin_1 142 rfl) rfl)⟩
theorem GC_c143 : jLk "GlyphCompiler" 143 Y_VA_copy := Or.inl (jin_t (jin_3 2 rfl) rfl)
theorem GC_c150 : jLk "GlyphCompiler" 150 Y_VA_equate := Or.inl (jin_t (jin_3 7 rfl) rfl)
theorem GC_f57 : jFl "GlyphCompiler" 57 7 9 := ⟨R_GC, T_GC, 10, rfl, Nat.le_of_ble_eq_true rfl, Or.inl (jin_t (jin_1 236 rfl) rfl)⟩
theorem GC_c172 : jLk "GlyphCompiler" 172 Y_VA_free := Or.inl (jin_t (jin_3 54 rfl) rfl)
theorem GC_c175 : jLk "GlyphCompiler" 175 Y_PI_whiten := Or.inl (jin_t (jin_3 62 rfl) rfl)
theorem GC_f178 : jFl "GlyphCompiler" 178 3 0 := ⟨R_VA, T_VA, 4, rfl, Nat.le_of_ble_eq_true rfl, Or.inl (jin_t (jin_1 123 rfl) rfl)⟩
theorem GC_k182 : Jvm.Cond.constantLong "GlyphCompiler" 182 (jL 1000000000000000) ∈ jTs := by rw [show jL 1000000000000000 = 1000000000000000 by decide]; exact (jin_t (jin_3 74 rfl) rfl)
theorem GC_f184 : jFl "GlyphCompiler" 184 3 1 := ⟨R_VA, T_VA, 4, rfl, Nat.le_of_ble_eq_true rfl, Or.inl (jin_t (jin_1 126 rfl) rfl)⟩
theorem GC_c187 : jLk "GlyphCompiler" 187 Y_PI_isBlack := Or.inl (jin_t (jin_3 83 rfl) rfl)
theorem GC_c190 : jLk "GlyphCompiler" 190 Y_PI_lengthOfRun := Or.inl (jin_t (jin_3 91 rfl) rfl)
theorem GC_c194 : jLk "GlyphCompiler" 194 Y_PI_blackPoints := Or.inl (jin_t (jin_3 104 rfl) rfl)
theorem GC_c197 : jLk "GlyphCompiler" 197 Y_PI_edge := Or.inl (jin_t (jin_3 108 rfl) rfl)
theorem GC_f201 : jFl "GlyphCompiler" 201 1 6 := ⟨R_EX, T_EX, 7, rfl, Nat.le_of_ble_eq_true rfl, Or.inl (jin_t (jin_1 67 rfl) rfl)⟩
theorem GC_c204 : jLk "GlyphCompiler" 204 Y_EX_bodyLength := Or.inl (jin_t (jin_3 112 rfl) rfl)
theorem yk_GC_init : jYok Y_GC_init 0 := ⟨(jin_t (jin_1 18 rfl) rfl), (jin_t (jin_1 1 rfl) rfl), ⟨by decide +kernel, by decide +kernel⟩, by decide +kernel⟩
theorem yv_GC_init : Cond.instanceMethod (yN Y_GC_init) ∈ jTs := (jin_t (jin_1 17 rfl) rfl)
theorem yk_GC_feed : jYok Y_GC_feed 2 := ⟨(jin_t (jin_2 21 rfl) rfl), (jin_t (jin_1 1 rfl) rfl), ⟨by decide +kernel, by decide +kernel⟩, by decide +kernel⟩
theorem yv_GC_feed : Cond.instanceMethod (yN Y_GC_feed) ∈ jTs ∧ Cond.selects (yN Y_GC_feed).cls (yN Y_GC_feed) (yN Y_GC_feed) ∈ jTs := ⟨(jin_t (jin_2 19 rfl) rfl), (jin_t (jin_2 20 rfl) rfl)⟩
theorem yk_GC_isToken : jYok Y_GC_isToken 2 := ⟨(jin_t (jin_2 24 rfl) rfl), (jin_t (jin_1 1 rfl) rfl), ⟨by decide +kernel, by decide +kernel⟩, by decide +kernel⟩
theorem ys_GC_isToken : Cond.static (yN Y_GC_isToken) ∈ jTs := (jin_t (jin_2 23 rfl) rfl)
theorem yk_GC_isBelow : jYok Y_GC_isBelow 2 := ⟨(jin_t (jin_2 27 rfl) rfl), (jin_t (jin_1 1 rfl) rfl), ⟨by decide +kernel, by decide +kernel⟩, by decide +kernel⟩
theorem ys_GC_isBelow : Cond.static (yN Y_GC_isBelow) ∈ jTs := (jin_t (jin_2 26 rfl) rfl)
theorem yk_GC_wipe : jYok Y_GC_wipe 0 := ⟨(jin_t (jin_2 35 rfl) rfl), (jin_t (jin_1 1 rfl) rfl), ⟨by decide +kernel, by decide +kernel⟩, by decide +kernel⟩
theorem yv_GC_wipe : Cond.instanceMethod (yN Y_GC_wipe) ∈ jTs ∧ Cond.selects (yN Y_GC_wipe).cls (yN Y_GC_wipe) (yN Y_GC_wipe) ∈ jTs := ⟨(jin_t (jin_2 33 rfl) rfl), (jin_t (jin_2 34 rfl) rfl)⟩
theorem yk_GC_macro : jYok Y_GC_macro 2 := ⟨(jin_t (jin_2 39 rfl) rfl), (jin_t (jin_1 1 rfl) rfl), ⟨by decide +kernel, by decide +kernel⟩, by decide +kernel⟩
theorem yv_GC_macro : Cond.instanceMethod (yN Y_GC_macro) ∈ jTs ∧ Cond.selects (yN Y_GC_macro).cls (yN Y_GC_macro) (yN Y_GC_macro) ∈ jTs := ⟨(jin_t (jin_2 37 rfl) rfl), (jin_t (jin_2 38 rfl) rfl)⟩
theorem yk_GC_run : jYok Y_GC_run 0 := ⟨(jin_t (jin_2 68 rfl) rfl), (jin_t (jin_1 1 rfl) rfl), ⟨by decide +kernel, by decide +kernel⟩, by decide +kernel⟩
theorem yv_GC_run : Cond.instanceMethod (yN Y_GC_run) ∈ jTs ∧ Cond.selects (yN Y_GC_run).cls (yN Y_GC_run) (yN Y_GC_run) ∈ jTs := ⟨(jin_t (jin_2 66 rfl) rfl), (jin_t (jin_2 67 rfl) rfl)⟩
theorem yk_GC_carryOut : jYok Y_GC_carryOut 0 := ⟨(jin_t (jin_2 187 rfl) rfl), (jin_t (jin_1 1 rfl) rfl), ⟨by decide +kernel, by decide +kernel⟩, by decide +kernel⟩
theorem yv_GC_carryOut : Cond.instanceMethod (yN Y_GC_carryOut) ∈ jTs ∧ Cond.selects (yN Y_GC_carryOut).cls (yN Y_GC_carryOut) (yN Y_GC_carryOut) ∈ jTs := ⟨(jin_t (jin_2 186 rfl) rfl), (jin_p (List.mem_map.mpr ⟨(({ cls := "GlyphCompiler", name := "carryOut", desc := "()I" } : Jvm.MethodName), 10), by decide +kernel, rfl⟩) rfl)⟩
theorem yk_GC_note : jYok Y_GC_note 1 := ⟨(jin_t (jin_2 191 rfl) rfl), (jin_t (jin_1 1 rfl) rfl), ⟨by decide +kernel, by decide +kernel⟩, by decide +kernel⟩
theorem yv_GC_note : Cond.instanceMethod (yN Y_GC_note) ∈ jTs ∧ Cond.selects (yN Y_GC_note).cls (yN Y_GC_note) (yN Y_GC_note) ∈ jTs := ⟨(jin_t (jin_2 190 rfl) rfl), (jin_p (List.mem_map.mpr ⟨(({ cls := "GlyphCompiler", name := "note", desc := "(LGlyphCompiler$Form;)I" } : Jvm.MethodName), 10), by decide +kernel, rfl⟩) rfl)⟩
theorem yk_GC_paint : jYok Y_GC_paint 1 := ⟨(jin_t (jin_2 199 rfl) rfl), (jin_t (jin_1 1 rfl) rfl), ⟨by decide +kernel, by decide +kernel⟩, by decide +kernel⟩
theorem yv_GC_paint : Cond.instanceMethod (yN Y_GC_paint) ∈ jTs ∧ Cond.selects (yN Y_GC_paint).cls (yN Y_GC_paint) (yN Y_GC_paint) ∈ jTs := ⟨(jin_t (jin_2 198 rfl) rfl), (jin_p (List.mem_map.mpr ⟨(({ cls := "GlyphCompiler", name := "paint", desc := "(Z)I" } : Jvm.MethodName), 10), by decide +kernel, rfl⟩) rfl)⟩
theorem yk_GC_equateAll : jYok Y_GC_equateAll 0 := ⟨(jin_t (jin_3 1 rfl) rfl), (jin_t (jin_1 1 rfl) rfl), ⟨by decide +kernel, by decide +kernel⟩, by decide +kernel⟩
theorem yv_GC_equateAll : Cond.instanceMethod (yN Y_GC_equateAll) ∈ jTs ∧ Cond.selects (yN Y_GC_equateAll).cls (yN Y_GC_equateAll) (yN Y_GC_equateAll) ∈ jTs := ⟨(jin_t (jin_3 0 rfl) rfl), (jin_p (List.mem_map.mpr ⟨(({ cls := "GlyphCompiler", name := "equateAll", desc := "()I" } : Jvm.MethodName), 10), by decide +kernel, rfl⟩) rfl)⟩
theorem yk_GC_place : jYok Y_GC_place 0 := ⟨(jin_t (jin_3 49 rfl) rfl), (jin_t (jin_1 1 rfl) rfl), ⟨by decide +kernel, by decide +kernel⟩, by decide +kernel⟩
theorem yv_GC_place : Cond.instanceMethod (yN Y_GC_place) ∈ jTs ∧ Cond.selects (yN Y_GC_place).cls (yN Y_GC_place) (yN Y_GC_place) ∈ jTs := ⟨(jin_t (jin_3 47 rfl) rfl), (jin_t (jin_3 48 rfl) rfl)⟩
theorem yk_GC_forget : jYok Y_GC_forget 0 := ⟨(jin_t (jin_3 53 rfl) rfl), (jin_t (jin_1 1 rfl) rfl), ⟨by decide +kernel, by decide +kernel⟩, by decide +kernel⟩
theorem yv_GC_forget : Cond.instanceMethod (yN Y_GC_forget) ∈ jTs ∧ Cond.selects (yN Y_GC_forget).cls (yN Y_GC_forget) (yN Y_GC_forget) ∈ jTs := ⟨(jin_t (jin_3 51 rfl) rfl), (jin_t (jin_3 52 rfl) rfl)⟩
theorem yk_GC_clean : jYok Y_GC_clean 0 := ⟨(jin_t (jin_3 61 rfl) rfl), (jin_t (jin_1 1 rfl) rfl), ⟨by decide +kernel, by decide +kernel⟩, by decide +kernel⟩
theorem yv_GC_clean : Cond.instanceMethod (yN Y_GC_clean) ∈ jTs ∧ Cond.selects (yN Y_GC_clean).cls (yN Y_GC_clean) (yN Y_GC_clean) ∈ jTs := ⟨(jin_t (jin_3 59 rfl) rfl), (jin_t (jin_3 60 rfl) rfl)⟩
theorem yk_GC_state : jYok Y_GC_state 1 := ⟨(jin_t (jin_3 69 rfl) rfl), (jin_t (jin_1 1 rfl) rfl), ⟨by decide +kernel, by decide +kernel⟩, by decide +kernel⟩
theorem yv_GC_state : Cond.instanceMethod (yN Y_GC_state) ∈ jTs ∧ Cond.selects (yN Y_GC_state).cls (yN Y_GC_state) (yN Y_GC_state) ∈ jTs := ⟨(jin_t (jin_3 67 rfl) rfl), (jin_t (jin_3 68 rfl) rfl)⟩
theorem yk_GC_number : jYok Y_GC_number 1 := ⟨(jin_t (jin_3 73 rfl) rfl), (jin_t (jin_1 1 rfl) rfl), ⟨by decide +kernel, by decide +kernel⟩, by decide +kernel⟩
theorem yv_GC_number : Cond.instanceMethod (yN Y_GC_number) ∈ jTs ∧ Cond.selects (yN Y_GC_number).cls (yN Y_GC_number) (yN Y_GC_number) ∈ jTs := ⟨(jin_t (jin_3 71 rfl) rfl), (jin_t (jin_3 72 rfl) rfl)⟩
theorem yk_GC_factor : jYok Y_GC_factor 2 := ⟨(jin_t (jin_3 78 rfl) rfl), (jin_t (jin_1 1 rfl) rfl), ⟨by decide +kernel, by decide +kernel⟩, by decide +kernel⟩
theorem yv_GC_factor : Cond.instanceMethod (yN Y_GC_factor) ∈ jTs ∧ Cond.selects (yN Y_GC_factor).cls (yN Y_GC_factor) (yN Y_GC_factor) ∈ jTs := ⟨(jin_t (jin_3 76 rfl) rfl), (jin_t (jin_3 77 rfl) rfl)⟩
theorem yk_GC_black : jYok Y_GC_black 2 := ⟨(jin_t (jin_3 82 rfl) rfl), (jin_t (jin_1 1 rfl) rfl), ⟨by decide +kernel, by decide +kernel⟩, by decide +kernel⟩
theorem yv_GC_black : Cond.instanceMethod (yN Y_GC_black) ∈ jTs ∧ Cond.selects (yN Y_GC_black).cls (yN Y_GC_black) (yN Y_GC_black) ∈ jTs := ⟨(jin_t (jin_3 80 rfl) rfl), (jin_t (jin_3 81 rfl) rfl)⟩
theorem yk_GC_stretch : jYok Y_GC_stretch 2 := ⟨(jin_t (jin_3 90 rfl) rfl), (jin_t (jin_1 1 rfl) rfl), ⟨by decide +kernel, by decide +kernel⟩, by decide +kernel⟩
theorem yv_GC_stretch : Cond.instanceMethod (yN Y_GC_stretch) ∈ jTs ∧ Cond.selects (yN Y_GC_stretch).cls (yN Y_GC_stretch) (yN Y_GC_stretch) ∈ jTs := ⟨(jin_t (jin_3 88 rfl) rfl), (jin_t (jin_3 89 rfl) rfl)⟩
theorem yk_GC_shown : jYok Y_GC_shown 1 := ⟨(jin_t (jin_3 99 rfl) rfl), (jin_t (jin_1 1 rfl) rfl), ⟨by decide +kernel, by decide +kernel⟩, by decide +kernel⟩
theorem yv_GC_shown : Cond.instanceMethod (yN Y_GC_shown) ∈ jTs ∧ Cond.selects (yN Y_GC_shown).cls (yN Y_GC_shown) (yN Y_GC_shown) ∈ jTs := ⟨(jin_t (jin_3 97 rfl) rfl), (jin_t (jin_3 98 rfl) rfl)⟩
theorem yk_GC_count : jYok Y_GC_count 1 := ⟨(jin_t (jin_3 103 rfl) rfl), (jin_t (jin_1 1 rfl) rfl), ⟨by decide +kernel, by decide +kernel⟩, by decide +kernel⟩
theorem yv_GC_count : Cond.instanceMethod (yN Y_GC_count) ∈ jTs ∧ Cond.selects (yN Y_GC_count).cls (yN Y_GC_count) (yN Y_GC_count) ∈ jTs := ⟨(jin_t (jin_3 101 rfl) rfl), (jin_t (jin_3 102 rfl) rfl)⟩

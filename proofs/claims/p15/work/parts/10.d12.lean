theorem d_GM_refresh_0 : decode prog_10_method_44_code 0 = .ok (.aload_n 0, 1) := by decide +kernel
theorem d_GM_refresh_1 : decode prog_10_method_44_code 1 = .ok (.invokevirtual 295, 3) := by decide +kernel
theorem d_GM_refresh_4 : decode prog_10_method_44_code 4 = .ok (.iconst 0, 1) := by decide +kernel
theorem d_GM_refresh_5 : decode prog_10_method_44_code 5 = .ok (.istore_n 2, 1) := by decide +kernel
theorem d_GM_refresh_6 : decode prog_10_method_44_code 6 = .ok (.iload_n 2, 1) := by decide +kernel
theorem d_GM_refresh_7 : decode prog_10_method_44_code 7 = .ok (.bipush 12, 2) := by decide +kernel
theorem d_GM_refresh_9 : decode prog_10_method_44_code 9 = .ok (.if_icmp .ge 81, 3) := by decide +kernel
theorem d_GM_refresh_12 : decode prog_10_method_44_code 12 = .ok (.aload_n 0, 1) := by decide +kernel
theorem d_GM_refresh_13 : decode prog_10_method_44_code 13 = .ok (.getfield 102, 3) := by decide +kernel
theorem d_GM_refresh_16 : decode prog_10_method_44_code 16 = .ok (.iload_n 2, 1) := by decide +kernel
theorem d_GM_refresh_17 : decode prog_10_method_44_code 17 = .ok (.iaload, 1) := by decide +kernel
theorem d_GM_refresh_18 : decode prog_10_method_44_code 18 = .ok (.ifCond .eq 66, 3) := by decide +kernel
theorem d_GM_refresh_21 : decode prog_10_method_44_code 21 = .ok (.aload_n 0, 1) := by decide +kernel
theorem d_GM_refresh_22 : decode prog_10_method_44_code 22 = .ok (.getfield 118, 3) := by decide +kernel
theorem d_GM_refresh_25 : decode prog_10_method_44_code 25 = .ok (.iload_n 1, 1) := by decide +kernel
theorem d_GM_refresh_26 : decode prog_10_method_44_code 26 = .ok (.bipush 13, 2) := by decide +kernel
theorem d_GM_refresh_28 : decode prog_10_method_44_code 28 = .ok (.imul, 1) := by decide +kernel
theorem d_GM_refresh_29 : decode prog_10_method_44_code 29 = .ok (.iload_n 2, 1) := by decide +kernel
theorem d_GM_refresh_30 : decode prog_10_method_44_code 30 = .ok (.iadd, 1) := by decide +kernel
theorem d_GM_refresh_31 : decode prog_10_method_44_code 31 = .ok (.laload, 1) := by decide +kernel
theorem d_GM_refresh_32 : decode prog_10_method_44_code 32 = .ok (.lconst 0, 1) := by decide +kernel
theorem d_GM_refresh_33 : decode prog_10_method_44_code 33 = .ok (.lcmp, 1) := by decide +kernel
theorem d_GM_refresh_34 : decode prog_10_method_44_code 34 = .ok (.ifCond .ne 6, 3) := by decide +kernel
theorem d_GM_refresh_37 : decode prog_10_method_44_code 37 = .ok (.goto 47, 3) := by decide +kernel
theorem d_GM_refresh_40 : decode prog_10_method_44_code 40 = .ok (.iconst 0, 1) := by decide +kernel
theorem d_GM_refresh_41 : decode prog_10_method_44_code 41 = .ok (.istore_n 3, 1) := by decide +kernel
theorem d_GM_refresh_42 : decode prog_10_method_44_code 42 = .ok (.iload_n 3, 1) := by decide +kernel
theorem d_GM_refresh_43 : decode prog_10_method_44_code 43 = .ok (.bipush 13, 2) := by decide +kernel
theorem d_GM_refresh_45 : decode prog_10_method_44_code 45 = .ok (.if_icmp .ge 30, 3) := by decide +kernel
theorem d_GM_refresh_48 : decode prog_10_method_44_code 48 = .ok (.aload_n 0, 1) := by decide +kernel
theorem d_GM_refresh_49 : decode prog_10_method_44_code 49 = .ok (.getfield 118, 3) := by decide +kernel
theorem d_GM_refresh_52 : decode prog_10_method_44_code 52 = .ok (.sipush 5174, 3) := by decide +kernel
theorem d_GM_refresh_55 : decode prog_10_method_44_code 55 = .ok (.iload_n 3, 1) := by decide +kernel
theorem d_GM_refresh_56 : decode prog_10_method_44_code 56 = .ok (.iadd, 1) := by decide +kernel
theorem d_GM_refresh_57 : decode prog_10_method_44_code 57 = .ok (.aload_n 0, 1) := by decide +kernel
theorem d_GM_refresh_58 : decode prog_10_method_44_code 58 = .ok (.getfield 105, 3) := by decide +kernel
theorem d_GM_refresh_61 : decode prog_10_method_44_code 61 = .ok (.iload_n 2, 1) := by decide +kernel
theorem d_GM_refresh_62 : decode prog_10_method_44_code 62 = .ok (.bipush 13, 2) := by decide +kernel
theorem d_GM_refresh_64 : decode prog_10_method_44_code 64 = .ok (.imul, 1) := by decide +kernel
theorem d_GM_refresh_65 : decode prog_10_method_44_code 65 = .ok (.iload_n 3, 1) := by decide +kernel
theorem d_GM_refresh_66 : decode prog_10_method_44_code 66 = .ok (.iadd, 1) := by decide +kernel
theorem d_GM_refresh_67 : decode prog_10_method_44_code 67 = .ok (.laload, 1) := by decide +kernel
theorem d_GM_refresh_68 : decode prog_10_method_44_code 68 = .ok (.lastore, 1) := by decide +kernel
theorem d_GM_refresh_69 : decode prog_10_method_44_code 69 = .ok (.iinc 3 1, 3) := by decide +kernel
theorem d_GM_refresh_72 : decode prog_10_method_44_code 72 = .ok (.goto (-30), 3) := by decide +kernel
theorem d_GM_refresh_75 : decode prog_10_method_44_code 75 = .ok (.aload_n 0, 1) := by decide +kernel
theorem d_GM_refresh_76 : decode prog_10_method_44_code 76 = .ok (.iload_n 1, 1) := by decide +kernel
theorem d_GM_refresh_77 : decode prog_10_method_44_code 77 = .ok (.iload_n 2, 1) := by decide +kernel
theorem d_GM_refresh_78 : decode prog_10_method_44_code 78 = .ok (.sipush 398, 3) := by decide +kernel
theorem d_GM_refresh_81 : decode prog_10_method_44_code 81 = .ok (.invokevirtual 298, 3) := by decide +kernel
theorem d_GM_refresh_84 : decode prog_10_method_44_code 84 = .ok (.iinc 2 1, 3) := by decide +kernel
theorem d_GM_refresh_87 : decode prog_10_method_44_code 87 = .ok (.goto (-81), 3) := by decide +kernel
theorem d_GM_refresh_90 : decode prog_10_method_44_code 90 = .ok (.aload_n 0, 1) := by decide +kernel
theorem d_GM_refresh_91 : decode prog_10_method_44_code 91 = .ok (.iload_n 1, 1) := by decide +kernel
theorem d_GM_refresh_92 : decode prog_10_method_44_code 92 = .ok (.invokevirtual 301, 3) := by decide +kernel
theorem d_GM_refresh_95 : decode prog_10_method_44_code 95 = .ok (.return_, 1) := by decide +kernel
theorem d_GM_beginSums_0 : decode prog_10_method_23_code 0 = .ok (.iconst 0, 1) := by decide +kernel
theorem d_GM_beginSums_1 : decode prog_10_method_23_code 1 = .ok (.istore_n 1, 1) := by decide +kernel
theorem d_GM_beginSums_2 : decode prog_10_method_23_code 2 = .ok (.iload_n 1, 1) := by decide +kernel
theorem d_GM_beginSums_3 : decode prog_10_method_23_code 3 = .ok (.bipush 13, 2) := by decide +kernel
theorem d_GM_beginSums_5 : decode prog_10_method_23_code 5 = .ok (.if_icmp .ge 23, 3) := by decide +kernel
theorem d_GM_beginSums_8 : decode prog_10_method_23_code 8 = .ok (.aload_n 0, 1) := by decide +kernel
theorem d_GM_beginSums_9 : decode prog_10_method_23_code 9 = .ok (.getfield 112, 3) := by decide +kernel
theorem d_GM_beginSums_12 : decode prog_10_method_23_code 12 = .ok (.iload_n 1, 1) := by decide +kernel
theorem d_GM_beginSums_13 : decode prog_10_method_23_code 13 = .ok (.lconst 0, 1) := by decide +kernel
theorem d_GM_beginSums_14 : decode prog_10_method_23_code 14 = .ok (.lastore, 1) := by decide +kernel
theorem d_GM_beginSums_15 : decode prog_10_method_23_code 15 = .ok (.aload_n 0, 1) := by decide +kernel
theorem d_GM_beginSums_16 : decode prog_10_method_23_code 16 = .ok (.getfield 115, 3) := by decide +kernel
theorem d_GM_beginSums_19 : decode prog_10_method_23_code 19 = .ok (.iload_n 1, 1) := by decide +kernel
theorem d_GM_beginSums_20 : decode prog_10_method_23_code 20 = .ok (.lconst 0, 1) := by decide +kernel
theorem d_GM_beginSums_21 : decode prog_10_method_23_code 21 = .ok (.lastore, 1) := by decide +kernel
theorem d_GM_beginSums_22 : decode prog_10_method_23_code 22 = .ok (.iinc 1 1, 3) := by decide +kernel
theorem d_GM_beginSums_25 : decode prog_10_method_23_code 25 = .ok (.goto (-23), 3) := by decide +kernel
theorem d_GM_beginSums_28 : decode prog_10_method_23_code 28 = .ok (.return_, 1) := by decide +kernel
theorem d_GM_replaceIn_0 : decode prog_10_method_22_code 0 = .ok (.aload_n 0, 1) := by decide +kernel
theorem d_GM_replaceIn_1 : decode prog_10_method_22_code 1 = .ok (.getfield 118, 3) := by decide +kernel
theorem d_GM_replaceIn_4 : decode prog_10_method_22_code 4 = .ok (.iload_n 1, 1) := by decide +kernel
theorem d_GM_replaceIn_5 : decode prog_10_method_22_code 5 = .ok (.bipush 13, 2) := by decide +kernel
theorem d_GM_replaceIn_7 : decode prog_10_method_22_code 7 = .ok (.imul, 1) := by decide +kernel
theorem d_GM_replaceIn_8 : decode prog_10_method_22_code 8 = .ok (.iload_n 2, 1) := by decide +kernel
theorem d_GM_replaceIn_9 : decode prog_10_method_22_code 9 = .ok (.iadd, 1) := by decide +kernel
theorem d_GM_replaceIn_10 : decode prog_10_method_22_code 10 = .ok (.laload, 1) := by decide +kernel
theorem d_GM_replaceIn_11 : decode prog_10_method_22_code 11 = .ok (.lstore 4, 2) := by decide +kernel
theorem d_GM_replaceIn_13 : decode prog_10_method_22_code 13 = .ok (.lload 4, 2) := by decide +kernel
theorem d_GM_replaceIn_15 : decode prog_10_method_22_code 15 = .ok (.bipush 16, 2) := by decide +kernel
theorem d_GM_replaceIn_17 : decode prog_10_method_22_code 17 = .ok (.lshr, 1) := by decide +kernel
theorem d_GM_replaceIn_18 : decode prog_10_method_22_code 18 = .ok (.lstore 6, 2) := by decide +kernel
theorem d_GM_replaceIn_20 : decode prog_10_method_22_code 20 = .ok (.lload 4, 2) := by decide +kernel
theorem d_GM_replaceIn_22 : decode prog_10_method_22_code 22 = .ok (.ldc2_w 199, 3) := by decide +kernel
theorem d_GM_replaceIn_25 : decode prog_10_method_22_code 25 = .ok (.land, 1) := by decide +kernel
theorem d_GM_replaceIn_26 : decode prog_10_method_22_code 26 = .ok (.lstore 8, 2) := by decide +kernel
theorem d_GM_replaceIn_28 : decode prog_10_method_22_code 28 = .ok (.aload_n 0, 1) := by decide +kernel
theorem d_GM_replaceIn_29 : decode prog_10_method_22_code 29 = .ok (.getfield 118, 3) := by decide +kernel
theorem d_GM_replaceIn_32 : decode prog_10_method_22_code 32 = .ok (.iload_n 1, 1) := by decide +kernel
theorem d_GM_replaceIn_33 : decode prog_10_method_22_code 33 = .ok (.bipush 13, 2) := by decide +kernel
theorem d_GM_replaceIn_35 : decode prog_10_method_22_code 35 = .ok (.imul, 1) := by decide +kernel
theorem d_GM_replaceIn_36 : decode prog_10_method_22_code 36 = .ok (.iload_n 2, 1) := by decide +kernel
theorem d_GM_replaceIn_37 : decode prog_10_method_22_code 37 = .ok (.iadd, 1) := by decide +kernel
theorem d_GM_replaceIn_38 : decode prog_10_method_22_code 38 = .ok (.lconst 0, 1) := by decide +kernel
theorem d_GM_replaceIn_39 : decode prog_10_method_22_code 39 = .ok (.lastore, 1) := by decide +kernel
theorem d_GM_replaceIn_40 : decode prog_10_method_22_code 40 = .ok (.iconst 0, 1) := by decide +kernel
theorem d_GM_replaceIn_41 : decode prog_10_method_22_code 41 = .ok (.istore 10, 2) := by decide +kernel
theorem d_GM_replaceIn_43 : decode prog_10_method_22_code 43 = .ok (.iload 10, 2) := by decide +kernel
theorem d_GM_replaceIn_45 : decode prog_10_method_22_code 45 = .ok (.bipush 13, 2) := by decide +kernel
theorem d_GM_replaceIn_47 : decode prog_10_method_22_code 47 = .ok (.if_icmp .ge 59, 3) := by decide +kernel
theorem d_GM_replaceIn_50 : decode prog_10_method_22_code 50 = .ok (.aload_n 0, 1) := by decide +kernel
theorem d_GM_replaceIn_51 : decode prog_10_method_22_code 51 = .ok (.getfield 112, 3) := by decide +kernel
theorem d_GM_replaceIn_54 : decode prog_10_method_22_code 54 = .ok (.iload 10, 2) := by decide +kernel
theorem d_GM_replaceIn_56 : decode prog_10_method_22_code 56 = .ok (.dup2, 1) := by decide +kernel
theorem d_GM_replaceIn_57 : decode prog_10_method_22_code 57 = .ok (.laload, 1) := by decide +kernel
theorem d_GM_replaceIn_58 : decode prog_10_method_22_code 58 = .ok (.lload 6, 2) := by decide +kernel
theorem d_GM_replaceIn_60 : decode prog_10_method_22_code 60 = .ok (.aload_n 0, 1) := by decide +kernel
theorem d_GM_replaceIn_61 : decode prog_10_method_22_code 61 = .ok (.getfield 118, 3) := by decide +kernel
theorem d_GM_replaceIn_64 : decode prog_10_method_22_code 64 = .ok (.iload_n 3, 1) := by decide +kernel
theorem d_GM_replaceIn_65 : decode prog_10_method_22_code 65 = .ok (.bipush 13, 2) := by decide +kernel
theorem d_GM_replaceIn_67 : decode prog_10_method_22_code 67 = .ok (.imul, 1) := by decide +kernel
theorem d_GM_replaceIn_68 : decode prog_10_method_22_code 68 = .ok (.iload 10, 2) := by decide +kernel
theorem d_GM_replaceIn_70 : decode prog_10_method_22_code 70 = .ok (.iadd, 1) := by decide +kernel
theorem d_GM_replaceIn_71 : decode prog_10_method_22_code 71 = .ok (.laload, 1) := by decide +kernel
theorem d_GM_replaceIn_72 : decode prog_10_method_22_code 72 = .ok (.lmul, 1) := by decide +kernel
theorem d_GM_replaceIn_73 : decode prog_10_method_22_code 73 = .ok (.ladd, 1) := by decide +kernel
theorem d_GM_replaceIn_74 : decode prog_10_method_22_code 74 = .ok (.lastore, 1) := by decide +kernel
theorem d_GM_replaceIn_75 : decode prog_10_method_22_code 75 = .ok (.aload_n 0, 1) := by decide +kernel
theorem d_GM_replaceIn_76 : decode prog_10_method_22_code 76 = .ok (.getfield 115, 3) := by decide +kernel
theorem d_GM_replaceIn_79 : decode prog_10_method_22_code 79 = .ok (.iload 10, 2) := by decide +kernel
theorem d_GM_replaceIn_81 : decode prog_10_method_22_code 81 = .ok (.dup2, 1) := by decide +kernel
theorem d_GM_replaceIn_82 : decode prog_10_method_22_code 82 = .ok (.laload, 1) := by decide +kernel
theorem d_GM_replaceIn_83 : decode prog_10_method_22_code 83 = .ok (.lload 8, 2) := by decide +kernel
theorem d_GM_replaceIn_85 : decode prog_10_method_22_code 85 = .ok (.aload_n 0, 1) := by decide +kernel
theorem d_GM_replaceIn_86 : decode prog_10_method_22_code 86 = .ok (.getfield 118, 3) := by decide +kernel
theorem d_GM_replaceIn_89 : decode prog_10_method_22_code 89 = .ok (.iload_n 3, 1) := by decide +kernel
theorem d_GM_replaceIn_90 : decode prog_10_method_22_code 90 = .ok (.bipush 13, 2) := by decide +kernel
theorem d_GM_replaceIn_92 : decode prog_10_method_22_code 92 = .ok (.imul, 1) := by decide +kernel
theorem d_GM_replaceIn_93 : decode prog_10_method_22_code 93 = .ok (.iload 10, 2) := by decide +kernel
theorem d_GM_replaceIn_95 : decode prog_10_method_22_code 95 = .ok (.iadd, 1) := by decide +kernel
theorem d_GM_replaceIn_96 : decode prog_10_method_22_code 96 = .ok (.laload, 1) := by decide +kernel
theorem d_GM_replaceIn_97 : decode prog_10_method_22_code 97 = .ok (.lmul, 1) := by decide +kernel
theorem d_GM_replaceIn_98 : decode prog_10_method_22_code 98 = .ok (.ladd, 1) := by decide +kernel
theorem d_GM_replaceIn_99 : decode prog_10_method_22_code 99 = .ok (.lastore, 1) := by decide +kernel
theorem d_GM_replaceIn_100 : decode prog_10_method_22_code 100 = .ok (.iinc 10 1, 3) := by decide +kernel
theorem d_GM_replaceIn_103 : decode prog_10_method_22_code 103 = .ok (.goto (-60), 3) := by decide +kernel
theorem d_GM_replaceIn_106 : decode prog_10_method_22_code 106 = .ok (.return_, 1) := by decide +kernel
theorem d_GM_addSums_0 : decode prog_10_method_24_code 0 = .ok (.iconst 0, 1) := by decide +kernel
theorem d_GM_addSums_1 : decode prog_10_method_24_code 1 = .ok (.istore_n 2, 1) := by decide +kernel
theorem d_GM_addSums_2 : decode prog_10_method_24_code 2 = .ok (.iload_n 2, 1) := by decide +kernel
theorem d_GM_addSums_3 : decode prog_10_method_24_code 3 = .ok (.bipush 13, 2) := by decide +kernel
theorem d_GM_addSums_5 : decode prog_10_method_24_code 5 = .ok (.if_icmp .ge 73, 3) := by decide +kernel
theorem d_GM_addSums_8 : decode prog_10_method_24_code 8 = .ok (.aload_n 0, 1) := by decide +kernel
theorem d_GM_addSums_9 : decode prog_10_method_24_code 9 = .ok (.getfield 115, 3) := by decide +kernel
theorem d_GM_addSums_12 : decode prog_10_method_24_code 12 = .ok (.iload_n 2, 1) := by decide +kernel
theorem d_GM_addSums_13 : decode prog_10_method_24_code 13 = .ok (.laload, 1) := by decide +kernel
theorem d_GM_addSums_14 : decode prog_10_method_24_code 14 = .ok (.ldc2_w 197, 3) := by decide +kernel
theorem d_GM_addSums_17 : decode prog_10_method_24_code 17 = .ok (.lrem, 1) := by decide +kernel
theorem d_GM_addSums_18 : decode prog_10_method_24_code 18 = .ok (.lconst 0, 1) := by decide +kernel
theorem d_GM_addSums_19 : decode prog_10_method_24_code 19 = .ok (.lcmp, 1) := by decide +kernel
theorem d_GM_addSums_20 : decode prog_10_method_24_code 20 = .ok (.ifCond .eq 8, 3) := by decide +kernel
theorem d_GM_addSums_23 : decode prog_10_method_24_code 23 = .ok (.aload_n 0, 1) := by decide +kernel
theorem d_GM_addSums_24 : decode prog_10_method_24_code 24 = .ok (.iconst 1, 1) := by decide +kernel
theorem d_GM_addSums_25 : decode prog_10_method_24_code 25 = .ok (.putfield 55, 3) := by decide +kernel
theorem d_GM_addSums_28 : decode prog_10_method_24_code 28 = .ok (.aload_n 0, 1) := by decide +kernel
theorem d_GM_addSums_29 : decode prog_10_method_24_code 29 = .ok (.getfield 118, 3) := by decide +kernel
theorem d_GM_addSums_32 : decode prog_10_method_24_code 32 = .ok (.iload_n 1, 1) := by decide +kernel
theorem d_GM_addSums_33 : decode prog_10_method_24_code 33 = .ok (.bipush 13, 2) := by decide +kernel
theorem d_GM_addSums_35 : decode prog_10_method_24_code 35 = .ok (.imul, 1) := by decide +kernel
theorem d_GM_addSums_36 : decode prog_10_method_24_code 36 = .ok (.iload_n 2, 1) := by decide +kernel
theorem d_GM_addSums_37 : decode prog_10_method_24_code 37 = .ok (.iadd, 1) := by decide +kernel
theorem d_GM_addSums_38 : decode prog_10_method_24_code 38 = .ok (.aload_n 0, 1) := by decide +kernel
theorem d_GM_addSums_39 : decode prog_10_method_24_code 39 = .ok (.aload_n 0, 1) := by decide +kernel
theorem d_GM_addSums_40 : decode prog_10_method_24_code 40 = .ok (.getfield 118, 3) := by decide +kernel
theorem d_GM_addSums_43 : decode prog_10_method_24_code 43 = .ok (.iload_n 1, 1) := by decide +kernel
theorem d_GM_addSums_44 : decode prog_10_method_24_code 44 = .ok (.bipush 13, 2) := by decide +kernel
theorem d_GM_addSums_46 : decode prog_10_method_24_code 46 = .ok (.imul, 1) := by decide +kernel
theorem d_GM_addSums_47 : decode prog_10_method_24_code 47 = .ok (.iload_n 2, 1) := by decide +kernel
theorem d_GM_addSums_48 : decode prog_10_method_24_code 48 = .ok (.iadd, 1) := by decide +kernel
theorem d_GM_addSums_49 : decode prog_10_method_24_code 49 = .ok (.laload, 1) := by decide +kernel
theorem d_GM_addSums_50 : decode prog_10_method_24_code 50 = .ok (.aload_n 0, 1) := by decide +kernel
theorem d_GM_addSums_51 : decode prog_10_method_24_code 51 = .ok (.getfield 112, 3) := by decide +kernel
theorem d_GM_addSums_54 : decode prog_10_method_24_code 54 = .ok (.iload_n 2, 1) := by decide +kernel
theorem d_GM_addSums_55 : decode prog_10_method_24_code 55 = .ok (.laload, 1) := by decide +kernel
theorem d_GM_addSums_56 : decode prog_10_method_24_code 56 = .ok (.ladd, 1) := by decide +kernel
theorem d_GM_addSums_57 : decode prog_10_method_24_code 57 = .ok (.aload_n 0, 1) := by decide +kernel
theorem d_GM_addSums_58 : decode prog_10_method_24_code 58 = .ok (.getfield 115, 3) := by decide +kernel
theorem d_GM_addSums_61 : decode prog_10_method_24_code 61 = .ok (.iload_n 2, 1) := by decide +kernel
theorem d_GM_addSums_62 : decode prog_10_method_24_code 62 = .ok (.laload, 1) := by decide +kernel
theorem d_GM_addSums_63 : decode prog_10_method_24_code 63 = .ok (.ldc2_w 197, 3) := by decide +kernel
theorem d_GM_addSums_66 : decode prog_10_method_24_code 66 = .ok (.ldiv, 1) := by decide +kernel
theorem d_GM_addSums_67 : decode prog_10_method_24_code 67 = .ok (.ladd, 1) := by decide +kernel
theorem d_GM_addSums_68 : decode prog_10_method_24_code 68 = .ok (.invokevirtual 185, 3) := by decide +kernel
theorem d_GM_addSums_71 : decode prog_10_method_24_code 71 = .ok (.lastore, 1) := by decide +kernel
theorem d_GM_addSums_72 : decode prog_10_method_24_code 72 = .ok (.iinc 2 1, 3) := by decide +kernel
theorem d_GM_addSums_75 : decode prog_10_method_24_code 75 = .ok (.goto (-73), 3) := by decide +kernel
theorem d_GM_addSums_78 : decode prog_10_method_24_code 78 = .ok (.return_, 1) := by decide +kernel
theorem d_GM_pivot_0 : decode prog_10_method_43_code 0 = .ok (.iconst (-1), 1) := by decide +kernel
theorem d_GM_pivot_1 : decode prog_10_method_43_code 1 = .ok (.istore_n 2, 1) := by decide +kernel
theorem d_GM_pivot_2 : decode prog_10_method_43_code 2 = .ok (.lconst 0, 1) := by decide +kernel
theorem d_GM_pivot_3 : decode prog_10_method_43_code 3 = .ok (.lstore_n 3, 1) := by decide +kernel
theorem d_GM_pivot_4 : decode prog_10_method_43_code 4 = .ok (.iconst 0, 1) := by decide +kernel
theorem d_GM_pivot_5 : decode prog_10_method_43_code 5 = .ok (.istore 5, 2) := by decide +kernel
theorem d_GM_pivot_7 : decode prog_10_method_43_code 7 = .ok (.iload 5, 2) := by decide +kernel
theorem d_GM_pivot_9 : decode prog_10_method_43_code 9 = .ok (.bipush 12, 2) := by decide +kernel
theorem d_GM_pivot_11 : decode prog_10_method_43_code 11 = .ok (.if_icmp .ge 84, 3) := by decide +kernel
theorem d_GM_pivot_14 : decode prog_10_method_43_code 14 = .ok (.aload_n 0, 1) := by decide +kernel
theorem d_GM_pivot_15 : decode prog_10_method_43_code 15 = .ok (.getfield 118, 3) := by decide +kernel
theorem d_GM_pivot_18 : decode prog_10_method_43_code 18 = .ok (.iload_n 1, 1) := by decide +kernel
theorem d_GM_pivot_19 : decode prog_10_method_43_code 19 = .ok (.bipush 13, 2) := by decide +kernel
theorem d_GM_pivot_21 : decode prog_10_method_43_code 21 = .ok (.imul, 1) := by decide +kernel
theorem d_GM_pivot_22 : decode prog_10_method_43_code 22 = .ok (.iload 5, 2) := by decide +kernel
theorem d_GM_pivot_24 : decode prog_10_method_43_code 24 = .ok (.iadd, 1) := by decide +kernel
theorem d_GM_pivot_25 : decode prog_10_method_43_code 25 = .ok (.laload, 1) := by decide +kernel
theorem d_GM_pivot_26 : decode prog_10_method_43_code 26 = .ok (.lstore 6, 2) := by decide +kernel
theorem d_GM_pivot_28 : decode prog_10_method_43_code 28 = .ok (.lload 6, 2) := by decide +kernel
theorem d_GM_pivot_30 : decode prog_10_method_43_code 30 = .ok (.lconst 0, 1) := by decide +kernel
theorem d_GM_pivot_31 : decode prog_10_method_43_code 31 = .ok (.lcmp, 1) := by decide +kernel
theorem d_GM_pivot_32 : decode prog_10_method_43_code 32 = .ok (.ifCond .ge 9, 3) := by decide +kernel
theorem d_GM_pivot_35 : decode prog_10_method_43_code 35 = .ok (.lload 6, 2) := by decide +kernel
theorem d_GM_pivot_37 : decode prog_10_method_43_code 37 = .ok (.lneg, 1) := by decide +kernel
theorem d_GM_pivot_38 : decode prog_10_method_43_code 38 = .ok (.goto 5, 3) := by decide +kernel
theorem d_GM_pivot_41 : decode prog_10_method_43_code 41 = .ok (.lload 6, 2) := by decide +kernel
theorem d_GM_pivot_43 : decode prog_10_method_43_code 43 = .ok (.lstore 8, 2) := by decide +kernel
theorem d_GM_pivot_45 : decode prog_10_method_43_code 45 = .ok (.lload 8, 2) := by decide +kernel
theorem d_GM_pivot_47 : decode prog_10_method_43_code 47 = .ok (.lconst 0, 1) := by decide +kernel
theorem d_GM_pivot_48 : decode prog_10_method_43_code 48 = .ok (.lcmp, 1) := by decide +kernel
theorem d_GM_pivot_49 : decode prog_10_method_43_code 49 = .ok (.ifCond .eq 40, 3) := by decide +kernel
theorem d_GM_pivot_52 : decode prog_10_method_43_code 52 = .ok (.lload 8, 2) := by decide +kernel
theorem d_GM_pivot_54 : decode prog_10_method_43_code 54 = .ok (.ldc2_w 179, 3) := by decide +kernel
theorem d_GM_pivot_57 : decode prog_10_method_43_code 57 = .ok (.lcmp, 1) := by decide +kernel
theorem d_GM_pivot_58 : decode prog_10_method_43_code 58 = .ok (.ifCond .gt 31, 3) := by decide +kernel
theorem d_GM_pivot_61 : decode prog_10_method_43_code 61 = .ok (.lload 8, 2) := by decide +kernel
theorem d_GM_pivot_63 : decode prog_10_method_43_code 63 = .ok (.lload 8, 2) := by decide +kernel
theorem d_GM_pivot_65 : decode prog_10_method_43_code 65 = .ok (.lconst 1, 1) := by decide +kernel
theorem d_GM_pivot_66 : decode prog_10_method_43_code 66 = .ok (.lsub, 1) := by decide +kernel
theorem d_GM_pivot_67 : decode prog_10_method_43_code 67 = .ok (.land, 1) := by decide +kernel
theorem d_GM_pivot_68 : decode prog_10_method_43_code 68 = .ok (.lconst 0, 1) := by decide +kernel
theorem d_GM_pivot_69 : decode prog_10_method_43_code 69 = .ok (.lcmp, 1) := by decide +kernel
theorem d_GM_pivot_70 : decode prog_10_method_43_code 70 = .ok (.ifCond .ne 19, 3) := by decide +kernel
theorem d_GM_pivot_73 : decode prog_10_method_43_code 73 = .ok (.lload 8, 2) := by decide +kernel
theorem d_GM_pivot_75 : decode prog_10_method_43_code 75 = .ok (.lload_n 3, 1) := by decide +kernel
theorem d_GM_pivot_76 : decode prog_10_method_43_code 76 = .ok (.lcmp, 1) := by decide +kernel
theorem d_GM_pivot_77 : decode prog_10_method_43_code 77 = .ok (.ifCond .gt 6, 3) := by decide +kernel
theorem d_GM_pivot_80 : decode prog_10_method_43_code 80 = .ok (.goto 9, 3) := by decide +kernel
theorem d_GM_pivot_83 : decode prog_10_method_43_code 83 = .ok (.iload 5, 2) := by decide +kernel
theorem d_GM_pivot_85 : decode prog_10_method_43_code 85 = .ok (.istore_n 2, 1) := by decide +kernel
theorem d_GM_pivot_86 : decode prog_10_method_43_code 86 = .ok (.lload 8, 2) := by decide +kernel
theorem d_GM_pivot_88 : decode prog_10_method_43_code 88 = .ok (.lstore_n 3, 1) := by decide +kernel
theorem d_GM_pivot_89 : decode prog_10_method_43_code 89 = .ok (.iinc 5 1, 3) := by decide +kernel
theorem d_GM_pivot_92 : decode prog_10_method_43_code 92 = .ok (.goto (-85), 3) := by decide +kernel
theorem d_GM_pivot_95 : decode prog_10_method_43_code 95 = .ok (.iload_n 2, 1) := by decide +kernel
theorem d_GM_pivot_96 : decode prog_10_method_43_code 96 = .ok (.ireturn, 1) := by decide +kernel
theorem d_GM_solve_0 : decode prog_10_method_46_code 0 = .ok (.aload_n 0, 1) := by decide +kernel
theorem d_GM_solve_1 : decode prog_10_method_46_code 1 = .ok (.getfield 118, 3) := by decide +kernel
theorem d_GM_solve_4 : decode prog_10_method_46_code 4 = .ok (.sipush 5187, 3) := by decide +kernel
theorem d_GM_solve_7 : decode prog_10_method_46_code 7 = .ok (.iload_n 1, 1) := by decide +kernel
theorem d_GM_solve_8 : decode prog_10_method_46_code 8 = .ok (.iadd, 1) := by decide +kernel
theorem d_GM_solve_9 : decode prog_10_method_46_code 9 = .ok (.laload, 1) := by decide +kernel
theorem d_GM_solve_10 : decode prog_10_method_46_code 10 = .ok (.lstore_n 2, 1) := by decide +kernel
theorem d_GM_solve_11 : decode prog_10_method_46_code 11 = .ok (.iconst 0, 1) := by decide +kernel
theorem d_GM_solve_12 : decode prog_10_method_46_code 12 = .ok (.istore 4, 2) := by decide +kernel
theorem d_GM_solve_14 : decode prog_10_method_46_code 14 = .ok (.iload 4, 2) := by decide +kernel
theorem d_GM_solve_16 : decode prog_10_method_46_code 16 = .ok (.bipush 13, 2) := by decide +kernel
theorem d_GM_solve_18 : decode prog_10_method_46_code 18 = .ok (.if_icmp .ge 47, 3) := by decide +kernel
theorem d_GM_solve_21 : decode prog_10_method_46_code 21 = .ok (.aload_n 0, 1) := by decide +kernel
theorem d_GM_solve_22 : decode prog_10_method_46_code 22 = .ok (.getfield 118, 3) := by decide +kernel
theorem d_GM_solve_25 : decode prog_10_method_46_code 25 = .ok (.sipush 5174, 3) := by decide +kernel
theorem d_GM_solve_28 : decode prog_10_method_46_code 28 = .ok (.iload 4, 2) := by decide +kernel
theorem d_GM_solve_30 : decode prog_10_method_46_code 30 = .ok (.iadd, 1) := by decide +kernel
theorem d_GM_solve_31 : decode prog_10_method_46_code 31 = .ok (.iload 4, 2) := by decide +kernel
theorem d_GM_solve_33 : decode prog_10_method_46_code 33 = .ok (.iload_n 1, 1) := by decide +kernel
theorem d_GM_solve_34 : decode prog_10_method_46_code 34 = .ok (.if_icmp .ne 7, 3) := by decide +kernel
theorem d_GM_solve_37 : decode prog_10_method_46_code 37 = .ok (.lconst 0, 1) := by decide +kernel
theorem d_GM_solve_38 : decode prog_10_method_46_code 38 = .ok (.goto 20, 3) := by decide +kernel
theorem d_GM_solve_41 : decode prog_10_method_46_code 41 = .ok (.aload_n 0, 1) := by decide +kernel
theorem d_GM_solve_42 : decode prog_10_method_46_code 42 = .ok (.aload_n 0, 1) := by decide +kernel
theorem d_GM_solve_43 : decode prog_10_method_46_code 43 = .ok (.getfield 118, 3) := by decide +kernel
theorem d_GM_solve_46 : decode prog_10_method_46_code 46 = .ok (.sipush 5187, 3) := by decide +kernel
theorem d_GM_solve_49 : decode prog_10_method_46_code 49 = .ok (.iload 4, 2) := by decide +kernel
theorem d_GM_solve_51 : decode prog_10_method_46_code 51 = .ok (.iadd, 1) := by decide +kernel
theorem d_GM_solve_52 : decode prog_10_method_46_code 52 = .ok (.laload, 1) := by decide +kernel
theorem d_GM_solve_53 : decode prog_10_method_46_code 53 = .ok (.lneg, 1) := by decide +kernel
theorem d_GM_solve_54 : decode prog_10_method_46_code 54 = .ok (.lload_n 2, 1) := by decide +kernel
theorem d_GM_solve_55 : decode prog_10_method_46_code 55 = .ok (.invokevirtual 304, 3) := by decide +kernel
theorem d_GM_solve_58 : decode prog_10_method_46_code 58 = .ok (.lastore, 1) := by decide +kernel
theorem d_GM_solve_59 : decode prog_10_method_46_code 59 = .ok (.iinc 4 1, 3) := by decide +kernel
theorem d_GM_solve_62 : decode prog_10_method_46_code 62 = .ok (.goto (-48), 3) := by decide +kernel
theorem d_GM_solve_65 : decode prog_10_method_46_code 65 = .ok (.iconst 0, 1) := by decide +kernel
theorem d_GM_solve_66 : decode prog_10_method_46_code 66 = .ok (.istore 4, 2) := by decide +kernel
theorem d_GM_solve_68 : decode prog_10_method_46_code 68 = .ok (.iload 4, 2) := by decide +kernel
theorem d_GM_solve_70 : decode prog_10_method_46_code 70 = .ok (.bipush 12, 2) := by decide +kernel
theorem d_GM_solve_72 : decode prog_10_method_46_code 72 = .ok (.if_icmp .ge 164, 3) := by decide +kernel
theorem d_GM_solve_75 : decode prog_10_method_46_code 75 = .ok (.aload_n 0, 1) := by decide +kernel
theorem d_GM_solve_76 : decode prog_10_method_46_code 76 = .ok (.getfield 55, 3) := by decide +kernel
theorem d_GM_solve_79 : decode prog_10_method_46_code 79 = .ok (.ifCond .ne 157, 3) := by decide +kernel
theorem d_GM_solve_82 : decode prog_10_method_46_code 82 = .ok (.aload_n 0, 1) := by decide +kernel
theorem d_GM_solve_83 : decode prog_10_method_46_code 83 = .ok (.getfield 102, 3) := by decide +kernel
theorem d_GM_solve_86 : decode prog_10_method_46_code 86 = .ok (.iload 4, 2) := by decide +kernel
theorem d_GM_solve_88 : decode prog_10_method_46_code 88 = .ok (.iaload, 1) := by decide +kernel
theorem d_GM_solve_89 : decode prog_10_method_46_code 89 = .ok (.iconst 1, 1) := by decide +kernel
theorem d_GM_solve_90 : decode prog_10_method_46_code 90 = .ok (.if_icmp .eq 6, 3) := by decide +kernel
theorem d_GM_solve_93 : decode prog_10_method_46_code 93 = .ok (.goto 137, 3) := by decide +kernel
theorem d_GM_solve_96 : decode prog_10_method_46_code 96 = .ok (.iconst 0, 1) := by decide +kernel
theorem d_GM_solve_97 : decode prog_10_method_46_code 97 = .ok (.istore 5, 2) := by decide +kernel
theorem d_GM_solve_99 : decode prog_10_method_46_code 99 = .ok (.iload 5, 2) := by decide +kernel
theorem d_GM_solve_101 : decode prog_10_method_46_code 101 = .ok (.bipush 13, 2) := by decide +kernel
theorem d_GM_solve_103 : decode prog_10_method_46_code 103 = .ok (.if_icmp .ge 33, 3) := by decide +kernel
theorem d_GM_solve_106 : decode prog_10_method_46_code 106 = .ok (.aload_n 0, 1) := by decide +kernel
theorem d_GM_solve_107 : decode prog_10_method_46_code 107 = .ok (.getfield 118, 3) := by decide +kernel
theorem d_GM_solve_110 : decode prog_10_method_46_code 110 = .ok (.sipush 5161, 3) := by decide +kernel
theorem d_GM_solve_113 : decode prog_10_method_46_code 113 = .ok (.iload 5, 2) := by decide +kernel
theorem d_GM_solve_115 : decode prog_10_method_46_code 115 = .ok (.iadd, 1) := by decide +kernel
theorem d_GM_solve_116 : decode prog_10_method_46_code 116 = .ok (.aload_n 0, 1) := by decide +kernel
theorem d_GM_solve_117 : decode prog_10_method_46_code 117 = .ok (.getfield 105, 3) := by decide +kernel
theorem d_GM_solve_120 : decode prog_10_method_46_code 120 = .ok (.iload 4, 2) := by decide +kernel
theorem d_GM_solve_122 : decode prog_10_method_46_code 122 = .ok (.bipush 13, 2) := by decide +kernel
theorem d_GM_solve_124 : decode prog_10_method_46_code 124 = .ok (.imul, 1) := by decide +kernel
theorem d_GM_solve_125 : decode prog_10_method_46_code 125 = .ok (.iload 5, 2) := by decide +kernel
theorem d_GM_solve_127 : decode prog_10_method_46_code 127 = .ok (.iadd, 1) := by decide +kernel
theorem d_GM_solve_128 : decode prog_10_method_46_code 128 = .ok (.laload, 1) := by decide +kernel
theorem d_GM_solve_129 : decode prog_10_method_46_code 129 = .ok (.lastore, 1) := by decide +kernel
theorem d_GM_solve_130 : decode prog_10_method_46_code 130 = .ok (.iinc 5 1, 3) := by decide +kernel
theorem d_GM_solve_133 : decode prog_10_method_46_code 133 = .ok (.goto (-34), 3) := by decide +kernel
theorem d_GM_solve_136 : decode prog_10_method_46_code 136 = .ok (.aload_n 0, 1) := by decide +kernel
theorem d_GM_solve_137 : decode prog_10_method_46_code 137 = .ok (.invokevirtual 295, 3) := by decide +kernel
theorem d_GM_solve_140 : decode prog_10_method_46_code 140 = .ok (.aload_n 0, 1) := by decide +kernel
theorem d_GM_solve_141 : decode prog_10_method_46_code 141 = .ok (.sipush 397, 3) := by decide +kernel
theorem d_GM_solve_144 : decode prog_10_method_46_code 144 = .ok (.iload_n 1, 1) := by decide +kernel
theorem d_GM_solve_145 : decode prog_10_method_46_code 145 = .ok (.sipush 398, 3) := by decide +kernel
theorem d_GM_solve_148 : decode prog_10_method_46_code 148 = .ok (.invokevirtual 298, 3) := by decide +kernel
theorem d_GM_solve_151 : decode prog_10_method_46_code 151 = .ok (.aload_n 0, 1) := by decide +kernel
theorem d_GM_solve_152 : decode prog_10_method_46_code 152 = .ok (.sipush 397, 3) := by decide +kernel
theorem d_GM_solve_155 : decode prog_10_method_46_code 155 = .ok (.invokevirtual 301, 3) := by decide +kernel
theorem d_GM_solve_158 : decode prog_10_method_46_code 158 = .ok (.aload_n 0, 1) := by decide +kernel
theorem d_GM_solve_159 : decode prog_10_method_46_code 159 = .ok (.getfield 55, 3) := by decide +kernel
theorem d_GM_solve_162 : decode prog_10_method_46_code 162 = .ok (.ifCond .ne 43, 3) := by decide +kernel
theorem d_GM_solve_165 : decode prog_10_method_46_code 165 = .ok (.iconst 0, 1) := by decide +kernel
theorem d_GM_solve_166 : decode prog_10_method_46_code 166 = .ok (.istore 5, 2) := by decide +kernel
theorem d_GM_solve_168 : decode prog_10_method_46_code 168 = .ok (.iload 5, 2) := by decide +kernel
theorem d_GM_solve_170 : decode prog_10_method_46_code 170 = .ok (.bipush 13, 2) := by decide +kernel
theorem d_GM_solve_172 : decode prog_10_method_46_code 172 = .ok (.if_icmp .ge 33, 3) := by decide +kernel
theorem d_GM_solve_175 : decode prog_10_method_46_code 175 = .ok (.aload_n 0, 1) := by decide +kernel
theorem d_GM_solve_176 : decode prog_10_method_46_code 176 = .ok (.getfield 105, 3) := by decide +kernel
theorem d_GM_solve_179 : decode prog_10_method_46_code 179 = .ok (.iload 4, 2) := by decide +kernel
theorem d_GM_solve_181 : decode prog_10_method_46_code 181 = .ok (.bipush 13, 2) := by decide +kernel
theorem d_GM_solve_183 : decode prog_10_method_46_code 183 = .ok (.imul, 1) := by decide +kernel
theorem d_GM_solve_184 : decode prog_10_method_46_code 184 = .ok (.iload 5, 2) := by decide +kernel
theorem d_GM_solve_186 : decode prog_10_method_46_code 186 = .ok (.iadd, 1) := by decide +kernel
theorem d_GM_solve_187 : decode prog_10_method_46_code 187 = .ok (.aload_n 0, 1) := by decide +kernel
theorem d_GM_solve_188 : decode prog_10_method_46_code 188 = .ok (.getfield 118, 3) := by decide +kernel
theorem d_GM_solve_191 : decode prog_10_method_46_code 191 = .ok (.sipush 5161, 3) := by decide +kernel
theorem d_GM_solve_194 : decode prog_10_method_46_code 194 = .ok (.iload 5, 2) := by decide +kernel
theorem d_GM_solve_196 : decode prog_10_method_46_code 196 = .ok (.iadd, 1) := by decide +kernel
theorem d_GM_solve_197 : decode prog_10_method_46_code 197 = .ok (.laload, 1) := by decide +kernel
theorem d_GM_solve_198 : decode prog_10_method_46_code 198 = .ok (.lastore, 1) := by decide +kernel
theorem d_GM_solve_199 : decode prog_10_method_46_code 199 = .ok (.iinc 5 1, 3) := by decide +kernel
theorem d_GM_solve_202 : decode prog_10_method_46_code 202 = .ok (.goto (-34), 3) := by decide +kernel
theorem d_GM_solve_205 : decode prog_10_method_46_code 205 = .ok (.aload_n 0, 1) := by decide +kernel
theorem d_GM_solve_206 : decode prog_10_method_46_code 206 = .ok (.getfield 55, 3) := by decide +kernel
theorem d_GM_solve_209 : decode prog_10_method_46_code 209 = .ok (.ifCond .ne 21, 3) := by decide +kernel
theorem d_GM_solve_212 : decode prog_10_method_46_code 212 = .ok (.aload_n 0, 1) := by decide +kernel
theorem d_GM_solve_213 : decode prog_10_method_46_code 213 = .ok (.sipush 397, 3) := by decide +kernel
theorem d_GM_solve_216 : decode prog_10_method_46_code 216 = .ok (.invokevirtual 260, 3) := by decide +kernel
theorem d_GM_solve_219 : decode prog_10_method_46_code 219 = .ok (.ifCond .eq 11, 3) := by decide +kernel
theorem d_GM_solve_222 : decode prog_10_method_46_code 222 = .ok (.aload_n 0, 1) := by decide +kernel
theorem d_GM_solve_223 : decode prog_10_method_46_code 223 = .ok (.getfield 102, 3) := by decide +kernel
theorem d_GM_solve_226 : decode prog_10_method_46_code 226 = .ok (.iload 4, 2) := by decide +kernel
theorem d_GM_solve_228 : decode prog_10_method_46_code 228 = .ok (.iconst 2, 1) := by decide +kernel
theorem d_GM_solve_229 : decode prog_10_method_46_code 229 = .ok (.iastore, 1) := by decide +kernel
theorem d_GM_solve_230 : decode prog_10_method_46_code 230 = .ok (.iinc 4 1, 3) := by decide +kernel
theorem d_GM_solve_233 : decode prog_10_method_46_code 233 = .ok (.goto (-165), 3) := by decide +kernel
theorem d_GM_solve_236 : decode prog_10_method_46_code 236 = .ok (.aload_n 0, 1) := by decide +kernel
theorem d_GM_solve_237 : decode prog_10_method_46_code 237 = .ok (.getfield 55, 3) := by decide +kernel
theorem d_GM_solve_240 : decode prog_10_method_46_code 240 = .ok (.ifCond .eq 4, 3) := by decide +kernel
theorem d_GM_solve_243 : decode prog_10_method_46_code 243 = .ok (.return_, 1) := by decide +kernel
theorem d_GM_solve_244 : decode prog_10_method_46_code 244 = .ok (.iconst 0, 1) := by decide +kernel
theorem d_GM_solve_245 : decode prog_10_method_46_code 245 = .ok (.istore 4, 2) := by decide +kernel
theorem d_GM_solve_247 : decode prog_10_method_46_code 247 = .ok (.iload 4, 2) := by decide +kernel
theorem d_GM_solve_249 : decode prog_10_method_46_code 249 = .ok (.bipush 13, 2) := by decide +kernel
theorem d_GM_solve_251 : decode prog_10_method_46_code 251 = .ok (.if_icmp .ge 32, 3) := by decide +kernel
theorem d_GM_solve_254 : decode prog_10_method_46_code 254 = .ok (.aload_n 0, 1) := by decide +kernel
theorem d_GM_solve_255 : decode prog_10_method_46_code 255 = .ok (.getfield 105, 3) := by decide +kernel
theorem d_GM_solve_258 : decode prog_10_method_46_code 258 = .ok (.iload_n 1, 1) := by decide +kernel
theorem d_GM_solve_259 : decode prog_10_method_46_code 259 = .ok (.bipush 13, 2) := by decide +kernel
theorem d_GM_solve_261 : decode prog_10_method_46_code 261 = .ok (.imul, 1) := by decide +kernel
theorem d_GM_solve_262 : decode prog_10_method_46_code 262 = .ok (.iload 4, 2) := by decide +kernel
theorem d_GM_solve_264 : decode prog_10_method_46_code 264 = .ok (.iadd, 1) := by decide +kernel
theorem d_GM_solve_265 : decode prog_10_method_46_code 265 = .ok (.aload_n 0, 1) := by decide +kernel
theorem d_GM_solve_266 : decode prog_10_method_46_code 266 = .ok (.getfield 118, 3) := by decide +kernel
theorem d_GM_solve_269 : decode prog_10_method_46_code 269 = .ok (.sipush 5174, 3) := by decide +kernel
theorem d_GM_solve_272 : decode prog_10_method_46_code 272 = .ok (.iload 4, 2) := by decide +kernel
theorem d_GM_solve_274 : decode prog_10_method_46_code 274 = .ok (.iadd, 1) := by decide +kernel
theorem d_GM_solve_275 : decode prog_10_method_46_code 275 = .ok (.laload, 1) := by decide +kernel
theorem d_GM_solve_276 : decode prog_10_method_46_code 276 = .ok (.lastore, 1) := by decide +kernel
theorem d_GM_solve_277 : decode prog_10_method_46_code 277 = .ok (.iinc 4 1, 3) := by decide +kernel
theorem d_GM_solve_280 : decode prog_10_method_46_code 280 = .ok (.goto (-33), 3) := by decide +kernel
theorem d_GM_solve_283 : decode prog_10_method_46_code 283 = .ok (.aload_n 0, 1) := by decide +kernel
theorem d_GM_solve_284 : decode prog_10_method_46_code 284 = .ok (.getfield 102, 3) := by decide +kernel
theorem d_GM_solve_287 : decode prog_10_method_46_code 287 = .ok (.iload_n 1, 1) := by decide +kernel
theorem d_GM_solve_288 : decode prog_10_method_46_code 288 = .ok (.aload_n 0, 1) := by decide +kernel
theorem d_GM_solve_289 : decode prog_10_method_46_code 289 = .ok (.sipush 398, 3) := by decide +kernel
theorem d_GM_solve_292 : decode prog_10_method_46_code 292 = .ok (.invokevirtual 260, 3) := by decide +kernel
theorem d_GM_solve_295 : decode prog_10_method_46_code 295 = .ok (.ifCond .eq 7, 3) := by decide +kernel
theorem d_GM_solve_298 : decode prog_10_method_46_code 298 = .ok (.iconst 2, 1) := by decide +kernel
theorem d_GM_solve_299 : decode prog_10_method_46_code 299 = .ok (.goto 4, 3) := by decide +kernel
theorem d_GM_solve_302 : decode prog_10_method_46_code 302 = .ok (.iconst 1, 1) := by decide +kernel
theorem d_GM_solve_303 : decode prog_10_method_46_code 303 = .ok (.iastore, 1) := by decide +kernel
theorem d_GM_solve_304 : decode prog_10_method_46_code 304 = .ok (.return_, 1) := by decide +kernel
theorem d_GM_over_0 : decode prog_10_method_45_code 0 = .ok (.lload_n 3, 1) := by decide +kernel
theorem d_GM_over_1 : decode prog_10_method_45_code 1 = .ok (.lconst 0, 1) := by decide +kernel
theorem d_GM_over_2 : decode prog_10_method_45_code 2 = .ok (.lcmp, 1) := by decide +kernel
theorem d_GM_over_3 : decode prog_10_method_45_code 3 = .ok (.ifCond .ge 8, 3) := by decide +kernel
theorem d_GM_over_6 : decode prog_10_method_45_code 6 = .ok (.lload_n 3, 1) := by decide +kernel
theorem d_GM_over_7 : decode prog_10_method_45_code 7 = .ok (.lneg, 1) := by decide +kernel
theorem d_GM_over_8 : decode prog_10_method_45_code 8 = .ok (.goto 4, 3) := by decide +kernel
theorem d_GM_over_11 : decode prog_10_method_45_code 11 = .ok (.lload_n 3, 1) := by decide +kernel
theorem d_GM_over_12 : decode prog_10_method_45_code 12 = .ok (.lstore 5, 2) := by decide +kernel
theorem d_GM_over_14 : decode prog_10_method_45_code 14 = .ok (.lload_n 3, 1) := by decide +kernel
theorem d_GM_over_15 : decode prog_10_method_45_code 15 = .ok (.lconst 0, 1) := by decide +kernel
theorem d_GM_over_16 : decode prog_10_method_45_code 16 = .ok (.lcmp, 1) := by decide +kernel
theorem d_GM_over_17 : decode prog_10_method_45_code 17 = .ok (.ifCond .ge 8, 3) := by decide +kernel
theorem d_GM_over_20 : decode prog_10_method_45_code 20 = .ok (.lload_n 1, 1) := by decide +kernel
theorem d_GM_over_21 : decode prog_10_method_45_code 21 = .ok (.lneg, 1) := by decide +kernel
theorem d_GM_over_22 : decode prog_10_method_45_code 22 = .ok (.goto 4, 3) := by decide +kernel
theorem d_GM_over_25 : decode prog_10_method_45_code 25 = .ok (.lload_n 1, 1) := by decide +kernel
theorem d_GM_over_26 : decode prog_10_method_45_code 26 = .ok (.lstore 7, 2) := by decide +kernel
theorem d_GM_over_28 : decode prog_10_method_45_code 28 = .ok (.lload 5, 2) := by decide +kernel
theorem d_GM_over_30 : decode prog_10_method_45_code 30 = .ok (.ldc2_w 197, 3) := by decide +kernel
theorem d_GM_over_33 : decode prog_10_method_45_code 33 = .ok (.lcmp, 1) := by decide +kernel
theorem d_GM_over_34 : decode prog_10_method_45_code 34 = .ok (.ifCond .gt 48, 3) := by decide +kernel
theorem d_GM_over_37 : decode prog_10_method_45_code 37 = .ok (.ldc2_w 197, 3) := by decide +kernel
theorem d_GM_over_40 : decode prog_10_method_45_code 40 = .ok (.lload 5, 2) := by decide +kernel
theorem d_GM_over_42 : decode prog_10_method_45_code 42 = .ok (.ldiv, 1) := by decide +kernel
theorem d_GM_over_43 : decode prog_10_method_45_code 43 = .ok (.lstore 9, 2) := by decide +kernel
theorem d_GM_over_45 : decode prog_10_method_45_code 45 = .ok (.lload 7, 2) := by decide +kernel
theorem d_GM_over_47 : decode prog_10_method_45_code 47 = .ok (.ldc2_w 179, 3) := by decide +kernel
theorem d_GM_over_50 : decode prog_10_method_45_code 50 = .ok (.lload 9, 2) := by decide +kernel
theorem d_GM_over_52 : decode prog_10_method_45_code 52 = .ok (.ldiv, 1) := by decide +kernel
theorem d_GM_over_53 : decode prog_10_method_45_code 53 = .ok (.lcmp, 1) := by decide +kernel
theorem d_GM_over_54 : decode prog_10_method_45_code 54 = .ok (.ifCond .gt 15, 3) := by decide +kernel
theorem d_GM_over_57 : decode prog_10_method_45_code 57 = .ok (.lload 7, 2) := by decide +kernel
theorem d_GM_over_59 : decode prog_10_method_45_code 59 = .ok (.ldc2_w 181, 3) := by decide +kernel
theorem d_GM_over_62 : decode prog_10_method_45_code 62 = .ok (.lload 9, 2) := by decide +kernel
theorem d_GM_over_64 : decode prog_10_method_45_code 64 = .ok (.ldiv, 1) := by decide +kernel
theorem d_GM_over_65 : decode prog_10_method_45_code 65 = .ok (.lcmp, 1) := by decide +kernel
theorem d_GM_over_66 : decode prog_10_method_45_code 66 = .ok (.ifCond .ge 10, 3) := by decide +kernel
theorem d_GM_over_69 : decode prog_10_method_45_code 69 = .ok (.aload_n 0, 1) := by decide +kernel
theorem d_GM_over_70 : decode prog_10_method_45_code 70 = .ok (.iconst 1, 1) := by decide +kernel
theorem d_GM_over_71 : decode prog_10_method_45_code 71 = .ok (.putfield 55, 3) := by decide +kernel
theorem d_GM_over_74 : decode prog_10_method_45_code 74 = .ok (.lconst 0, 1) := by decide +kernel
theorem d_GM_over_75 : decode prog_10_method_45_code 75 = .ok (.lreturn, 1) := by decide +kernel
theorem d_GM_over_76 : decode prog_10_method_45_code 76 = .ok (.lload 7, 2) := by decide +kernel
theorem d_GM_over_78 : decode prog_10_method_45_code 78 = .ok (.lload 9, 2) := by decide +kernel
theorem d_GM_over_80 : decode prog_10_method_45_code 80 = .ok (.lmul, 1) := by decide +kernel
theorem d_GM_over_81 : decode prog_10_method_45_code 81 = .ok (.lreturn, 1) := by decide +kernel
theorem d_GM_over_82 : decode prog_10_method_45_code 82 = .ok (.lload 5, 2) := by decide +kernel
theorem d_GM_over_84 : decode prog_10_method_45_code 84 = .ok (.ldc2_w 197, 3) := by decide +kernel
theorem d_GM_over_87 : decode prog_10_method_45_code 87 = .ok (.ldiv, 1) := by decide +kernel
theorem d_GM_over_88 : decode prog_10_method_45_code 88 = .ok (.lstore 9, 2) := by decide +kernel
theorem d_GM_over_90 : decode prog_10_method_45_code 90 = .ok (.lload 7, 2) := by decide +kernel
theorem d_GM_over_92 : decode prog_10_method_45_code 92 = .ok (.lload 9, 2) := by decide +kernel
theorem d_GM_over_94 : decode prog_10_method_45_code 94 = .ok (.lrem, 1) := by decide +kernel
theorem d_GM_over_95 : decode prog_10_method_45_code 95 = .ok (.lconst 0, 1) := by decide +kernel
theorem d_GM_over_96 : decode prog_10_method_45_code 96 = .ok (.lcmp, 1) := by decide +kernel
theorem d_GM_over_97 : decode prog_10_method_45_code 97 = .ok (.ifCond .eq 8, 3) := by decide +kernel
theorem d_GM_over_100 : decode prog_10_method_45_code 100 = .ok (.aload_n 0, 1) := by decide +kernel
theorem d_GM_over_101 : decode prog_10_method_45_code 101 = .ok (.iconst 1, 1) := by decide +kernel
theorem d_GM_over_102 : decode prog_10_method_45_code 102 = .ok (.putfield 55, 3) := by decide +kernel
theorem d_GM_over_105 : decode prog_10_method_45_code 105 = .ok (.aload_n 0, 1) := by decide +kernel
theorem d_GM_over_106 : decode prog_10_method_45_code 106 = .ok (.lload 7, 2) := by decide +kernel
theorem d_GM_over_108 : decode prog_10_method_45_code 108 = .ok (.lload 9, 2) := by decide +kernel
theorem d_GM_over_110 : decode prog_10_method_45_code 110 = .ok (.ldiv, 1) := by decide +kernel
theorem d_GM_over_111 : decode prog_10_method_45_code 111 = .ok (.invokevirtual 185, 3) := by decide +kernel
theorem d_GM_over_114 : decode prog_10_method_45_code 114 = .ok (.lreturn, 1) := by decide +kernel
theorem d_GM_place_0 : decode prog_10_method_52_code 0 = .ok (.aload_n 0, 1) := by decide +kernel
theorem d_GM_place_1 : decode prog_10_method_52_code 1 = .ok (.getfield 19, 3) := by decide +kernel
theorem d_GM_place_4 : decode prog_10_method_52_code 4 = .ok (.ireturn, 1) := by decide +kernel
theorem d_GM_forget_0 : decode prog_10_method_53_code 0 = .ok (.iconst 0, 1) := by decide +kernel
theorem d_GM_forget_1 : decode prog_10_method_53_code 1 = .ok (.istore_n 1, 1) := by decide +kernel
theorem d_GM_forget_2 : decode prog_10_method_53_code 2 = .ok (.iload_n 1, 1) := by decide +kernel
theorem d_GM_forget_3 : decode prog_10_method_53_code 3 = .ok (.bipush 12, 2) := by decide +kernel
theorem d_GM_forget_5 : decode prog_10_method_53_code 5 = .ok (.if_icmp .ge 16, 3) := by decide +kernel
theorem d_GM_forget_8 : decode prog_10_method_53_code 8 = .ok (.aload_n 0, 1) := by decide +kernel
theorem d_GM_forget_9 : decode prog_10_method_53_code 9 = .ok (.getfield 102, 3) := by decide +kernel
theorem d_GM_forget_12 : decode prog_10_method_53_code 12 = .ok (.iload_n 1, 1) := by decide +kernel
theorem d_GM_forget_13 : decode prog_10_method_53_code 13 = .ok (.iconst 0, 1) := by decide +kernel
theorem d_GM_forget_14 : decode prog_10_method_53_code 14 = .ok (.iastore, 1) := by decide +kernel
theorem d_GM_forget_15 : decode prog_10_method_53_code 15 = .ok (.iinc 1 1, 3) := by decide +kernel
theorem d_GM_forget_18 : decode prog_10_method_53_code 18 = .ok (.goto (-16), 3) := by decide +kernel
theorem d_GM_forget_21 : decode prog_10_method_53_code 21 = .ok (.iconst 0, 1) := by decide +kernel
theorem d_GM_forget_22 : decode prog_10_method_53_code 22 = .ok (.ireturn, 1) := by decide +kernel
theorem d_GM_clean_0 : decode prog_10_method_54_code 0 = .ok (.iconst 0, 1) := by decide +kernel
theorem d_GM_clean_1 : decode prog_10_method_54_code 1 = .ok (.istore_n 1, 1) := by decide +kernel
theorem d_GM_clean_2 : decode prog_10_method_54_code 2 = .ok (.iload_n 1, 1) := by decide +kernel
theorem d_GM_clean_3 : decode prog_10_method_54_code 3 = .ok (.sipush 768, 3) := by decide +kernel
theorem d_GM_clean_6 : decode prog_10_method_54_code 6 = .ok (.if_icmp .ge 16, 3) := by decide +kernel
theorem d_GM_clean_9 : decode prog_10_method_54_code 9 = .ok (.aload_n 0, 1) := by decide +kernel
theorem d_GM_clean_10 : decode prog_10_method_54_code 10 = .ok (.getfield 148, 3) := by decide +kernel
theorem d_GM_clean_13 : decode prog_10_method_54_code 13 = .ok (.iload_n 1, 1) := by decide +kernel
theorem d_GM_clean_14 : decode prog_10_method_54_code 14 = .ok (.iconst 0, 1) := by decide +kernel
theorem d_GM_clean_15 : decode prog_10_method_54_code 15 = .ok (.bastore, 1) := by decide +kernel
theorem d_GM_clean_16 : decode prog_10_method_54_code 16 = .ok (.iinc 1 1, 3) := by decide +kernel
theorem d_GM_clean_19 : decode prog_10_method_54_code 19 = .ok (.goto (-17), 3) := by decide +kernel
theorem d_GM_clean_22 : decode prog_10_method_54_code 22 = .ok (.iconst 0, 1) := by decide +kernel
theorem d_GM_clean_23 : decode prog_10_method_54_code 23 = .ok (.ireturn, 1) := by decide +kernel
theorem GM_c295 : jLk "GlyphCompilerModel" 295 Y_GM_beginSums := Or.inl (jin_t (jin_4 209 rfl) rfl)
theorem GM_c298 : jLk "GlyphCompilerModel" 298 Y_GM_replaceIn := Or.inl (jin_t (jin_4 213 rfl) rfl)
theorem GM_c301 : jLk "GlyphCompilerModel" 301 Y_GM_addSums := Or.inl (jin_t (jin_4 218 rfl) rfl)
theorem GM_f112 : jFl "GlyphCompilerModel" 112 8 33 := ⟨R_GM, T_GM, 46, rfl, Nat.le_of_ble_eq_true rfl, Or.inl (jin_t (jin_3 155 rfl) rfl)⟩
theorem GM_f115 : jFl "GlyphCompilerModel" 115 8 34 := ⟨R_GM, T_GM, 46, rfl, Nat.le_of_ble_eq_true rfl, Or.inl (jin_t (jin_3 156 rfl) rfl)⟩
theorem GM_k199 : Jvm.Cond.constantLong "GlyphCompilerModel" 199 (jL 65535) ∈ jTs := by rw [show jL 65535 = 65535 by decide]; exact (jin_t (jin_4 217 rfl) rfl)
theorem GM_c304 : jLk "GlyphCompilerModel" 304 Y_GM_over := Or.inl (jin_t (jin_4 230 rfl) rfl)
theorem GM_f19 : jFl "GlyphCompilerModel" 19 8 3 := ⟨R_GM, T_GM, 46, rfl, Nat.le_of_ble_eq_true rfl, Or.inl (jin_t (jin_3 125 rfl) rfl)⟩
theorem yk_GM_refresh : jYok Y_GM_refresh 1 := ⟨(jin_t (jin_4 208 rfl) rfl), (jin_t (jin_1 9 rfl) rfl), ⟨by decide +kernel, by decide +kernel⟩, by decide +kernel⟩
theorem yv_GM_refresh : Cond.instanceMethod (yN Y_GM_refresh) ∈ jTs ∧ Cond.selects (yN Y_GM_refresh).cls (yN Y_GM_refresh) (yN Y_GM_refresh) ∈ jTs := ⟨(jin_t (jin_4 207 rfl) rfl), (jin_p (List.mem_map.mpr ⟨(({ cls := "GlyphCompilerModel", name := "refresh", desc := "(I)V" } : Jvm.MethodName), 46), by decide +kernel, rfl⟩) rfl)⟩
theorem yk_GM_beginSums : jYok Y_GM_beginSums 0 := ⟨(jin_t (jin_4 212 rfl) rfl), (jin_t (jin_1 9 rfl) rfl), ⟨by decide +kernel, by decide +kernel⟩, by decide +kernel⟩
theorem yv_GM_beginSums : Cond.instanceMethod (yN Y_GM_beginSums) ∈ jTs ∧ Cond.selects (yN Y_GM_beginSums).cls (yN Y_GM_beginSums) (yN Y_GM_beginSums) ∈ jTs := ⟨(jin_t (jin_4 211 rfl) rfl), (jin_p (List.mem_map.mpr ⟨(({ cls := "GlyphCompilerModel", name := "beginSums", desc := "()V" } : Jvm.MethodName), 46), by decide +kernel, rfl⟩) rfl)⟩
theorem yk_GM_replaceIn : jYok Y_GM_replaceIn 3 := ⟨(jin_t (jin_4 216 rfl) rfl), (jin_t (jin_1 9 rfl) rfl), ⟨by decide +kernel, by decide +kernel⟩, by decide +kernel⟩
theorem yv_GM_replaceIn : Cond.instanceMethod (yN Y_GM_replaceIn) ∈ jTs ∧ Cond.selects (yN Y_GM_replaceIn).cls (yN Y_GM_replaceIn) (yN Y_GM_replaceIn) ∈ jTs := ⟨(jin_t (jin_4 215 rfl) rfl), (jin_p (List.mem_map.mpr ⟨(({ cls := "GlyphCompilerModel", name := "replaceIn", desc := "(III)V" } : Jvm.MethodName), 46), by decide +kernel, rfl⟩) rfl)⟩
theorem yk_GM_addSums : jYok Y_GM_addSums 1 := ⟨(jin_t (jin_4 221 rfl) rfl), (jin_t (jin_1 9 rfl) rfl), ⟨by decide +kernel, by decide +kernel⟩, by decide +kernel⟩
theorem yv_GM_addSums : Cond.instanceMethod (yN Y_GM_addSums) ∈ jTs ∧ Cond.selects (yN Y_GM_addSums).cls (yN Y_GM_addSums) (yN Y_GM_addSums) ∈ jTs := ⟨(jin_t (jin_4 220 rfl) rfl), (jin_p (List.mem_map.mpr ⟨(({ cls := "GlyphCompilerModel", name := "addSums", desc := "(I)V" } : Jvm.MethodName), 46), by decide +kernel, rfl⟩) rfl)⟩
theorem yk_GM_pivot : jYok Y_GM_pivot 1 := ⟨(jin_t (jin_4 225 rfl) rfl), (jin_t (jin_1 9 rfl) rfl), ⟨by decide +kernel, by decide +kernel⟩, by decide +kernel⟩
theorem yv_GM_pivot : Cond.instanceMethod (yN Y_GM_pivot) ∈ jTs ∧ Cond.selects (yN Y_GM_pivot).cls (yN Y_GM_pivot) (yN Y_GM_pivot) ∈ jTs := ⟨(jin_t (jin_4 224 rfl) rfl), (jin_p (List.mem_map.mpr ⟨(({ cls := "GlyphCompilerModel", name := "pivot", desc := "(I)I" } : Jvm.MethodName), 46), by decide +kernel, rfl⟩) rfl)⟩
theorem yk_GM_solve : jYok Y_GM_solve 1 := ⟨(jin_t (jin_4 229 rfl) rfl), (jin_t (jin_1 9 rfl) rfl), ⟨by decide +kernel, by decide +kernel⟩, by decide +kernel⟩
theorem yv_GM_solve : Cond.instanceMethod (yN Y_GM_solve) ∈ jTs ∧ Cond.selects (yN Y_GM_solve).cls (yN Y_GM_solve) (yN Y_GM_solve) ∈ jTs := ⟨(jin_t (jin_4 228 rfl) rfl), (jin_p (List.mem_map.mpr ⟨(({ cls := "GlyphCompilerModel", name := "solve", desc := "(I)V" } : Jvm.MethodName), 46), by decide +kernel, rfl⟩) rfl)⟩
theorem yk_GM_over : jYok Y_GM_over 2 := ⟨(jin_t (jin_4 233 rfl) rfl), (jin_t (jin_1 9 rfl) rfl), ⟨by decide +kernel, by decide +kernel⟩, by decide +kernel⟩
theorem yv_GM_over : Cond.instanceMethod (yN Y_GM_over) ∈ jTs ∧ Cond.selects (yN Y_GM_over).cls (yN Y_GM_over) (yN Y_GM_over) ∈ jTs := ⟨(jin_t (jin_4 232 rfl) rfl), (jin_p (List.mem_map.mpr ⟨(({ cls := "GlyphCompilerModel", name := "over", desc := "(JJ)J" } : Jvm.MethodName), 46), by decide +kernel, rfl⟩) rfl)⟩
theorem yk_GM_place : jYok Y_GM_place 0 := ⟨(jin_t (jin_4 237 rfl) rfl), (jin_t (jin_1 9 rfl) rfl), ⟨by decide +kernel, by decide +kernel⟩, by decide +kernel⟩
theorem yv_GM_place : Cond.instanceMethod (yN Y_GM_place) ∈ jTs ∧ Cond.selects (yN Y_GM_place).cls (yN Y_GM_place) (yN Y_GM_place) ∈ jTs := ⟨(jin_t (jin_4 235 rfl) rfl), (jin_t (jin_4 236 rfl) rfl)⟩
theorem yk_GM_forget : jYok Y_GM_forget 0 := ⟨(jin_t (jin_5 1 rfl) rfl), (jin_t (jin_1 9 rfl) rfl), ⟨by decide +kernel, by decide +kernel⟩, by decide +kernel⟩
theorem yv_GM_forget : Cond.instanceMethod (yN Y_GM_forget) ∈ jTs ∧ Cond.selects (yN Y_GM_forget).cls (yN Y_GM_forget) (yN Y_GM_forget) ∈ jTs := ⟨(jin_t (jin_4 239 rfl) rfl), (jin_t (jin_5 0 rfl) rfl)⟩
theorem yk_GM_clean : jYok Y_GM_clean 0 := ⟨(jin_t (jin_5 5 rfl) rfl), (jin_t (jin_1 9 rfl) rfl), ⟨by decide +kernel, by decide +kernel⟩, by decide +kernel⟩
theorem yv_GM_clean : Cond.instanceMethod (yN Y_GM_clean) ∈ jTs ∧ Cond.selects (yN Y_GM_clean).cls (yN Y_GM_clean) (yN Y_GM_clean) ∈ jTs := ⟨(jin_t (jin_5 3 rfl) rfl), (jin_t (jin_5 4 rfl) rfl)⟩

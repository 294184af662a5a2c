theorem d_GM_kept_0 : decode prog_10_method_13_code 0 = .ok (.lload_n 1, 1) := by decide +kernel
theorem d_GM_kept_1 : decode prog_10_method_13_code 1 = .ok (.ldc2_w 179, 3) := by decide +kernel
theorem d_GM_kept_4 : decode prog_10_method_13_code 4 = .ok (.lcmp, 1) := by decide +kernel
theorem d_GM_kept_5 : decode prog_10_method_13_code 5 = .ok (.ifCond .gt 11, 3) := by decide +kernel
theorem d_GM_kept_8 : decode prog_10_method_13_code 8 = .ok (.lload_n 1, 1) := by decide +kernel
theorem d_GM_kept_9 : decode prog_10_method_13_code 9 = .ok (.ldc2_w 181, 3) := by decide +kernel
theorem d_GM_kept_12 : decode prog_10_method_13_code 12 = .ok (.lcmp, 1) := by decide +kernel
theorem d_GM_kept_13 : decode prog_10_method_13_code 13 = .ok (.ifCond .ge 10, 3) := by decide +kernel
theorem d_GM_kept_16 : decode prog_10_method_13_code 16 = .ok (.aload_n 0, 1) := by decide +kernel
theorem d_GM_kept_17 : decode prog_10_method_13_code 17 = .ok (.iconst 1, 1) := by decide +kernel
theorem d_GM_kept_18 : decode prog_10_method_13_code 18 = .ok (.putfield 55, 3) := by decide +kernel
theorem d_GM_kept_21 : decode prog_10_method_13_code 21 = .ok (.lconst 0, 1) := by decide +kernel
theorem d_GM_kept_22 : decode prog_10_method_13_code 22 = .ok (.lreturn, 1) := by decide +kernel
theorem d_GM_kept_23 : decode prog_10_method_13_code 23 = .ok (.lload_n 1, 1) := by decide +kernel
theorem d_GM_kept_24 : decode prog_10_method_13_code 24 = .ok (.lreturn, 1) := by decide +kernel
theorem d_GM_addForm_0 : decode prog_10_method_17_code 0 = .ok (.iconst 0, 1) := by decide +kernel
theorem d_GM_addForm_1 : decode prog_10_method_17_code 1 = .ok (.istore 4, 2) := by decide +kernel
theorem d_GM_addForm_3 : decode prog_10_method_17_code 3 = .ok (.iload 4, 2) := by decide +kernel
theorem d_GM_addForm_5 : decode prog_10_method_17_code 5 = .ok (.bipush 13, 2) := by decide +kernel
theorem d_GM_addForm_7 : decode prog_10_method_17_code 7 = .ok (.if_icmp .ge 39, 3) := by decide +kernel
theorem d_GM_addForm_10 : decode prog_10_method_17_code 10 = .ok (.aload_n 0, 1) := by decide +kernel
theorem d_GM_addForm_11 : decode prog_10_method_17_code 11 = .ok (.getfield 118, 3) := by decide +kernel
theorem d_GM_addForm_14 : decode prog_10_method_17_code 14 = .ok (.iload_n 1, 1) := by decide +kernel
theorem d_GM_addForm_15 : decode prog_10_method_17_code 15 = .ok (.bipush 13, 2) := by decide +kernel
theorem d_GM_addForm_17 : decode prog_10_method_17_code 17 = .ok (.imul, 1) := by decide +kernel
theorem d_GM_addForm_18 : decode prog_10_method_17_code 18 = .ok (.iload 4, 2) := by decide +kernel
theorem d_GM_addForm_20 : decode prog_10_method_17_code 20 = .ok (.iadd, 1) := by decide +kernel
theorem d_GM_addForm_21 : decode prog_10_method_17_code 21 = .ok (.dup2, 1) := by decide +kernel
theorem d_GM_addForm_22 : decode prog_10_method_17_code 22 = .ok (.laload, 1) := by decide +kernel
theorem d_GM_addForm_23 : decode prog_10_method_17_code 23 = .ok (.iload_n 3, 1) := by decide +kernel
theorem d_GM_addForm_24 : decode prog_10_method_17_code 24 = .ok (.i2l, 1) := by decide +kernel
theorem d_GM_addForm_25 : decode prog_10_method_17_code 25 = .ok (.aload_n 0, 1) := by decide +kernel
theorem d_GM_addForm_26 : decode prog_10_method_17_code 26 = .ok (.getfield 118, 3) := by decide +kernel
theorem d_GM_addForm_29 : decode prog_10_method_17_code 29 = .ok (.iload_n 2, 1) := by decide +kernel
theorem d_GM_addForm_30 : decode prog_10_method_17_code 30 = .ok (.bipush 13, 2) := by decide +kernel
theorem d_GM_addForm_32 : decode prog_10_method_17_code 32 = .ok (.imul, 1) := by decide +kernel
theorem d_GM_addForm_33 : decode prog_10_method_17_code 33 = .ok (.iload 4, 2) := by decide +kernel
theorem d_GM_addForm_35 : decode prog_10_method_17_code 35 = .ok (.iadd, 1) := by decide +kernel
theorem d_GM_addForm_36 : decode prog_10_method_17_code 36 = .ok (.laload, 1) := by decide +kernel
theorem d_GM_addForm_37 : decode prog_10_method_17_code 37 = .ok (.lmul, 1) := by decide +kernel
theorem d_GM_addForm_38 : decode prog_10_method_17_code 38 = .ok (.ladd, 1) := by decide +kernel
theorem d_GM_addForm_39 : decode prog_10_method_17_code 39 = .ok (.lastore, 1) := by decide +kernel
theorem d_GM_addForm_40 : decode prog_10_method_17_code 40 = .ok (.iinc 4 1, 3) := by decide +kernel
theorem d_GM_addForm_43 : decode prog_10_method_17_code 43 = .ok (.goto (-40), 3) := by decide +kernel
theorem d_GM_addForm_46 : decode prog_10_method_17_code 46 = .ok (.return_, 1) := by decide +kernel
theorem d_GM_check_0 : decode prog_10_method_18_code 0 = .ok (.iconst 0, 1) := by decide +kernel
theorem d_GM_check_1 : decode prog_10_method_18_code 1 = .ok (.istore_n 2, 1) := by decide +kernel
theorem d_GM_check_2 : decode prog_10_method_18_code 2 = .ok (.iload_n 2, 1) := by decide +kernel
theorem d_GM_check_3 : decode prog_10_method_18_code 3 = .ok (.bipush 13, 2) := by decide +kernel
theorem d_GM_check_5 : decode prog_10_method_18_code 5 = .ok (.if_icmp .ge 35, 3) := by decide +kernel
theorem d_GM_check_8 : decode prog_10_method_18_code 8 = .ok (.aload_n 0, 1) := by decide +kernel
theorem d_GM_check_9 : decode prog_10_method_18_code 9 = .ok (.getfield 118, 3) := by decide +kernel
theorem d_GM_check_12 : decode prog_10_method_18_code 12 = .ok (.iload_n 1, 1) := by decide +kernel
theorem d_GM_check_13 : decode prog_10_method_18_code 13 = .ok (.bipush 13, 2) := by decide +kernel
theorem d_GM_check_15 : decode prog_10_method_18_code 15 = .ok (.imul, 1) := by decide +kernel
theorem d_GM_check_16 : decode prog_10_method_18_code 16 = .ok (.iload_n 2, 1) := by decide +kernel
theorem d_GM_check_17 : decode prog_10_method_18_code 17 = .ok (.iadd, 1) := by decide +kernel
theorem d_GM_check_18 : decode prog_10_method_18_code 18 = .ok (.aload_n 0, 1) := by decide +kernel
theorem d_GM_check_19 : decode prog_10_method_18_code 19 = .ok (.aload_n 0, 1) := by decide +kernel
theorem d_GM_check_20 : decode prog_10_method_18_code 20 = .ok (.getfield 118, 3) := by decide +kernel
theorem d_GM_check_23 : decode prog_10_method_18_code 23 = .ok (.iload_n 1, 1) := by decide +kernel
theorem d_GM_check_24 : decode prog_10_method_18_code 24 = .ok (.bipush 13, 2) := by decide +kernel
theorem d_GM_check_26 : decode prog_10_method_18_code 26 = .ok (.imul, 1) := by decide +kernel
theorem d_GM_check_27 : decode prog_10_method_18_code 27 = .ok (.iload_n 2, 1) := by decide +kernel
theorem d_GM_check_28 : decode prog_10_method_18_code 28 = .ok (.iadd, 1) := by decide +kernel
theorem d_GM_check_29 : decode prog_10_method_18_code 29 = .ok (.laload, 1) := by decide +kernel
theorem d_GM_check_30 : decode prog_10_method_18_code 30 = .ok (.invokevirtual 185, 3) := by decide +kernel
theorem d_GM_check_33 : decode prog_10_method_18_code 33 = .ok (.lastore, 1) := by decide +kernel
theorem d_GM_check_34 : decode prog_10_method_18_code 34 = .ok (.iinc 2 1, 3) := by decide +kernel
theorem d_GM_check_37 : decode prog_10_method_18_code 37 = .ok (.goto (-35), 3) := by decide +kernel
theorem d_GM_check_40 : decode prog_10_method_18_code 40 = .ok (.return_, 1) := by decide +kernel
theorem d_GM_need_0 : decode prog_10_method_27_code 0 = .ok (.aload_n 0, 1) := by decide +kernel
theorem d_GM_need_1 : decode prog_10_method_27_code 1 = .ok (.getfield 25, 3) := by decide +kernel
theorem d_GM_need_4 : decode prog_10_method_27_code 4 = .ok (.ifCond .eq 4, 3) := by decide +kernel
theorem d_GM_need_7 : decode prog_10_method_27_code 7 = .ok (.return_, 1) := by decide +kernel
theorem d_GM_need_8 : decode prog_10_method_27_code 8 = .ok (.aload_n 0, 1) := by decide +kernel
theorem d_GM_need_9 : decode prog_10_method_27_code 9 = .ok (.iload_n 1, 1) := by decide +kernel
theorem d_GM_need_10 : decode prog_10_method_27_code 10 = .ok (.invokevirtual 201, 3) := by decide +kernel
theorem d_GM_need_13 : decode prog_10_method_27_code 13 = .ok (.ifCond .eq 16, 3) := by decide +kernel
theorem d_GM_need_16 : decode prog_10_method_27_code 16 = .ok (.aload_n 0, 1) := by decide +kernel
theorem d_GM_need_17 : decode prog_10_method_27_code 17 = .ok (.dup, 1) := by decide +kernel
theorem d_GM_need_18 : decode prog_10_method_27_code 18 = .ok (.getfield 22, 3) := by decide +kernel
theorem d_GM_need_21 : decode prog_10_method_27_code 21 = .ok (.iconst 1, 1) := by decide +kernel
theorem d_GM_need_22 : decode prog_10_method_27_code 22 = .ok (.iadd, 1) := by decide +kernel
theorem d_GM_need_23 : decode prog_10_method_27_code 23 = .ok (.putfield 22, 3) := by decide +kernel
theorem d_GM_need_26 : decode prog_10_method_27_code 26 = .ok (.goto 7, 3) := by decide +kernel
theorem d_GM_need_29 : decode prog_10_method_27_code 29 = .ok (.aload_n 0, 1) := by decide +kernel
theorem d_GM_need_30 : decode prog_10_method_27_code 30 = .ok (.invokevirtual 205, 3) := by decide +kernel
theorem d_GM_need_33 : decode prog_10_method_27_code 33 = .ok (.return_, 1) := by decide +kernel
theorem d_GM_finishBetween_0 : decode prog_10_method_32_code 0 = .ok (.aload_n 0, 1) := by decide +kernel
theorem d_GM_finishBetween_1 : decode prog_10_method_32_code 1 = .ok (.dup, 1) := by decide +kernel
theorem d_GM_finishBetween_2 : decode prog_10_method_32_code 2 = .ok (.getfield 49, 3) := by decide +kernel
theorem d_GM_finishBetween_5 : decode prog_10_method_32_code 5 = .ok (.iconst 1, 1) := by decide +kernel
theorem d_GM_finishBetween_6 : decode prog_10_method_32_code 6 = .ok (.isub, 1) := by decide +kernel
theorem d_GM_finishBetween_7 : decode prog_10_method_32_code 7 = .ok (.putfield 49, 3) := by decide +kernel
theorem d_GM_finishBetween_10 : decode prog_10_method_32_code 10 = .ok (.aload_n 0, 1) := by decide +kernel
theorem d_GM_finishBetween_11 : decode prog_10_method_32_code 11 = .ok (.dup, 1) := by decide +kernel
theorem d_GM_finishBetween_12 : decode prog_10_method_32_code 12 = .ok (.getfield 37, 3) := by decide +kernel
theorem d_GM_finishBetween_15 : decode prog_10_method_32_code 15 = .ok (.iconst 1, 1) := by decide +kernel
theorem d_GM_finishBetween_16 : decode prog_10_method_32_code 16 = .ok (.isub, 1) := by decide +kernel
theorem d_GM_finishBetween_17 : decode prog_10_method_32_code 17 = .ok (.putfield 37, 3) := by decide +kernel
theorem d_GM_finishBetween_20 : decode prog_10_method_32_code 20 = .ok (.aload_n 0, 1) := by decide +kernel
theorem d_GM_finishBetween_21 : decode prog_10_method_32_code 21 = .ok (.getfield 127, 3) := by decide +kernel
theorem d_GM_finishBetween_24 : decode prog_10_method_32_code 24 = .ok (.aload_n 0, 1) := by decide +kernel
theorem d_GM_finishBetween_25 : decode prog_10_method_32_code 25 = .ok (.getfield 49, 3) := by decide +kernel
theorem d_GM_finishBetween_28 : decode prog_10_method_32_code 28 = .ok (.laload, 1) := by decide +kernel
theorem d_GM_finishBetween_29 : decode prog_10_method_32_code 29 = .ok (.ldc2_w 211, 3) := by decide +kernel
theorem d_GM_finishBetween_32 : decode prog_10_method_32_code 32 = .ok (.ldiv, 1) := by decide +kernel
theorem d_GM_finishBetween_33 : decode prog_10_method_32_code 33 = .ok (.lstore_n 1, 1) := by decide +kernel
theorem d_GM_finishBetween_34 : decode prog_10_method_32_code 34 = .ok (.iconst 0, 1) := by decide +kernel
theorem d_GM_finishBetween_35 : decode prog_10_method_32_code 35 = .ok (.istore_n 3, 1) := by decide +kernel
theorem d_GM_finishBetween_36 : decode prog_10_method_32_code 36 = .ok (.iload_n 3, 1) := by decide +kernel
theorem d_GM_finishBetween_37 : decode prog_10_method_32_code 37 = .ok (.bipush 13, 2) := by decide +kernel
theorem d_GM_finishBetween_39 : decode prog_10_method_32_code 39 = .ok (.if_icmp .ge 101, 3) := by decide +kernel
theorem d_GM_finishBetween_42 : decode prog_10_method_32_code 42 = .ok (.aload_n 0, 1) := by decide +kernel
theorem d_GM_finishBetween_43 : decode prog_10_method_32_code 43 = .ok (.getfield 118, 3) := by decide +kernel
theorem d_GM_finishBetween_46 : decode prog_10_method_32_code 46 = .ok (.sipush 299, 3) := by decide +kernel
theorem d_GM_finishBetween_49 : decode prog_10_method_32_code 49 = .ok (.aload_n 0, 1) := by decide +kernel
theorem d_GM_finishBetween_50 : decode prog_10_method_32_code 50 = .ok (.getfield 37, 3) := by decide +kernel
theorem d_GM_finishBetween_53 : decode prog_10_method_32_code 53 = .ok (.iadd, 1) := by decide +kernel
theorem d_GM_finishBetween_54 : decode prog_10_method_32_code 54 = .ok (.bipush 13, 2) := by decide +kernel
theorem d_GM_finishBetween_56 : decode prog_10_method_32_code 56 = .ok (.imul, 1) := by decide +kernel
theorem d_GM_finishBetween_57 : decode prog_10_method_32_code 57 = .ok (.iload_n 3, 1) := by decide +kernel
theorem d_GM_finishBetween_58 : decode prog_10_method_32_code 58 = .ok (.iadd, 1) := by decide +kernel
theorem d_GM_finishBetween_59 : decode prog_10_method_32_code 59 = .ok (.laload, 1) := by decide +kernel
theorem d_GM_finishBetween_60 : decode prog_10_method_32_code 60 = .ok (.lstore 4, 2) := by decide +kernel
theorem d_GM_finishBetween_62 : decode prog_10_method_32_code 62 = .ok (.aload_n 0, 1) := by decide +kernel
theorem d_GM_finishBetween_63 : decode prog_10_method_32_code 63 = .ok (.getfield 118, 3) := by decide +kernel
theorem d_GM_finishBetween_66 : decode prog_10_method_32_code 66 = .ok (.sipush 300, 3) := by decide +kernel
theorem d_GM_finishBetween_69 : decode prog_10_method_32_code 69 = .ok (.aload_n 0, 1) := by decide +kernel
theorem d_GM_finishBetween_70 : decode prog_10_method_32_code 70 = .ok (.getfield 37, 3) := by decide +kernel
theorem d_GM_finishBetween_73 : decode prog_10_method_32_code 73 = .ok (.iadd, 1) := by decide +kernel
theorem d_GM_finishBetween_74 : decode prog_10_method_32_code 74 = .ok (.bipush 13, 2) := by decide +kernel
theorem d_GM_finishBetween_76 : decode prog_10_method_32_code 76 = .ok (.imul, 1) := by decide +kernel
theorem d_GM_finishBetween_77 : decode prog_10_method_32_code 77 = .ok (.iload_n 3, 1) := by decide +kernel
theorem d_GM_finishBetween_78 : decode prog_10_method_32_code 78 = .ok (.iadd, 1) := by decide +kernel
theorem d_GM_finishBetween_79 : decode prog_10_method_32_code 79 = .ok (.laload, 1) := by decide +kernel
theorem d_GM_finishBetween_80 : decode prog_10_method_32_code 80 = .ok (.lload 4, 2) := by decide +kernel
theorem d_GM_finishBetween_82 : decode prog_10_method_32_code 82 = .ok (.lsub, 1) := by decide +kernel
theorem d_GM_finishBetween_83 : decode prog_10_method_32_code 83 = .ok (.lload_n 1, 1) := by decide +kernel
theorem d_GM_finishBetween_84 : decode prog_10_method_32_code 84 = .ok (.lmul, 1) := by decide +kernel
theorem d_GM_finishBetween_85 : decode prog_10_method_32_code 85 = .ok (.lstore 6, 2) := by decide +kernel
theorem d_GM_finishBetween_87 : decode prog_10_method_32_code 87 = .ok (.lload 6, 2) := by decide +kernel
theorem d_GM_finishBetween_89 : decode prog_10_method_32_code 89 = .ok (.ldc2_w 229, 3) := by decide +kernel
theorem d_GM_finishBetween_92 : decode prog_10_method_32_code 92 = .ok (.lrem, 1) := by decide +kernel
theorem d_GM_finishBetween_93 : decode prog_10_method_32_code 93 = .ok (.lconst 0, 1) := by decide +kernel
theorem d_GM_finishBetween_94 : decode prog_10_method_32_code 94 = .ok (.lcmp, 1) := by decide +kernel
theorem d_GM_finishBetween_95 : decode prog_10_method_32_code 95 = .ok (.ifCond .eq 8, 3) := by decide +kernel
theorem d_GM_finishBetween_98 : decode prog_10_method_32_code 98 = .ok (.aload_n 0, 1) := by decide +kernel
theorem d_GM_finishBetween_99 : decode prog_10_method_32_code 99 = .ok (.iconst 1, 1) := by decide +kernel
theorem d_GM_finishBetween_100 : decode prog_10_method_32_code 100 = .ok (.putfield 55, 3) := by decide +kernel
theorem d_GM_finishBetween_103 : decode prog_10_method_32_code 103 = .ok (.aload_n 0, 1) := by decide +kernel
theorem d_GM_finishBetween_104 : decode prog_10_method_32_code 104 = .ok (.getfield 118, 3) := by decide +kernel
theorem d_GM_finishBetween_107 : decode prog_10_method_32_code 107 = .ok (.sipush 299, 3) := by decide +kernel
theorem d_GM_finishBetween_110 : decode prog_10_method_32_code 110 = .ok (.aload_n 0, 1) := by decide +kernel
theorem d_GM_finishBetween_111 : decode prog_10_method_32_code 111 = .ok (.getfield 37, 3) := by decide +kernel
theorem d_GM_finishBetween_114 : decode prog_10_method_32_code 114 = .ok (.iadd, 1) := by decide +kernel
theorem d_GM_finishBetween_115 : decode prog_10_method_32_code 115 = .ok (.bipush 13, 2) := by decide +kernel
theorem d_GM_finishBetween_117 : decode prog_10_method_32_code 117 = .ok (.imul, 1) := by decide +kernel
theorem d_GM_finishBetween_118 : decode prog_10_method_32_code 118 = .ok (.iload_n 3, 1) := by decide +kernel
theorem d_GM_finishBetween_119 : decode prog_10_method_32_code 119 = .ok (.iadd, 1) := by decide +kernel
theorem d_GM_finishBetween_120 : decode prog_10_method_32_code 120 = .ok (.aload_n 0, 1) := by decide +kernel
theorem d_GM_finishBetween_121 : decode prog_10_method_32_code 121 = .ok (.lload 4, 2) := by decide +kernel
theorem d_GM_finishBetween_123 : decode prog_10_method_32_code 123 = .ok (.lload 6, 2) := by decide +kernel
theorem d_GM_finishBetween_125 : decode prog_10_method_32_code 125 = .ok (.ldc2_w 229, 3) := by decide +kernel
theorem d_GM_finishBetween_128 : decode prog_10_method_32_code 128 = .ok (.ldiv, 1) := by decide +kernel
theorem d_GM_finishBetween_129 : decode prog_10_method_32_code 129 = .ok (.ladd, 1) := by decide +kernel
theorem d_GM_finishBetween_130 : decode prog_10_method_32_code 130 = .ok (.invokevirtual 185, 3) := by decide +kernel
theorem d_GM_finishBetween_133 : decode prog_10_method_32_code 133 = .ok (.lastore, 1) := by decide +kernel
theorem d_GM_finishBetween_134 : decode prog_10_method_32_code 134 = .ok (.iinc 3 1, 3) := by decide +kernel
theorem d_GM_finishBetween_137 : decode prog_10_method_32_code 137 = .ok (.goto (-101), 3) := by decide +kernel
theorem d_GM_finishBetween_140 : decode prog_10_method_32_code 140 = .ok (.return_, 1) := by decide +kernel
theorem d_GM_copyForm_0 : decode prog_10_method_16_code 0 = .ok (.iconst 0, 1) := by decide +kernel
theorem d_GM_copyForm_1 : decode prog_10_method_16_code 1 = .ok (.istore_n 3, 1) := by decide +kernel
theorem d_GM_copyForm_2 : decode prog_10_method_16_code 2 = .ok (.iload_n 3, 1) := by decide +kernel
theorem d_GM_copyForm_3 : decode prog_10_method_16_code 3 = .ok (.bipush 13, 2) := by decide +kernel
theorem d_GM_copyForm_5 : decode prog_10_method_16_code 5 = .ok (.if_icmp .ge 31, 3) := by decide +kernel
theorem d_GM_copyForm_8 : decode prog_10_method_16_code 8 = .ok (.aload_n 0, 1) := by decide +kernel
theorem d_GM_copyForm_9 : decode prog_10_method_16_code 9 = .ok (.getfield 118, 3) := by decide +kernel
theorem d_GM_copyForm_12 : decode prog_10_method_16_code 12 = .ok (.iload_n 1, 1) := by decide +kernel
theorem d_GM_copyForm_13 : decode prog_10_method_16_code 13 = .ok (.bipush 13, 2) := by decide +kernel
theorem d_GM_copyForm_15 : decode prog_10_method_16_code 15 = .ok (.imul, 1) := by decide +kernel
theorem d_GM_copyForm_16 : decode prog_10_method_16_code 16 = .ok (.iload_n 3, 1) := by decide +kernel
theorem d_GM_copyForm_17 : decode prog_10_method_16_code 17 = .ok (.iadd, 1) := by decide +kernel
theorem d_GM_copyForm_18 : decode prog_10_method_16_code 18 = .ok (.aload_n 0, 1) := by decide +kernel
theorem d_GM_copyForm_19 : decode prog_10_method_16_code 19 = .ok (.getfield 118, 3) := by decide +kernel
theorem d_GM_copyForm_22 : decode prog_10_method_16_code 22 = .ok (.iload_n 2, 1) := by decide +kernel
theorem d_GM_copyForm_23 : decode prog_10_method_16_code 23 = .ok (.bipush 13, 2) := by decide +kernel
theorem d_GM_copyForm_25 : decode prog_10_method_16_code 25 = .ok (.imul, 1) := by decide +kernel
theorem d_GM_copyForm_26 : decode prog_10_method_16_code 26 = .ok (.iload_n 3, 1) := by decide +kernel
theorem d_GM_copyForm_27 : decode prog_10_method_16_code 27 = .ok (.iadd, 1) := by decide +kernel
theorem d_GM_copyForm_28 : decode prog_10_method_16_code 28 = .ok (.laload, 1) := by decide +kernel
theorem d_GM_copyForm_29 : decode prog_10_method_16_code 29 = .ok (.lastore, 1) := by decide +kernel
theorem d_GM_copyForm_30 : decode prog_10_method_16_code 30 = .ok (.iinc 3 1, 3) := by decide +kernel
theorem d_GM_copyForm_33 : decode prog_10_method_16_code 33 = .ok (.goto (-31), 3) := by decide +kernel
theorem d_GM_copyForm_36 : decode prog_10_method_16_code 36 = .ok (.return_, 1) := by decide +kernel
theorem d_GM_isNumber_0 : decode prog_10_method_21_code 0 = .ok (.iconst 0, 1) := by decide +kernel
theorem d_GM_isNumber_1 : decode prog_10_method_21_code 1 = .ok (.istore_n 2, 1) := by decide +kernel
theorem d_GM_isNumber_2 : decode prog_10_method_21_code 2 = .ok (.iload_n 2, 1) := by decide +kernel
theorem d_GM_isNumber_3 : decode prog_10_method_21_code 3 = .ok (.bipush 12, 2) := by decide +kernel
theorem d_GM_isNumber_5 : decode prog_10_method_21_code 5 = .ok (.if_icmp .ge 27, 3) := by decide +kernel
theorem d_GM_isNumber_8 : decode prog_10_method_21_code 8 = .ok (.aload_n 0, 1) := by decide +kernel
theorem d_GM_isNumber_9 : decode prog_10_method_21_code 9 = .ok (.getfield 118, 3) := by decide +kernel
theorem d_GM_isNumber_12 : decode prog_10_method_21_code 12 = .ok (.iload_n 1, 1) := by decide +kernel
theorem d_GM_isNumber_13 : decode prog_10_method_21_code 13 = .ok (.bipush 13, 2) := by decide +kernel
theorem d_GM_isNumber_15 : decode prog_10_method_21_code 15 = .ok (.imul, 1) := by decide +kernel
theorem d_GM_isNumber_16 : decode prog_10_method_21_code 16 = .ok (.iload_n 2, 1) := by decide +kernel
theorem d_GM_isNumber_17 : decode prog_10_method_21_code 17 = .ok (.iadd, 1) := by decide +kernel
theorem d_GM_isNumber_18 : decode prog_10_method_21_code 18 = .ok (.laload, 1) := by decide +kernel
theorem d_GM_isNumber_19 : decode prog_10_method_21_code 19 = .ok (.lconst 0, 1) := by decide +kernel
theorem d_GM_isNumber_20 : decode prog_10_method_21_code 20 = .ok (.lcmp, 1) := by decide +kernel
theorem d_GM_isNumber_21 : decode prog_10_method_21_code 21 = .ok (.ifCond .eq 5, 3) := by decide +kernel
theorem d_GM_isNumber_24 : decode prog_10_method_21_code 24 = .ok (.iconst 0, 1) := by decide +kernel
theorem d_GM_isNumber_25 : decode prog_10_method_21_code 25 = .ok (.ireturn, 1) := by decide +kernel
theorem d_GM_isNumber_26 : decode prog_10_method_21_code 26 = .ok (.iinc 2 1, 3) := by decide +kernel
theorem d_GM_isNumber_29 : decode prog_10_method_21_code 29 = .ok (.goto (-27), 3) := by decide +kernel
theorem d_GM_isNumber_32 : decode prog_10_method_21_code 32 = .ok (.iconst 1, 1) := by decide +kernel
theorem d_GM_isNumber_33 : decode prog_10_method_21_code 33 = .ok (.ireturn, 1) := by decide +kernel
theorem d_GM_path_0 : decode prog_10_method_35_code 0 = .ok (.aload_n 0, 1) := by decide +kernel
theorem d_GM_path_1 : decode prog_10_method_35_code 1 = .ok (.dup, 1) := by decide +kernel
theorem d_GM_path_2 : decode prog_10_method_35_code 2 = .ok (.getfield 22, 3) := by decide +kernel
theorem d_GM_path_5 : decode prog_10_method_35_code 5 = .ok (.iconst 1, 1) := by decide +kernel
theorem d_GM_path_6 : decode prog_10_method_35_code 6 = .ok (.iadd, 1) := by decide +kernel
theorem d_GM_path_7 : decode prog_10_method_35_code 7 = .ok (.putfield 22, 3) := by decide +kernel
theorem d_GM_path_10 : decode prog_10_method_35_code 10 = .ok (.aload_n 0, 1) := by decide +kernel
theorem d_GM_path_11 : decode prog_10_method_35_code 11 = .ok (.iconst 0, 1) := by decide +kernel
theorem d_GM_path_12 : decode prog_10_method_35_code 12 = .ok (.putfield 43, 3) := by decide +kernel
theorem d_GM_path_15 : decode prog_10_method_35_code 15 = .ok (.aload_n 0, 1) := by decide +kernel
theorem d_GM_path_16 : decode prog_10_method_35_code 16 = .ok (.iconst 0, 1) := by decide +kernel
theorem d_GM_path_17 : decode prog_10_method_35_code 17 = .ok (.putfield 46, 3) := by decide +kernel
theorem d_GM_path_20 : decode prog_10_method_35_code 20 = .ok (.aload_n 0, 1) := by decide +kernel
theorem d_GM_path_21 : decode prog_10_method_35_code 21 = .ok (.invokevirtual 253, 3) := by decide +kernel
theorem d_GM_path_24 : decode prog_10_method_35_code 24 = .ok (.aload_n 0, 1) := by decide +kernel
theorem d_GM_path_25 : decode prog_10_method_35_code 25 = .ok (.getfield 25, 3) := by decide +kernel
theorem d_GM_path_28 : decode prog_10_method_35_code 28 = .ok (.ifCond .ne 176, 3) := by decide +kernel
theorem d_GM_path_31 : decode prog_10_method_35_code 31 = .ok (.aload_n 0, 1) := by decide +kernel
theorem d_GM_path_32 : decode prog_10_method_35_code 32 = .ok (.bipush 8, 2) := by decide +kernel
theorem d_GM_path_34 : decode prog_10_method_35_code 34 = .ok (.invokevirtual 201, 3) := by decide +kernel
theorem d_GM_path_37 : decode prog_10_method_35_code 37 = .ok (.ifCond .eq 21, 3) := by decide +kernel
theorem d_GM_path_40 : decode prog_10_method_35_code 40 = .ok (.aload_n 0, 1) := by decide +kernel
theorem d_GM_path_41 : decode prog_10_method_35_code 41 = .ok (.aload_n 0, 1) := by decide +kernel
theorem d_GM_path_42 : decode prog_10_method_35_code 42 = .ok (.getfield 22, 3) := by decide +kernel
theorem d_GM_path_45 : decode prog_10_method_35_code 45 = .ok (.iconst 1, 1) := by decide +kernel
theorem d_GM_path_46 : decode prog_10_method_35_code 46 = .ok (.iadd, 1) := by decide +kernel
theorem d_GM_path_47 : decode prog_10_method_35_code 47 = .ok (.bipush 9, 2) := by decide +kernel
theorem d_GM_path_49 : decode prog_10_method_35_code 49 = .ok (.invokevirtual 156, 3) := by decide +kernel
theorem d_GM_path_52 : decode prog_10_method_35_code 52 = .ok (.ifCond .eq 6, 3) := by decide +kernel
theorem d_GM_path_55 : decode prog_10_method_35_code 55 = .ok (.goto 149, 3) := by decide +kernel
theorem d_GM_path_58 : decode prog_10_method_35_code 58 = .ok (.aload_n 0, 1) := by decide +kernel
theorem d_GM_path_59 : decode prog_10_method_35_code 59 = .ok (.bipush 7, 2) := by decide +kernel
theorem d_GM_path_61 : decode prog_10_method_35_code 61 = .ok (.invokevirtual 201, 3) := by decide +kernel
theorem d_GM_path_64 : decode prog_10_method_35_code 64 = .ok (.istore_n 2, 1) := by decide +kernel
theorem d_GM_path_65 : decode prog_10_method_35_code 65 = .ok (.iload_n 2, 1) := by decide +kernel
theorem d_GM_path_66 : decode prog_10_method_35_code 66 = .ok (.ifCond .ne 17, 3) := by decide +kernel
theorem d_GM_path_69 : decode prog_10_method_35_code 69 = .ok (.aload_n 0, 1) := by decide +kernel
theorem d_GM_path_70 : decode prog_10_method_35_code 70 = .ok (.bipush 8, 2) := by decide +kernel
theorem d_GM_path_72 : decode prog_10_method_35_code 72 = .ok (.invokevirtual 201, 3) := by decide +kernel
theorem d_GM_path_75 : decode prog_10_method_35_code 75 = .ok (.ifCond .ne 8, 3) := by decide +kernel
theorem d_GM_path_78 : decode prog_10_method_35_code 78 = .ok (.aload_n 0, 1) := by decide +kernel
theorem d_GM_path_79 : decode prog_10_method_35_code 79 = .ok (.invokevirtual 205, 3) := by decide +kernel
theorem d_GM_path_82 : decode prog_10_method_35_code 82 = .ok (.return_, 1) := by decide +kernel
theorem d_GM_path_83 : decode prog_10_method_35_code 83 = .ok (.aload_n 0, 1) := by decide +kernel
theorem d_GM_path_84 : decode prog_10_method_35_code 84 = .ok (.dup, 1) := by decide +kernel
theorem d_GM_path_85 : decode prog_10_method_35_code 85 = .ok (.getfield 46, 3) := by decide +kernel
theorem d_GM_path_88 : decode prog_10_method_35_code 88 = .ok (.iconst 1, 1) := by decide +kernel
theorem d_GM_path_89 : decode prog_10_method_35_code 89 = .ok (.iadd, 1) := by decide +kernel
theorem d_GM_path_90 : decode prog_10_method_35_code 90 = .ok (.putfield 46, 3) := by decide +kernel
theorem d_GM_path_93 : decode prog_10_method_35_code 93 = .ok (.aload_n 0, 1) := by decide +kernel
theorem d_GM_path_94 : decode prog_10_method_35_code 94 = .ok (.getfield 46, 3) := by decide +kernel
theorem d_GM_path_97 : decode prog_10_method_35_code 97 = .ok (.bipush 13, 2) := by decide +kernel
theorem d_GM_path_99 : decode prog_10_method_35_code 99 = .ok (.if_icmp .ge 21, 3) := by decide +kernel
theorem d_GM_path_102 : decode prog_10_method_35_code 102 = .ok (.aload_n 0, 1) := by decide +kernel
theorem d_GM_path_103 : decode prog_10_method_35_code 103 = .ok (.getfield 145, 3) := by decide +kernel
theorem d_GM_path_106 : decode prog_10_method_35_code 106 = .ok (.aload_n 0, 1) := by decide +kernel
theorem d_GM_path_107 : decode prog_10_method_35_code 107 = .ok (.getfield 46, 3) := by decide +kernel
theorem d_GM_path_110 : decode prog_10_method_35_code 110 = .ok (.iload_n 2, 1) := by decide +kernel
theorem d_GM_path_111 : decode prog_10_method_35_code 111 = .ok (.ifCond .eq 7, 3) := by decide +kernel
theorem d_GM_path_114 : decode prog_10_method_35_code 114 = .ok (.iconst 1, 1) := by decide +kernel
theorem d_GM_path_115 : decode prog_10_method_35_code 115 = .ok (.goto 4, 3) := by decide +kernel
theorem d_GM_path_118 : decode prog_10_method_35_code 118 = .ok (.iconst 0, 1) := by decide +kernel
theorem d_GM_path_119 : decode prog_10_method_35_code 119 = .ok (.iastore, 1) := by decide +kernel
theorem d_GM_path_120 : decode prog_10_method_35_code 120 = .ok (.iconst 0, 1) := by decide +kernel
theorem d_GM_path_121 : decode prog_10_method_35_code 121 = .ok (.istore_n 3, 1) := by decide +kernel
theorem d_GM_path_122 : decode prog_10_method_35_code 122 = .ok (.iload_n 3, 1) := by decide +kernel
theorem d_GM_path_123 : decode prog_10_method_35_code 123 = .ok (.iload_n 2, 1) := by decide +kernel
theorem d_GM_path_124 : decode prog_10_method_35_code 124 = .ok (.ifCond .eq 7, 3) := by decide +kernel
theorem d_GM_path_127 : decode prog_10_method_35_code 127 = .ok (.iconst 3, 1) := by decide +kernel
theorem d_GM_path_128 : decode prog_10_method_35_code 128 = .ok (.goto 4, 3) := by decide +kernel
theorem d_GM_path_131 : decode prog_10_method_35_code 131 = .ok (.iconst 1, 1) := by decide +kernel
theorem d_GM_path_132 : decode prog_10_method_35_code 132 = .ok (.if_icmp .ge 69, 3) := by decide +kernel
theorem d_GM_path_135 : decode prog_10_method_35_code 135 = .ok (.aload_n 0, 1) := by decide +kernel
theorem d_GM_path_136 : decode prog_10_method_35_code 136 = .ok (.getfield 25, 3) := by decide +kernel
theorem d_GM_path_139 : decode prog_10_method_35_code 139 = .ok (.ifCond .ne 62, 3) := by decide +kernel
theorem d_GM_path_142 : decode prog_10_method_35_code 142 = .ok (.aload_n 0, 1) := by decide +kernel
theorem d_GM_path_143 : decode prog_10_method_35_code 143 = .ok (.iload_n 2, 1) := by decide +kernel
theorem d_GM_path_144 : decode prog_10_method_35_code 144 = .ok (.ifCond .eq 8, 3) := by decide +kernel
theorem d_GM_path_147 : decode prog_10_method_35_code 147 = .ok (.bipush 7, 2) := by decide +kernel
theorem d_GM_path_149 : decode prog_10_method_35_code 149 = .ok (.goto 5, 3) := by decide +kernel
theorem d_GM_path_152 : decode prog_10_method_35_code 152 = .ok (.bipush 8, 2) := by decide +kernel
theorem d_GM_path_154 : decode prog_10_method_35_code 154 = .ok (.invokevirtual 201, 3) := by decide +kernel
theorem d_GM_path_157 : decode prog_10_method_35_code 157 = .ok (.ifCond .eq 16, 3) := by decide +kernel
theorem d_GM_path_160 : decode prog_10_method_35_code 160 = .ok (.aload_n 0, 1) := by decide +kernel
theorem d_GM_path_161 : decode prog_10_method_35_code 161 = .ok (.dup, 1) := by decide +kernel
theorem d_GM_path_162 : decode prog_10_method_35_code 162 = .ok (.getfield 22, 3) := by decide +kernel
theorem d_GM_path_165 : decode prog_10_method_35_code 165 = .ok (.iconst 1, 1) := by decide +kernel
theorem d_GM_path_166 : decode prog_10_method_35_code 166 = .ok (.iadd, 1) := by decide +kernel
theorem d_GM_path_167 : decode prog_10_method_35_code 167 = .ok (.putfield 22, 3) := by decide +kernel
theorem d_GM_path_170 : decode prog_10_method_35_code 170 = .ok (.goto 14, 3) := by decide +kernel
theorem d_GM_path_173 : decode prog_10_method_35_code 173 = .ok (.aload_n 0, 1) := by decide +kernel
theorem d_GM_path_174 : decode prog_10_method_35_code 174 = .ok (.getfield 25, 3) := by decide +kernel
theorem d_GM_path_177 : decode prog_10_method_35_code 177 = .ok (.ifCond .ne 7, 3) := by decide +kernel
theorem d_GM_path_180 : decode prog_10_method_35_code 180 = .ok (.aload_n 0, 1) := by decide +kernel
theorem d_GM_path_181 : decode prog_10_method_35_code 181 = .ok (.invokevirtual 205, 3) := by decide +kernel
theorem d_GM_path_184 : decode prog_10_method_35_code 184 = .ok (.aload_n 0, 1) := by decide +kernel
theorem d_GM_path_185 : decode prog_10_method_35_code 185 = .ok (.getfield 25, 3) := by decide +kernel
theorem d_GM_path_188 : decode prog_10_method_35_code 188 = .ok (.ifCond .ne 7, 3) := by decide +kernel
theorem d_GM_path_191 : decode prog_10_method_35_code 191 = .ok (.aload_n 0, 1) := by decide +kernel
theorem d_GM_path_192 : decode prog_10_method_35_code 192 = .ok (.invokevirtual 253, 3) := by decide +kernel
theorem d_GM_path_195 : decode prog_10_method_35_code 195 = .ok (.iinc 3 1, 3) := by decide +kernel
theorem d_GM_path_198 : decode prog_10_method_35_code 198 = .ok (.goto (-76), 3) := by decide +kernel
theorem d_GM_path_201 : decode prog_10_method_35_code 201 = .ok (.goto (-177), 3) := by decide +kernel
theorem d_GM_path_204 : decode prog_10_method_35_code 204 = .ok (.aload_n 0, 1) := by decide +kernel
theorem d_GM_path_205 : decode prog_10_method_35_code 205 = .ok (.getfield 25, 3) := by decide +kernel
theorem d_GM_path_208 : decode prog_10_method_35_code 208 = .ok (.ifCond .eq 4, 3) := by decide +kernel
theorem d_GM_path_211 : decode prog_10_method_35_code 211 = .ok (.return_, 1) := by decide +kernel
theorem d_GM_path_212 : decode prog_10_method_35_code 212 = .ok (.aload_n 0, 1) := by decide +kernel
theorem d_GM_path_213 : decode prog_10_method_35_code 213 = .ok (.dup, 1) := by decide +kernel
theorem d_GM_path_214 : decode prog_10_method_35_code 214 = .ok (.getfield 22, 3) := by decide +kernel
theorem d_GM_path_217 : decode prog_10_method_35_code 217 = .ok (.iconst 2, 1) := by decide +kernel
theorem d_GM_path_218 : decode prog_10_method_35_code 218 = .ok (.iadd, 1) := by decide +kernel
theorem d_GM_path_219 : decode prog_10_method_35_code 219 = .ok (.putfield 22, 3) := by decide +kernel
theorem d_GM_path_222 : decode prog_10_method_35_code 222 = .ok (.aload_n 0, 1) := by decide +kernel
theorem d_GM_path_223 : decode prog_10_method_35_code 223 = .ok (.bipush 6, 2) := by decide +kernel
theorem d_GM_path_225 : decode prog_10_method_35_code 225 = .ok (.invokevirtual 241, 3) := by decide +kernel
theorem d_GM_path_228 : decode prog_10_method_35_code 228 = .ok (.aload_n 0, 1) := by decide +kernel
theorem d_GM_path_229 : decode prog_10_method_35_code 229 = .ok (.getfield 25, 3) := by decide +kernel
theorem d_GM_path_232 : decode prog_10_method_35_code 232 = .ok (.ifCond .ne 8, 3) := by decide +kernel
theorem d_GM_path_235 : decode prog_10_method_35_code 235 = .ok (.aload_n 0, 1) := by decide +kernel
theorem d_GM_path_236 : decode prog_10_method_35_code 236 = .ok (.iload_n 1, 1) := by decide +kernel
theorem d_GM_path_237 : decode prog_10_method_35_code 237 = .ok (.invokevirtual 256, 3) := by decide +kernel
theorem d_GM_path_240 : decode prog_10_method_35_code 240 = .ok (.return_, 1) := by decide +kernel
theorem d_GM_pair_0 : decode prog_10_method_34_code 0 = .ok (.aload_n 0, 1) := by decide +kernel
theorem d_GM_pair_1 : decode prog_10_method_34_code 1 = .ok (.iconst 3, 1) := by decide +kernel
theorem d_GM_pair_2 : decode prog_10_method_34_code 2 = .ok (.invokevirtual 241, 3) := by decide +kernel
theorem d_GM_pair_5 : decode prog_10_method_34_code 5 = .ok (.aload_n 0, 1) := by decide +kernel
theorem d_GM_pair_6 : decode prog_10_method_34_code 6 = .ok (.aload_n 0, 1) := by decide +kernel
theorem d_GM_pair_7 : decode prog_10_method_34_code 7 = .ok (.getfield 43, 3) := by decide +kernel
theorem d_GM_pair_10 : decode prog_10_method_34_code 10 = .ok (.invokevirtual 250, 3) := by decide +kernel
theorem d_GM_pair_13 : decode prog_10_method_34_code 13 = .ok (.aload_n 0, 1) := by decide +kernel
theorem d_GM_pair_14 : decode prog_10_method_34_code 14 = .ok (.iconst 5, 1) := by decide +kernel
theorem d_GM_pair_15 : decode prog_10_method_34_code 15 = .ok (.invokevirtual 241, 3) := by decide +kernel
theorem d_GM_pair_18 : decode prog_10_method_34_code 18 = .ok (.aload_n 0, 1) := by decide +kernel
theorem d_GM_pair_19 : decode prog_10_method_34_code 19 = .ok (.getfield 25, 3) := by decide +kernel
theorem d_GM_pair_22 : decode prog_10_method_34_code 22 = .ok (.ifCond .ne 13, 3) := by decide +kernel
theorem d_GM_pair_25 : decode prog_10_method_34_code 25 = .ok (.aload_n 0, 1) := by decide +kernel
theorem d_GM_pair_26 : decode prog_10_method_34_code 26 = .ok (.aload_n 0, 1) := by decide +kernel
theorem d_GM_pair_27 : decode prog_10_method_34_code 27 = .ok (.getfield 43, 3) := by decide +kernel
theorem d_GM_pair_30 : decode prog_10_method_34_code 30 = .ok (.iconst 1, 1) := by decide +kernel
theorem d_GM_pair_31 : decode prog_10_method_34_code 31 = .ok (.iadd, 1) := by decide +kernel
theorem d_GM_pair_32 : decode prog_10_method_34_code 32 = .ok (.invokevirtual 250, 3) := by decide +kernel
theorem d_GM_pair_35 : decode prog_10_method_34_code 35 = .ok (.aload_n 0, 1) := by decide +kernel
theorem d_GM_pair_36 : decode prog_10_method_34_code 36 = .ok (.iconst 4, 1) := by decide +kernel
theorem d_GM_pair_37 : decode prog_10_method_34_code 37 = .ok (.invokevirtual 241, 3) := by decide +kernel
theorem d_GM_pair_40 : decode prog_10_method_34_code 40 = .ok (.aload_n 0, 1) := by decide +kernel
theorem d_GM_pair_41 : decode prog_10_method_34_code 41 = .ok (.getfield 25, 3) := by decide +kernel
theorem d_GM_pair_44 : decode prog_10_method_34_code 44 = .ok (.ifCond .eq 4, 3) := by decide +kernel
theorem d_GM_pair_47 : decode prog_10_method_34_code 47 = .ok (.return_, 1) := by decide +kernel
theorem d_GM_pair_48 : decode prog_10_method_34_code 48 = .ok (.aload_n 0, 1) := by decide +kernel
theorem d_GM_pair_49 : decode prog_10_method_34_code 49 = .ok (.getfield 46, 3) := by decide +kernel
theorem d_GM_pair_52 : decode prog_10_method_34_code 52 = .ok (.bipush 13, 2) := by decide +kernel
theorem d_GM_pair_54 : decode prog_10_method_34_code 54 = .ok (.if_icmp .ge 13, 3) := by decide +kernel
theorem d_GM_pair_57 : decode prog_10_method_34_code 57 = .ok (.aload_n 0, 1) := by decide +kernel
theorem d_GM_pair_58 : decode prog_10_method_34_code 58 = .ok (.dup, 1) := by decide +kernel
theorem d_GM_pair_59 : decode prog_10_method_34_code 59 = .ok (.getfield 43, 3) := by decide +kernel
theorem d_GM_pair_62 : decode prog_10_method_34_code 62 = .ok (.iconst 2, 1) := by decide +kernel
theorem d_GM_pair_63 : decode prog_10_method_34_code 63 = .ok (.iadd, 1) := by decide +kernel
theorem d_GM_pair_64 : decode prog_10_method_34_code 64 = .ok (.putfield 43, 3) := by decide +kernel
theorem d_GM_pair_67 : decode prog_10_method_34_code 67 = .ok (.return_, 1) := by decide +kernel
theorem d_GM_area_0 : decode prog_10_method_36_code 0 = .ok (.aload_n 0, 1) := by decide +kernel
theorem d_GM_area_1 : decode prog_10_method_36_code 1 = .ok (.getfield 22, 3) := by decide +kernel
theorem d_GM_area_4 : decode prog_10_method_36_code 4 = .ok (.iconst 1, 1) := by decide +kernel
theorem d_GM_area_5 : decode prog_10_method_36_code 5 = .ok (.isub, 1) := by decide +kernel
theorem d_GM_area_6 : decode prog_10_method_36_code 6 = .ok (.istore_n 2, 1) := by decide +kernel
theorem d_GM_area_7 : decode prog_10_method_36_code 7 = .ok (.aload_n 0, 1) := by decide +kernel
theorem d_GM_area_8 : decode prog_10_method_36_code 8 = .ok (.getfield 55, 3) := by decide +kernel
theorem d_GM_area_11 : decode prog_10_method_36_code 11 = .ok (.ifCond .eq 13, 3) := by decide +kernel
theorem d_GM_area_14 : decode prog_10_method_36_code 14 = .ok (.aload_n 0, 1) := by decide +kernel
theorem d_GM_area_15 : decode prog_10_method_36_code 15 = .ok (.bipush (-9), 2) := by decide +kernel
theorem d_GM_area_17 : decode prog_10_method_36_code 17 = .ok (.iload_n 2, 1) := by decide +kernel
theorem d_GM_area_18 : decode prog_10_method_36_code 18 = .ok (.invokevirtual 164, 3) := by decide +kernel
theorem d_GM_area_21 : decode prog_10_method_36_code 21 = .ok (.goto 19, 3) := by decide +kernel
theorem d_GM_area_24 : decode prog_10_method_36_code 24 = .ok (.aload_n 0, 1) := by decide +kernel
theorem d_GM_area_25 : decode prog_10_method_36_code 25 = .ok (.getfield 46, 3) := by decide +kernel
theorem d_GM_area_28 : decode prog_10_method_36_code 28 = .ok (.bipush 12, 2) := by decide +kernel
theorem d_GM_area_30 : decode prog_10_method_36_code 30 = .ok (.if_icmp .le 10, 3) := by decide +kernel
theorem d_GM_area_33 : decode prog_10_method_36_code 33 = .ok (.aload_n 0, 1) := by decide +kernel
theorem d_GM_area_34 : decode prog_10_method_36_code 34 = .ok (.bipush (-7), 2) := by decide +kernel
theorem d_GM_area_36 : decode prog_10_method_36_code 36 = .ok (.iload_n 2, 1) := by decide +kernel
theorem d_GM_area_37 : decode prog_10_method_36_code 37 = .ok (.invokevirtual 164, 3) := by decide +kernel
theorem d_GM_area_40 : decode prog_10_method_36_code 40 = .ok (.iconst 0, 1) := by decide +kernel
theorem d_GM_area_41 : decode prog_10_method_36_code 41 = .ok (.istore_n 3, 1) := by decide +kernel
theorem d_GM_area_42 : decode prog_10_method_36_code 42 = .ok (.iload_n 3, 1) := by decide +kernel
theorem d_GM_area_43 : decode prog_10_method_36_code 43 = .ok (.aload_n 0, 1) := by decide +kernel
theorem d_GM_area_44 : decode prog_10_method_36_code 44 = .ok (.getfield 43, 3) := by decide +kernel
theorem d_GM_area_47 : decode prog_10_method_36_code 47 = .ok (.if_icmp .ge 109, 3) := by decide +kernel
theorem d_GM_area_50 : decode prog_10_method_36_code 50 = .ok (.aload_n 0, 1) := by decide +kernel
theorem d_GM_area_51 : decode prog_10_method_36_code 51 = .ok (.getfield 25, 3) := by decide +kernel
theorem d_GM_area_54 : decode prog_10_method_36_code 54 = .ok (.ifCond .ne 102, 3) := by decide +kernel
theorem d_GM_area_57 : decode prog_10_method_36_code 57 = .ok (.aload_n 0, 1) := by decide +kernel
theorem d_GM_area_58 : decode prog_10_method_36_code 58 = .ok (.getfield 118, 3) := by decide +kernel
theorem d_GM_area_61 : decode prog_10_method_36_code 61 = .ok (.iload_n 3, 1) := by decide +kernel
theorem d_GM_area_62 : decode prog_10_method_36_code 62 = .ok (.bipush 13, 2) := by decide +kernel
theorem d_GM_area_64 : decode prog_10_method_36_code 64 = .ok (.imul, 1) := by decide +kernel
theorem d_GM_area_65 : decode prog_10_method_36_code 65 = .ok (.bipush 12, 2) := by decide +kernel
theorem d_GM_area_67 : decode prog_10_method_36_code 67 = .ok (.iadd, 1) := by decide +kernel
theorem d_GM_area_68 : decode prog_10_method_36_code 68 = .ok (.laload, 1) := by decide +kernel
theorem d_GM_area_69 : decode prog_10_method_36_code 69 = .ok (.lstore 4, 2) := by decide +kernel
theorem d_GM_area_71 : decode prog_10_method_36_code 71 = .ok (.aload_n 0, 1) := by decide +kernel
theorem d_GM_area_72 : decode prog_10_method_36_code 72 = .ok (.iload_n 3, 1) := by decide +kernel
theorem d_GM_area_73 : decode prog_10_method_36_code 73 = .ok (.invokevirtual 260, 3) := by decide +kernel
theorem d_GM_area_76 : decode prog_10_method_36_code 76 = .ok (.ifCond .ne 13, 3) := by decide +kernel
theorem d_GM_area_79 : decode prog_10_method_36_code 79 = .ok (.aload_n 0, 1) := by decide +kernel
theorem d_GM_area_80 : decode prog_10_method_36_code 80 = .ok (.bipush (-12), 2) := by decide +kernel
theorem d_GM_area_82 : decode prog_10_method_36_code 82 = .ok (.iload_n 2, 1) := by decide +kernel
theorem d_GM_area_83 : decode prog_10_method_36_code 83 = .ok (.invokevirtual 164, 3) := by decide +kernel
theorem d_GM_area_86 : decode prog_10_method_36_code 86 = .ok (.goto 64, 3) := by decide +kernel
theorem d_GM_area_89 : decode prog_10_method_36_code 89 = .ok (.lload 4, 2) := by decide +kernel
theorem d_GM_area_91 : decode prog_10_method_36_code 91 = .ok (.ldc2_w 211, 3) := by decide +kernel
theorem d_GM_area_94 : decode prog_10_method_36_code 94 = .ok (.lrem, 1) := by decide +kernel
theorem d_GM_area_95 : decode prog_10_method_36_code 95 = .ok (.lconst 0, 1) := by decide +kernel
theorem d_GM_area_96 : decode prog_10_method_36_code 96 = .ok (.lcmp, 1) := by decide +kernel
theorem d_GM_area_97 : decode prog_10_method_36_code 97 = .ok (.ifCond .eq 13, 3) := by decide +kernel
theorem d_GM_area_100 : decode prog_10_method_36_code 100 = .ok (.aload_n 0, 1) := by decide +kernel
theorem d_GM_area_101 : decode prog_10_method_36_code 101 = .ok (.bipush (-13), 2) := by decide +kernel
theorem d_GM_area_103 : decode prog_10_method_36_code 103 = .ok (.iload_n 2, 1) := by decide +kernel
theorem d_GM_area_104 : decode prog_10_method_36_code 104 = .ok (.invokevirtual 164, 3) := by decide +kernel
theorem d_GM_area_107 : decode prog_10_method_36_code 107 = .ok (.goto 43, 3) := by decide +kernel
theorem d_GM_area_110 : decode prog_10_method_36_code 110 = .ok (.lload 4, 2) := by decide +kernel
theorem d_GM_area_112 : decode prog_10_method_36_code 112 = .ok (.ldc2_w 263, 3) := by decide +kernel
theorem d_GM_area_115 : decode prog_10_method_36_code 115 = .ok (.lcmp, 1) := by decide +kernel
theorem d_GM_area_116 : decode prog_10_method_36_code 116 = .ok (.ifCond .lt 12, 3) := by decide +kernel
theorem d_GM_area_119 : decode prog_10_method_36_code 119 = .ok (.lload 4, 2) := by decide +kernel
theorem d_GM_area_121 : decode prog_10_method_36_code 121 = .ok (.ldc2_w 265, 3) := by decide +kernel
theorem d_GM_area_124 : decode prog_10_method_36_code 124 = .ok (.lcmp, 1) := by decide +kernel
theorem d_GM_area_125 : decode prog_10_method_36_code 125 = .ok (.ifCond .le 13, 3) := by decide +kernel
theorem d_GM_area_128 : decode prog_10_method_36_code 128 = .ok (.aload_n 0, 1) := by decide +kernel
theorem d_GM_area_129 : decode prog_10_method_36_code 129 = .ok (.bipush (-9), 2) := by decide +kernel
theorem d_GM_area_131 : decode prog_10_method_36_code 131 = .ok (.iload_n 2, 1) := by decide +kernel
theorem d_GM_area_132 : decode prog_10_method_36_code 132 = .ok (.invokevirtual 164, 3) := by decide +kernel
theorem d_GM_area_135 : decode prog_10_method_36_code 135 = .ok (.goto 15, 3) := by decide +kernel
theorem d_GM_area_138 : decode prog_10_method_36_code 138 = .ok (.aload_n 0, 1) := by decide +kernel
theorem d_GM_area_139 : decode prog_10_method_36_code 139 = .ok (.getfield 130, 3) := by decide +kernel
theorem d_GM_area_142 : decode prog_10_method_36_code 142 = .ok (.iload_n 3, 1) := by decide +kernel
theorem d_GM_area_143 : decode prog_10_method_36_code 143 = .ok (.lload 4, 2) := by decide +kernel
theorem d_GM_area_145 : decode prog_10_method_36_code 145 = .ok (.ldc2_w 211, 3) := by decide +kernel
theorem d_GM_area_148 : decode prog_10_method_36_code 148 = .ok (.ldiv, 1) := by decide +kernel
theorem d_GM_area_149 : decode prog_10_method_36_code 149 = .ok (.lastore, 1) := by decide +kernel
theorem d_GM_area_150 : decode prog_10_method_36_code 150 = .ok (.iinc 3 1, 3) := by decide +kernel
theorem d_GM_area_153 : decode prog_10_method_36_code 153 = .ok (.goto (-111), 3) := by decide +kernel
theorem d_GM_area_156 : decode prog_10_method_36_code 156 = .ok (.aload_n 0, 1) := by decide +kernel
theorem d_GM_area_157 : decode prog_10_method_36_code 157 = .ok (.getfield 25, 3) := by decide +kernel
theorem d_GM_area_160 : decode prog_10_method_36_code 160 = .ok (.ifCond .ne 8, 3) := by decide +kernel
theorem d_GM_area_163 : decode prog_10_method_36_code 163 = .ok (.aload_n 0, 1) := by decide +kernel
theorem d_GM_area_164 : decode prog_10_method_36_code 164 = .ok (.iload_n 1, 1) := by decide +kernel
theorem d_GM_area_165 : decode prog_10_method_36_code 165 = .ok (.invokevirtual 267, 3) := by decide +kernel
theorem d_GM_area_168 : decode prog_10_method_36_code 168 = .ok (.return_, 1) := by decide +kernel
theorem d_GM_paint_0 : decode prog_10_method_42_code 0 = .ok (.aload_n 0, 1) := by decide +kernel
theorem d_GM_paint_1 : decode prog_10_method_42_code 1 = .ok (.invokevirtual 286, 3) := by decide +kernel
theorem d_GM_paint_4 : decode prog_10_method_42_code 4 = .ok (.iconst 0, 1) := by decide +kernel
theorem d_GM_paint_5 : decode prog_10_method_42_code 5 = .ok (.istore_n 2, 1) := by decide +kernel
theorem d_GM_paint_6 : decode prog_10_method_42_code 6 = .ok (.iload_n 2, 1) := by decide +kernel
theorem d_GM_paint_7 : decode prog_10_method_42_code 7 = .ok (.bipush 24, 2) := by decide +kernel
theorem d_GM_paint_9 : decode prog_10_method_42_code 9 = .ok (.if_icmp .ge 62, 3) := by decide +kernel
theorem d_GM_paint_12 : decode prog_10_method_42_code 12 = .ok (.iconst 0, 1) := by decide +kernel
theorem d_GM_paint_13 : decode prog_10_method_42_code 13 = .ok (.istore_n 3, 1) := by decide +kernel
theorem d_GM_paint_14 : decode prog_10_method_42_code 14 = .ok (.iload_n 3, 1) := by decide +kernel
theorem d_GM_paint_15 : decode prog_10_method_42_code 15 = .ok (.bipush 32, 2) := by decide +kernel
theorem d_GM_paint_17 : decode prog_10_method_42_code 17 = .ok (.if_icmp .ge 48, 3) := by decide +kernel
theorem d_GM_paint_20 : decode prog_10_method_42_code 20 = .ok (.aload_n 0, 1) := by decide +kernel
theorem d_GM_paint_21 : decode prog_10_method_42_code 21 = .ok (.iload_n 3, 1) := by decide +kernel
theorem d_GM_paint_22 : decode prog_10_method_42_code 22 = .ok (.i2l, 1) := by decide +kernel
theorem d_GM_paint_23 : decode prog_10_method_42_code 23 = .ok (.ldc2_w 289, 3) := by decide +kernel
theorem d_GM_paint_26 : decode prog_10_method_42_code 26 = .ok (.lmul, 1) := by decide +kernel
theorem d_GM_paint_27 : decode prog_10_method_42_code 27 = .ok (.ldc2_w 211, 3) := by decide +kernel
theorem d_GM_paint_30 : decode prog_10_method_42_code 30 = .ok (.ladd, 1) := by decide +kernel
theorem d_GM_paint_31 : decode prog_10_method_42_code 31 = .ok (.iload_n 2, 1) := by decide +kernel
theorem d_GM_paint_32 : decode prog_10_method_42_code 32 = .ok (.i2l, 1) := by decide +kernel
theorem d_GM_paint_33 : decode prog_10_method_42_code 33 = .ok (.ldc2_w 289, 3) := by decide +kernel
theorem d_GM_paint_36 : decode prog_10_method_42_code 36 = .ok (.lmul, 1) := by decide +kernel
theorem d_GM_paint_37 : decode prog_10_method_42_code 37 = .ok (.ldc2_w 211, 3) := by decide +kernel
theorem d_GM_paint_40 : decode prog_10_method_42_code 40 = .ok (.ladd, 1) := by decide +kernel
theorem d_GM_paint_41 : decode prog_10_method_42_code 41 = .ok (.invokevirtual 291, 3) := by decide +kernel
theorem d_GM_paint_44 : decode prog_10_method_42_code 44 = .ok (.ifCond .eq 15, 3) := by decide +kernel
theorem d_GM_paint_47 : decode prog_10_method_42_code 47 = .ok (.aload_n 0, 1) := by decide +kernel
theorem d_GM_paint_48 : decode prog_10_method_42_code 48 = .ok (.getfield 148, 3) := by decide +kernel
theorem d_GM_paint_51 : decode prog_10_method_42_code 51 = .ok (.iload_n 2, 1) := by decide +kernel
theorem d_GM_paint_52 : decode prog_10_method_42_code 52 = .ok (.bipush 32, 2) := by decide +kernel
theorem d_GM_paint_54 : decode prog_10_method_42_code 54 = .ok (.imul, 1) := by decide +kernel
theorem d_GM_paint_55 : decode prog_10_method_42_code 55 = .ok (.iload_n 3, 1) := by decide +kernel
theorem d_GM_paint_56 : decode prog_10_method_42_code 56 = .ok (.iadd, 1) := by decide +kernel
theorem d_GM_paint_57 : decode prog_10_method_42_code 57 = .ok (.iload_n 1, 1) := by decide +kernel
theorem d_GM_paint_58 : decode prog_10_method_42_code 58 = .ok (.bastore, 1) := by decide +kernel
theorem d_GM_paint_59 : decode prog_10_method_42_code 59 = .ok (.iinc 3 1, 3) := by decide +kernel
theorem d_GM_paint_62 : decode prog_10_method_42_code 62 = .ok (.goto (-48), 3) := by decide +kernel
theorem d_GM_paint_65 : decode prog_10_method_42_code 65 = .ok (.iinc 2 1, 3) := by decide +kernel
theorem d_GM_paint_68 : decode prog_10_method_42_code 68 = .ok (.goto (-62), 3) := by decide +kernel
theorem d_GM_paint_71 : decode prog_10_method_42_code 71 = .ok (.return_, 1) := by decide +kernel
theorem GM_k181 : Jvm.Cond.constantLong "GlyphCompilerModel" 181 (jL (-68719476736)) ∈ jTs := by rw [show jL (-68719476736) = (-68719476736) by decide]; exact (jin_t (jin_4 130 rfl) rfl)
theorem GM_k229 : Jvm.Cond.constantLong "GlyphCompilerModel" 229 (jL 16) ∈ jTs := by rw [show jL 16 = 16 by decide]; exact (jin_t (jin_4 147 rfl) rfl)
theorem GM_c253 : jLk "GlyphCompilerModel" 253 Y_GM_pair := Or.inl (jin_t (jin_4 160 rfl) rfl)
theorem GM_f46 : jFl "GlyphCompilerModel" 46 8 12 := ⟨R_GM, T_GM, 46, rfl, Nat.le_of_ble_eq_true rfl, Or.inl (jin_t (jin_3 134 rfl) rfl)⟩
theorem GM_f145 : jFl "GlyphCompilerModel" 145 8 44 := ⟨R_GM, T_GM, 46, rfl, Nat.le_of_ble_eq_true rfl, Or.inl (jin_t (jin_3 166 rfl) rfl)⟩
theorem GM_c256 : jLk "GlyphCompilerModel" 256 Y_GM_area := Or.inl (jin_t (jin_4 164 rfl) rfl)
theorem GM_f43 : jFl "GlyphCompilerModel" 43 8 11 := ⟨R_GM, T_GM, 46, rfl, Nat.le_of_ble_eq_true rfl, Or.inl (jin_t (jin_3 133 rfl) rfl)⟩
theorem GM_k263 : Jvm.Cond.constantLong "GlyphCompilerModel" 263 (jL (-2097152)) ∈ jTs := by rw [show jL (-2097152) = (-2097152) by decide]; exact (jin_t (jin_4 168 rfl) rfl)
theorem GM_k265 : Jvm.Cond.constantLong "GlyphCompilerModel" 265 (jL 6291456) ∈ jTs := by rw [show jL 6291456 = 6291456 by decide]; exact (jin_t (jin_4 169 rfl) rfl)
theorem GM_f130 : jFl "GlyphCompilerModel" 130 8 39 := ⟨R_GM, T_GM, 46, rfl, Nat.le_of_ble_eq_true rfl, Or.inl (jin_t (jin_3 161 rfl) rfl)⟩
theorem GM_c267 : jLk "GlyphCompilerModel" 267 Y_GM_paint := Or.inl (jin_t (jin_4 170 rfl) rfl)
theorem GM_c286 : jLk "GlyphCompilerModel" 286 Y_GM_makePieces := Or.inl (jin_t (jin_4 174 rfl) rfl)
theorem GM_k289 : Jvm.Cond.constantLong "GlyphCompilerModel" 289 (jL 8192) ∈ jTs := by rw [show jL 8192 = 8192 by decide]; exact (jin_t (jin_4 192 rfl) rfl)
theorem GM_c291 : jLk "GlyphCompilerModel" 291 Y_GM_winding := Or.inl (jin_t (jin_4 193 rfl) rfl)
theorem GM_f148 : jFl "GlyphCompilerModel" 148 8 45 := ⟨R_GM, T_GM, 46, rfl, Nat.le_of_ble_eq_true rfl, Or.inl (jin_t (jin_3 167 rfl) rfl)⟩
theorem yk_GM_kept : jYok Y_GM_kept 1 := ⟨(jin_t (jin_4 129 rfl) rfl), (jin_t (jin_1 9 rfl) rfl), ⟨by decide +kernel, by decide +kernel⟩, by decide +kernel⟩
theorem yv_GM_kept : Cond.instanceMethod (yN Y_GM_kept) ∈ jTs ∧ Cond.selects (yN Y_GM_kept).cls (yN Y_GM_kept) (yN Y_GM_kept) ∈ jTs := ⟨(jin_t (jin_4 128 rfl) rfl), (jin_p (List.mem_map.mpr ⟨(({ cls := "GlyphCompilerModel", name := "kept", desc := "(J)J" } : Jvm.MethodName), 46), by decide +kernel, rfl⟩) rfl)⟩
theorem yk_GM_addForm : jYok Y_GM_addForm 3 := ⟨(jin_t (jin_4 134 rfl) rfl), (jin_t (jin_1 9 rfl) rfl), ⟨by decide +kernel, by decide +kernel⟩, by decide +kernel⟩
theorem yv_GM_addForm : Cond.instanceMethod (yN Y_GM_addForm) ∈ jTs ∧ Cond.selects (yN Y_GM_addForm).cls (yN Y_GM_addForm) (yN Y_GM_addForm) ∈ jTs := ⟨(jin_t (jin_4 133 rfl) rfl), (jin_p (List.mem_map.mpr ⟨(({ cls := "GlyphCompilerModel", name := "addForm", desc := "(III)V" } : Jvm.MethodName), 46), by decide +kernel, rfl⟩) rfl)⟩
theorem yk_GM_check : jYok Y_GM_check 1 := ⟨(jin_t (jin_4 138 rfl) rfl), (jin_t (jin_1 9 rfl) rfl), ⟨by decide +kernel, by decide +kernel⟩, by decide +kernel⟩
theorem yv_GM_check : Cond.instanceMethod (yN Y_GM_check) ∈ jTs ∧ Cond.selects (yN Y_GM_check).cls (yN Y_GM_check) (yN Y_GM_check) ∈ jTs := ⟨(jin_t (jin_4 137 rfl) rfl), (jin_p (List.mem_map.mpr ⟨(({ cls := "GlyphCompilerModel", name := "check", desc := "(I)V" } : Jvm.MethodName), 46), by decide +kernel, rfl⟩) rfl)⟩
theorem yk_GM_need : jYok Y_GM_need 1 := ⟨(jin_t (jin_4 142 rfl) rfl), (jin_t (jin_1 9 rfl) rfl), ⟨by decide +kernel, by decide +kernel⟩, by decide +kernel⟩
theorem yv_GM_need : Cond.instanceMethod (yN Y_GM_need) ∈ jTs ∧ Cond.selects (yN Y_GM_need).cls (yN Y_GM_need) (yN Y_GM_need) ∈ jTs := ⟨(jin_t (jin_4 141 rfl) rfl), (jin_p (List.mem_map.mpr ⟨(({ cls := "GlyphCompilerModel", name := "need", desc := "(I)V" } : Jvm.MethodName), 46), by decide +kernel, rfl⟩) rfl)⟩
theorem yk_GM_finishBetween : jYok Y_GM_finishBetween 0 := ⟨(jin_t (jin_4 146 rfl) rfl), (jin_t (jin_1 9 rfl) rfl), ⟨by decide +kernel, by decide +kernel⟩, by decide +kernel⟩
theorem yv_GM_finishBetween : Cond.instanceMethod (yN Y_GM_finishBetween) ∈ jTs ∧ Cond.selects (yN Y_GM_finishBetween).cls (yN Y_GM_finishBetween) (yN Y_GM_finishBetween) ∈ jTs := ⟨(jin_t (jin_4 145 rfl) rfl), (jin_p (List.mem_map.mpr ⟨(({ cls := "GlyphCompilerModel", name := "finishBetween", desc := "()V" } : Jvm.MethodName), 46), by decide +kernel, rfl⟩) rfl)⟩
theorem yk_GM_copyForm : jYok Y_GM_copyForm 2 := ⟨(jin_t (jin_4 151 rfl) rfl), (jin_t (jin_1 9 rfl) rfl), ⟨by decide +kernel, by decide +kernel⟩, by decide +kernel⟩
theorem yv_GM_copyForm : Cond.instanceMethod (yN Y_GM_copyForm) ∈ jTs ∧ Cond.selects (yN Y_GM_copyForm).cls (yN Y_GM_copyForm) (yN Y_GM_copyForm) ∈ jTs := ⟨(jin_t (jin_4 150 rfl) rfl), (jin_p (List.mem_map.mpr ⟨(({ cls := "GlyphCompilerModel", name := "copyForm", desc := "(II)V" } : Jvm.MethodName), 46), by decide +kernel, rfl⟩) rfl)⟩
theorem yk_GM_isNumber : jYok Y_GM_isNumber 1 := ⟨(jin_t (jin_4 155 rfl) rfl), (jin_t (jin_1 9 rfl) rfl), ⟨by decide +kernel, by decide +kernel⟩, by decide +kernel⟩
theorem yv_GM_isNumber : Cond.instanceMethod (yN Y_GM_isNumber) ∈ jTs ∧ Cond.selects (yN Y_GM_isNumber).cls (yN Y_GM_isNumber) (yN Y_GM_isNumber) ∈ jTs := ⟨(jin_t (jin_4 154 rfl) rfl), (jin_p (List.mem_map.mpr ⟨(({ cls := "GlyphCompilerModel", name := "isNumber", desc := "(I)Z" } : Jvm.MethodName), 46), by decide +kernel, rfl⟩) rfl)⟩
theorem yk_GM_path : jYok Y_GM_path 1 := ⟨(jin_t (jin_4 159 rfl) rfl), (jin_t (jin_1 9 rfl) rfl), ⟨by decide +kernel, by decide +kernel⟩, by decide +kernel⟩
theorem yv_GM_path : Cond.instanceMethod (yN Y_GM_path) ∈ jTs ∧ Cond.selects (yN Y_GM_path).cls (yN Y_GM_path) (yN Y_GM_path) ∈ jTs := ⟨(jin_t (jin_4 158 rfl) rfl), (jin_p (List.mem_map.mpr ⟨(({ cls := "GlyphCompilerModel", name := "path", desc := "(Z)V" } : Jvm.MethodName), 46), by decide +kernel, rfl⟩) rfl)⟩
theorem yk_GM_pair : jYok Y_GM_pair 0 := ⟨(jin_t (jin_4 163 rfl) rfl), (jin_t (jin_1 9 rfl) rfl), ⟨by decide +kernel, by decide +kernel⟩, by decide +kernel⟩
theorem yv_GM_pair : Cond.instanceMethod (yN Y_GM_pair) ∈ jTs ∧ Cond.selects (yN Y_GM_pair).cls (yN Y_GM_pair) (yN Y_GM_pair) ∈ jTs := ⟨(jin_t (jin_4 162 rfl) rfl), (jin_p (List.mem_map.mpr ⟨(({ cls := "GlyphCompilerModel", name := "pair", desc := "()V" } : Jvm.MethodName), 46), by decide +kernel, rfl⟩) rfl)⟩
theorem yk_GM_area : jYok Y_GM_area 1 := ⟨(jin_t (jin_4 167 rfl) rfl), (jin_t (jin_1 9 rfl) rfl), ⟨by decide +kernel, by decide +kernel⟩, by decide +kernel⟩
theorem yv_GM_area : Cond.instanceMethod (yN Y_GM_area) ∈ jTs ∧ Cond.selects (yN Y_GM_area).cls (yN Y_GM_area) (yN Y_GM_area) ∈ jTs := ⟨(jin_t (jin_4 166 rfl) rfl), (jin_p (List.mem_map.mpr ⟨(({ cls := "GlyphCompilerModel", name := "area", desc := "(Z)V" } : Jvm.MethodName), 46), by decide +kernel, rfl⟩) rfl)⟩
theorem yk_GM_paint : jYok Y_GM_paint 1 := ⟨(jin_t (jin_4 173 rfl) rfl), (jin_t (jin_1 9 rfl) rfl), ⟨by decide +kernel, by decide +kernel⟩, by decide +kernel⟩
theorem yv_GM_paint : Cond.instanceMethod (yN Y_GM_paint) ∈ jTs ∧ Cond.selects (yN Y_GM_paint).cls (yN Y_GM_paint) (yN Y_GM_paint) ∈ jTs := ⟨(jin_t (jin_4 172 rfl) rfl), (jin_p (List.mem_map.mpr ⟨(({ cls := "GlyphCompilerModel", name := "paint", desc := "(Z)V" } : Jvm.MethodName), 46), by decide +kernel, rfl⟩) rfl)⟩

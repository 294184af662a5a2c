theorem d_GM_state_0 : decode prog_10_method_55_code 0 = .ok (.aload_n 0, 1) := by decide +kernel
theorem d_GM_state_1 : decode prog_10_method_55_code 1 = .ok (.iload_n 1, 1) := by decide +kernel
theorem d_GM_state_2 : decode prog_10_method_55_code 2 = .ok (.iconst 0, 1) := by decide +kernel
theorem d_GM_state_3 : decode prog_10_method_55_code 3 = .ok (.bipush 11, 2) := by decide +kernel
theorem d_GM_state_5 : decode prog_10_method_55_code 5 = .ok (.invokevirtual 152, 3) := by decide +kernel
theorem d_GM_state_8 : decode prog_10_method_55_code 8 = .ok (.ifCond .eq 7, 3) := by decide +kernel
theorem d_GM_state_11 : decode prog_10_method_55_code 11 = .ok (.iconst (-1), 1) := by decide +kernel
theorem d_GM_state_12 : decode prog_10_method_55_code 12 = .ok (.goto 9, 3) := by decide +kernel
theorem d_GM_state_15 : decode prog_10_method_55_code 15 = .ok (.aload_n 0, 1) := by decide +kernel
theorem d_GM_state_16 : decode prog_10_method_55_code 16 = .ok (.getfield 102, 3) := by decide +kernel
theorem d_GM_state_19 : decode prog_10_method_55_code 19 = .ok (.iload_n 1, 1) := by decide +kernel
theorem d_GM_state_20 : decode prog_10_method_55_code 20 = .ok (.iaload, 1) := by decide +kernel
theorem d_GM_state_21 : decode prog_10_method_55_code 21 = .ok (.ireturn, 1) := by decide +kernel
theorem d_GM_number_0 : decode prog_10_method_56_code 0 = .ok (.aload_n 0, 1) := by decide +kernel
theorem d_GM_number_1 : decode prog_10_method_56_code 1 = .ok (.iload_n 1, 1) := by decide +kernel
theorem d_GM_number_2 : decode prog_10_method_56_code 2 = .ok (.iconst 0, 1) := by decide +kernel
theorem d_GM_number_3 : decode prog_10_method_56_code 3 = .ok (.bipush 11, 2) := by decide +kernel
theorem d_GM_number_5 : decode prog_10_method_56_code 5 = .ok (.invokevirtual 152, 3) := by decide +kernel
theorem d_GM_number_8 : decode prog_10_method_56_code 8 = .ok (.ifCond .ne 12, 3) := by decide +kernel
theorem d_GM_number_11 : decode prog_10_method_56_code 11 = .ok (.aload_n 0, 1) := by decide +kernel
theorem d_GM_number_12 : decode prog_10_method_56_code 12 = .ok (.getfield 102, 3) := by decide +kernel
theorem d_GM_number_15 : decode prog_10_method_56_code 15 = .ok (.iload_n 1, 1) := by decide +kernel
theorem d_GM_number_16 : decode prog_10_method_56_code 16 = .ok (.iaload, 1) := by decide +kernel
theorem d_GM_number_17 : decode prog_10_method_56_code 17 = .ok (.ifCond .ne 9, 3) := by decide +kernel
theorem d_GM_number_20 : decode prog_10_method_56_code 20 = .ok (.ldc2_w 335, 3) := by decide +kernel
theorem d_GM_number_23 : decode prog_10_method_56_code 23 = .ok (.goto 15, 3) := by decide +kernel
theorem d_GM_number_26 : decode prog_10_method_56_code 26 = .ok (.aload_n 0, 1) := by decide +kernel
theorem d_GM_number_27 : decode prog_10_method_56_code 27 = .ok (.getfield 105, 3) := by decide +kernel
theorem d_GM_number_30 : decode prog_10_method_56_code 30 = .ok (.iload_n 1, 1) := by decide +kernel
theorem d_GM_number_31 : decode prog_10_method_56_code 31 = .ok (.bipush 13, 2) := by decide +kernel
theorem d_GM_number_33 : decode prog_10_method_56_code 33 = .ok (.imul, 1) := by decide +kernel
theorem d_GM_number_34 : decode prog_10_method_56_code 34 = .ok (.bipush 12, 2) := by decide +kernel
theorem d_GM_number_36 : decode prog_10_method_56_code 36 = .ok (.iadd, 1) := by decide +kernel
theorem d_GM_number_37 : decode prog_10_method_56_code 37 = .ok (.laload, 1) := by decide +kernel
theorem d_GM_number_38 : decode prog_10_method_56_code 38 = .ok (.lreturn, 1) := by decide +kernel
theorem d_GM_factor_0 : decode prog_10_method_57_code 0 = .ok (.aload_n 0, 1) := by decide +kernel
theorem d_GM_factor_1 : decode prog_10_method_57_code 1 = .ok (.iload_n 1, 1) := by decide +kernel
theorem d_GM_factor_2 : decode prog_10_method_57_code 2 = .ok (.iconst 0, 1) := by decide +kernel
theorem d_GM_factor_3 : decode prog_10_method_57_code 3 = .ok (.bipush 11, 2) := by decide +kernel
theorem d_GM_factor_5 : decode prog_10_method_57_code 5 = .ok (.invokevirtual 152, 3) := by decide +kernel
theorem d_GM_factor_8 : decode prog_10_method_57_code 8 = .ok (.ifCond .ne 24, 3) := by decide +kernel
theorem d_GM_factor_11 : decode prog_10_method_57_code 11 = .ok (.aload_n 0, 1) := by decide +kernel
theorem d_GM_factor_12 : decode prog_10_method_57_code 12 = .ok (.iload_n 2, 1) := by decide +kernel
theorem d_GM_factor_13 : decode prog_10_method_57_code 13 = .ok (.iconst 0, 1) := by decide +kernel
theorem d_GM_factor_14 : decode prog_10_method_57_code 14 = .ok (.bipush 11, 2) := by decide +kernel
theorem d_GM_factor_16 : decode prog_10_method_57_code 16 = .ok (.invokevirtual 152, 3) := by decide +kernel
theorem d_GM_factor_19 : decode prog_10_method_57_code 19 = .ok (.ifCond .ne 13, 3) := by decide +kernel
theorem d_GM_factor_22 : decode prog_10_method_57_code 22 = .ok (.aload_n 0, 1) := by decide +kernel
theorem d_GM_factor_23 : decode prog_10_method_57_code 23 = .ok (.getfield 102, 3) := by decide +kernel
theorem d_GM_factor_26 : decode prog_10_method_57_code 26 = .ok (.iload_n 1, 1) := by decide +kernel
theorem d_GM_factor_27 : decode prog_10_method_57_code 27 = .ok (.iaload, 1) := by decide +kernel
theorem d_GM_factor_28 : decode prog_10_method_57_code 28 = .ok (.iconst 1, 1) := by decide +kernel
theorem d_GM_factor_29 : decode prog_10_method_57_code 29 = .ok (.if_icmp .eq 9, 3) := by decide +kernel
theorem d_GM_factor_32 : decode prog_10_method_57_code 32 = .ok (.ldc2_w 335, 3) := by decide +kernel
theorem d_GM_factor_35 : decode prog_10_method_57_code 35 = .ok (.goto 14, 3) := by decide +kernel
theorem d_GM_factor_38 : decode prog_10_method_57_code 38 = .ok (.aload_n 0, 1) := by decide +kernel
theorem d_GM_factor_39 : decode prog_10_method_57_code 39 = .ok (.getfield 105, 3) := by decide +kernel
theorem d_GM_factor_42 : decode prog_10_method_57_code 42 = .ok (.iload_n 1, 1) := by decide +kernel
theorem d_GM_factor_43 : decode prog_10_method_57_code 43 = .ok (.bipush 13, 2) := by decide +kernel
theorem d_GM_factor_45 : decode prog_10_method_57_code 45 = .ok (.imul, 1) := by decide +kernel
theorem d_GM_factor_46 : decode prog_10_method_57_code 46 = .ok (.iload_n 2, 1) := by decide +kernel
theorem d_GM_factor_47 : decode prog_10_method_57_code 47 = .ok (.iadd, 1) := by decide +kernel
theorem d_GM_factor_48 : decode prog_10_method_57_code 48 = .ok (.laload, 1) := by decide +kernel
theorem d_GM_factor_49 : decode prog_10_method_57_code 49 = .ok (.lreturn, 1) := by decide +kernel
theorem d_GM_black_0 : decode prog_10_method_58_code 0 = .ok (.aload_n 0, 1) := by decide +kernel
theorem d_GM_black_1 : decode prog_10_method_58_code 1 = .ok (.iload_n 1, 1) := by decide +kernel
theorem d_GM_black_2 : decode prog_10_method_58_code 2 = .ok (.iconst 0, 1) := by decide +kernel
theorem d_GM_black_3 : decode prog_10_method_58_code 3 = .ok (.bipush 31, 2) := by decide +kernel
theorem d_GM_black_5 : decode prog_10_method_58_code 5 = .ok (.invokevirtual 152, 3) := by decide +kernel
theorem d_GM_black_8 : decode prog_10_method_58_code 8 = .ok (.ifCond .ne 32, 3) := by decide +kernel
theorem d_GM_black_11 : decode prog_10_method_58_code 11 = .ok (.aload_n 0, 1) := by decide +kernel
theorem d_GM_black_12 : decode prog_10_method_58_code 12 = .ok (.iload_n 2, 1) := by decide +kernel
theorem d_GM_black_13 : decode prog_10_method_58_code 13 = .ok (.iconst 0, 1) := by decide +kernel
theorem d_GM_black_14 : decode prog_10_method_58_code 14 = .ok (.bipush 23, 2) := by decide +kernel
theorem d_GM_black_16 : decode prog_10_method_58_code 16 = .ok (.invokevirtual 152, 3) := by decide +kernel
theorem d_GM_black_19 : decode prog_10_method_58_code 19 = .ok (.ifCond .ne 21, 3) := by decide +kernel
theorem d_GM_black_22 : decode prog_10_method_58_code 22 = .ok (.aload_n 0, 1) := by decide +kernel
theorem d_GM_black_23 : decode prog_10_method_58_code 23 = .ok (.getfield 148, 3) := by decide +kernel
theorem d_GM_black_26 : decode prog_10_method_58_code 26 = .ok (.iload_n 2, 1) := by decide +kernel
theorem d_GM_black_27 : decode prog_10_method_58_code 27 = .ok (.bipush 32, 2) := by decide +kernel
theorem d_GM_black_29 : decode prog_10_method_58_code 29 = .ok (.imul, 1) := by decide +kernel
theorem d_GM_black_30 : decode prog_10_method_58_code 30 = .ok (.iload_n 1, 1) := by decide +kernel
theorem d_GM_black_31 : decode prog_10_method_58_code 31 = .ok (.iadd, 1) := by decide +kernel
theorem d_GM_black_32 : decode prog_10_method_58_code 32 = .ok (.baload, 1) := by decide +kernel
theorem d_GM_black_33 : decode prog_10_method_58_code 33 = .ok (.ifCond .eq 7, 3) := by decide +kernel
theorem d_GM_black_36 : decode prog_10_method_58_code 36 = .ok (.iconst 1, 1) := by decide +kernel
theorem d_GM_black_37 : decode prog_10_method_58_code 37 = .ok (.goto 4, 3) := by decide +kernel
theorem d_GM_black_40 : decode prog_10_method_58_code 40 = .ok (.iconst 0, 1) := by decide +kernel
theorem d_GM_black_41 : decode prog_10_method_58_code 41 = .ok (.ireturn, 1) := by decide +kernel
theorem d_GM_stretch_0 : decode prog_10_method_59_code 0 = .ok (.aload_n 0, 1) := by decide +kernel
theorem d_GM_stretch_1 : decode prog_10_method_59_code 1 = .ok (.iload_n 1, 1) := by decide +kernel
theorem d_GM_stretch_2 : decode prog_10_method_59_code 2 = .ok (.iconst 0, 1) := by decide +kernel
theorem d_GM_stretch_3 : decode prog_10_method_59_code 3 = .ok (.bipush 23, 2) := by decide +kernel
theorem d_GM_stretch_5 : decode prog_10_method_59_code 5 = .ok (.invokevirtual 152, 3) := by decide +kernel
theorem d_GM_stretch_8 : decode prog_10_method_59_code 8 = .ok (.ifCond .eq 5, 3) := by decide +kernel
theorem d_GM_stretch_11 : decode prog_10_method_59_code 11 = .ok (.iconst (-1), 1) := by decide +kernel
theorem d_GM_stretch_12 : decode prog_10_method_59_code 12 = .ok (.ireturn, 1) := by decide +kernel
theorem d_GM_stretch_13 : decode prog_10_method_59_code 13 = .ok (.bipush 32, 2) := by decide +kernel
theorem d_GM_stretch_15 : decode prog_10_method_59_code 15 = .ok (.istore_n 3, 1) := by decide +kernel
theorem d_GM_stretch_16 : decode prog_10_method_59_code 16 = .ok (.iconst 0, 1) := by decide +kernel
theorem d_GM_stretch_17 : decode prog_10_method_59_code 17 = .ok (.istore 4, 2) := by decide +kernel
theorem d_GM_stretch_19 : decode prog_10_method_59_code 19 = .ok (.iconst 0, 1) := by decide +kernel
theorem d_GM_stretch_20 : decode prog_10_method_59_code 20 = .ok (.istore 5, 2) := by decide +kernel
theorem d_GM_stretch_22 : decode prog_10_method_59_code 22 = .ok (.iload_n 3, 1) := by decide +kernel
theorem d_GM_stretch_23 : decode prog_10_method_59_code 23 = .ok (.ifCond .le 25, 3) := by decide +kernel
theorem d_GM_stretch_26 : decode prog_10_method_59_code 26 = .ok (.aload_n 0, 1) := by decide +kernel
theorem d_GM_stretch_27 : decode prog_10_method_59_code 27 = .ok (.getfield 148, 3) := by decide +kernel
theorem d_GM_stretch_30 : decode prog_10_method_59_code 30 = .ok (.iload_n 1, 1) := by decide +kernel
theorem d_GM_stretch_31 : decode prog_10_method_59_code 31 = .ok (.bipush 32, 2) := by decide +kernel
theorem d_GM_stretch_33 : decode prog_10_method_59_code 33 = .ok (.imul, 1) := by decide +kernel
theorem d_GM_stretch_34 : decode prog_10_method_59_code 34 = .ok (.iload_n 3, 1) := by decide +kernel
theorem d_GM_stretch_35 : decode prog_10_method_59_code 35 = .ok (.iadd, 1) := by decide +kernel
theorem d_GM_stretch_36 : decode prog_10_method_59_code 36 = .ok (.iconst 1, 1) := by decide +kernel
theorem d_GM_stretch_37 : decode prog_10_method_59_code 37 = .ok (.isub, 1) := by decide +kernel
theorem d_GM_stretch_38 : decode prog_10_method_59_code 38 = .ok (.baload, 1) := by decide +kernel
theorem d_GM_stretch_39 : decode prog_10_method_59_code 39 = .ok (.ifCond .ne 9, 3) := by decide +kernel
theorem d_GM_stretch_42 : decode prog_10_method_59_code 42 = .ok (.iinc 3 (-1), 3) := by decide +kernel
theorem d_GM_stretch_45 : decode prog_10_method_59_code 45 = .ok (.goto (-23), 3) := by decide +kernel
theorem d_GM_stretch_48 : decode prog_10_method_59_code 48 = .ok (.iload_n 2, 1) := by decide +kernel
theorem d_GM_stretch_49 : decode prog_10_method_59_code 49 = .ok (.ifCond .ge 6, 3) := by decide +kernel
theorem d_GM_stretch_52 : decode prog_10_method_59_code 52 = .ok (.bipush (-2), 2) := by decide +kernel
theorem d_GM_stretch_54 : decode prog_10_method_59_code 54 = .ok (.ireturn, 1) := by decide +kernel
theorem d_GM_stretch_55 : decode prog_10_method_59_code 55 = .ok (.iconst 0, 1) := by decide +kernel
theorem d_GM_stretch_56 : decode prog_10_method_59_code 56 = .ok (.istore 6, 2) := by decide +kernel
theorem d_GM_stretch_58 : decode prog_10_method_59_code 58 = .ok (.iload 5, 2) := by decide +kernel
theorem d_GM_stretch_60 : decode prog_10_method_59_code 60 = .ok (.iload_n 3, 1) := by decide +kernel
theorem d_GM_stretch_61 : decode prog_10_method_59_code 61 = .ok (.if_icmp .ge 66, 3) := by decide +kernel
theorem d_GM_stretch_64 : decode prog_10_method_59_code 64 = .ok (.iload 5, 2) := by decide +kernel
theorem d_GM_stretch_66 : decode prog_10_method_59_code 66 = .ok (.istore 7, 2) := by decide +kernel
theorem d_GM_stretch_68 : decode prog_10_method_59_code 68 = .ok (.iload 5, 2) := by decide +kernel
theorem d_GM_stretch_70 : decode prog_10_method_59_code 70 = .ok (.iload_n 3, 1) := by decide +kernel
theorem d_GM_stretch_71 : decode prog_10_method_59_code 71 = .ok (.if_icmp .ge 26, 3) := by decide +kernel
theorem d_GM_stretch_74 : decode prog_10_method_59_code 74 = .ok (.aload_n 0, 1) := by decide +kernel
theorem d_GM_stretch_75 : decode prog_10_method_59_code 75 = .ok (.getfield 148, 3) := by decide +kernel
theorem d_GM_stretch_78 : decode prog_10_method_59_code 78 = .ok (.iload_n 1, 1) := by decide +kernel
theorem d_GM_stretch_79 : decode prog_10_method_59_code 79 = .ok (.bipush 32, 2) := by decide +kernel
theorem d_GM_stretch_81 : decode prog_10_method_59_code 81 = .ok (.imul, 1) := by decide +kernel
theorem d_GM_stretch_82 : decode prog_10_method_59_code 82 = .ok (.iload 5, 2) := by decide +kernel
theorem d_GM_stretch_84 : decode prog_10_method_59_code 84 = .ok (.iadd, 1) := by decide +kernel
theorem d_GM_stretch_85 : decode prog_10_method_59_code 85 = .ok (.baload, 1) := by decide +kernel
theorem d_GM_stretch_86 : decode prog_10_method_59_code 86 = .ok (.iload 6, 2) := by decide +kernel
theorem d_GM_stretch_88 : decode prog_10_method_59_code 88 = .ok (.if_icmp .ne 9, 3) := by decide +kernel
theorem d_GM_stretch_91 : decode prog_10_method_59_code 91 = .ok (.iinc 5 1, 3) := by decide +kernel
theorem d_GM_stretch_94 : decode prog_10_method_59_code 94 = .ok (.goto (-26), 3) := by decide +kernel
theorem d_GM_stretch_97 : decode prog_10_method_59_code 97 = .ok (.iload 4, 2) := by decide +kernel
theorem d_GM_stretch_99 : decode prog_10_method_59_code 99 = .ok (.iload_n 2, 1) := by decide +kernel
theorem d_GM_stretch_100 : decode prog_10_method_59_code 100 = .ok (.if_icmp .ne 9, 3) := by decide +kernel
theorem d_GM_stretch_103 : decode prog_10_method_59_code 103 = .ok (.iload 5, 2) := by decide +kernel
theorem d_GM_stretch_105 : decode prog_10_method_59_code 105 = .ok (.iload 7, 2) := by decide +kernel
theorem d_GM_stretch_107 : decode prog_10_method_59_code 107 = .ok (.isub, 1) := by decide +kernel
theorem d_GM_stretch_108 : decode prog_10_method_59_code 108 = .ok (.ireturn, 1) := by decide +kernel
theorem d_GM_stretch_109 : decode prog_10_method_59_code 109 = .ok (.iinc 4 1, 3) := by decide +kernel
theorem d_GM_stretch_112 : decode prog_10_method_59_code 112 = .ok (.iload 6, 2) := by decide +kernel
theorem d_GM_stretch_114 : decode prog_10_method_59_code 114 = .ok (.ifCond .ne 7, 3) := by decide +kernel
theorem d_GM_stretch_117 : decode prog_10_method_59_code 117 = .ok (.iconst 1, 1) := by decide +kernel
theorem d_GM_stretch_118 : decode prog_10_method_59_code 118 = .ok (.goto 4, 3) := by decide +kernel
theorem d_GM_stretch_121 : decode prog_10_method_59_code 121 = .ok (.iconst 0, 1) := by decide +kernel
theorem d_GM_stretch_122 : decode prog_10_method_59_code 122 = .ok (.istore 6, 2) := by decide +kernel
theorem d_GM_stretch_124 : decode prog_10_method_59_code 124 = .ok (.goto (-66), 3) := by decide +kernel
theorem d_GM_stretch_127 : decode prog_10_method_59_code 127 = .ok (.bipush (-2), 2) := by decide +kernel
theorem d_GM_stretch_129 : decode prog_10_method_59_code 129 = .ok (.ireturn, 1) := by decide +kernel
theorem d_GM_shown_0 : decode prog_10_method_60_code 0 = .ok (.iload_n 1, 1) := by decide +kernel
theorem d_GM_shown_1 : decode prog_10_method_60_code 1 = .ok (.ifCond .lt 17, 3) := by decide +kernel
theorem d_GM_shown_4 : decode prog_10_method_60_code 4 = .ok (.iload_n 1, 1) := by decide +kernel
theorem d_GM_shown_5 : decode prog_10_method_60_code 5 = .ok (.bipush 7, 2) := by decide +kernel
theorem d_GM_shown_7 : decode prog_10_method_60_code 7 = .ok (.if_icmp .gt 11, 3) := by decide +kernel
theorem d_GM_shown_10 : decode prog_10_method_60_code 10 = .ok (.iload_n 1, 1) := by decide +kernel
theorem d_GM_shown_11 : decode prog_10_method_60_code 11 = .ok (.aload_n 0, 1) := by decide +kernel
theorem d_GM_shown_12 : decode prog_10_method_60_code 12 = .ok (.getfield 31, 3) := by decide +kernel
theorem d_GM_shown_15 : decode prog_10_method_60_code 15 = .ok (.if_icmp .lt 9, 3) := by decide +kernel
theorem d_GM_shown_18 : decode prog_10_method_60_code 18 = .ok (.ldc2_w 335, 3) := by decide +kernel
theorem d_GM_shown_21 : decode prog_10_method_60_code 21 = .ok (.goto 9, 3) := by decide +kernel
theorem d_GM_shown_24 : decode prog_10_method_60_code 24 = .ok (.aload_n 0, 1) := by decide +kernel
theorem d_GM_shown_25 : decode prog_10_method_60_code 25 = .ok (.getfield 109, 3) := by decide +kernel
theorem d_GM_shown_28 : decode prog_10_method_60_code 28 = .ok (.iload_n 1, 1) := by decide +kernel
theorem d_GM_shown_29 : decode prog_10_method_60_code 29 = .ok (.laload, 1) := by decide +kernel
theorem d_GM_shown_30 : decode prog_10_method_60_code 30 = .ok (.lreturn, 1) := by decide +kernel
theorem d_GM_count_0 : decode prog_10_method_61_code 0 = .ok (.iload_n 1, 1) := by decide +kernel
theorem d_GM_count_1 : decode prog_10_method_61_code 1 = .ok (.bipush 8, 2) := by decide +kernel
theorem d_GM_count_3 : decode prog_10_method_61_code 3 = .ok (.if_icmp .le 36, 3) := by decide +kernel
theorem d_GM_count_6 : decode prog_10_method_61_code 6 = .ok (.iload_n 1, 1) := by decide +kernel
theorem d_GM_count_7 : decode prog_10_method_61_code 7 = .ok (.bipush 15, 2) := by decide +kernel
theorem d_GM_count_9 : decode prog_10_method_61_code 9 = .ok (.if_icmp .ge 30, 3) := by decide +kernel
theorem d_GM_count_12 : decode prog_10_method_61_code 12 = .ok (.aload_n 0, 1) := by decide +kernel
theorem d_GM_count_13 : decode prog_10_method_61_code 13 = .ok (.getfield 72, 3) := by decide +kernel
theorem d_GM_count_16 : decode prog_10_method_61_code 16 = .ok (.iload_n 1, 1) := by decide +kernel
theorem d_GM_count_17 : decode prog_10_method_61_code 17 = .ok (.bipush 9, 2) := by decide +kernel
theorem d_GM_count_19 : decode prog_10_method_61_code 19 = .ok (.isub, 1) := by decide +kernel
theorem d_GM_count_20 : decode prog_10_method_61_code 20 = .ok (.iaload, 1) := by decide +kernel
theorem d_GM_count_21 : decode prog_10_method_61_code 21 = .ok (.ifCond .ge 8, 3) := by decide +kernel
theorem d_GM_count_24 : decode prog_10_method_61_code 24 = .ok (.bipush (-2), 2) := by decide +kernel
theorem d_GM_count_26 : decode prog_10_method_61_code 26 = .ok (.goto 12, 3) := by decide +kernel
theorem d_GM_count_29 : decode prog_10_method_61_code 29 = .ok (.aload_n 0, 1) := by decide +kernel
theorem d_GM_count_30 : decode prog_10_method_61_code 30 = .ok (.getfield 72, 3) := by decide +kernel
theorem d_GM_count_33 : decode prog_10_method_61_code 33 = .ok (.iload_n 1, 1) := by decide +kernel
theorem d_GM_count_34 : decode prog_10_method_61_code 34 = .ok (.bipush 9, 2) := by decide +kernel
theorem d_GM_count_36 : decode prog_10_method_61_code 36 = .ok (.isub, 1) := by decide +kernel
theorem d_GM_count_37 : decode prog_10_method_61_code 37 = .ok (.iaload, 1) := by decide +kernel
theorem d_GM_count_38 : decode prog_10_method_61_code 38 = .ok (.ireturn, 1) := by decide +kernel
theorem d_GM_count_39 : decode prog_10_method_61_code 39 = .ok (.iconst 0, 1) := by decide +kernel
theorem d_GM_count_40 : decode prog_10_method_61_code 40 = .ok (.istore_n 2, 1) := by decide +kernel
theorem d_GM_count_41 : decode prog_10_method_61_code 41 = .ok (.bipush (-2), 2) := by decide +kernel
theorem d_GM_count_43 : decode prog_10_method_61_code 43 = .ok (.istore_n 3, 1) := by decide +kernel
theorem d_GM_count_44 : decode prog_10_method_61_code 44 = .ok (.bipush (-2), 2) := by decide +kernel
theorem d_GM_count_46 : decode prog_10_method_61_code 46 = .ok (.istore 4, 2) := by decide +kernel
theorem d_GM_count_48 : decode prog_10_method_61_code 48 = .ok (.bipush (-2), 2) := by decide +kernel
theorem d_GM_count_50 : decode prog_10_method_61_code 50 = .ok (.istore 5, 2) := by decide +kernel
theorem d_GM_count_52 : decode prog_10_method_61_code 52 = .ok (.bipush (-2), 2) := by decide +kernel
theorem d_GM_count_54 : decode prog_10_method_61_code 54 = .ok (.istore 6, 2) := by decide +kernel
theorem d_GM_count_56 : decode prog_10_method_61_code 56 = .ok (.iconst 0, 1) := by decide +kernel
theorem d_GM_count_57 : decode prog_10_method_61_code 57 = .ok (.istore 7, 2) := by decide +kernel
theorem d_GM_count_59 : decode prog_10_method_61_code 59 = .ok (.iload 7, 2) := by decide +kernel
theorem d_GM_count_61 : decode prog_10_method_61_code 61 = .ok (.sipush 768, 3) := by decide +kernel
theorem d_GM_count_64 : decode prog_10_method_61_code 64 = .ok (.if_icmp .ge 80, 3) := by decide +kernel
theorem d_GM_count_67 : decode prog_10_method_61_code 67 = .ok (.aload_n 0, 1) := by decide +kernel
theorem d_GM_count_68 : decode prog_10_method_61_code 68 = .ok (.getfield 148, 3) := by decide +kernel
theorem d_GM_count_71 : decode prog_10_method_61_code 71 = .ok (.iload 7, 2) := by decide +kernel
theorem d_GM_count_73 : decode prog_10_method_61_code 73 = .ok (.baload, 1) := by decide +kernel
theorem d_GM_count_74 : decode prog_10_method_61_code 74 = .ok (.ifCond .ne 6, 3) := by decide +kernel
theorem d_GM_count_77 : decode prog_10_method_61_code 77 = .ok (.goto 61, 3) := by decide +kernel
theorem d_GM_count_80 : decode prog_10_method_61_code 80 = .ok (.iinc 2 1, 3) := by decide +kernel
theorem d_GM_count_83 : decode prog_10_method_61_code 83 = .ok (.iload_n 3, 1) := by decide +kernel
theorem d_GM_count_84 : decode prog_10_method_61_code 84 = .ok (.ifCond .lt 12, 3) := by decide +kernel
theorem d_GM_count_87 : decode prog_10_method_61_code 87 = .ok (.iload 7, 2) := by decide +kernel
theorem d_GM_count_89 : decode prog_10_method_61_code 89 = .ok (.bipush 32, 2) := by decide +kernel
theorem d_GM_count_91 : decode prog_10_method_61_code 91 = .ok (.irem, 1) := by decide +kernel
theorem d_GM_count_92 : decode prog_10_method_61_code 92 = .ok (.iload_n 3, 1) := by decide +kernel
theorem d_GM_count_93 : decode prog_10_method_61_code 93 = .ok (.if_icmp .ge 9, 3) := by decide +kernel
theorem d_GM_count_96 : decode prog_10_method_61_code 96 = .ok (.iload 7, 2) := by decide +kernel
theorem d_GM_count_98 : decode prog_10_method_61_code 98 = .ok (.bipush 32, 2) := by decide +kernel
theorem d_GM_count_100 : decode prog_10_method_61_code 100 = .ok (.irem, 1) := by decide +kernel
theorem d_GM_count_101 : decode prog_10_method_61_code 101 = .ok (.istore_n 3, 1) := by decide +kernel
theorem d_GM_count_102 : decode prog_10_method_61_code 102 = .ok (.iload 7, 2) := by decide +kernel
theorem d_GM_count_104 : decode prog_10_method_61_code 104 = .ok (.bipush 32, 2) := by decide +kernel
theorem d_GM_count_106 : decode prog_10_method_61_code 106 = .ok (.irem, 1) := by decide +kernel
theorem d_GM_count_107 : decode prog_10_method_61_code 107 = .ok (.iload 4, 2) := by decide +kernel
theorem d_GM_count_109 : decode prog_10_method_61_code 109 = .ok (.if_icmp .le 10, 3) := by decide +kernel
theorem d_GM_count_112 : decode prog_10_method_61_code 112 = .ok (.iload 7, 2) := by decide +kernel
theorem d_GM_count_114 : decode prog_10_method_61_code 114 = .ok (.bipush 32, 2) := by decide +kernel
theorem d_GM_count_116 : decode prog_10_method_61_code 116 = .ok (.irem, 1) := by decide +kernel
theorem d_GM_count_117 : decode prog_10_method_61_code 117 = .ok (.istore 4, 2) := by decide +kernel
theorem d_GM_count_119 : decode prog_10_method_61_code 119 = .ok (.iload 5, 2) := by decide +kernel
theorem d_GM_count_121 : decode prog_10_method_61_code 121 = .ok (.ifCond .ge 10, 3) := by decide +kernel
theorem d_GM_count_124 : decode prog_10_method_61_code 124 = .ok (.iload 7, 2) := by decide +kernel
theorem d_GM_count_126 : decode prog_10_method_61_code 126 = .ok (.bipush 32, 2) := by decide +kernel
theorem d_GM_count_128 : decode prog_10_method_61_code 128 = .ok (.idiv, 1) := by decide +kernel
theorem d_GM_count_129 : decode prog_10_method_61_code 129 = .ok (.istore 5, 2) := by decide +kernel
theorem d_GM_count_131 : decode prog_10_method_61_code 131 = .ok (.iload 7, 2) := by decide +kernel
theorem d_GM_count_133 : decode prog_10_method_61_code 133 = .ok (.bipush 32, 2) := by decide +kernel
theorem d_GM_count_135 : decode prog_10_method_61_code 135 = .ok (.idiv, 1) := by decide +kernel
theorem d_GM_count_136 : decode prog_10_method_61_code 136 = .ok (.istore 6, 2) := by decide +kernel
theorem d_GM_count_138 : decode prog_10_method_61_code 138 = .ok (.iinc 7 1, 3) := by decide +kernel
theorem d_GM_count_141 : decode prog_10_method_61_code 141 = .ok (.goto (-82), 3) := by decide +kernel
theorem d_GM_count_144 : decode prog_10_method_61_code 144 = .ok (.iload_n 1, 1) := by decide +kernel
theorem d_GM_count_145 : decode prog_10_method_61_code 145 = .ok (.tableswitch 84 0 8 #[51, 56, 58, 60, 63, 66, 69, 74, 79], 51) := by decide +kernel
theorem d_GM_count_196 : decode prog_10_method_61_code 196 = .ok (.aload_n 0, 1) := by decide +kernel
theorem d_GM_count_197 : decode prog_10_method_61_code 197 = .ok (.getfield 7, 3) := by decide +kernel
theorem d_GM_count_200 : decode prog_10_method_61_code 200 = .ok (.ireturn, 1) := by decide +kernel
theorem d_GM_count_201 : decode prog_10_method_61_code 201 = .ok (.iload_n 2, 1) := by decide +kernel
theorem d_GM_count_202 : decode prog_10_method_61_code 202 = .ok (.ireturn, 1) := by decide +kernel
theorem d_GM_count_203 : decode prog_10_method_61_code 203 = .ok (.iload_n 3, 1) := by decide +kernel
theorem d_GM_count_204 : decode prog_10_method_61_code 204 = .ok (.ireturn, 1) := by decide +kernel
theorem d_GM_count_205 : decode prog_10_method_61_code 205 = .ok (.iload 4, 2) := by decide +kernel
theorem d_GM_count_207 : decode prog_10_method_61_code 207 = .ok (.ireturn, 1) := by decide +kernel
theorem d_GM_count_208 : decode prog_10_method_61_code 208 = .ok (.iload 5, 2) := by decide +kernel
theorem d_GM_count_210 : decode prog_10_method_61_code 210 = .ok (.ireturn, 1) := by decide +kernel
theorem d_GM_count_211 : decode prog_10_method_61_code 211 = .ok (.iload 6, 2) := by decide +kernel
theorem d_GM_count_213 : decode prog_10_method_61_code 213 = .ok (.ireturn, 1) := by decide +kernel
theorem d_GM_count_214 : decode prog_10_method_61_code 214 = .ok (.aload_n 0, 1) := by decide +kernel
theorem d_GM_count_215 : decode prog_10_method_61_code 215 = .ok (.getfield 31, 3) := by decide +kernel
theorem d_GM_count_218 : decode prog_10_method_61_code 218 = .ok (.ireturn, 1) := by decide +kernel
theorem d_GM_count_219 : decode prog_10_method_61_code 219 = .ok (.aload_n 0, 1) := by decide +kernel
theorem d_GM_count_220 : decode prog_10_method_61_code 220 = .ok (.getfield 34, 3) := by decide +kernel
theorem d_GM_count_223 : decode prog_10_method_61_code 223 = .ok (.ireturn, 1) := by decide +kernel
theorem d_GM_count_224 : decode prog_10_method_61_code 224 = .ok (.aload_n 0, 1) := by decide +kernel
theorem d_GM_count_225 : decode prog_10_method_61_code 225 = .ok (.getfield 16, 3) := by decide +kernel
theorem d_GM_count_228 : decode prog_10_method_61_code 228 = .ok (.ireturn, 1) := by decide +kernel
theorem d_GM_count_229 : decode prog_10_method_61_code 229 = .ok (.iconst (-1), 1) := by decide +kernel
theorem d_GM_count_230 : decode prog_10_method_61_code 230 = .ok (.ireturn, 1) := by decide +kernel
theorem GM_k335 : Jvm.Cond.constantLong "GlyphCompilerModel" 335 (jL 1000000000000000) ∈ jTs := by rw [show jL 1000000000000000 = 1000000000000000 by decide]; exact (jin_t (jin_5 14 rfl) rfl)
theorem yk_GM_state : jYok Y_GM_state 1 := ⟨(jin_t (jin_5 9 rfl) rfl), (jin_t (jin_1 9 rfl) rfl), ⟨by decide +kernel, by decide +kernel⟩, by decide +kernel⟩
theorem yv_GM_state : Cond.instanceMethod (yN Y_GM_state) ∈ jTs ∧ Cond.selects (yN Y_GM_state).cls (yN Y_GM_state) (yN Y_GM_state) ∈ jTs := ⟨(jin_t (jin_5 7 rfl) rfl), (jin_t (jin_5 8 rfl) rfl)⟩
theorem yk_GM_number : jYok Y_GM_number 1 := ⟨(jin_t (jin_5 13 rfl) rfl), (jin_t (jin_1 9 rfl) rfl), ⟨by decide +kernel, by decide +kernel⟩, by decide +kernel⟩
theorem yv_GM_number : Cond.instanceMethod (yN Y_GM_number) ∈ jTs ∧ Cond.selects (yN Y_GM_number).cls (yN Y_GM_number) (yN Y_GM_number) ∈ jTs := ⟨(jin_t (jin_5 11 rfl) rfl), (jin_t (jin_5 12 rfl) rfl)⟩
theorem yk_GM_factor : jYok Y_GM_factor 2 := ⟨(jin_t (jin_5 18 rfl) rfl), (jin_t (jin_1 9 rfl) rfl), ⟨by decide +kernel, by decide +kernel⟩, by decide +kernel⟩
theorem yv_GM_factor : Cond.instanceMethod (yN Y_GM_factor) ∈ jTs ∧ Cond.selects (yN Y_GM_factor).cls (yN Y_GM_factor) (yN Y_GM_factor) ∈ jTs := ⟨(jin_t (jin_5 16 rfl) rfl), (jin_t (jin_5 17 rfl) rfl)⟩
theorem yk_GM_black : jYok Y_GM_black 2 := ⟨(jin_t (jin_5 22 rfl) rfl), (jin_t (jin_1 9 rfl) rfl), ⟨by decide +kernel, by decide +kernel⟩, by decide +kernel⟩
theorem yv_GM_black : Cond.instanceMethod (yN Y_GM_black) ∈ jTs ∧ Cond.selects (yN Y_GM_black).cls (yN Y_GM_black) (yN Y_GM_black) ∈ jTs := ⟨(jin_t (jin_5 20 rfl) rfl), (jin_t (jin_5 21 rfl) rfl)⟩
theorem yk_GM_stretch : jYok Y_GM_stretch 2 := ⟨(jin_t (jin_5 26 rfl) rfl), (jin_t (jin_1 9 rfl) rfl), ⟨by decide +kernel, by decide +kernel⟩, by decide +kernel⟩
theorem yv_GM_stretch : Cond.instanceMethod (yN Y_GM_stretch) ∈ jTs ∧ Cond.selects (yN Y_GM_stretch).cls (yN Y_GM_stretch) (yN Y_GM_stretch) ∈ jTs := ⟨(jin_t (jin_5 24 rfl) rfl), (jin_t (jin_5 25 rfl) rfl)⟩
theorem yk_GM_shown : jYok Y_GM_shown 1 := ⟨(jin_t (jin_5 30 rfl) rfl), (jin_t (jin_1 9 rfl) rfl), ⟨by decide +kernel, by decide +kernel⟩, by decide +kernel⟩
theorem yv_GM_shown : Cond.instanceMethod (yN Y_GM_shown) ∈ jTs ∧ Cond.selects (yN Y_GM_shown).cls (yN Y_GM_shown) (yN Y_GM_shown) ∈ jTs := ⟨(jin_t (jin_5 28 rfl) rfl), (jin_t (jin_5 29 rfl) rfl)⟩
theorem yk_GM_count : jYok Y_GM_count 1 := ⟨(jin_t (jin_5 34 rfl) rfl), (jin_t (jin_1 9 rfl) rfl), ⟨by decide +kernel, by decide +kernel⟩, by decide +kernel⟩
theorem yv_GM_count : Cond.instanceMethod (yN Y_GM_count) ∈ jTs ∧ Cond.selects (yN Y_GM_count).cls (yN Y_GM_count) (yN Y_GM_count) ∈ jTs := ⟨(jin_t (jin_5 32 rfl) rfl), (jin_t (jin_5 33 rfl) rfl)⟩

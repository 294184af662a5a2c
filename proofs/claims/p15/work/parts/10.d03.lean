theorem d_VA_init_0 : decode prog_8_method_1_code 0 = .ok (.aload_n 0, 1) := by decide +kernel
theorem d_VA_init_1 : decode prog_8_method_1_code 1 = .ok (.invokespecial 3, 3) := by decide +kernel
theorem d_VA_init_4 : decode prog_8_method_1_code 4 = .ok (.aload_n 0, 1) := by decide +kernel
theorem d_VA_init_5 : decode prog_8_method_1_code 5 = .ok (.bipush 12, 2) := by decide +kernel
theorem d_VA_init_7 : decode prog_8_method_1_code 7 = .ok (.newarray .int, 2) := by decide +kernel
theorem d_VA_init_9 : decode prog_8_method_1_code 9 = .ok (.putfield 9, 3) := by decide +kernel
theorem d_VA_init_12 : decode prog_8_method_1_code 12 = .ok (.aload_n 0, 1) := by decide +kernel
theorem d_VA_init_13 : decode prog_8_method_1_code 13 = .ok (.bipush 12, 2) := by decide +kernel
theorem d_VA_init_15 : decode prog_8_method_1_code 15 = .ok (.invokestatic 15, 3) := by decide +kernel
theorem d_VA_init_18 : decode prog_8_method_1_code 18 = .ok (.putfield 21, 3) := by decide +kernel
theorem d_VA_init_21 : decode prog_8_method_1_code 21 = .ok (.aload_n 0, 1) := by decide +kernel
theorem d_VA_init_22 : decode prog_8_method_1_code 22 = .ok (.new 16, 3) := by decide +kernel
theorem d_VA_init_25 : decode prog_8_method_1_code 25 = .ok (.dup, 1) := by decide +kernel
theorem d_VA_init_26 : decode prog_8_method_1_code 26 = .ok (.invokespecial 25, 3) := by decide +kernel
theorem d_VA_init_29 : decode prog_8_method_1_code 29 = .ok (.putfield 26, 3) := by decide +kernel
theorem d_VA_init_32 : decode prog_8_method_1_code 32 = .ok (.aload_n 0, 1) := by decide +kernel
theorem d_VA_init_33 : decode prog_8_method_1_code 33 = .ok (.new 16, 3) := by decide +kernel
theorem d_VA_init_36 : decode prog_8_method_1_code 36 = .ok (.dup, 1) := by decide +kernel
theorem d_VA_init_37 : decode prog_8_method_1_code 37 = .ok (.invokespecial 25, 3) := by decide +kernel
theorem d_VA_init_40 : decode prog_8_method_1_code 40 = .ok (.putfield 30, 3) := by decide +kernel
theorem d_VA_init_43 : decode prog_8_method_1_code 43 = .ok (.iconst 0, 1) := by decide +kernel
theorem d_VA_init_44 : decode prog_8_method_1_code 44 = .ok (.istore_n 1, 1) := by decide +kernel
theorem d_VA_init_45 : decode prog_8_method_1_code 45 = .ok (.iload_n 1, 1) := by decide +kernel
theorem d_VA_init_46 : decode prog_8_method_1_code 46 = .ok (.bipush 12, 2) := by decide +kernel
theorem d_VA_init_48 : decode prog_8_method_1_code 48 = .ok (.if_icmp .ge 22, 3) := by decide +kernel
theorem d_VA_init_51 : decode prog_8_method_1_code 51 = .ok (.aload_n 0, 1) := by decide +kernel
theorem d_VA_init_52 : decode prog_8_method_1_code 52 = .ok (.getfield 21, 3) := by decide +kernel
theorem d_VA_init_55 : decode prog_8_method_1_code 55 = .ok (.iload_n 1, 1) := by decide +kernel
theorem d_VA_init_56 : decode prog_8_method_1_code 56 = .ok (.aaload, 1) := by decide +kernel
theorem d_VA_init_57 : decode prog_8_method_1_code 57 = .ok (.iload_n 1, 1) := by decide +kernel
theorem d_VA_init_58 : decode prog_8_method_1_code 58 = .ok (.ldc2_w 33, 3) := by decide +kernel
theorem d_VA_init_61 : decode prog_8_method_1_code 61 = .ok (.invokevirtual 35, 3) := by decide +kernel
theorem d_VA_init_64 : decode prog_8_method_1_code 64 = .ok (.iinc 1 1, 3) := by decide +kernel
theorem d_VA_init_67 : decode prog_8_method_1_code 67 = .ok (.goto (-22), 3) := by decide +kernel
theorem d_VA_init_70 : decode prog_8_method_1_code 70 = .ok (.return_, 1) := by decide +kernel
theorem d_PI_init_0 : decode prog_5_method_1_code 0 = .ok (.aload_n 0, 1) := by decide +kernel
theorem d_PI_init_1 : decode prog_5_method_1_code 1 = .ok (.invokespecial 3, 3) := by decide +kernel
theorem d_PI_init_4 : decode prog_5_method_1_code 4 = .ok (.aload_n 0, 1) := by decide +kernel
theorem d_PI_init_5 : decode prog_5_method_1_code 5 = .ok (.sipush 768, 3) := by decide +kernel
theorem d_PI_init_8 : decode prog_5_method_1_code 8 = .ok (.newarray .boolean, 2) := by decide +kernel
theorem d_PI_init_10 : decode prog_5_method_1_code 10 = .ok (.putfield 9, 3) := by decide +kernel
theorem d_PI_init_13 : decode prog_5_method_1_code 13 = .ok (.aload_n 0, 1) := by decide +kernel
theorem d_PI_init_14 : decode prog_5_method_1_code 14 = .ok (.bipush 32, 2) := by decide +kernel
theorem d_PI_init_16 : decode prog_5_method_1_code 16 = .ok (.newarray .int, 2) := by decide +kernel
theorem d_PI_init_18 : decode prog_5_method_1_code 18 = .ok (.putfield 15, 3) := by decide +kernel
theorem d_PI_init_21 : decode prog_5_method_1_code 21 = .ok (.return_, 1) := by decide +kernel
theorem d_PI_paint_0 : decode prog_5_method_4_code 0 = .ok (.iconst 0, 1) := by decide +kernel
theorem d_PI_paint_1 : decode prog_5_method_4_code 1 = .ok (.istore_n 3, 1) := by decide +kernel
theorem d_PI_paint_2 : decode prog_5_method_4_code 2 = .ok (.iload_n 3, 1) := by decide +kernel
theorem d_PI_paint_3 : decode prog_5_method_4_code 3 = .ok (.bipush 24, 2) := by decide +kernel
theorem d_PI_paint_5 : decode prog_5_method_4_code 5 = .ok (.if_icmp .ge 85, 3) := by decide +kernel
theorem d_PI_paint_8 : decode prog_5_method_4_code 8 = .ok (.aload_n 0, 1) := by decide +kernel
theorem d_PI_paint_9 : decode prog_5_method_4_code 9 = .ok (.getfield 15, 3) := by decide +kernel
theorem d_PI_paint_12 : decode prog_5_method_4_code 12 = .ok (.iconst 0, 1) := by decide +kernel
theorem d_PI_paint_13 : decode prog_5_method_4_code 13 = .ok (.invokestatic 19, 3) := by decide +kernel
theorem d_PI_paint_16 : decode prog_5_method_4_code 16 = .ok (.iconst 1, 1) := by decide +kernel
theorem d_PI_paint_17 : decode prog_5_method_4_code 17 = .ok (.istore 4, 2) := by decide +kernel
theorem d_PI_paint_19 : decode prog_5_method_4_code 19 = .ok (.iload 4, 2) := by decide +kernel
theorem d_PI_paint_21 : decode prog_5_method_4_code 21 = .ok (.aload_n 1, 1) := by decide +kernel
theorem d_PI_paint_22 : decode prog_5_method_4_code 22 = .ok (.getfield 25, 3) := by decide +kernel
theorem d_PI_paint_25 : decode prog_5_method_4_code 25 = .ok (.if_icmp .ge 20, 3) := by decide +kernel
theorem d_PI_paint_28 : decode prog_5_method_4_code 28 = .ok (.aload_n 0, 1) := by decide +kernel
theorem d_PI_paint_29 : decode prog_5_method_4_code 29 = .ok (.aload_n 1, 1) := by decide +kernel
theorem d_PI_paint_30 : decode prog_5_method_4_code 30 = .ok (.iload 4, 2) := by decide +kernel
theorem d_PI_paint_32 : decode prog_5_method_4_code 32 = .ok (.iload_n 3, 1) := by decide +kernel
theorem d_PI_paint_33 : decode prog_5_method_4_code 33 = .ok (.invokestatic 30, 3) := by decide +kernel
theorem d_PI_paint_36 : decode prog_5_method_4_code 36 = .ok (.invokevirtual 34, 3) := by decide +kernel
theorem d_PI_paint_39 : decode prog_5_method_4_code 39 = .ok (.iinc 4 1, 3) := by decide +kernel
theorem d_PI_paint_42 : decode prog_5_method_4_code 42 = .ok (.goto (-23), 3) := by decide +kernel
theorem d_PI_paint_45 : decode prog_5_method_4_code 45 = .ok (.iconst 0, 1) := by decide +kernel
theorem d_PI_paint_46 : decode prog_5_method_4_code 46 = .ok (.istore 4, 2) := by decide +kernel
theorem d_PI_paint_48 : decode prog_5_method_4_code 48 = .ok (.iload 4, 2) := by decide +kernel
theorem d_PI_paint_50 : decode prog_5_method_4_code 50 = .ok (.bipush 32, 2) := by decide +kernel
theorem d_PI_paint_52 : decode prog_5_method_4_code 52 = .ok (.if_icmp .ge 32, 3) := by decide +kernel
theorem d_PI_paint_55 : decode prog_5_method_4_code 55 = .ok (.aload_n 0, 1) := by decide +kernel
theorem d_PI_paint_56 : decode prog_5_method_4_code 56 = .ok (.getfield 15, 3) := by decide +kernel
theorem d_PI_paint_59 : decode prog_5_method_4_code 59 = .ok (.iload 4, 2) := by decide +kernel
theorem d_PI_paint_61 : decode prog_5_method_4_code 61 = .ok (.iaload, 1) := by decide +kernel
theorem d_PI_paint_62 : decode prog_5_method_4_code 62 = .ok (.ifCond .eq 16, 3) := by decide +kernel
theorem d_PI_paint_65 : decode prog_5_method_4_code 65 = .ok (.aload_n 0, 1) := by decide +kernel
theorem d_PI_paint_66 : decode prog_5_method_4_code 66 = .ok (.getfield 9, 3) := by decide +kernel
theorem d_PI_paint_69 : decode prog_5_method_4_code 69 = .ok (.iload_n 3, 1) := by decide +kernel
theorem d_PI_paint_70 : decode prog_5_method_4_code 70 = .ok (.bipush 32, 2) := by decide +kernel
theorem d_PI_paint_72 : decode prog_5_method_4_code 72 = .ok (.imul, 1) := by decide +kernel
theorem d_PI_paint_73 : decode prog_5_method_4_code 73 = .ok (.iload 4, 2) := by decide +kernel
theorem d_PI_paint_75 : decode prog_5_method_4_code 75 = .ok (.iadd, 1) := by decide +kernel
theorem d_PI_paint_76 : decode prog_5_method_4_code 76 = .ok (.iload_n 2, 1) := by decide +kernel
theorem d_PI_paint_77 : decode prog_5_method_4_code 77 = .ok (.bastore, 1) := by decide +kernel
theorem d_PI_paint_78 : decode prog_5_method_4_code 78 = .ok (.iinc 4 1, 3) := by decide +kernel
theorem d_PI_paint_81 : decode prog_5_method_4_code 81 = .ok (.goto (-33), 3) := by decide +kernel
theorem d_PI_paint_84 : decode prog_5_method_4_code 84 = .ok (.iinc 3 1, 3) := by decide +kernel
theorem d_PI_paint_87 : decode prog_5_method_4_code 87 = .ok (.goto (-85), 3) := by decide +kernel
theorem d_PI_paint_90 : decode prog_5_method_4_code 90 = .ok (.return_, 1) := by decide +kernel
theorem d_PI_middle_0 : decode prog_5_method_5_code 0 = .ok (.iload_n 0, 1) := by decide +kernel
theorem d_PI_middle_1 : decode prog_5_method_5_code 1 = .ok (.sipush 8192, 3) := by decide +kernel
theorem d_PI_middle_4 : decode prog_5_method_5_code 4 = .ok (.imul, 1) := by decide +kernel
theorem d_PI_middle_5 : decode prog_5_method_5_code 5 = .ok (.sipush 4096, 3) := by decide +kernel
theorem d_PI_middle_8 : decode prog_5_method_5_code 8 = .ok (.iadd, 1) := by decide +kernel
theorem d_PI_middle_9 : decode prog_5_method_5_code 9 = .ok (.i2l, 1) := by decide +kernel
theorem d_PI_middle_10 : decode prog_5_method_5_code 10 = .ok (.lreturn, 1) := by decide +kernel
theorem d_PI_wind_0 : decode prog_5_method_6_code 0 = .ok (.aload_n 1, 1) := by decide +kernel
theorem d_PI_wind_1 : decode prog_5_method_6_code 1 = .ok (.getfield 38, 3) := by decide +kernel
theorem d_PI_wind_4 : decode prog_5_method_6_code 4 = .ok (.iload_n 2, 1) := by decide +kernel
theorem d_PI_wind_5 : decode prog_5_method_6_code 5 = .ok (.iconst 1, 1) := by decide +kernel
theorem d_PI_wind_6 : decode prog_5_method_6_code 6 = .ok (.isub, 1) := by decide +kernel
theorem d_PI_wind_7 : decode prog_5_method_6_code 7 = .ok (.iaload, 1) := by decide +kernel
theorem d_PI_wind_8 : decode prog_5_method_6_code 8 = .ok (.i2l, 1) := by decide +kernel
theorem d_PI_wind_9 : decode prog_5_method_6_code 9 = .ok (.lstore 5, 2) := by decide +kernel
theorem d_PI_wind_11 : decode prog_5_method_6_code 11 = .ok (.aload_n 1, 1) := by decide +kernel
theorem d_PI_wind_12 : decode prog_5_method_6_code 12 = .ok (.getfield 41, 3) := by decide +kernel
theorem d_PI_wind_15 : decode prog_5_method_6_code 15 = .ok (.iload_n 2, 1) := by decide +kernel
theorem d_PI_wind_16 : decode prog_5_method_6_code 16 = .ok (.iconst 1, 1) := by decide +kernel
theorem d_PI_wind_17 : decode prog_5_method_6_code 17 = .ok (.isub, 1) := by decide +kernel
theorem d_PI_wind_18 : decode prog_5_method_6_code 18 = .ok (.iaload, 1) := by decide +kernel
theorem d_PI_wind_19 : decode prog_5_method_6_code 19 = .ok (.i2l, 1) := by decide +kernel
theorem d_PI_wind_20 : decode prog_5_method_6_code 20 = .ok (.lstore 7, 2) := by decide +kernel
theorem d_PI_wind_22 : decode prog_5_method_6_code 22 = .ok (.aload_n 1, 1) := by decide +kernel
theorem d_PI_wind_23 : decode prog_5_method_6_code 23 = .ok (.getfield 38, 3) := by decide +kernel
theorem d_PI_wind_26 : decode prog_5_method_6_code 26 = .ok (.iload_n 2, 1) := by decide +kernel
theorem d_PI_wind_27 : decode prog_5_method_6_code 27 = .ok (.iaload, 1) := by decide +kernel
theorem d_PI_wind_28 : decode prog_5_method_6_code 28 = .ok (.i2l, 1) := by decide +kernel
theorem d_PI_wind_29 : decode prog_5_method_6_code 29 = .ok (.lstore 9, 2) := by decide +kernel
theorem d_PI_wind_31 : decode prog_5_method_6_code 31 = .ok (.aload_n 1, 1) := by decide +kernel
theorem d_PI_wind_32 : decode prog_5_method_6_code 32 = .ok (.getfield 41, 3) := by decide +kernel
theorem d_PI_wind_35 : decode prog_5_method_6_code 35 = .ok (.iload_n 2, 1) := by decide +kernel
theorem d_PI_wind_36 : decode prog_5_method_6_code 36 = .ok (.iaload, 1) := by decide +kernel
theorem d_PI_wind_37 : decode prog_5_method_6_code 37 = .ok (.i2l, 1) := by decide +kernel
theorem d_PI_wind_38 : decode prog_5_method_6_code 38 = .ok (.lstore 11, 2) := by decide +kernel
theorem d_PI_wind_40 : decode prog_5_method_6_code 40 = .ok (.iconst 0, 1) := by decide +kernel
theorem d_PI_wind_41 : decode prog_5_method_6_code 41 = .ok (.istore 13, 2) := by decide +kernel
theorem d_PI_wind_43 : decode prog_5_method_6_code 43 = .ok (.lload 7, 2) := by decide +kernel
theorem d_PI_wind_45 : decode prog_5_method_6_code 45 = .ok (.lload_n 3, 1) := by decide +kernel
theorem d_PI_wind_46 : decode prog_5_method_6_code 46 = .ok (.lcmp, 1) := by decide +kernel
theorem d_PI_wind_47 : decode prog_5_method_6_code 47 = .ok (.ifCond .gt 16, 3) := by decide +kernel
theorem d_PI_wind_50 : decode prog_5_method_6_code 50 = .ok (.lload_n 3, 1) := by decide +kernel
theorem d_PI_wind_51 : decode prog_5_method_6_code 51 = .ok (.lload 11, 2) := by decide +kernel
theorem d_PI_wind_53 : decode prog_5_method_6_code 53 = .ok (.lcmp, 1) := by decide +kernel
theorem d_PI_wind_54 : decode prog_5_method_6_code 54 = .ok (.ifCond .ge 9, 3) := by decide +kernel
theorem d_PI_wind_57 : decode prog_5_method_6_code 57 = .ok (.iconst 1, 1) := by decide +kernel
theorem d_PI_wind_58 : decode prog_5_method_6_code 58 = .ok (.istore 13, 2) := by decide +kernel
theorem d_PI_wind_60 : decode prog_5_method_6_code 60 = .ok (.goto 20, 3) := by decide +kernel
theorem d_PI_wind_63 : decode prog_5_method_6_code 63 = .ok (.lload 11, 2) := by decide +kernel
theorem d_PI_wind_65 : decode prog_5_method_6_code 65 = .ok (.lload_n 3, 1) := by decide +kernel
theorem d_PI_wind_66 : decode prog_5_method_6_code 66 = .ok (.lcmp, 1) := by decide +kernel
theorem d_PI_wind_67 : decode prog_5_method_6_code 67 = .ok (.ifCond .gt 13, 3) := by decide +kernel
theorem d_PI_wind_70 : decode prog_5_method_6_code 70 = .ok (.lload_n 3, 1) := by decide +kernel
theorem d_PI_wind_71 : decode prog_5_method_6_code 71 = .ok (.lload 7, 2) := by decide +kernel
theorem d_PI_wind_73 : decode prog_5_method_6_code 73 = .ok (.lcmp, 1) := by decide +kernel
theorem d_PI_wind_74 : decode prog_5_method_6_code 74 = .ok (.ifCond .ge 6, 3) := by decide +kernel
theorem d_PI_wind_77 : decode prog_5_method_6_code 77 = .ok (.iconst (-1), 1) := by decide +kernel
theorem d_PI_wind_78 : decode prog_5_method_6_code 78 = .ok (.istore 13, 2) := by decide +kernel
theorem d_PI_wind_80 : decode prog_5_method_6_code 80 = .ok (.iload 13, 2) := by decide +kernel
theorem d_PI_wind_82 : decode prog_5_method_6_code 82 = .ok (.ifCond .eq 7, 3) := by decide +kernel
theorem d_PI_wind_85 : decode prog_5_method_6_code 85 = .ok (.iconst 1, 1) := by decide +kernel
theorem d_PI_wind_86 : decode prog_5_method_6_code 86 = .ok (.goto 4, 3) := by decide +kernel
theorem d_PI_wind_89 : decode prog_5_method_6_code 89 = .ok (.iconst 0, 1) := by decide +kernel
theorem d_PI_wind_90 : decode prog_5_method_6_code 90 = .ok (.istore 14, 2) := by decide +kernel
theorem d_PI_wind_92 : decode prog_5_method_6_code 92 = .ok (.iconst 0, 1) := by decide +kernel
theorem d_PI_wind_93 : decode prog_5_method_6_code 93 = .ok (.istore 15, 2) := by decide +kernel
theorem d_PI_wind_95 : decode prog_5_method_6_code 95 = .ok (.iload 15, 2) := by decide +kernel
theorem d_PI_wind_97 : decode prog_5_method_6_code 97 = .ok (.bipush 32, 2) := by decide +kernel
theorem d_PI_wind_99 : decode prog_5_method_6_code 99 = .ok (.if_icmp .ge 72, 3) := by decide +kernel
theorem d_PI_wind_102 : decode prog_5_method_6_code 102 = .ok (.iload 14, 2) := by decide +kernel
theorem d_PI_wind_104 : decode prog_5_method_6_code 104 = .ok (.ifCond .eq 67, 3) := by decide +kernel
theorem d_PI_wind_107 : decode prog_5_method_6_code 107 = .ok (.iload 13, 2) := by decide +kernel
theorem d_PI_wind_109 : decode prog_5_method_6_code 109 = .ok (.i2l, 1) := by decide +kernel
theorem d_PI_wind_110 : decode prog_5_method_6_code 110 = .ok (.lload 9, 2) := by decide +kernel
theorem d_PI_wind_112 : decode prog_5_method_6_code 112 = .ok (.lload 5, 2) := by decide +kernel
theorem d_PI_wind_114 : decode prog_5_method_6_code 114 = .ok (.lsub, 1) := by decide +kernel
theorem d_PI_wind_115 : decode prog_5_method_6_code 115 = .ok (.lload_n 3, 1) := by decide +kernel
theorem d_PI_wind_116 : decode prog_5_method_6_code 116 = .ok (.lload 7, 2) := by decide +kernel
theorem d_PI_wind_118 : decode prog_5_method_6_code 118 = .ok (.lsub, 1) := by decide +kernel
theorem d_PI_wind_119 : decode prog_5_method_6_code 119 = .ok (.lmul, 1) := by decide +kernel
theorem d_PI_wind_120 : decode prog_5_method_6_code 120 = .ok (.iload 15, 2) := by decide +kernel
theorem d_PI_wind_122 : decode prog_5_method_6_code 122 = .ok (.invokestatic 30, 3) := by decide +kernel
theorem d_PI_wind_125 : decode prog_5_method_6_code 125 = .ok (.lload 5, 2) := by decide +kernel
theorem d_PI_wind_127 : decode prog_5_method_6_code 127 = .ok (.lsub, 1) := by decide +kernel
theorem d_PI_wind_128 : decode prog_5_method_6_code 128 = .ok (.lload 11, 2) := by decide +kernel
theorem d_PI_wind_130 : decode prog_5_method_6_code 130 = .ok (.lload 7, 2) := by decide +kernel
theorem d_PI_wind_132 : decode prog_5_method_6_code 132 = .ok (.lsub, 1) := by decide +kernel
theorem d_PI_wind_133 : decode prog_5_method_6_code 133 = .ok (.lmul, 1) := by decide +kernel
theorem d_PI_wind_134 : decode prog_5_method_6_code 134 = .ok (.lsub, 1) := by decide +kernel
theorem d_PI_wind_135 : decode prog_5_method_6_code 135 = .ok (.lmul, 1) := by decide +kernel
theorem d_PI_wind_136 : decode prog_5_method_6_code 136 = .ok (.lconst 0, 1) := by decide +kernel
theorem d_PI_wind_137 : decode prog_5_method_6_code 137 = .ok (.lcmp, 1) := by decide +kernel
theorem d_PI_wind_138 : decode prog_5_method_6_code 138 = .ok (.ifCond .le 7, 3) := by decide +kernel
theorem d_PI_wind_141 : decode prog_5_method_6_code 141 = .ok (.iconst 1, 1) := by decide +kernel
theorem d_PI_wind_142 : decode prog_5_method_6_code 142 = .ok (.goto 4, 3) := by decide +kernel
theorem d_PI_wind_145 : decode prog_5_method_6_code 145 = .ok (.iconst 0, 1) := by decide +kernel
theorem d_PI_wind_146 : decode prog_5_method_6_code 146 = .ok (.istore 14, 2) := by decide +kernel
theorem d_PI_wind_148 : decode prog_5_method_6_code 148 = .ok (.iload 14, 2) := by decide +kernel
theorem d_PI_wind_150 : decode prog_5_method_6_code 150 = .ok (.ifCond .eq 15, 3) := by decide +kernel
theorem d_PI_wind_153 : decode prog_5_method_6_code 153 = .ok (.aload_n 0, 1) := by decide +kernel
theorem d_PI_wind_154 : decode prog_5_method_6_code 154 = .ok (.getfield 15, 3) := by decide +kernel
theorem d_PI_wind_157 : decode prog_5_method_6_code 157 = .ok (.iload 15, 2) := by decide +kernel
theorem d_PI_wind_159 : decode prog_5_method_6_code 159 = .ok (.dup2, 1) := by decide +kernel
theorem d_PI_wind_160 : decode prog_5_method_6_code 160 = .ok (.iaload, 1) := by decide +kernel
theorem d_PI_wind_161 : decode prog_5_method_6_code 161 = .ok (.iload 13, 2) := by decide +kernel
theorem d_PI_wind_163 : decode prog_5_method_6_code 163 = .ok (.iadd, 1) := by decide +kernel
theorem d_PI_wind_164 : decode prog_5_method_6_code 164 = .ok (.iastore, 1) := by decide +kernel
theorem d_PI_wind_165 : decode prog_5_method_6_code 165 = .ok (.iinc 15 1, 3) := by decide +kernel
theorem d_PI_wind_168 : decode prog_5_method_6_code 168 = .ok (.goto (-73), 3) := by decide +kernel
theorem d_PI_wind_171 : decode prog_5_method_6_code 171 = .ok (.return_, 1) := by decide +kernel
theorem d_VA_copy_0 : decode prog_8_method_3_code 0 = .ok (.iconst 0, 1) := by decide +kernel
theorem d_VA_copy_1 : decode prog_8_method_3_code 1 = .ok (.istore_n 2, 1) := by decide +kernel
theorem d_VA_copy_2 : decode prog_8_method_3_code 2 = .ok (.iload_n 2, 1) := by decide +kernel
theorem d_VA_copy_3 : decode prog_8_method_3_code 3 = .ok (.bipush 12, 2) := by decide +kernel
theorem d_VA_copy_5 : decode prog_8_method_3_code 5 = .ok (.if_icmp .ge 36, 3) := by decide +kernel
theorem d_VA_copy_8 : decode prog_8_method_3_code 8 = .ok (.aload_n 0, 1) := by decide +kernel
theorem d_VA_copy_9 : decode prog_8_method_3_code 9 = .ok (.getfield 9, 3) := by decide +kernel
theorem d_VA_copy_12 : decode prog_8_method_3_code 12 = .ok (.iload_n 2, 1) := by decide +kernel
theorem d_VA_copy_13 : decode prog_8_method_3_code 13 = .ok (.aload_n 1, 1) := by decide +kernel
theorem d_VA_copy_14 : decode prog_8_method_3_code 14 = .ok (.getfield 9, 3) := by decide +kernel
theorem d_VA_copy_17 : decode prog_8_method_3_code 17 = .ok (.iload_n 2, 1) := by decide +kernel
theorem d_VA_copy_18 : decode prog_8_method_3_code 18 = .ok (.iaload, 1) := by decide +kernel
theorem d_VA_copy_19 : decode prog_8_method_3_code 19 = .ok (.iastore, 1) := by decide +kernel
theorem d_VA_copy_20 : decode prog_8_method_3_code 20 = .ok (.aload_n 0, 1) := by decide +kernel
theorem d_VA_copy_21 : decode prog_8_method_3_code 21 = .ok (.getfield 21, 3) := by decide +kernel
theorem d_VA_copy_24 : decode prog_8_method_3_code 24 = .ok (.iload_n 2, 1) := by decide +kernel
theorem d_VA_copy_25 : decode prog_8_method_3_code 25 = .ok (.aaload, 1) := by decide +kernel
theorem d_VA_copy_26 : decode prog_8_method_3_code 26 = .ok (.aload_n 1, 1) := by decide +kernel
theorem d_VA_copy_27 : decode prog_8_method_3_code 27 = .ok (.getfield 21, 3) := by decide +kernel
theorem d_VA_copy_30 : decode prog_8_method_3_code 30 = .ok (.iload_n 2, 1) := by decide +kernel
theorem d_VA_copy_31 : decode prog_8_method_3_code 31 = .ok (.aaload, 1) := by decide +kernel
theorem d_VA_copy_32 : decode prog_8_method_3_code 32 = .ok (.invokevirtual 39, 3) := by decide +kernel
theorem d_VA_copy_35 : decode prog_8_method_3_code 35 = .ok (.iinc 2 1, 3) := by decide +kernel
theorem d_VA_copy_38 : decode prog_8_method_3_code 38 = .ok (.goto (-36), 3) := by decide +kernel
theorem d_VA_copy_41 : decode prog_8_method_3_code 41 = .ok (.return_, 1) := by decide +kernel
theorem d_VA_equate_0 : decode prog_8_method_4_code 0 = .ok (.aload_n 0, 1) := by decide +kernel
theorem d_VA_equate_1 : decode prog_8_method_4_code 1 = .ok (.getfield 26, 3) := by decide +kernel
theorem d_VA_equate_4 : decode prog_8_method_4_code 4 = .ok (.aload_n 1, 1) := by decide +kernel
theorem d_VA_equate_5 : decode prog_8_method_4_code 5 = .ok (.aload_n 0, 1) := by decide +kernel
theorem d_VA_equate_6 : decode prog_8_method_4_code 6 = .ok (.getfield 21, 3) := by decide +kernel
theorem d_VA_equate_9 : decode prog_8_method_4_code 9 = .ok (.invokevirtual 43, 3) := by decide +kernel
theorem d_VA_equate_12 : decode prog_8_method_4_code 12 = .ok (.ifCond .eq 18, 3) := by decide +kernel
theorem d_VA_equate_15 : decode prog_8_method_4_code 15 = .ok (.aload_n 0, 1) := by decide +kernel
theorem d_VA_equate_16 : decode prog_8_method_4_code 16 = .ok (.getfield 30, 3) := by decide +kernel
theorem d_VA_equate_19 : decode prog_8_method_4_code 19 = .ok (.aload_n 2, 1) := by decide +kernel
theorem d_VA_equate_20 : decode prog_8_method_4_code 20 = .ok (.aload_n 0, 1) := by decide +kernel
theorem d_VA_equate_21 : decode prog_8_method_4_code 21 = .ok (.getfield 21, 3) := by decide +kernel
theorem d_VA_equate_24 : decode prog_8_method_4_code 24 = .ok (.invokevirtual 43, 3) := by decide +kernel
theorem d_VA_equate_27 : decode prog_8_method_4_code 27 = .ok (.ifCond .ne 6, 3) := by decide +kernel
theorem d_VA_equate_30 : decode prog_8_method_4_code 30 = .ok (.bipush (-9), 2) := by decide +kernel
theorem d_VA_equate_32 : decode prog_8_method_4_code 32 = .ok (.ireturn, 1) := by decide +kernel
theorem d_VA_equate_33 : decode prog_8_method_4_code 33 = .ok (.aload_n 0, 1) := by decide +kernel
theorem d_VA_equate_34 : decode prog_8_method_4_code 34 = .ok (.getfield 26, 3) := by decide +kernel
theorem d_VA_equate_37 : decode prog_8_method_4_code 37 = .ok (.aload_n 0, 1) := by decide +kernel
theorem d_VA_equate_38 : decode prog_8_method_4_code 38 = .ok (.getfield 30, 3) := by decide +kernel
theorem d_VA_equate_41 : decode prog_8_method_4_code 41 = .ok (.invokevirtual 47, 3) := by decide +kernel
theorem d_VA_equate_44 : decode prog_8_method_4_code 44 = .ok (.aload_n 0, 1) := by decide +kernel
theorem d_VA_equate_45 : decode prog_8_method_4_code 45 = .ok (.getfield 26, 3) := by decide +kernel
theorem d_VA_equate_48 : decode prog_8_method_4_code 48 = .ok (.invokevirtual 50, 3) := by decide +kernel
theorem d_VA_equate_51 : decode prog_8_method_4_code 51 = .ok (.ifCond .eq 25, 3) := by decide +kernel
theorem d_VA_equate_54 : decode prog_8_method_4_code 54 = .ok (.aload_n 0, 1) := by decide +kernel
theorem d_VA_equate_55 : decode prog_8_method_4_code 55 = .ok (.getfield 26, 3) := by decide +kernel
theorem d_VA_equate_58 : decode prog_8_method_4_code 58 = .ok (.getfield 54, 3) := by decide +kernel
theorem d_VA_equate_61 : decode prog_8_method_4_code 61 = .ok (.bipush 12, 2) := by decide +kernel
theorem d_VA_equate_63 : decode prog_8_method_4_code 63 = .ok (.laload, 1) := by decide +kernel
theorem d_VA_equate_64 : decode prog_8_method_4_code 64 = .ok (.lconst 0, 1) := by decide +kernel
theorem d_VA_equate_65 : decode prog_8_method_4_code 65 = .ok (.lcmp, 1) := by decide +kernel
theorem d_VA_equate_66 : decode prog_8_method_4_code 66 = .ok (.ifCond .ne 7, 3) := by decide +kernel
theorem d_VA_equate_69 : decode prog_8_method_4_code 69 = .ok (.iconst 0, 1) := by decide +kernel
theorem d_VA_equate_70 : decode prog_8_method_4_code 70 = .ok (.goto 5, 3) := by decide +kernel
theorem d_VA_equate_73 : decode prog_8_method_4_code 73 = .ok (.bipush (-10), 2) := by decide +kernel
theorem d_VA_equate_75 : decode prog_8_method_4_code 75 = .ok (.ireturn, 1) := by decide +kernel
theorem d_VA_equate_76 : decode prog_8_method_4_code 76 = .ok (.aload_n 0, 1) := by decide +kernel
theorem d_VA_equate_77 : decode prog_8_method_4_code 77 = .ok (.invokevirtual 58, 3) := by decide +kernel
theorem d_VA_equate_80 : decode prog_8_method_4_code 80 = .ok (.istore_n 3, 1) := by decide +kernel
theorem d_VA_equate_81 : decode prog_8_method_4_code 81 = .ok (.iload_n 3, 1) := by decide +kernel
theorem d_VA_equate_82 : decode prog_8_method_4_code 82 = .ok (.bipush (-2), 2) := by decide +kernel
theorem d_VA_equate_84 : decode prog_8_method_4_code 84 = .ok (.if_icmp .ne 6, 3) := by decide +kernel
theorem d_VA_equate_87 : decode prog_8_method_4_code 87 = .ok (.bipush (-11), 2) := by decide +kernel
theorem d_VA_equate_89 : decode prog_8_method_4_code 89 = .ok (.ireturn, 1) := by decide +kernel
theorem d_VA_equate_90 : decode prog_8_method_4_code 90 = .ok (.aload_n 0, 1) := by decide +kernel
theorem d_VA_equate_91 : decode prog_8_method_4_code 91 = .ok (.getfield 21, 3) := by decide +kernel
theorem d_VA_equate_94 : decode prog_8_method_4_code 94 = .ok (.iload_n 3, 1) := by decide +kernel
theorem d_VA_equate_95 : decode prog_8_method_4_code 95 = .ok (.aaload, 1) := by decide +kernel
theorem d_VA_equate_96 : decode prog_8_method_4_code 96 = .ok (.aload_n 0, 1) := by decide +kernel
theorem d_VA_equate_97 : decode prog_8_method_4_code 97 = .ok (.getfield 26, 3) := by decide +kernel
theorem d_VA_equate_100 : decode prog_8_method_4_code 100 = .ok (.iload_n 3, 1) := by decide +kernel
theorem d_VA_equate_101 : decode prog_8_method_4_code 101 = .ok (.invokevirtual 62, 3) := by decide +kernel
theorem d_VA_equate_104 : decode prog_8_method_4_code 104 = .ok (.ifCond .eq 15, 3) := by decide +kernel
theorem d_VA_equate_107 : decode prog_8_method_4_code 107 = .ok (.aload_n 0, 1) := by decide +kernel
theorem d_VA_equate_108 : decode prog_8_method_4_code 108 = .ok (.iload_n 3, 1) := by decide +kernel
theorem d_VA_equate_109 : decode prog_8_method_4_code 109 = .ok (.invokevirtual 66, 3) := by decide +kernel
theorem d_VA_equate_112 : decode prog_8_method_4_code 112 = .ok (.ifCond .eq 7, 3) := by decide +kernel
theorem d_VA_equate_115 : decode prog_8_method_4_code 115 = .ok (.iconst 0, 1) := by decide +kernel
theorem d_VA_equate_116 : decode prog_8_method_4_code 116 = .ok (.goto 5, 3) := by decide +kernel
theorem d_VA_equate_119 : decode prog_8_method_4_code 119 = .ok (.bipush (-9), 2) := by decide +kernel
theorem d_VA_equate_121 : decode prog_8_method_4_code 121 = .ok (.ireturn, 1) := by decide +kernel
theorem d_VA_chooseSolved_0 : decode prog_8_method_5_code 0 = .ok (.bipush (-2), 2) := by decide +kernel
theorem d_VA_chooseSolved_2 : decode prog_8_method_5_code 2 = .ok (.istore_n 1, 1) := by decide +kernel
theorem d_VA_chooseSolved_3 : decode prog_8_method_5_code 3 = .ok (.lconst 0, 1) := by decide +kernel
theorem d_VA_chooseSolved_4 : decode prog_8_method_5_code 4 = .ok (.lstore_n 2, 1) := by decide +kernel
theorem d_VA_chooseSolved_5 : decode prog_8_method_5_code 5 = .ok (.iconst 0, 1) := by decide +kernel
theorem d_VA_chooseSolved_6 : decode prog_8_method_5_code 6 = .ok (.istore 4, 2) := by decide +kernel
theorem d_VA_chooseSolved_8 : decode prog_8_method_5_code 8 = .ok (.iload 4, 2) := by decide +kernel
theorem d_VA_chooseSolved_10 : decode prog_8_method_5_code 10 = .ok (.bipush 12, 2) := by decide +kernel
theorem d_VA_chooseSolved_12 : decode prog_8_method_5_code 12 = .ok (.if_icmp .ge 55, 3) := by decide +kernel
theorem d_VA_chooseSolved_15 : decode prog_8_method_5_code 15 = .ok (.aload_n 0, 1) := by decide +kernel
theorem d_VA_chooseSolved_16 : decode prog_8_method_5_code 16 = .ok (.getfield 26, 3) := by decide +kernel
theorem d_VA_chooseSolved_19 : decode prog_8_method_5_code 19 = .ok (.getfield 54, 3) := by decide +kernel
theorem d_VA_chooseSolved_22 : decode prog_8_method_5_code 22 = .ok (.iload 4, 2) := by decide +kernel
theorem d_VA_chooseSolved_24 : decode prog_8_method_5_code 24 = .ok (.laload, 1) := by decide +kernel
theorem d_VA_chooseSolved_25 : decode prog_8_method_5_code 25 = .ok (.invokestatic 70, 3) := by decide +kernel
theorem d_VA_chooseSolved_28 : decode prog_8_method_5_code 28 = .ok (.lstore 5, 2) := by decide +kernel
theorem d_VA_chooseSolved_30 : decode prog_8_method_5_code 30 = .ok (.lload 5, 2) := by decide +kernel
theorem d_VA_chooseSolved_32 : decode prog_8_method_5_code 32 = .ok (.invokestatic 76, 3) := by decide +kernel
theorem d_VA_chooseSolved_35 : decode prog_8_method_5_code 35 = .ok (.iconst 1, 1) := by decide +kernel
theorem d_VA_chooseSolved_36 : decode prog_8_method_5_code 36 = .ok (.if_icmp .ne 25, 3) := by decide +kernel
theorem d_VA_chooseSolved_39 : decode prog_8_method_5_code 39 = .ok (.lload 5, 2) := by decide +kernel
theorem d_VA_chooseSolved_41 : decode prog_8_method_5_code 41 = .ok (.ldc2_w 82, 3) := by decide +kernel
theorem d_VA_chooseSolved_44 : decode prog_8_method_5_code 44 = .ok (.lcmp, 1) := by decide +kernel
theorem d_VA_chooseSolved_45 : decode prog_8_method_5_code 45 = .ok (.ifCond .gt 16, 3) := by decide +kernel
theorem d_VA_chooseSolved_48 : decode prog_8_method_5_code 48 = .ok (.lload 5, 2) := by decide +kernel
theorem d_VA_chooseSolved_50 : decode prog_8_method_5_code 50 = .ok (.lload_n 2, 1) := by decide +kernel
theorem d_VA_chooseSolved_51 : decode prog_8_method_5_code 51 = .ok (.lcmp, 1) := by decide +kernel
theorem d_VA_chooseSolved_52 : decode prog_8_method_5_code 52 = .ok (.ifCond .le 9, 3) := by decide +kernel
theorem d_VA_chooseSolved_55 : decode prog_8_method_5_code 55 = .ok (.iload 4, 2) := by decide +kernel
theorem d_VA_chooseSolved_57 : decode prog_8_method_5_code 57 = .ok (.istore_n 1, 1) := by decide +kernel
theorem d_VA_chooseSolved_58 : decode prog_8_method_5_code 58 = .ok (.lload 5, 2) := by decide +kernel
theorem d_VA_chooseSolved_60 : decode prog_8_method_5_code 60 = .ok (.lstore_n 2, 1) := by decide +kernel
theorem d_VA_chooseSolved_61 : decode prog_8_method_5_code 61 = .ok (.iinc 4 1, 3) := by decide +kernel
theorem d_VA_chooseSolved_64 : decode prog_8_method_5_code 64 = .ok (.goto (-56), 3) := by decide +kernel
theorem d_VA_chooseSolved_67 : decode prog_8_method_5_code 67 = .ok (.iload_n 1, 1) := by decide +kernel
theorem d_VA_chooseSolved_68 : decode prog_8_method_5_code 68 = .ok (.ireturn, 1) := by decide +kernel
theorem d_VA_replaceInAll_0 : decode prog_8_method_6_code 0 = .ok (.aload_n 0, 1) := by decide +kernel
theorem d_VA_replaceInAll_1 : decode prog_8_method_6_code 1 = .ok (.iload_n 1, 1) := by decide +kernel
theorem d_VA_replaceInAll_2 : decode prog_8_method_6_code 2 = .ok (.invokevirtual 84, 3) := by decide +kernel
theorem d_VA_replaceInAll_5 : decode prog_8_method_6_code 5 = .ok (.iconst 0, 1) := by decide +kernel
theorem d_VA_replaceInAll_6 : decode prog_8_method_6_code 6 = .ok (.istore_n 2, 1) := by decide +kernel
theorem d_VA_replaceInAll_7 : decode prog_8_method_6_code 7 = .ok (.iload_n 2, 1) := by decide +kernel
theorem d_VA_replaceInAll_8 : decode prog_8_method_6_code 8 = .ok (.bipush 12, 2) := by decide +kernel
theorem d_VA_replaceInAll_10 : decode prog_8_method_6_code 10 = .ok (.if_icmp .ge 75, 3) := by decide +kernel
theorem d_VA_replaceInAll_13 : decode prog_8_method_6_code 13 = .ok (.aload_n 0, 1) := by decide +kernel
theorem d_VA_replaceInAll_14 : decode prog_8_method_6_code 14 = .ok (.getfield 9, 3) := by decide +kernel
theorem d_VA_replaceInAll_17 : decode prog_8_method_6_code 17 = .ok (.iload_n 2, 1) := by decide +kernel
theorem d_VA_replaceInAll_18 : decode prog_8_method_6_code 18 = .ok (.iaload, 1) := by decide +kernel
theorem d_VA_replaceInAll_19 : decode prog_8_method_6_code 19 = .ok (.iconst 1, 1) := by decide +kernel
theorem d_VA_replaceInAll_20 : decode prog_8_method_6_code 20 = .ok (.if_icmp .ne 59, 3) := by decide +kernel
theorem d_VA_replaceInAll_23 : decode prog_8_method_6_code 23 = .ok (.aload_n 0, 1) := by decide +kernel
theorem d_VA_replaceInAll_24 : decode prog_8_method_6_code 24 = .ok (.getfield 21, 3) := by decide +kernel
theorem d_VA_replaceInAll_27 : decode prog_8_method_6_code 27 = .ok (.iload_n 2, 1) := by decide +kernel
theorem d_VA_replaceInAll_28 : decode prog_8_method_6_code 28 = .ok (.aaload, 1) := by decide +kernel
theorem d_VA_replaceInAll_29 : decode prog_8_method_6_code 29 = .ok (.getfield 54, 3) := by decide +kernel
theorem d_VA_replaceInAll_32 : decode prog_8_method_6_code 32 = .ok (.iload_n 1, 1) := by decide +kernel
theorem d_VA_replaceInAll_33 : decode prog_8_method_6_code 33 = .ok (.laload, 1) := by decide +kernel
theorem d_VA_replaceInAll_34 : decode prog_8_method_6_code 34 = .ok (.lconst 0, 1) := by decide +kernel
theorem d_VA_replaceInAll_35 : decode prog_8_method_6_code 35 = .ok (.lcmp, 1) := by decide +kernel
theorem d_VA_replaceInAll_36 : decode prog_8_method_6_code 36 = .ok (.ifCond .eq 43, 3) := by decide +kernel
theorem d_VA_replaceInAll_39 : decode prog_8_method_6_code 39 = .ok (.aload_n 0, 1) := by decide +kernel
theorem d_VA_replaceInAll_40 : decode prog_8_method_6_code 40 = .ok (.getfield 30, 3) := by decide +kernel
theorem d_VA_replaceInAll_43 : decode prog_8_method_6_code 43 = .ok (.aload_n 0, 1) := by decide +kernel
theorem d_VA_replaceInAll_44 : decode prog_8_method_6_code 44 = .ok (.getfield 21, 3) := by decide +kernel
theorem d_VA_replaceInAll_47 : decode prog_8_method_6_code 47 = .ok (.iload_n 2, 1) := by decide +kernel
theorem d_VA_replaceInAll_48 : decode prog_8_method_6_code 48 = .ok (.aaload, 1) := by decide +kernel
theorem d_VA_replaceInAll_49 : decode prog_8_method_6_code 49 = .ok (.aload_n 0, 1) := by decide +kernel
theorem d_VA_replaceInAll_50 : decode prog_8_method_6_code 50 = .ok (.getfield 21, 3) := by decide +kernel
theorem d_VA_replaceInAll_53 : decode prog_8_method_6_code 53 = .ok (.invokevirtual 43, 3) := by decide +kernel
theorem d_VA_replaceInAll_56 : decode prog_8_method_6_code 56 = .ok (.ifCond .ne 5, 3) := by decide +kernel
theorem d_VA_replaceInAll_59 : decode prog_8_method_6_code 59 = .ok (.iconst 0, 1) := by decide +kernel
theorem d_VA_replaceInAll_60 : decode prog_8_method_6_code 60 = .ok (.ireturn, 1) := by decide +kernel
theorem d_VA_replaceInAll_61 : decode prog_8_method_6_code 61 = .ok (.aload_n 0, 1) := by decide +kernel
theorem d_VA_replaceInAll_62 : decode prog_8_method_6_code 62 = .ok (.getfield 21, 3) := by decide +kernel
theorem d_VA_replaceInAll_65 : decode prog_8_method_6_code 65 = .ok (.iload_n 2, 1) := by decide +kernel
theorem d_VA_replaceInAll_66 : decode prog_8_method_6_code 66 = .ok (.aaload, 1) := by decide +kernel
theorem d_VA_replaceInAll_67 : decode prog_8_method_6_code 67 = .ok (.aload_n 0, 1) := by decide +kernel
theorem d_VA_replaceInAll_68 : decode prog_8_method_6_code 68 = .ok (.getfield 30, 3) := by decide +kernel
theorem d_VA_replaceInAll_71 : decode prog_8_method_6_code 71 = .ok (.invokevirtual 39, 3) := by decide +kernel
theorem d_VA_replaceInAll_74 : decode prog_8_method_6_code 74 = .ok (.aload_n 0, 1) := by decide +kernel
theorem d_VA_replaceInAll_75 : decode prog_8_method_6_code 75 = .ok (.iload_n 2, 1) := by decide +kernel
theorem d_VA_replaceInAll_76 : decode prog_8_method_6_code 76 = .ok (.invokevirtual 84, 3) := by decide +kernel
theorem d_VA_replaceInAll_79 : decode prog_8_method_6_code 79 = .ok (.iinc 2 1, 3) := by decide +kernel
theorem d_VA_replaceInAll_82 : decode prog_8_method_6_code 82 = .ok (.goto (-75), 3) := by decide +kernel
theorem d_VA_replaceInAll_85 : decode prog_8_method_6_code 85 = .ok (.iconst 1, 1) := by decide +kernel
theorem d_VA_replaceInAll_86 : decode prog_8_method_6_code 86 = .ok (.ireturn, 1) := by decide +kernel
theorem d_VA_settle_0 : decode prog_8_method_7_code 0 = .ok (.aload_n 0, 1) := by decide +kernel
theorem d_VA_settle_1 : decode prog_8_method_7_code 1 = .ok (.getfield 9, 3) := by decide +kernel
theorem d_VA_settle_4 : decode prog_8_method_7_code 4 = .ok (.iload_n 1, 1) := by decide +kernel
theorem d_VA_settle_5 : decode prog_8_method_7_code 5 = .ok (.aload_n 0, 1) := by decide +kernel
theorem d_VA_settle_6 : decode prog_8_method_7_code 6 = .ok (.getfield 21, 3) := by decide +kernel
theorem d_VA_settle_9 : decode prog_8_method_7_code 9 = .ok (.iload_n 1, 1) := by decide +kernel
theorem d_VA_settle_10 : decode prog_8_method_7_code 10 = .ok (.aaload, 1) := by decide +kernel
theorem d_VA_settle_11 : decode prog_8_method_7_code 11 = .ok (.invokevirtual 50, 3) := by decide +kernel
theorem d_VA_settle_14 : decode prog_8_method_7_code 14 = .ok (.ifCond .eq 7, 3) := by decide +kernel
theorem d_VA_settle_17 : decode prog_8_method_7_code 17 = .ok (.iconst 2, 1) := by decide +kernel
theorem d_VA_settle_18 : decode prog_8_method_7_code 18 = .ok (.goto 4, 3) := by decide +kernel
theorem d_VA_settle_21 : decode prog_8_method_7_code 21 = .ok (.iconst 1, 1) := by decide +kernel
theorem d_VA_settle_22 : decode prog_8_method_7_code 22 = .ok (.iastore, 1) := by decide +kernel
theorem d_VA_settle_23 : decode prog_8_method_7_code 23 = .ok (.return_, 1) := by decide +kernel
theorem d_VA_free_0 : decode prog_8_method_2_code 0 = .ok (.iconst 0, 1) := by decide +kernel
theorem d_VA_free_1 : decode prog_8_method_2_code 1 = .ok (.istore_n 1, 1) := by decide +kernel
theorem d_VA_free_2 : decode prog_8_method_2_code 2 = .ok (.iload_n 1, 1) := by decide +kernel
theorem d_VA_free_3 : decode prog_8_method_2_code 3 = .ok (.bipush 12, 2) := by decide +kernel
theorem d_VA_free_5 : decode prog_8_method_2_code 5 = .ok (.if_icmp .ge 29, 3) := by decide +kernel
theorem d_VA_free_8 : decode prog_8_method_2_code 8 = .ok (.aload_n 0, 1) := by decide +kernel
theorem d_VA_free_9 : decode prog_8_method_2_code 9 = .ok (.getfield 9, 3) := by decide +kernel
theorem d_VA_free_12 : decode prog_8_method_2_code 12 = .ok (.iload_n 1, 1) := by decide +kernel
theorem d_VA_free_13 : decode prog_8_method_2_code 13 = .ok (.iconst 0, 1) := by decide +kernel
theorem d_VA_free_14 : decode prog_8_method_2_code 14 = .ok (.iastore, 1) := by decide +kernel
theorem d_VA_free_15 : decode prog_8_method_2_code 15 = .ok (.aload_n 0, 1) := by decide +kernel
theorem d_VA_free_16 : decode prog_8_method_2_code 16 = .ok (.getfield 21, 3) := by decide +kernel
theorem d_VA_free_19 : decode prog_8_method_2_code 19 = .ok (.iload_n 1, 1) := by decide +kernel
theorem d_VA_free_20 : decode prog_8_method_2_code 20 = .ok (.aaload, 1) := by decide +kernel
theorem d_VA_free_21 : decode prog_8_method_2_code 21 = .ok (.iload_n 1, 1) := by decide +kernel
theorem d_VA_free_22 : decode prog_8_method_2_code 22 = .ok (.ldc2_w 33, 3) := by decide +kernel
theorem d_VA_free_25 : decode prog_8_method_2_code 25 = .ok (.invokevirtual 35, 3) := by decide +kernel
theorem d_VA_free_28 : decode prog_8_method_2_code 28 = .ok (.iinc 1 1, 3) := by decide +kernel
theorem d_VA_free_31 : decode prog_8_method_2_code 31 = .ok (.goto (-29), 3) := by decide +kernel
theorem d_VA_free_34 : decode prog_8_method_2_code 34 = .ok (.return_, 1) := by decide +kernel
theorem d_PI_whiten_0 : decode prog_5_method_3_code 0 = .ok (.iconst 0, 1) := by decide +kernel
theorem d_PI_whiten_1 : decode prog_5_method_3_code 1 = .ok (.istore_n 1, 1) := by decide +kernel
theorem d_PI_whiten_2 : decode prog_5_method_3_code 2 = .ok (.iload_n 1, 1) := by decide +kernel
theorem d_PI_whiten_3 : decode prog_5_method_3_code 3 = .ok (.aload_n 0, 1) := by decide +kernel
theorem d_PI_whiten_4 : decode prog_5_method_3_code 4 = .ok (.getfield 9, 3) := by decide +kernel
theorem d_PI_whiten_7 : decode prog_5_method_3_code 7 = .ok (.arraylength, 1) := by decide +kernel
theorem d_PI_whiten_8 : decode prog_5_method_3_code 8 = .ok (.if_icmp .ge 16, 3) := by decide +kernel
theorem d_PI_whiten_11 : decode prog_5_method_3_code 11 = .ok (.aload_n 0, 1) := by decide +kernel
theorem d_PI_whiten_12 : decode prog_5_method_3_code 12 = .ok (.getfield 9, 3) := by decide +kernel
theorem d_PI_whiten_15 : decode prog_5_method_3_code 15 = .ok (.iload_n 1, 1) := by decide +kernel
theorem d_PI_whiten_16 : decode prog_5_method_3_code 16 = .ok (.iconst 0, 1) := by decide +kernel
theorem d_PI_whiten_17 : decode prog_5_method_3_code 17 = .ok (.bastore, 1) := by decide +kernel
theorem d_PI_whiten_18 : decode prog_5_method_3_code 18 = .ok (.iinc 1 1, 3) := by decide +kernel
theorem d_PI_whiten_21 : decode prog_5_method_3_code 21 = .ok (.goto (-19), 3) := by decide +kernel
theorem d_PI_whiten_24 : decode prog_5_method_3_code 24 = .ok (.return_, 1) := by decide +kernel
theorem d_PI_isBlack_0 : decode prog_5_method_2_code 0 = .ok (.aload_n 0, 1) := by decide +kernel
theorem d_PI_isBlack_1 : decode prog_5_method_2_code 1 = .ok (.getfield 9, 3) := by decide +kernel
theorem d_PI_isBlack_4 : decode prog_5_method_2_code 4 = .ok (.iload_n 2, 1) := by decide +kernel
theorem d_PI_isBlack_5 : decode prog_5_method_2_code 5 = .ok (.bipush 32, 2) := by decide +kernel
theorem d_PI_isBlack_7 : decode prog_5_method_2_code 7 = .ok (.imul, 1) := by decide +kernel
theorem d_PI_isBlack_8 : decode prog_5_method_2_code 8 = .ok (.iload_n 1, 1) := by decide +kernel
theorem d_PI_isBlack_9 : decode prog_5_method_2_code 9 = .ok (.iadd, 1) := by decide +kernel
theorem d_PI_isBlack_10 : decode prog_5_method_2_code 10 = .ok (.baload, 1) := by decide +kernel
theorem d_PI_isBlack_11 : decode prog_5_method_2_code 11 = .ok (.ireturn, 1) := by decide +kernel
theorem d_PI_lengthOfRun_0 : decode prog_5_method_9_code 0 = .ok (.iconst 0, 1) := by decide +kernel
theorem d_PI_lengthOfRun_1 : decode prog_5_method_9_code 1 = .ok (.istore_n 3, 1) := by decide +kernel
theorem d_PI_lengthOfRun_2 : decode prog_5_method_9_code 2 = .ok (.iconst 0, 1) := by decide +kernel
theorem d_PI_lengthOfRun_3 : decode prog_5_method_9_code 3 = .ok (.istore 4, 2) := by decide +kernel
theorem d_PI_lengthOfRun_5 : decode prog_5_method_9_code 5 = .ok (.iconst 0, 1) := by decide +kernel
theorem d_PI_lengthOfRun_6 : decode prog_5_method_9_code 6 = .ok (.istore 5, 2) := by decide +kernel
theorem d_PI_lengthOfRun_8 : decode prog_5_method_9_code 8 = .ok (.iconst 0, 1) := by decide +kernel
theorem d_PI_lengthOfRun_9 : decode prog_5_method_9_code 9 = .ok (.istore 6, 2) := by decide +kernel
theorem d_PI_lengthOfRun_11 : decode prog_5_method_9_code 11 = .ok (.iload 6, 2) := by decide +kernel
theorem d_PI_lengthOfRun_13 : decode prog_5_method_9_code 13 = .ok (.bipush 32, 2) := by decide +kernel
theorem d_PI_lengthOfRun_15 : decode prog_5_method_9_code 15 = .ok (.if_icmp .ge 50, 3) := by decide +kernel
theorem d_PI_lengthOfRun_18 : decode prog_5_method_9_code 18 = .ok (.aload_n 0, 1) := by decide +kernel
theorem d_PI_lengthOfRun_19 : decode prog_5_method_9_code 19 = .ok (.iload 6, 2) := by decide +kernel
theorem d_PI_lengthOfRun_21 : decode prog_5_method_9_code 21 = .ok (.iload_n 1, 1) := by decide +kernel
theorem d_PI_lengthOfRun_22 : decode prog_5_method_9_code 22 = .ok (.invokevirtual 44, 3) := by decide +kernel
theorem d_PI_lengthOfRun_25 : decode prog_5_method_9_code 25 = .ok (.iload 5, 2) := by decide +kernel
theorem d_PI_lengthOfRun_27 : decode prog_5_method_9_code 27 = .ok (.if_icmp .eq 29, 3) := by decide +kernel
theorem d_PI_lengthOfRun_30 : decode prog_5_method_9_code 30 = .ok (.iload_n 3, 1) := by decide +kernel
theorem d_PI_lengthOfRun_31 : decode prog_5_method_9_code 31 = .ok (.iload_n 2, 1) := by decide +kernel
theorem d_PI_lengthOfRun_32 : decode prog_5_method_9_code 32 = .ok (.if_icmp .ne 6, 3) := by decide +kernel
theorem d_PI_lengthOfRun_35 : decode prog_5_method_9_code 35 = .ok (.iload 4, 2) := by decide +kernel
theorem d_PI_lengthOfRun_37 : decode prog_5_method_9_code 37 = .ok (.ireturn, 1) := by decide +kernel
theorem d_PI_lengthOfRun_38 : decode prog_5_method_9_code 38 = .ok (.iinc 3 1, 3) := by decide +kernel
theorem d_PI_lengthOfRun_41 : decode prog_5_method_9_code 41 = .ok (.iconst 0, 1) := by decide +kernel
theorem d_PI_lengthOfRun_42 : decode prog_5_method_9_code 42 = .ok (.istore 4, 2) := by decide +kernel
theorem d_PI_lengthOfRun_44 : decode prog_5_method_9_code 44 = .ok (.iload 5, 2) := by decide +kernel
theorem d_PI_lengthOfRun_46 : decode prog_5_method_9_code 46 = .ok (.ifCond .ne 7, 3) := by decide +kernel
theorem d_PI_lengthOfRun_49 : decode prog_5_method_9_code 49 = .ok (.iconst 1, 1) := by decide +kernel
theorem d_PI_lengthOfRun_50 : decode prog_5_method_9_code 50 = .ok (.goto 4, 3) := by decide +kernel
theorem d_PI_lengthOfRun_53 : decode prog_5_method_9_code 53 = .ok (.iconst 0, 1) := by decide +kernel
theorem d_PI_lengthOfRun_54 : decode prog_5_method_9_code 54 = .ok (.istore 5, 2) := by decide +kernel
theorem d_PI_lengthOfRun_56 : decode prog_5_method_9_code 56 = .ok (.iinc 4 1, 3) := by decide +kernel
theorem d_PI_lengthOfRun_59 : decode prog_5_method_9_code 59 = .ok (.iinc 6 1, 3) := by decide +kernel
theorem d_PI_lengthOfRun_62 : decode prog_5_method_9_code 62 = .ok (.goto (-51), 3) := by decide +kernel
theorem d_PI_lengthOfRun_65 : decode prog_5_method_9_code 65 = .ok (.iload 5, 2) := by decide +kernel
theorem d_PI_lengthOfRun_67 : decode prog_5_method_9_code 67 = .ok (.ifCond .eq 13, 3) := by decide +kernel
theorem d_PI_lengthOfRun_70 : decode prog_5_method_9_code 70 = .ok (.iload_n 3, 1) := by decide +kernel
theorem d_PI_lengthOfRun_71 : decode prog_5_method_9_code 71 = .ok (.iload_n 2, 1) := by decide +kernel
theorem d_PI_lengthOfRun_72 : decode prog_5_method_9_code 72 = .ok (.if_icmp .ne 8, 3) := by decide +kernel
theorem d_PI_lengthOfRun_75 : decode prog_5_method_9_code 75 = .ok (.iload 4, 2) := by decide +kernel
theorem d_PI_lengthOfRun_77 : decode prog_5_method_9_code 77 = .ok (.goto 5, 3) := by decide +kernel
theorem d_PI_lengthOfRun_80 : decode prog_5_method_9_code 80 = .ok (.bipush (-2), 2) := by decide +kernel
theorem d_PI_lengthOfRun_82 : decode prog_5_method_9_code 82 = .ok (.ireturn, 1) := by decide +kernel
theorem d_PI_blackPoints_0 : decode prog_5_method_7_code 0 = .ok (.iconst 0, 1) := by decide +kernel
theorem d_PI_blackPoints_1 : decode prog_5_method_7_code 1 = .ok (.istore_n 1, 1) := by decide +kernel
theorem d_PI_blackPoints_2 : decode prog_5_method_7_code 2 = .ok (.iconst 0, 1) := by decide +kernel
theorem d_PI_blackPoints_3 : decode prog_5_method_7_code 3 = .ok (.istore_n 2, 1) := by decide +kernel
theorem d_PI_blackPoints_4 : decode prog_5_method_7_code 4 = .ok (.iload_n 2, 1) := by decide +kernel
theorem d_PI_blackPoints_5 : decode prog_5_method_7_code 5 = .ok (.aload_n 0, 1) := by decide +kernel
theorem d_PI_blackPoints_6 : decode prog_5_method_7_code 6 = .ok (.getfield 9, 3) := by decide +kernel
theorem d_PI_blackPoints_9 : decode prog_5_method_7_code 9 = .ok (.arraylength, 1) := by decide +kernel
theorem d_PI_blackPoints_10 : decode prog_5_method_7_code 10 = .ok (.if_icmp .ge 21, 3) := by decide +kernel
theorem d_PI_blackPoints_13 : decode prog_5_method_7_code 13 = .ok (.aload_n 0, 1) := by decide +kernel
theorem d_PI_blackPoints_14 : decode prog_5_method_7_code 14 = .ok (.getfield 9, 3) := by decide +kernel
theorem d_PI_blackPoints_17 : decode prog_5_method_7_code 17 = .ok (.iload_n 2, 1) := by decide +kernel
theorem d_PI_blackPoints_18 : decode prog_5_method_7_code 18 = .ok (.baload, 1) := by decide +kernel
theorem d_PI_blackPoints_19 : decode prog_5_method_7_code 19 = .ok (.ifCond .eq 6, 3) := by decide +kernel
theorem d_PI_blackPoints_22 : decode prog_5_method_7_code 22 = .ok (.iinc 1 1, 3) := by decide +kernel
theorem d_PI_blackPoints_25 : decode prog_5_method_7_code 25 = .ok (.iinc 2 1, 3) := by decide +kernel
theorem d_PI_blackPoints_28 : decode prog_5_method_7_code 28 = .ok (.goto (-24), 3) := by decide +kernel
theorem d_PI_blackPoints_31 : decode prog_5_method_7_code 31 = .ok (.iload_n 1, 1) := by decide +kernel
theorem d_PI_blackPoints_32 : decode prog_5_method_7_code 32 = .ok (.ireturn, 1) := by decide +kernel
theorem d_PI_edge_0 : decode prog_5_method_8_code 0 = .ok (.bipush (-2), 2) := by decide +kernel
theorem d_PI_edge_2 : decode prog_5_method_8_code 2 = .ok (.istore_n 3, 1) := by decide +kernel
theorem d_PI_edge_3 : decode prog_5_method_8_code 3 = .ok (.iconst 0, 1) := by decide +kernel
theorem d_PI_edge_4 : decode prog_5_method_8_code 4 = .ok (.istore 4, 2) := by decide +kernel
theorem d_PI_edge_6 : decode prog_5_method_8_code 6 = .ok (.iload 4, 2) := by decide +kernel
theorem d_PI_edge_8 : decode prog_5_method_8_code 8 = .ok (.aload_n 0, 1) := by decide +kernel
theorem d_PI_edge_9 : decode prog_5_method_8_code 9 = .ok (.getfield 9, 3) := by decide +kernel
theorem d_PI_edge_12 : decode prog_5_method_8_code 12 = .ok (.arraylength, 1) := by decide +kernel
theorem d_PI_edge_13 : decode prog_5_method_8_code 13 = .ok (.if_icmp .ge 66, 3) := by decide +kernel
theorem d_PI_edge_16 : decode prog_5_method_8_code 16 = .ok (.iload_n 1, 1) := by decide +kernel
theorem d_PI_edge_17 : decode prog_5_method_8_code 17 = .ok (.ifCond .eq 11, 3) := by decide +kernel
theorem d_PI_edge_20 : decode prog_5_method_8_code 20 = .ok (.iload 4, 2) := by decide +kernel
theorem d_PI_edge_22 : decode prog_5_method_8_code 22 = .ok (.bipush 32, 2) := by decide +kernel
theorem d_PI_edge_24 : decode prog_5_method_8_code 24 = .ok (.irem, 1) := by decide +kernel
theorem d_PI_edge_25 : decode prog_5_method_8_code 25 = .ok (.goto 8, 3) := by decide +kernel
theorem d_PI_edge_28 : decode prog_5_method_8_code 28 = .ok (.iload 4, 2) := by decide +kernel
theorem d_PI_edge_30 : decode prog_5_method_8_code 30 = .ok (.bipush 32, 2) := by decide +kernel
theorem d_PI_edge_32 : decode prog_5_method_8_code 32 = .ok (.idiv, 1) := by decide +kernel
theorem d_PI_edge_33 : decode prog_5_method_8_code 33 = .ok (.istore 5, 2) := by decide +kernel
theorem d_PI_edge_35 : decode prog_5_method_8_code 35 = .ok (.aload_n 0, 1) := by decide +kernel
theorem d_PI_edge_36 : decode prog_5_method_8_code 36 = .ok (.getfield 9, 3) := by decide +kernel
theorem d_PI_edge_39 : decode prog_5_method_8_code 39 = .ok (.iload 4, 2) := by decide +kernel
theorem d_PI_edge_41 : decode prog_5_method_8_code 41 = .ok (.baload, 1) := by decide +kernel
theorem d_PI_edge_42 : decode prog_5_method_8_code 42 = .ok (.ifCond .eq 31, 3) := by decide +kernel
theorem d_PI_edge_45 : decode prog_5_method_8_code 45 = .ok (.iload_n 3, 1) := by decide +kernel
theorem d_PI_edge_46 : decode prog_5_method_8_code 46 = .ok (.bipush (-2), 2) := by decide +kernel
theorem d_PI_edge_48 : decode prog_5_method_8_code 48 = .ok (.if_icmp .eq 22, 3) := by decide +kernel
theorem d_PI_edge_51 : decode prog_5_method_8_code 51 = .ok (.iload_n 2, 1) := by decide +kernel
theorem d_PI_edge_52 : decode prog_5_method_8_code 52 = .ok (.ifCond .eq 12, 3) := by decide +kernel
theorem d_PI_edge_55 : decode prog_5_method_8_code 55 = .ok (.iload 5, 2) := by decide +kernel
theorem d_PI_edge_57 : decode prog_5_method_8_code 57 = .ok (.iload_n 3, 1) := by decide +kernel
theorem d_PI_edge_58 : decode prog_5_method_8_code 58 = .ok (.if_icmp .le 15, 3) := by decide +kernel
theorem d_PI_edge_61 : decode prog_5_method_8_code 61 = .ok (.goto 9, 3) := by decide +kernel
theorem d_PI_edge_64 : decode prog_5_method_8_code 64 = .ok (.iload 5, 2) := by decide +kernel
theorem d_PI_edge_66 : decode prog_5_method_8_code 66 = .ok (.iload_n 3, 1) := by decide +kernel
theorem d_PI_edge_67 : decode prog_5_method_8_code 67 = .ok (.if_icmp .ge 6, 3) := by decide +kernel
theorem d_PI_edge_70 : decode prog_5_method_8_code 70 = .ok (.iload 5, 2) := by decide +kernel
theorem d_PI_edge_72 : decode prog_5_method_8_code 72 = .ok (.istore_n 3, 1) := by decide +kernel
theorem d_PI_edge_73 : decode prog_5_method_8_code 73 = .ok (.iinc 4 1, 3) := by decide +kernel
theorem d_PI_edge_76 : decode prog_5_method_8_code 76 = .ok (.goto (-70), 3) := by decide +kernel
theorem d_PI_edge_79 : decode prog_5_method_8_code 79 = .ok (.iload_n 3, 1) := by decide +kernel
theorem d_PI_edge_80 : decode prog_5_method_8_code 80 = .ok (.ireturn, 1) := by decide +kernel
theorem VA_o3 : Cond.methodLink "GlyphCompiler$Variables" 3 objectInit ∈ jTs ∧ Cond.instanceMethod objectInit ∈ jTs ∧ Cond.code objectInit ⟨#[0xb1]⟩ 1 none ∈ jTs := ⟨(jin_t (jin_1 96 rfl) rfl), (jin_t (jin_1 20 rfl) rfl), (jin_t (jin_1 21 rfl) rfl)⟩
theorem VA_w9 (y : MethodName) (h : y.cls = "GlyphCompiler$Variables") (h2 : y.name = "<init>") : jFw y 9 3 0 (.array .int) := ⟨R_VA, T_VA, 4, rfl, Nat.le_of_ble_eq_true rfl, by decide +kernel, Or.inr ⟨rfl, h2, h.symm, by rw [h]; exact (jin_t (jin_1 122 rfl) rfl)⟩⟩
theorem VA_c15 : jLk "GlyphCompiler$Variables" 15 Y_FO_row := Or.inl (jin_t (jin_1 97 rfl) rfl)
theorem VA_w21 (y : MethodName) (h : y.cls = "GlyphCompiler$Variables") (h2 : y.name = "<init>") : jFw y 21 3 1 (.array (.object "GlyphCompiler$Form")) := ⟨R_VA, T_VA, 4, rfl, Nat.le_of_ble_eq_true rfl, by decide +kernel, Or.inr ⟨rfl, h2, h.symm, by rw [h]; exact (jin_t (jin_1 124 rfl) rfl)⟩⟩
theorem VA_c25 : jLk "GlyphCompiler$Variables" 25 Y_FO_init := Or.inr ⟨"GlyphCompiler", by decide +kernel⟩
theorem VA_w26 (y : MethodName) (h : y.cls = "GlyphCompiler$Variables") (h2 : y.name = "<init>") : jFw y 26 3 2 (.object "GlyphCompiler$Form") := ⟨R_VA, T_VA, 4, rfl, Nat.le_of_ble_eq_true rfl, by decide +kernel, Or.inr ⟨rfl, h2, h.symm, by rw [h]; exact (jin_t (jin_1 127 rfl) rfl)⟩⟩
theorem VA_w30 (y : MethodName) (h : y.cls = "GlyphCompiler$Variables") (h2 : y.name = "<init>") : jFw y 30 3 3 (.object "GlyphCompiler$Form") := ⟨R_VA, T_VA, 4, rfl, Nat.le_of_ble_eq_true rfl, by decide +kernel, Or.inr ⟨rfl, h2, h.symm, by rw [h]; exact (jin_t (jin_1 128 rfl) rfl)⟩⟩
theorem VA_f21 : jFl "GlyphCompiler$Variables" 21 3 1 := ⟨R_VA, T_VA, 4, rfl, Nat.le_of_ble_eq_true rfl, Or.inl (jin_t (jin_1 124 rfl) rfl)⟩
theorem VA_k33 : Jvm.Cond.constantLong "GlyphCompiler$Variables" 33 (jL 65536) ∈ jTs := by rw [show jL 65536 = 65536 by decide]; exact (jin_t (jin_1 117 rfl) rfl)
theorem VA_c35 : jLk "GlyphCompiler$Variables" 35 Y_FO_set := Or.inl (jin_t (jin_1 118 rfl) rfl)
theorem PI_o3 : Cond.methodLink "GlyphCompiler$Picture" 3 objectInit ∈ jTs ∧ Cond.instanceMethod objectInit ∈ jTs ∧ Cond.code objectInit ⟨#[0xb1]⟩ 1 none ∈ jTs := ⟨(jin_t (jin_1 219 rfl) rfl), (jin_t (jin_1 20 rfl) rfl), (jin_t (jin_1 21 rfl) rfl)⟩
theorem PI_w9 (y : MethodName) (h : y.cls = "GlyphCompiler$Picture") (h2 : y.name = "<init>") : jFw y 9 6 0 (.array .boolean) := ⟨R_PI, T_PI, 2, rfl, Nat.le_of_ble_eq_true rfl, by decide +kernel, Or.inr ⟨rfl, h2, h.symm, by rw [h]; exact (jin_t (jin_1 220 rfl) rfl)⟩⟩
theorem PI_w15 (y : MethodName) (h : y.cls = "GlyphCompiler$Picture") (h2 : y.name = "<init>") : jFw y 15 6 1 (.array .int) := ⟨R_PI, T_PI, 2, rfl, Nat.le_of_ble_eq_true rfl, by decide +kernel, Or.inr ⟨rfl, h2, h.symm, by rw [h]; exact (jin_t (jin_1 221 rfl) rfl)⟩⟩
theorem PI_f15 : jFl "GlyphCompiler$Picture" 15 6 1 := ⟨R_PI, T_PI, 2, rfl, Nat.le_of_ble_eq_true rfl, Or.inl (jin_t (jin_1 221 rfl) rfl)⟩
theorem PI_c19 : jLk "GlyphCompiler$Picture" 19 Y_Ar_fill := Or.inl (jin_t (jin_2 228 rfl) rfl)
theorem PI_f25 : jFl "GlyphCompiler$Picture" 25 5 3 := ⟨R_OU, T_OU, 4, rfl, Nat.le_of_ble_eq_true rfl, Or.inl (jin_t (jin_1 204 rfl) rfl)⟩
theorem PI_c30 : jLk "GlyphCompiler$Picture" 30 Y_PI_middle := Or.inl (jin_t (jin_2 231 rfl) rfl)
theorem PI_c34 : jLk "GlyphCompiler$Picture" 34 Y_PI_wind := Or.inl (jin_t (jin_2 234 rfl) rfl)
theorem PI_f9 : jFl "GlyphCompiler$Picture" 9 6 0 := ⟨R_PI, T_PI, 2, rfl, Nat.le_of_ble_eq_true rfl, Or.inl (jin_t (jin_1 220 rfl) rfl)⟩
theorem PI_f38 : jFl "GlyphCompiler$Picture" 38 5 1 := ⟨R_OU, T_OU, 4, rfl, Nat.le_of_ble_eq_true rfl, Or.inl (jin_t (jin_1 200 rfl) rfl)⟩
theorem PI_f41 : jFl "GlyphCompiler$Picture" 41 5 2 := ⟨R_OU, T_OU, 4, rfl, Nat.le_of_ble_eq_true rfl, Or.inl (jin_t (jin_1 202 rfl) rfl)⟩
theorem VA_f9 : jFl "GlyphCompiler$Variables" 9 3 0 := ⟨R_VA, T_VA, 4, rfl, Nat.le_of_ble_eq_true rfl, Or.inl (jin_t (jin_1 122 rfl) rfl)⟩
theorem VA_c39 : jLk "GlyphCompiler$Variables" 39 Y_FO_copy := Or.inl (jin_t (jin_3 6 rfl) rfl)
theorem VA_f26 : jFl "GlyphCompiler$Variables" 26 3 2 := ⟨R_VA, T_VA, 4, rfl, Nat.le_of_ble_eq_true rfl, Or.inl (jin_t (jin_1 127 rfl) rfl)⟩
theorem VA_c43 : jLk "GlyphCompiler$Variables" 43 Y_FO_setReplaced := Or.inl (jin_t (jin_3 11 rfl) rfl)
theorem VA_f30 : jFl "GlyphCompiler$Variables" 30 3 3 := ⟨R_VA, T_VA, 4, rfl, Nat.le_of_ble_eq_true rfl, Or.inl (jin_t (jin_1 128 rfl) rfl)⟩
theorem VA_c47 : jLk "GlyphCompiler$Variables" 47 Y_FO_subtract := Or.inl (jin_t (jin_3 18 rfl) rfl)
theorem VA_c50 : jLk "GlyphCompiler$Variables" 50 Y_FO_isPlain := Or.inl (jin_t (jin_3 19 rfl) rfl)
theorem VA_f54 : jFl "GlyphCompiler$Variables" 54 4 0 := ⟨R_FO, T_FO, 1, rfl, Nat.le_of_ble_eq_true rfl, Or.inl (jin_t (jin_1 109 rfl) rfl)⟩
theorem VA_c58 : jLk "GlyphCompiler$Variables" 58 Y_VA_chooseSolved := Or.inl (jin_t (jin_3 20 rfl) rfl)
theorem VA_c62 : jLk "GlyphCompiler$Variables" 62 Y_FO_setSolved := Or.inl (jin_t (jin_3 34 rfl) rfl)
theorem VA_c66 : jLk "GlyphCompiler$Variables" 66 Y_VA_replaceInAll := Or.inl (jin_t (jin_3 38 rfl) rfl)
theorem VA_c70 : jLk "GlyphCompiler$Variables" 70 Y_Ma_abs := Or.inl (jin_t (jin_3 24 rfl) rfl)
theorem VA_c76 : jLk "GlyphCompiler$Variables" 76 Y_Lo_bitCount := Or.inl (jin_t (jin_3 27 rfl) rfl)
theorem VA_k82 : Jvm.Cond.constantLong "GlyphCompiler$Variables" 82 (jL 68719476736) ∈ jTs := by rw [show jL 68719476736 = 68719476736 by decide]; exact (jin_t (jin_3 33 rfl) rfl)
theorem VA_c84 : jLk "GlyphCompiler$Variables" 84 Y_VA_settle := Or.inl (jin_t (jin_3 42 rfl) rfl)
theorem PI_c44 : jLk "GlyphCompiler$Picture" 44 Y_PI_isBlack := Or.inl (jin_t (jin_3 95 rfl) rfl)
theorem yk_VA_init : jYok Y_VA_init 0 := ⟨(jin_t (jin_1 95 rfl) rfl), (jin_t (jin_1 5 rfl) rfl), ⟨by decide +kernel, by decide +kernel⟩, by decide +kernel⟩
theorem yv_VA_init : Cond.instanceMethod (yN Y_VA_init) ∈ jTs := (jin_t (jin_1 94 rfl) rfl)
theorem yk_PI_init : jYok Y_PI_init 0 := ⟨(jin_t (jin_1 218 rfl) rfl), (jin_t (jin_1 8 rfl) rfl), ⟨by decide +kernel, by decide +kernel⟩, by decide +kernel⟩
theorem yv_PI_init : Cond.instanceMethod (yN Y_PI_init) ∈ jTs := (jin_t (jin_1 217 rfl) rfl)
theorem yk_PI_paint : jYok Y_PI_paint 2 := ⟨(jin_t (jin_2 227 rfl) rfl), (jin_t (jin_1 8 rfl) rfl), ⟨by decide +kernel, by decide +kernel⟩, by decide +kernel⟩
theorem yv_PI_paint : Cond.instanceMethod (yN Y_PI_paint) ∈ jTs ∧ Cond.selects (yN Y_PI_paint).cls (yN Y_PI_paint) (yN Y_PI_paint) ∈ jTs := ⟨(jin_t (jin_2 225 rfl) rfl), (jin_t (jin_2 226 rfl) rfl)⟩
theorem yk_PI_middle : jYok Y_PI_middle 1 := ⟨(jin_t (jin_2 233 rfl) rfl), (jin_t (jin_1 8 rfl) rfl), ⟨by decide +kernel, by decide +kernel⟩, by decide +kernel⟩
theorem ys_PI_middle : Cond.static (yN Y_PI_middle) ∈ jTs := (jin_t (jin_2 232 rfl) rfl)
theorem yk_PI_wind : jYok Y_PI_wind 3 := ⟨(jin_t (jin_2 237 rfl) rfl), (jin_t (jin_1 8 rfl) rfl), ⟨by decide +kernel, by decide +kernel⟩, by decide +kernel⟩
theorem yv_PI_wind : Cond.instanceMethod (yN Y_PI_wind) ∈ jTs ∧ Cond.selects (yN Y_PI_wind).cls (yN Y_PI_wind) (yN Y_PI_wind) ∈ jTs := ⟨(jin_t (jin_2 236 rfl) rfl), (jin_p (List.mem_map.mpr ⟨(({ cls := "GlyphCompiler$Picture", name := "wind", desc := "(LGlyphCompiler$Outline;IJ)V" } : Jvm.MethodName), 2), by decide +kernel, rfl⟩) rfl)⟩
theorem yk_VA_copy : jYok Y_VA_copy 1 := ⟨(jin_t (jin_3 5 rfl) rfl), (jin_t (jin_1 5 rfl) rfl), ⟨by decide +kernel, by decide +kernel⟩, by decide +kernel⟩
theorem yv_VA_copy : Cond.instanceMethod (yN Y_VA_copy) ∈ jTs ∧ Cond.selects (yN Y_VA_copy).cls (yN Y_VA_copy) (yN Y_VA_copy) ∈ jTs := ⟨(jin_t (jin_3 3 rfl) rfl), (jin_t (jin_3 4 rfl) rfl)⟩
theorem yk_VA_equate : jYok Y_VA_equate 2 := ⟨(jin_t (jin_3 10 rfl) rfl), (jin_t (jin_1 5 rfl) rfl), ⟨by decide +kernel, by decide +kernel⟩, by decide +kernel⟩
theorem yv_VA_equate : Cond.instanceMethod (yN Y_VA_equate) ∈ jTs ∧ Cond.selects (yN Y_VA_equate).cls (yN Y_VA_equate) (yN Y_VA_equate) ∈ jTs := ⟨(jin_t (jin_3 8 rfl) rfl), (jin_t (jin_3 9 rfl) rfl)⟩
theorem yk_VA_chooseSolved : jYok Y_VA_chooseSolved 0 := ⟨(jin_t (jin_3 23 rfl) rfl), (jin_t (jin_1 5 rfl) rfl), ⟨by decide +kernel, by decide +kernel⟩, by decide +kernel⟩
theorem yv_VA_chooseSolved : Cond.instanceMethod (yN Y_VA_chooseSolved) ∈ jTs ∧ Cond.selects (yN Y_VA_chooseSolved).cls (yN Y_VA_chooseSolved) (yN Y_VA_chooseSolved) ∈ jTs := ⟨(jin_t (jin_3 22 rfl) rfl), (jin_p (List.mem_map.mpr ⟨(({ cls := "GlyphCompiler$Variables", name := "chooseSolved", desc := "()I" } : Jvm.MethodName), 4), by decide +kernel, rfl⟩) rfl)⟩
theorem yk_VA_replaceInAll : jYok Y_VA_replaceInAll 1 := ⟨(jin_t (jin_3 41 rfl) rfl), (jin_t (jin_1 5 rfl) rfl), ⟨by decide +kernel, by decide +kernel⟩, by decide +kernel⟩
theorem yv_VA_replaceInAll : Cond.instanceMethod (yN Y_VA_replaceInAll) ∈ jTs ∧ Cond.selects (yN Y_VA_replaceInAll).cls (yN Y_VA_replaceInAll) (yN Y_VA_replaceInAll) ∈ jTs := ⟨(jin_t (jin_3 40 rfl) rfl), (jin_p (List.mem_map.mpr ⟨(({ cls := "GlyphCompiler$Variables", name := "replaceInAll", desc := "(I)Z" } : Jvm.MethodName), 4), by decide +kernel, rfl⟩) rfl)⟩
theorem yk_VA_settle : jYok Y_VA_settle 1 := ⟨(jin_t (jin_3 45 rfl) rfl), (jin_t (jin_1 5 rfl) rfl), ⟨by decide +kernel, by decide +kernel⟩, by decide +kernel⟩
theorem yv_VA_settle : Cond.instanceMethod (yN Y_VA_settle) ∈ jTs ∧ Cond.selects (yN Y_VA_settle).cls (yN Y_VA_settle) (yN Y_VA_settle) ∈ jTs := ⟨(jin_t (jin_3 44 rfl) rfl), (jin_p (List.mem_map.mpr ⟨(({ cls := "GlyphCompiler$Variables", name := "settle", desc := "(I)V" } : Jvm.MethodName), 4), by decide +kernel, rfl⟩) rfl)⟩
theorem yk_VA_free : jYok Y_VA_free 0 := ⟨(jin_t (jin_3 57 rfl) rfl), (jin_t (jin_1 5 rfl) rfl), ⟨by decide +kernel, by decide +kernel⟩, by decide +kernel⟩
theorem yv_VA_free : Cond.instanceMethod (yN Y_VA_free) ∈ jTs ∧ Cond.selects (yN Y_VA_free).cls (yN Y_VA_free) (yN Y_VA_free) ∈ jTs := ⟨(jin_t (jin_3 55 rfl) rfl), (jin_t (jin_3 56 rfl) rfl)⟩
theorem yk_PI_whiten : jYok Y_PI_whiten 0 := ⟨(jin_t (jin_3 65 rfl) rfl), (jin_t (jin_1 8 rfl) rfl), ⟨by decide +kernel, by decide +kernel⟩, by decide +kernel⟩
theorem yv_PI_whiten : Cond.instanceMethod (yN Y_PI_whiten) ∈ jTs ∧ Cond.selects (yN Y_PI_whiten).cls (yN Y_PI_whiten) (yN Y_PI_whiten) ∈ jTs := ⟨(jin_t (jin_3 63 rfl) rfl), (jin_t (jin_3 64 rfl) rfl)⟩
theorem yk_PI_isBlack : jYok Y_PI_isBlack 2 := ⟨(jin_t (jin_3 86 rfl) rfl), (jin_t (jin_1 8 rfl) rfl), ⟨by decide +kernel, by decide +kernel⟩, by decide +kernel⟩
theorem yv_PI_isBlack : Cond.instanceMethod (yN Y_PI_isBlack) ∈ jTs ∧ Cond.selects (yN Y_PI_isBlack).cls (yN Y_PI_isBlack) (yN Y_PI_isBlack) ∈ jTs := ⟨(jin_t (jin_3 84 rfl) rfl), (jin_t (jin_3 85 rfl) rfl)⟩
theorem yk_PI_lengthOfRun : jYok Y_PI_lengthOfRun 2 := ⟨(jin_t (jin_3 94 rfl) rfl), (jin_t (jin_1 8 rfl) rfl), ⟨by decide +kernel, by decide +kernel⟩, by decide +kernel⟩
theorem yv_PI_lengthOfRun : Cond.instanceMethod (yN Y_PI_lengthOfRun) ∈ jTs ∧ Cond.selects (yN Y_PI_lengthOfRun).cls (yN Y_PI_lengthOfRun) (yN Y_PI_lengthOfRun) ∈ jTs := ⟨(jin_t (jin_3 92 rfl) rfl), (jin_t (jin_3 93 rfl) rfl)⟩
theorem yk_PI_blackPoints : jYok Y_PI_blackPoints 0 := ⟨(jin_t (jin_3 107 rfl) rfl), (jin_t (jin_1 8 rfl) rfl), ⟨by decide +kernel, by decide +kernel⟩, by decide +kernel⟩
theorem yv_PI_blackPoints : Cond.instanceMethod (yN Y_PI_blackPoints) ∈ jTs ∧ Cond.selects (yN Y_PI_blackPoints).cls (yN Y_PI_blackPoints) (yN Y_PI_blackPoints) ∈ jTs := ⟨(jin_t (jin_3 105 rfl) rfl), (jin_t (jin_3 106 rfl) rfl)⟩
theorem yk_PI_edge : jYok Y_PI_edge 2 := ⟨(jin_t (jin_3 111 rfl) rfl), (jin_t (jin_1 8 rfl) rfl), ⟨by decide +kernel, by decide +kernel⟩, by decide +kernel⟩
theorem yv_PI_edge : Cond.instanceMethod (yN Y_PI_edge) ∈ jTs ∧ Cond.selects (yN Y_PI_edge).cls (yN Y_PI_edge) (yN Y_PI_edge) ∈ jTs := ⟨(jin_t (jin_3 109 rfl) rfl), (jin_t (jin_3 110 rfl) rfl)⟩

theorem d_GM_makePieces_0 : decode prog_10_method_40_code 0 = .ok (.iconst 0, 1) := by decide +kernel
theorem d_GM_makePieces_1 : decode prog_10_method_40_code 1 = .ok (.istore_n 1, 1) := by decide +kernel
theorem d_GM_makePieces_2 : decode prog_10_method_40_code 2 = .ok (.aload_n 0, 1) := by decide +kernel
theorem d_GM_makePieces_3 : decode prog_10_method_40_code 3 = .ok (.iconst 0, 1) := by decide +kernel
theorem d_GM_makePieces_4 : decode prog_10_method_40_code 4 = .ok (.putfield 40, 3) := by decide +kernel
theorem d_GM_makePieces_7 : decode prog_10_method_40_code 7 = .ok (.iconst 1, 1) := by decide +kernel
theorem d_GM_makePieces_8 : decode prog_10_method_40_code 8 = .ok (.istore_n 2, 1) := by decide +kernel
theorem d_GM_makePieces_9 : decode prog_10_method_40_code 9 = .ok (.iload_n 2, 1) := by decide +kernel
theorem d_GM_makePieces_10 : decode prog_10_method_40_code 10 = .ok (.aload_n 0, 1) := by decide +kernel
theorem d_GM_makePieces_11 : decode prog_10_method_40_code 11 = .ok (.getfield 46, 3) := by decide +kernel
theorem d_GM_makePieces_14 : decode prog_10_method_40_code 14 = .ok (.if_icmp .gt 109, 3) := by decide +kernel
theorem d_GM_makePieces_17 : decode prog_10_method_40_code 17 = .ok (.aload_n 0, 1) := by decide +kernel
theorem d_GM_makePieces_18 : decode prog_10_method_40_code 18 = .ok (.getfield 145, 3) := by decide +kernel
theorem d_GM_makePieces_21 : decode prog_10_method_40_code 21 = .ok (.iload_n 2, 1) := by decide +kernel
theorem d_GM_makePieces_22 : decode prog_10_method_40_code 22 = .ok (.iaload, 1) := by decide +kernel
theorem d_GM_makePieces_23 : decode prog_10_method_40_code 23 = .ok (.ifCond .ne 41, 3) := by decide +kernel
theorem d_GM_makePieces_26 : decode prog_10_method_40_code 26 = .ok (.aload_n 0, 1) := by decide +kernel
theorem d_GM_makePieces_27 : decode prog_10_method_40_code 27 = .ok (.aload_n 0, 1) := by decide +kernel
theorem d_GM_makePieces_28 : decode prog_10_method_40_code 28 = .ok (.iload_n 1, 1) := by decide +kernel
theorem d_GM_makePieces_29 : decode prog_10_method_40_code 29 = .ok (.iconst 0, 1) := by decide +kernel
theorem d_GM_makePieces_30 : decode prog_10_method_40_code 30 = .ok (.invokevirtual 274, 3) := by decide +kernel
theorem d_GM_makePieces_33 : decode prog_10_method_40_code 33 = .ok (.aload_n 0, 1) := by decide +kernel
theorem d_GM_makePieces_34 : decode prog_10_method_40_code 34 = .ok (.iload_n 1, 1) := by decide +kernel
theorem d_GM_makePieces_35 : decode prog_10_method_40_code 35 = .ok (.iconst 1, 1) := by decide +kernel
theorem d_GM_makePieces_36 : decode prog_10_method_40_code 36 = .ok (.invokevirtual 274, 3) := by decide +kernel
theorem d_GM_makePieces_39 : decode prog_10_method_40_code 39 = .ok (.aload_n 0, 1) := by decide +kernel
theorem d_GM_makePieces_40 : decode prog_10_method_40_code 40 = .ok (.iload_n 1, 1) := by decide +kernel
theorem d_GM_makePieces_41 : decode prog_10_method_40_code 41 = .ok (.iconst 1, 1) := by decide +kernel
theorem d_GM_makePieces_42 : decode prog_10_method_40_code 42 = .ok (.iadd, 1) := by decide +kernel
theorem d_GM_makePieces_43 : decode prog_10_method_40_code 43 = .ok (.iconst 0, 1) := by decide +kernel
theorem d_GM_makePieces_44 : decode prog_10_method_40_code 44 = .ok (.invokevirtual 274, 3) := by decide +kernel
theorem d_GM_makePieces_47 : decode prog_10_method_40_code 47 = .ok (.aload_n 0, 1) := by decide +kernel
theorem d_GM_makePieces_48 : decode prog_10_method_40_code 48 = .ok (.iload_n 1, 1) := by decide +kernel
theorem d_GM_makePieces_49 : decode prog_10_method_40_code 49 = .ok (.iconst 1, 1) := by decide +kernel
theorem d_GM_makePieces_50 : decode prog_10_method_40_code 50 = .ok (.iadd, 1) := by decide +kernel
theorem d_GM_makePieces_51 : decode prog_10_method_40_code 51 = .ok (.iconst 1, 1) := by decide +kernel
theorem d_GM_makePieces_52 : decode prog_10_method_40_code 52 = .ok (.invokevirtual 274, 3) := by decide +kernel
theorem d_GM_makePieces_55 : decode prog_10_method_40_code 55 = .ok (.invokevirtual 278, 3) := by decide +kernel
theorem d_GM_makePieces_58 : decode prog_10_method_40_code 58 = .ok (.iinc 1 1, 3) := by decide +kernel
theorem d_GM_makePieces_61 : decode prog_10_method_40_code 61 = .ok (.goto 56, 3) := by decide +kernel
theorem d_GM_makePieces_64 : decode prog_10_method_40_code 64 = .ok (.iconst 0, 1) := by decide +kernel
theorem d_GM_makePieces_65 : decode prog_10_method_40_code 65 = .ok (.istore_n 3, 1) := by decide +kernel
theorem d_GM_makePieces_66 : decode prog_10_method_40_code 66 = .ok (.iload_n 3, 1) := by decide +kernel
theorem d_GM_makePieces_67 : decode prog_10_method_40_code 67 = .ok (.bipush 8, 2) := by decide +kernel
theorem d_GM_makePieces_69 : decode prog_10_method_40_code 69 = .ok (.if_icmp .ge 45, 3) := by decide +kernel
theorem d_GM_makePieces_72 : decode prog_10_method_40_code 72 = .ok (.aload_n 0, 1) := by decide +kernel
theorem d_GM_makePieces_73 : decode prog_10_method_40_code 73 = .ok (.aload_n 0, 1) := by decide +kernel
theorem d_GM_makePieces_74 : decode prog_10_method_40_code 74 = .ok (.iload_n 1, 1) := by decide +kernel
theorem d_GM_makePieces_75 : decode prog_10_method_40_code 75 = .ok (.iconst 0, 1) := by decide +kernel
theorem d_GM_makePieces_76 : decode prog_10_method_40_code 76 = .ok (.iload_n 3, 1) := by decide +kernel
theorem d_GM_makePieces_77 : decode prog_10_method_40_code 77 = .ok (.invokevirtual 282, 3) := by decide +kernel
theorem d_GM_makePieces_80 : decode prog_10_method_40_code 80 = .ok (.aload_n 0, 1) := by decide +kernel
theorem d_GM_makePieces_81 : decode prog_10_method_40_code 81 = .ok (.iload_n 1, 1) := by decide +kernel
theorem d_GM_makePieces_82 : decode prog_10_method_40_code 82 = .ok (.iconst 1, 1) := by decide +kernel
theorem d_GM_makePieces_83 : decode prog_10_method_40_code 83 = .ok (.iload_n 3, 1) := by decide +kernel
theorem d_GM_makePieces_84 : decode prog_10_method_40_code 84 = .ok (.invokevirtual 282, 3) := by decide +kernel
theorem d_GM_makePieces_87 : decode prog_10_method_40_code 87 = .ok (.aload_n 0, 1) := by decide +kernel
theorem d_GM_makePieces_88 : decode prog_10_method_40_code 88 = .ok (.iload_n 1, 1) := by decide +kernel
theorem d_GM_makePieces_89 : decode prog_10_method_40_code 89 = .ok (.iconst 0, 1) := by decide +kernel
theorem d_GM_makePieces_90 : decode prog_10_method_40_code 90 = .ok (.iload_n 3, 1) := by decide +kernel
theorem d_GM_makePieces_91 : decode prog_10_method_40_code 91 = .ok (.iconst 1, 1) := by decide +kernel
theorem d_GM_makePieces_92 : decode prog_10_method_40_code 92 = .ok (.iadd, 1) := by decide +kernel
theorem d_GM_makePieces_93 : decode prog_10_method_40_code 93 = .ok (.invokevirtual 282, 3) := by decide +kernel
theorem d_GM_makePieces_96 : decode prog_10_method_40_code 96 = .ok (.aload_n 0, 1) := by decide +kernel
theorem d_GM_makePieces_97 : decode prog_10_method_40_code 97 = .ok (.iload_n 1, 1) := by decide +kernel
theorem d_GM_makePieces_98 : decode prog_10_method_40_code 98 = .ok (.iconst 1, 1) := by decide +kernel
theorem d_GM_makePieces_99 : decode prog_10_method_40_code 99 = .ok (.iload_n 3, 1) := by decide +kernel
theorem d_GM_makePieces_100 : decode prog_10_method_40_code 100 = .ok (.iconst 1, 1) := by decide +kernel
theorem d_GM_makePieces_101 : decode prog_10_method_40_code 101 = .ok (.iadd, 1) := by decide +kernel
theorem d_GM_makePieces_102 : decode prog_10_method_40_code 102 = .ok (.invokevirtual 282, 3) := by decide +kernel
theorem d_GM_makePieces_105 : decode prog_10_method_40_code 105 = .ok (.invokevirtual 278, 3) := by decide +kernel
theorem d_GM_makePieces_108 : decode prog_10_method_40_code 108 = .ok (.iinc 3 1, 3) := by decide +kernel
theorem d_GM_makePieces_111 : decode prog_10_method_40_code 111 = .ok (.goto (-45), 3) := by decide +kernel
theorem d_GM_makePieces_114 : decode prog_10_method_40_code 114 = .ok (.iinc 1 3, 3) := by decide +kernel
theorem d_GM_makePieces_117 : decode prog_10_method_40_code 117 = .ok (.iinc 2 1, 3) := by decide +kernel
theorem d_GM_makePieces_120 : decode prog_10_method_40_code 120 = .ok (.goto (-111), 3) := by decide +kernel
theorem d_GM_makePieces_123 : decode prog_10_method_40_code 123 = .ok (.aload_n 0, 1) := by decide +kernel
theorem d_GM_makePieces_124 : decode prog_10_method_40_code 124 = .ok (.aload_n 0, 1) := by decide +kernel
theorem d_GM_makePieces_125 : decode prog_10_method_40_code 125 = .ok (.iload_n 1, 1) := by decide +kernel
theorem d_GM_makePieces_126 : decode prog_10_method_40_code 126 = .ok (.iconst 0, 1) := by decide +kernel
theorem d_GM_makePieces_127 : decode prog_10_method_40_code 127 = .ok (.invokevirtual 274, 3) := by decide +kernel
theorem d_GM_makePieces_130 : decode prog_10_method_40_code 130 = .ok (.aload_n 0, 1) := by decide +kernel
theorem d_GM_makePieces_131 : decode prog_10_method_40_code 131 = .ok (.iload_n 1, 1) := by decide +kernel
theorem d_GM_makePieces_132 : decode prog_10_method_40_code 132 = .ok (.iconst 1, 1) := by decide +kernel
theorem d_GM_makePieces_133 : decode prog_10_method_40_code 133 = .ok (.invokevirtual 274, 3) := by decide +kernel
theorem d_GM_makePieces_136 : decode prog_10_method_40_code 136 = .ok (.aload_n 0, 1) := by decide +kernel
theorem d_GM_makePieces_137 : decode prog_10_method_40_code 137 = .ok (.iconst 0, 1) := by decide +kernel
theorem d_GM_makePieces_138 : decode prog_10_method_40_code 138 = .ok (.iconst 0, 1) := by decide +kernel
theorem d_GM_makePieces_139 : decode prog_10_method_40_code 139 = .ok (.invokevirtual 274, 3) := by decide +kernel
theorem d_GM_makePieces_142 : decode prog_10_method_40_code 142 = .ok (.aload_n 0, 1) := by decide +kernel
theorem d_GM_makePieces_143 : decode prog_10_method_40_code 143 = .ok (.iconst 0, 1) := by decide +kernel
theorem d_GM_makePieces_144 : decode prog_10_method_40_code 144 = .ok (.iconst 1, 1) := by decide +kernel
theorem d_GM_makePieces_145 : decode prog_10_method_40_code 145 = .ok (.invokevirtual 274, 3) := by decide +kernel
theorem d_GM_makePieces_148 : decode prog_10_method_40_code 148 = .ok (.invokevirtual 278, 3) := by decide +kernel
theorem d_GM_makePieces_151 : decode prog_10_method_40_code 151 = .ok (.return_, 1) := by decide +kernel
theorem d_GM_coordinate_0 : decode prog_10_method_38_code 0 = .ok (.aload_n 0, 1) := by decide +kernel
theorem d_GM_coordinate_1 : decode prog_10_method_38_code 1 = .ok (.getfield 130, 3) := by decide +kernel
theorem d_GM_coordinate_4 : decode prog_10_method_38_code 4 = .ok (.iconst 2, 1) := by decide +kernel
theorem d_GM_coordinate_5 : decode prog_10_method_38_code 5 = .ok (.iload_n 1, 1) := by decide +kernel
theorem d_GM_coordinate_6 : decode prog_10_method_38_code 6 = .ok (.imul, 1) := by decide +kernel
theorem d_GM_coordinate_7 : decode prog_10_method_38_code 7 = .ok (.iload_n 2, 1) := by decide +kernel
theorem d_GM_coordinate_8 : decode prog_10_method_38_code 8 = .ok (.iadd, 1) := by decide +kernel
theorem d_GM_coordinate_9 : decode prog_10_method_38_code 9 = .ok (.laload, 1) := by decide +kernel
theorem d_GM_coordinate_10 : decode prog_10_method_38_code 10 = .ok (.ldc2_w 270, 3) := by decide +kernel
theorem d_GM_coordinate_13 : decode prog_10_method_38_code 13 = .ok (.lmul, 1) := by decide +kernel
theorem d_GM_coordinate_14 : decode prog_10_method_38_code 14 = .ok (.lreturn, 1) := by decide +kernel
theorem d_GM_piece_0 : decode prog_10_method_37_code 0 = .ok (.aload_n 0, 1) := by decide +kernel
theorem d_GM_piece_1 : decode prog_10_method_37_code 1 = .ok (.getfield 133, 3) := by decide +kernel
theorem d_GM_piece_4 : decode prog_10_method_37_code 4 = .ok (.aload_n 0, 1) := by decide +kernel
theorem d_GM_piece_5 : decode prog_10_method_37_code 5 = .ok (.getfield 40, 3) := by decide +kernel
theorem d_GM_piece_8 : decode prog_10_method_37_code 8 = .ok (.lload_n 1, 1) := by decide +kernel
theorem d_GM_piece_9 : decode prog_10_method_37_code 9 = .ok (.lastore, 1) := by decide +kernel
theorem d_GM_piece_10 : decode prog_10_method_37_code 10 = .ok (.aload_n 0, 1) := by decide +kernel
theorem d_GM_piece_11 : decode prog_10_method_37_code 11 = .ok (.getfield 136, 3) := by decide +kernel
theorem d_GM_piece_14 : decode prog_10_method_37_code 14 = .ok (.aload_n 0, 1) := by decide +kernel
theorem d_GM_piece_15 : decode prog_10_method_37_code 15 = .ok (.getfield 40, 3) := by decide +kernel
theorem d_GM_piece_18 : decode prog_10_method_37_code 18 = .ok (.lload_n 3, 1) := by decide +kernel
theorem d_GM_piece_19 : decode prog_10_method_37_code 19 = .ok (.lastore, 1) := by decide +kernel
theorem d_GM_piece_20 : decode prog_10_method_37_code 20 = .ok (.aload_n 0, 1) := by decide +kernel
theorem d_GM_piece_21 : decode prog_10_method_37_code 21 = .ok (.getfield 139, 3) := by decide +kernel
theorem d_GM_piece_24 : decode prog_10_method_37_code 24 = .ok (.aload_n 0, 1) := by decide +kernel
theorem d_GM_piece_25 : decode prog_10_method_37_code 25 = .ok (.getfield 40, 3) := by decide +kernel
theorem d_GM_piece_28 : decode prog_10_method_37_code 28 = .ok (.lload 5, 2) := by decide +kernel
theorem d_GM_piece_30 : decode prog_10_method_37_code 30 = .ok (.lastore, 1) := by decide +kernel
theorem d_GM_piece_31 : decode prog_10_method_37_code 31 = .ok (.aload_n 0, 1) := by decide +kernel
theorem d_GM_piece_32 : decode prog_10_method_37_code 32 = .ok (.getfield 142, 3) := by decide +kernel
theorem d_GM_piece_35 : decode prog_10_method_37_code 35 = .ok (.aload_n 0, 1) := by decide +kernel
theorem d_GM_piece_36 : decode prog_10_method_37_code 36 = .ok (.getfield 40, 3) := by decide +kernel
theorem d_GM_piece_39 : decode prog_10_method_37_code 39 = .ok (.lload 7, 2) := by decide +kernel
theorem d_GM_piece_41 : decode prog_10_method_37_code 41 = .ok (.lastore, 1) := by decide +kernel
theorem d_GM_piece_42 : decode prog_10_method_37_code 42 = .ok (.aload_n 0, 1) := by decide +kernel
theorem d_GM_piece_43 : decode prog_10_method_37_code 43 = .ok (.dup, 1) := by decide +kernel
theorem d_GM_piece_44 : decode prog_10_method_37_code 44 = .ok (.getfield 40, 3) := by decide +kernel
theorem d_GM_piece_47 : decode prog_10_method_37_code 47 = .ok (.iconst 1, 1) := by decide +kernel
theorem d_GM_piece_48 : decode prog_10_method_37_code 48 = .ok (.iadd, 1) := by decide +kernel
theorem d_GM_piece_49 : decode prog_10_method_37_code 49 = .ok (.putfield 40, 3) := by decide +kernel
theorem d_GM_piece_52 : decode prog_10_method_37_code 52 = .ok (.return_, 1) := by decide +kernel
theorem d_GM_bend_0 : decode prog_10_method_39_code 0 = .ok (.bipush 8, 2) := by decide +kernel
theorem d_GM_bend_2 : decode prog_10_method_39_code 2 = .ok (.iload_n 3, 1) := by decide +kernel
theorem d_GM_bend_3 : decode prog_10_method_39_code 3 = .ok (.isub, 1) := by decide +kernel
theorem d_GM_bend_4 : decode prog_10_method_39_code 4 = .ok (.i2l, 1) := by decide +kernel
theorem d_GM_bend_5 : decode prog_10_method_39_code 5 = .ok (.lstore 4, 2) := by decide +kernel
theorem d_GM_bend_7 : decode prog_10_method_39_code 7 = .ok (.aload_n 0, 1) := by decide +kernel
theorem d_GM_bend_8 : decode prog_10_method_39_code 8 = .ok (.getfield 130, 3) := by decide +kernel
theorem d_GM_bend_11 : decode prog_10_method_39_code 11 = .ok (.iconst 2, 1) := by decide +kernel
theorem d_GM_bend_12 : decode prog_10_method_39_code 12 = .ok (.iload_n 1, 1) := by decide +kernel
theorem d_GM_bend_13 : decode prog_10_method_39_code 13 = .ok (.imul, 1) := by decide +kernel
theorem d_GM_bend_14 : decode prog_10_method_39_code 14 = .ok (.iload_n 2, 1) := by decide +kernel
theorem d_GM_bend_15 : decode prog_10_method_39_code 15 = .ok (.iadd, 1) := by decide +kernel
theorem d_GM_bend_16 : decode prog_10_method_39_code 16 = .ok (.laload, 1) := by decide +kernel
theorem d_GM_bend_17 : decode prog_10_method_39_code 17 = .ok (.lstore 6, 2) := by decide +kernel
theorem d_GM_bend_19 : decode prog_10_method_39_code 19 = .ok (.aload_n 0, 1) := by decide +kernel
theorem d_GM_bend_20 : decode prog_10_method_39_code 20 = .ok (.getfield 130, 3) := by decide +kernel
theorem d_GM_bend_23 : decode prog_10_method_39_code 23 = .ok (.iconst 2, 1) := by decide +kernel
theorem d_GM_bend_24 : decode prog_10_method_39_code 24 = .ok (.iload_n 1, 1) := by decide +kernel
theorem d_GM_bend_25 : decode prog_10_method_39_code 25 = .ok (.imul, 1) := by decide +kernel
theorem d_GM_bend_26 : decode prog_10_method_39_code 26 = .ok (.iconst 2, 1) := by decide +kernel
theorem d_GM_bend_27 : decode prog_10_method_39_code 27 = .ok (.iadd, 1) := by decide +kernel
theorem d_GM_bend_28 : decode prog_10_method_39_code 28 = .ok (.iload_n 2, 1) := by decide +kernel
theorem d_GM_bend_29 : decode prog_10_method_39_code 29 = .ok (.iadd, 1) := by decide +kernel
theorem d_GM_bend_30 : decode prog_10_method_39_code 30 = .ok (.laload, 1) := by decide +kernel
theorem d_GM_bend_31 : decode prog_10_method_39_code 31 = .ok (.lstore 8, 2) := by decide +kernel
theorem d_GM_bend_33 : decode prog_10_method_39_code 33 = .ok (.aload_n 0, 1) := by decide +kernel
theorem d_GM_bend_34 : decode prog_10_method_39_code 34 = .ok (.getfield 130, 3) := by decide +kernel
theorem d_GM_bend_37 : decode prog_10_method_39_code 37 = .ok (.iconst 2, 1) := by decide +kernel
theorem d_GM_bend_38 : decode prog_10_method_39_code 38 = .ok (.iload_n 1, 1) := by decide +kernel
theorem d_GM_bend_39 : decode prog_10_method_39_code 39 = .ok (.imul, 1) := by decide +kernel
theorem d_GM_bend_40 : decode prog_10_method_39_code 40 = .ok (.iconst 4, 1) := by decide +kernel
theorem d_GM_bend_41 : decode prog_10_method_39_code 41 = .ok (.iadd, 1) := by decide +kernel
theorem d_GM_bend_42 : decode prog_10_method_39_code 42 = .ok (.iload_n 2, 1) := by decide +kernel
theorem d_GM_bend_43 : decode prog_10_method_39_code 43 = .ok (.iadd, 1) := by decide +kernel
theorem d_GM_bend_44 : decode prog_10_method_39_code 44 = .ok (.laload, 1) := by decide +kernel
theorem d_GM_bend_45 : decode prog_10_method_39_code 45 = .ok (.lstore 10, 2) := by decide +kernel
theorem d_GM_bend_47 : decode prog_10_method_39_code 47 = .ok (.aload_n 0, 1) := by decide +kernel
theorem d_GM_bend_48 : decode prog_10_method_39_code 48 = .ok (.getfield 130, 3) := by decide +kernel
theorem d_GM_bend_51 : decode prog_10_method_39_code 51 = .ok (.iconst 2, 1) := by decide +kernel
theorem d_GM_bend_52 : decode prog_10_method_39_code 52 = .ok (.iload_n 1, 1) := by decide +kernel
theorem d_GM_bend_53 : decode prog_10_method_39_code 53 = .ok (.imul, 1) := by decide +kernel
theorem d_GM_bend_54 : decode prog_10_method_39_code 54 = .ok (.bipush 6, 2) := by decide +kernel
theorem d_GM_bend_56 : decode prog_10_method_39_code 56 = .ok (.iadd, 1) := by decide +kernel
theorem d_GM_bend_57 : decode prog_10_method_39_code 57 = .ok (.iload_n 2, 1) := by decide +kernel
theorem d_GM_bend_58 : decode prog_10_method_39_code 58 = .ok (.iadd, 1) := by decide +kernel
theorem d_GM_bend_59 : decode prog_10_method_39_code 59 = .ok (.laload, 1) := by decide +kernel
theorem d_GM_bend_60 : decode prog_10_method_39_code 60 = .ok (.lstore 12, 2) := by decide +kernel
theorem d_GM_bend_62 : decode prog_10_method_39_code 62 = .ok (.lload 4, 2) := by decide +kernel
theorem d_GM_bend_64 : decode prog_10_method_39_code 64 = .ok (.lload 4, 2) := by decide +kernel
theorem d_GM_bend_66 : decode prog_10_method_39_code 66 = .ok (.lmul, 1) := by decide +kernel
theorem d_GM_bend_67 : decode prog_10_method_39_code 67 = .ok (.lload 4, 2) := by decide +kernel
theorem d_GM_bend_69 : decode prog_10_method_39_code 69 = .ok (.lmul, 1) := by decide +kernel
theorem d_GM_bend_70 : decode prog_10_method_39_code 70 = .ok (.lload 6, 2) := by decide +kernel
theorem d_GM_bend_72 : decode prog_10_method_39_code 72 = .ok (.lmul, 1) := by decide +kernel
theorem d_GM_bend_73 : decode prog_10_method_39_code 73 = .ok (.ldc2_w 272, 3) := by decide +kernel
theorem d_GM_bend_76 : decode prog_10_method_39_code 76 = .ok (.lload 4, 2) := by decide +kernel
theorem d_GM_bend_78 : decode prog_10_method_39_code 78 = .ok (.lmul, 1) := by decide +kernel
theorem d_GM_bend_79 : decode prog_10_method_39_code 79 = .ok (.lload 4, 2) := by decide +kernel
theorem d_GM_bend_81 : decode prog_10_method_39_code 81 = .ok (.lmul, 1) := by decide +kernel
theorem d_GM_bend_82 : decode prog_10_method_39_code 82 = .ok (.iload_n 3, 1) := by decide +kernel
theorem d_GM_bend_83 : decode prog_10_method_39_code 83 = .ok (.i2l, 1) := by decide +kernel
theorem d_GM_bend_84 : decode prog_10_method_39_code 84 = .ok (.lmul, 1) := by decide +kernel
theorem d_GM_bend_85 : decode prog_10_method_39_code 85 = .ok (.lload 8, 2) := by decide +kernel
theorem d_GM_bend_87 : decode prog_10_method_39_code 87 = .ok (.lmul, 1) := by decide +kernel
theorem d_GM_bend_88 : decode prog_10_method_39_code 88 = .ok (.ladd, 1) := by decide +kernel
theorem d_GM_bend_89 : decode prog_10_method_39_code 89 = .ok (.ldc2_w 272, 3) := by decide +kernel
theorem d_GM_bend_92 : decode prog_10_method_39_code 92 = .ok (.lload 4, 2) := by decide +kernel
theorem d_GM_bend_94 : decode prog_10_method_39_code 94 = .ok (.lmul, 1) := by decide +kernel
theorem d_GM_bend_95 : decode prog_10_method_39_code 95 = .ok (.iload_n 3, 1) := by decide +kernel
theorem d_GM_bend_96 : decode prog_10_method_39_code 96 = .ok (.i2l, 1) := by decide +kernel
theorem d_GM_bend_97 : decode prog_10_method_39_code 97 = .ok (.lmul, 1) := by decide +kernel
theorem d_GM_bend_98 : decode prog_10_method_39_code 98 = .ok (.iload_n 3, 1) := by decide +kernel
theorem d_GM_bend_99 : decode prog_10_method_39_code 99 = .ok (.i2l, 1) := by decide +kernel
theorem d_GM_bend_100 : decode prog_10_method_39_code 100 = .ok (.lmul, 1) := by decide +kernel
theorem d_GM_bend_101 : decode prog_10_method_39_code 101 = .ok (.lload 10, 2) := by decide +kernel
theorem d_GM_bend_103 : decode prog_10_method_39_code 103 = .ok (.lmul, 1) := by decide +kernel
theorem d_GM_bend_104 : decode prog_10_method_39_code 104 = .ok (.ladd, 1) := by decide +kernel
theorem d_GM_bend_105 : decode prog_10_method_39_code 105 = .ok (.iload_n 3, 1) := by decide +kernel
theorem d_GM_bend_106 : decode prog_10_method_39_code 106 = .ok (.i2l, 1) := by decide +kernel
theorem d_GM_bend_107 : decode prog_10_method_39_code 107 = .ok (.iload_n 3, 1) := by decide +kernel
theorem d_GM_bend_108 : decode prog_10_method_39_code 108 = .ok (.i2l, 1) := by decide +kernel
theorem d_GM_bend_109 : decode prog_10_method_39_code 109 = .ok (.lmul, 1) := by decide +kernel
theorem d_GM_bend_110 : decode prog_10_method_39_code 110 = .ok (.iload_n 3, 1) := by decide +kernel
theorem d_GM_bend_111 : decode prog_10_method_39_code 111 = .ok (.i2l, 1) := by decide +kernel
theorem d_GM_bend_112 : decode prog_10_method_39_code 112 = .ok (.lmul, 1) := by decide +kernel
theorem d_GM_bend_113 : decode prog_10_method_39_code 113 = .ok (.lload 12, 2) := by decide +kernel
theorem d_GM_bend_115 : decode prog_10_method_39_code 115 = .ok (.lmul, 1) := by decide +kernel
theorem d_GM_bend_116 : decode prog_10_method_39_code 116 = .ok (.ladd, 1) := by decide +kernel
theorem d_GM_bend_117 : decode prog_10_method_39_code 117 = .ok (.lreturn, 1) := by decide +kernel
theorem d_GM_winding_0 : decode prog_10_method_41_code 0 = .ok (.iconst 0, 1) := by decide +kernel
theorem d_GM_winding_1 : decode prog_10_method_41_code 1 = .ok (.istore 5, 2) := by decide +kernel
theorem d_GM_winding_3 : decode prog_10_method_41_code 3 = .ok (.iconst 0, 1) := by decide +kernel
theorem d_GM_winding_4 : decode prog_10_method_41_code 4 = .ok (.istore 6, 2) := by decide +kernel
theorem d_GM_winding_6 : decode prog_10_method_41_code 6 = .ok (.iload 6, 2) := by decide +kernel
theorem d_GM_winding_8 : decode prog_10_method_41_code 8 = .ok (.aload_n 0, 1) := by decide +kernel
theorem d_GM_winding_9 : decode prog_10_method_41_code 9 = .ok (.getfield 40, 3) := by decide +kernel
theorem d_GM_winding_12 : decode prog_10_method_41_code 12 = .ok (.if_icmp .ge 130, 3) := by decide +kernel
theorem d_GM_winding_15 : decode prog_10_method_41_code 15 = .ok (.aload_n 0, 1) := by decide +kernel
theorem d_GM_winding_16 : decode prog_10_method_41_code 16 = .ok (.getfield 139, 3) := by decide +kernel
theorem d_GM_winding_19 : decode prog_10_method_41_code 19 = .ok (.iload 6, 2) := by decide +kernel
theorem d_GM_winding_21 : decode prog_10_method_41_code 21 = .ok (.laload, 1) := by decide +kernel
theorem d_GM_winding_22 : decode prog_10_method_41_code 22 = .ok (.aload_n 0, 1) := by decide +kernel
theorem d_GM_winding_23 : decode prog_10_method_41_code 23 = .ok (.getfield 133, 3) := by decide +kernel
theorem d_GM_winding_26 : decode prog_10_method_41_code 26 = .ok (.iload 6, 2) := by decide +kernel
theorem d_GM_winding_28 : decode prog_10_method_41_code 28 = .ok (.laload, 1) := by decide +kernel
theorem d_GM_winding_29 : decode prog_10_method_41_code 29 = .ok (.lsub, 1) := by decide +kernel
theorem d_GM_winding_30 : decode prog_10_method_41_code 30 = .ok (.lload_n 3, 1) := by decide +kernel
theorem d_GM_winding_31 : decode prog_10_method_41_code 31 = .ok (.aload_n 0, 1) := by decide +kernel
theorem d_GM_winding_32 : decode prog_10_method_41_code 32 = .ok (.getfield 136, 3) := by decide +kernel
theorem d_GM_winding_35 : decode prog_10_method_41_code 35 = .ok (.iload 6, 2) := by decide +kernel
theorem d_GM_winding_37 : decode prog_10_method_41_code 37 = .ok (.laload, 1) := by decide +kernel
theorem d_GM_winding_38 : decode prog_10_method_41_code 38 = .ok (.lsub, 1) := by decide +kernel
theorem d_GM_winding_39 : decode prog_10_method_41_code 39 = .ok (.lmul, 1) := by decide +kernel
theorem d_GM_winding_40 : decode prog_10_method_41_code 40 = .ok (.lload_n 1, 1) := by decide +kernel
theorem d_GM_winding_41 : decode prog_10_method_41_code 41 = .ok (.aload_n 0, 1) := by decide +kernel
theorem d_GM_winding_42 : decode prog_10_method_41_code 42 = .ok (.getfield 133, 3) := by decide +kernel
theorem d_GM_winding_45 : decode prog_10_method_41_code 45 = .ok (.iload 6, 2) := by decide +kernel
theorem d_GM_winding_47 : decode prog_10_method_41_code 47 = .ok (.laload, 1) := by decide +kernel
theorem d_GM_winding_48 : decode prog_10_method_41_code 48 = .ok (.lsub, 1) := by decide +kernel
theorem d_GM_winding_49 : decode prog_10_method_41_code 49 = .ok (.aload_n 0, 1) := by decide +kernel
theorem d_GM_winding_50 : decode prog_10_method_41_code 50 = .ok (.getfield 142, 3) := by decide +kernel
theorem d_GM_winding_53 : decode prog_10_method_41_code 53 = .ok (.iload 6, 2) := by decide +kernel
theorem d_GM_winding_55 : decode prog_10_method_41_code 55 = .ok (.laload, 1) := by decide +kernel
theorem d_GM_winding_56 : decode prog_10_method_41_code 56 = .ok (.aload_n 0, 1) := by decide +kernel
theorem d_GM_winding_57 : decode prog_10_method_41_code 57 = .ok (.getfield 136, 3) := by decide +kernel
theorem d_GM_winding_60 : decode prog_10_method_41_code 60 = .ok (.iload 6, 2) := by decide +kernel
theorem d_GM_winding_62 : decode prog_10_method_41_code 62 = .ok (.laload, 1) := by decide +kernel
theorem d_GM_winding_63 : decode prog_10_method_41_code 63 = .ok (.lsub, 1) := by decide +kernel
theorem d_GM_winding_64 : decode prog_10_method_41_code 64 = .ok (.lmul, 1) := by decide +kernel
theorem d_GM_winding_65 : decode prog_10_method_41_code 65 = .ok (.lsub, 1) := by decide +kernel
theorem d_GM_winding_66 : decode prog_10_method_41_code 66 = .ok (.lstore 7, 2) := by decide +kernel
theorem d_GM_winding_68 : decode prog_10_method_41_code 68 = .ok (.aload_n 0, 1) := by decide +kernel
theorem d_GM_winding_69 : decode prog_10_method_41_code 69 = .ok (.getfield 136, 3) := by decide +kernel
theorem d_GM_winding_72 : decode prog_10_method_41_code 72 = .ok (.iload 6, 2) := by decide +kernel
theorem d_GM_winding_74 : decode prog_10_method_41_code 74 = .ok (.laload, 1) := by decide +kernel
theorem d_GM_winding_75 : decode prog_10_method_41_code 75 = .ok (.lload_n 3, 1) := by decide +kernel
theorem d_GM_winding_76 : decode prog_10_method_41_code 76 = .ok (.lcmp, 1) := by decide +kernel
theorem d_GM_winding_77 : decode prog_10_method_41_code 77 = .ok (.ifCond .gt 25, 3) := by decide +kernel
theorem d_GM_winding_80 : decode prog_10_method_41_code 80 = .ok (.lload_n 3, 1) := by decide +kernel
theorem d_GM_winding_81 : decode prog_10_method_41_code 81 = .ok (.aload_n 0, 1) := by decide +kernel
theorem d_GM_winding_82 : decode prog_10_method_41_code 82 = .ok (.getfield 142, 3) := by decide +kernel
theorem d_GM_winding_85 : decode prog_10_method_41_code 85 = .ok (.iload 6, 2) := by decide +kernel
theorem d_GM_winding_87 : decode prog_10_method_41_code 87 = .ok (.laload, 1) := by decide +kernel
theorem d_GM_winding_88 : decode prog_10_method_41_code 88 = .ok (.lcmp, 1) := by decide +kernel
theorem d_GM_winding_89 : decode prog_10_method_41_code 89 = .ok (.ifCond .ge 13, 3) := by decide +kernel
theorem d_GM_winding_92 : decode prog_10_method_41_code 92 = .ok (.lload 7, 2) := by decide +kernel
theorem d_GM_winding_94 : decode prog_10_method_41_code 94 = .ok (.lconst 0, 1) := by decide +kernel
theorem d_GM_winding_95 : decode prog_10_method_41_code 95 = .ok (.lcmp, 1) := by decide +kernel
theorem d_GM_winding_96 : decode prog_10_method_41_code 96 = .ok (.ifCond .le 6, 3) := by decide +kernel
theorem d_GM_winding_99 : decode prog_10_method_41_code 99 = .ok (.iinc 5 1, 3) := by decide +kernel
theorem d_GM_winding_102 : decode prog_10_method_41_code 102 = .ok (.aload_n 0, 1) := by decide +kernel
theorem d_GM_winding_103 : decode prog_10_method_41_code 103 = .ok (.getfield 142, 3) := by decide +kernel
theorem d_GM_winding_106 : decode prog_10_method_41_code 106 = .ok (.iload 6, 2) := by decide +kernel
theorem d_GM_winding_108 : decode prog_10_method_41_code 108 = .ok (.laload, 1) := by decide +kernel
theorem d_GM_winding_109 : decode prog_10_method_41_code 109 = .ok (.lload_n 3, 1) := by decide +kernel
theorem d_GM_winding_110 : decode prog_10_method_41_code 110 = .ok (.lcmp, 1) := by decide +kernel
theorem d_GM_winding_111 : decode prog_10_method_41_code 111 = .ok (.ifCond .gt 25, 3) := by decide +kernel
theorem d_GM_winding_114 : decode prog_10_method_41_code 114 = .ok (.lload_n 3, 1) := by decide +kernel
theorem d_GM_winding_115 : decode prog_10_method_41_code 115 = .ok (.aload_n 0, 1) := by decide +kernel
theorem d_GM_winding_116 : decode prog_10_method_41_code 116 = .ok (.getfield 136, 3) := by decide +kernel
theorem d_GM_winding_119 : decode prog_10_method_41_code 119 = .ok (.iload 6, 2) := by decide +kernel
theorem d_GM_winding_121 : decode prog_10_method_41_code 121 = .ok (.laload, 1) := by decide +kernel
theorem d_GM_winding_122 : decode prog_10_method_41_code 122 = .ok (.lcmp, 1) := by decide +kernel
theorem d_GM_winding_123 : decode prog_10_method_41_code 123 = .ok (.ifCond .ge 13, 3) := by decide +kernel
theorem d_GM_winding_126 : decode prog_10_method_41_code 126 = .ok (.lload 7, 2) := by decide +kernel
theorem d_GM_winding_128 : decode prog_10_method_41_code 128 = .ok (.lconst 0, 1) := by decide +kernel
theorem d_GM_winding_129 : decode prog_10_method_41_code 129 = .ok (.lcmp, 1) := by decide +kernel
theorem d_GM_winding_130 : decode prog_10_method_41_code 130 = .ok (.ifCond .ge 6, 3) := by decide +kernel
theorem d_GM_winding_133 : decode prog_10_method_41_code 133 = .ok (.iinc 5 (-1), 3) := by decide +kernel
theorem d_GM_winding_136 : decode prog_10_method_41_code 136 = .ok (.iinc 6 1, 3) := by decide +kernel
theorem d_GM_winding_139 : decode prog_10_method_41_code 139 = .ok (.goto (-133), 3) := by decide +kernel
theorem d_GM_winding_142 : decode prog_10_method_41_code 142 = .ok (.iload 5, 2) := by decide +kernel
theorem d_GM_winding_144 : decode prog_10_method_41_code 144 = .ok (.ireturn, 1) := by decide +kernel
theorem d_GM_equations_0 : decode prog_10_method_48_code 0 = .ok (.iconst 1, 1) := by decide +kernel
theorem d_GM_equations_1 : decode prog_10_method_48_code 1 = .ok (.istore_n 1, 1) := by decide +kernel
theorem d_GM_equations_2 : decode prog_10_method_48_code 2 = .ok (.aload_n 0, 1) := by decide +kernel
theorem d_GM_equations_3 : decode prog_10_method_48_code 3 = .ok (.iconst 0, 1) := by decide +kernel
theorem d_GM_equations_4 : decode prog_10_method_48_code 4 = .ok (.invokevirtual 250, 3) := by decide +kernel
theorem d_GM_equations_7 : decode prog_10_method_48_code 7 = .ok (.aload_n 0, 1) := by decide +kernel
theorem d_GM_equations_8 : decode prog_10_method_48_code 8 = .ok (.getfield 25, 3) := by decide +kernel
theorem d_GM_equations_11 : decode prog_10_method_48_code 11 = .ok (.ifCond .ne 39, 3) := by decide +kernel
theorem d_GM_equations_14 : decode prog_10_method_48_code 14 = .ok (.aload_n 0, 1) := by decide +kernel
theorem d_GM_equations_15 : decode prog_10_method_48_code 15 = .ok (.iconst 2, 1) := by decide +kernel
theorem d_GM_equations_16 : decode prog_10_method_48_code 16 = .ok (.invokevirtual 201, 3) := by decide +kernel
theorem d_GM_equations_19 : decode prog_10_method_48_code 19 = .ok (.ifCond .ne 8, 3) := by decide +kernel
theorem d_GM_equations_22 : decode prog_10_method_48_code 22 = .ok (.iload_n 1, 1) := by decide +kernel
theorem d_GM_equations_23 : decode prog_10_method_48_code 23 = .ok (.iconst 1, 1) := by decide +kernel
theorem d_GM_equations_24 : decode prog_10_method_48_code 24 = .ok (.if_icmp .ne 26, 3) := by decide +kernel
theorem d_GM_equations_27 : decode prog_10_method_48_code 27 = .ok (.aload_n 0, 1) := by decide +kernel
theorem d_GM_equations_28 : decode prog_10_method_48_code 28 = .ok (.iconst 2, 1) := by decide +kernel
theorem d_GM_equations_29 : decode prog_10_method_48_code 29 = .ok (.invokevirtual 241, 3) := by decide +kernel
theorem d_GM_equations_32 : decode prog_10_method_48_code 32 = .ok (.aload_n 0, 1) := by decide +kernel
theorem d_GM_equations_33 : decode prog_10_method_48_code 33 = .ok (.getfield 25, 3) := by decide +kernel
theorem d_GM_equations_36 : decode prog_10_method_48_code 36 = .ok (.ifCond .ne 8, 3) := by decide +kernel
theorem d_GM_equations_39 : decode prog_10_method_48_code 39 = .ok (.aload_n 0, 1) := by decide +kernel
theorem d_GM_equations_40 : decode prog_10_method_48_code 40 = .ok (.iload_n 1, 1) := by decide +kernel
theorem d_GM_equations_41 : decode prog_10_method_48_code 41 = .ok (.invokevirtual 250, 3) := by decide +kernel
theorem d_GM_equations_44 : decode prog_10_method_48_code 44 = .ok (.iinc 1 1, 3) := by decide +kernel
theorem d_GM_equations_47 : decode prog_10_method_48_code 47 = .ok (.goto (-40), 3) := by decide +kernel
theorem d_GM_equations_50 : decode prog_10_method_48_code 50 = .ok (.aload_n 0, 1) := by decide +kernel
theorem d_GM_equations_51 : decode prog_10_method_48_code 51 = .ok (.bipush 6, 2) := by decide +kernel
theorem d_GM_equations_53 : decode prog_10_method_48_code 53 = .ok (.invokevirtual 241, 3) := by decide +kernel
theorem d_GM_equations_56 : decode prog_10_method_48_code 56 = .ok (.aload_n 0, 1) := by decide +kernel
theorem d_GM_equations_57 : decode prog_10_method_48_code 57 = .ok (.getfield 25, 3) := by decide +kernel
theorem d_GM_equations_60 : decode prog_10_method_48_code 60 = .ok (.ifCond .eq 4, 3) := by decide +kernel
theorem d_GM_equations_63 : decode prog_10_method_48_code 63 = .ok (.return_, 1) := by decide +kernel
theorem d_GM_equations_64 : decode prog_10_method_48_code 64 = .ok (.aload_n 0, 1) := by decide +kernel
theorem d_GM_equations_65 : decode prog_10_method_48_code 65 = .ok (.getfield 22, 3) := by decide +kernel
theorem d_GM_equations_68 : decode prog_10_method_48_code 68 = .ok (.iconst 1, 1) := by decide +kernel
theorem d_GM_equations_69 : decode prog_10_method_48_code 69 = .ok (.isub, 1) := by decide +kernel
theorem d_GM_equations_70 : decode prog_10_method_48_code 70 = .ok (.istore_n 2, 1) := by decide +kernel
theorem d_GM_equations_71 : decode prog_10_method_48_code 71 = .ok (.aload_n 0, 1) := by decide +kernel
theorem d_GM_equations_72 : decode prog_10_method_48_code 72 = .ok (.getfield 55, 3) := by decide +kernel
theorem d_GM_equations_75 : decode prog_10_method_48_code 75 = .ok (.ifCond .eq 10, 3) := by decide +kernel
theorem d_GM_equations_78 : decode prog_10_method_48_code 78 = .ok (.aload_n 0, 1) := by decide +kernel
theorem d_GM_equations_79 : decode prog_10_method_48_code 79 = .ok (.bipush (-9), 2) := by decide +kernel
theorem d_GM_equations_81 : decode prog_10_method_48_code 81 = .ok (.iload_n 2, 1) := by decide +kernel
theorem d_GM_equations_82 : decode prog_10_method_48_code 82 = .ok (.invokevirtual 164, 3) := by decide +kernel
theorem d_GM_equations_85 : decode prog_10_method_48_code 85 = .ok (.iconst 0, 1) := by decide +kernel
theorem d_GM_equations_86 : decode prog_10_method_48_code 86 = .ok (.istore_n 3, 1) := by decide +kernel
theorem d_GM_equations_87 : decode prog_10_method_48_code 87 = .ok (.iload_n 3, 1) := by decide +kernel
theorem d_GM_equations_88 : decode prog_10_method_48_code 88 = .ok (.bipush 12, 2) := by decide +kernel
theorem d_GM_equations_90 : decode prog_10_method_48_code 90 = .ok (.if_icmp .ge 70, 3) := by decide +kernel
theorem d_GM_equations_93 : decode prog_10_method_48_code 93 = .ok (.aload_n 0, 1) := by decide +kernel
theorem d_GM_equations_94 : decode prog_10_method_48_code 94 = .ok (.getfield 118, 3) := by decide +kernel
theorem d_GM_equations_97 : decode prog_10_method_48_code 97 = .ok (.sipush 2600, 3) := by decide +kernel
theorem d_GM_equations_100 : decode prog_10_method_48_code 100 = .ok (.iload_n 3, 1) := by decide +kernel
theorem d_GM_equations_101 : decode prog_10_method_48_code 101 = .ok (.iadd, 1) := by decide +kernel
theorem d_GM_equations_102 : decode prog_10_method_48_code 102 = .ok (.aload_n 0, 1) := by decide +kernel
theorem d_GM_equations_103 : decode prog_10_method_48_code 103 = .ok (.getfield 102, 3) := by decide +kernel
theorem d_GM_equations_106 : decode prog_10_method_48_code 106 = .ok (.iload_n 3, 1) := by decide +kernel
theorem d_GM_equations_107 : decode prog_10_method_48_code 107 = .ok (.iaload, 1) := by decide +kernel
theorem d_GM_equations_108 : decode prog_10_method_48_code 108 = .ok (.i2l, 1) := by decide +kernel
theorem d_GM_equations_109 : decode prog_10_method_48_code 109 = .ok (.lastore, 1) := by decide +kernel
theorem d_GM_equations_110 : decode prog_10_method_48_code 110 = .ok (.iconst 0, 1) := by decide +kernel
theorem d_GM_equations_111 : decode prog_10_method_48_code 111 = .ok (.istore 4, 2) := by decide +kernel
theorem d_GM_equations_113 : decode prog_10_method_48_code 113 = .ok (.iload 4, 2) := by decide +kernel
theorem d_GM_equations_115 : decode prog_10_method_48_code 115 = .ok (.bipush 13, 2) := by decide +kernel
theorem d_GM_equations_117 : decode prog_10_method_48_code 117 = .ok (.if_icmp .ge 37, 3) := by decide +kernel
theorem d_GM_equations_120 : decode prog_10_method_48_code 120 = .ok (.aload_n 0, 1) := by decide +kernel
theorem d_GM_equations_121 : decode prog_10_method_48_code 121 = .ok (.getfield 118, 3) := by decide +kernel
theorem d_GM_equations_124 : decode prog_10_method_48_code 124 = .ok (.sipush 201, 3) := by decide +kernel
theorem d_GM_equations_127 : decode prog_10_method_48_code 127 = .ok (.iload_n 3, 1) := by decide +kernel
theorem d_GM_equations_128 : decode prog_10_method_48_code 128 = .ok (.iadd, 1) := by decide +kernel
theorem d_GM_equations_129 : decode prog_10_method_48_code 129 = .ok (.bipush 13, 2) := by decide +kernel
theorem d_GM_equations_131 : decode prog_10_method_48_code 131 = .ok (.imul, 1) := by decide +kernel
theorem d_GM_equations_132 : decode prog_10_method_48_code 132 = .ok (.iload 4, 2) := by decide +kernel
theorem d_GM_equations_134 : decode prog_10_method_48_code 134 = .ok (.iadd, 1) := by decide +kernel
theorem d_GM_equations_135 : decode prog_10_method_48_code 135 = .ok (.aload_n 0, 1) := by decide +kernel
theorem d_GM_equations_136 : decode prog_10_method_48_code 136 = .ok (.getfield 105, 3) := by decide +kernel
theorem d_GM_equations_139 : decode prog_10_method_48_code 139 = .ok (.iload_n 3, 1) := by decide +kernel
theorem d_GM_equations_140 : decode prog_10_method_48_code 140 = .ok (.bipush 13, 2) := by decide +kernel
theorem d_GM_equations_142 : decode prog_10_method_48_code 142 = .ok (.imul, 1) := by decide +kernel
theorem d_GM_equations_143 : decode prog_10_method_48_code 143 = .ok (.iload 4, 2) := by decide +kernel
theorem d_GM_equations_145 : decode prog_10_method_48_code 145 = .ok (.iadd, 1) := by decide +kernel
theorem d_GM_equations_146 : decode prog_10_method_48_code 146 = .ok (.laload, 1) := by decide +kernel
theorem d_GM_equations_147 : decode prog_10_method_48_code 147 = .ok (.lastore, 1) := by decide +kernel
theorem d_GM_equations_148 : decode prog_10_method_48_code 148 = .ok (.iinc 4 1, 3) := by decide +kernel
theorem d_GM_equations_151 : decode prog_10_method_48_code 151 = .ok (.goto (-38), 3) := by decide +kernel
theorem d_GM_equations_154 : decode prog_10_method_48_code 154 = .ok (.iinc 3 1, 3) := by decide +kernel
theorem d_GM_equations_157 : decode prog_10_method_48_code 157 = .ok (.goto (-70), 3) := by decide +kernel
theorem d_GM_equations_160 : decode prog_10_method_48_code 160 = .ok (.iconst 1, 1) := by decide +kernel
theorem d_GM_equations_161 : decode prog_10_method_48_code 161 = .ok (.istore_n 3, 1) := by decide +kernel
theorem d_GM_equations_162 : decode prog_10_method_48_code 162 = .ok (.iload_n 3, 1) := by decide +kernel
theorem d_GM_equations_163 : decode prog_10_method_48_code 163 = .ok (.iload_n 1, 1) := by decide +kernel
theorem d_GM_equations_164 : decode prog_10_method_48_code 164 = .ok (.if_icmp .ge 25, 3) := by decide +kernel
theorem d_GM_equations_167 : decode prog_10_method_48_code 167 = .ok (.aload_n 0, 1) := by decide +kernel
theorem d_GM_equations_168 : decode prog_10_method_48_code 168 = .ok (.getfield 25, 3) := by decide +kernel
theorem d_GM_equations_171 : decode prog_10_method_48_code 171 = .ok (.ifCond .ne 18, 3) := by decide +kernel
theorem d_GM_equations_174 : decode prog_10_method_48_code 174 = .ok (.aload_n 0, 1) := by decide +kernel
theorem d_GM_equations_175 : decode prog_10_method_48_code 175 = .ok (.iload_n 3, 1) := by decide +kernel
theorem d_GM_equations_176 : decode prog_10_method_48_code 176 = .ok (.iconst 1, 1) := by decide +kernel
theorem d_GM_equations_177 : decode prog_10_method_48_code 177 = .ok (.isub, 1) := by decide +kernel
theorem d_GM_equations_178 : decode prog_10_method_48_code 178 = .ok (.iload_n 3, 1) := by decide +kernel
theorem d_GM_equations_179 : decode prog_10_method_48_code 179 = .ok (.iload_n 2, 1) := by decide +kernel
theorem d_GM_equations_180 : decode prog_10_method_48_code 180 = .ok (.invokevirtual 317, 3) := by decide +kernel
theorem d_GM_equations_183 : decode prog_10_method_48_code 183 = .ok (.iinc 3 1, 3) := by decide +kernel
theorem d_GM_equations_186 : decode prog_10_method_48_code 186 = .ok (.goto (-24), 3) := by decide +kernel
theorem d_GM_equations_189 : decode prog_10_method_48_code 189 = .ok (.iconst 0, 1) := by decide +kernel
theorem d_GM_equations_190 : decode prog_10_method_48_code 190 = .ok (.istore_n 3, 1) := by decide +kernel
theorem d_GM_equations_191 : decode prog_10_method_48_code 191 = .ok (.iload_n 3, 1) := by decide +kernel
theorem d_GM_equations_192 : decode prog_10_method_48_code 192 = .ok (.bipush 12, 2) := by decide +kernel
theorem d_GM_equations_194 : decode prog_10_method_48_code 194 = .ok (.if_icmp .ge 77, 3) := by decide +kernel
theorem d_GM_equations_197 : decode prog_10_method_48_code 197 = .ok (.aload_n 0, 1) := by decide +kernel
theorem d_GM_equations_198 : decode prog_10_method_48_code 198 = .ok (.getfield 25, 3) := by decide +kernel
theorem d_GM_equations_201 : decode prog_10_method_48_code 201 = .ok (.ifCond .eq 70, 3) := by decide +kernel
theorem d_GM_equations_204 : decode prog_10_method_48_code 204 = .ok (.aload_n 0, 1) := by decide +kernel
theorem d_GM_equations_205 : decode prog_10_method_48_code 205 = .ok (.getfield 102, 3) := by decide +kernel
theorem d_GM_equations_208 : decode prog_10_method_48_code 208 = .ok (.iload_n 3, 1) := by decide +kernel
theorem d_GM_equations_209 : decode prog_10_method_48_code 209 = .ok (.aload_n 0, 1) := by decide +kernel
theorem d_GM_equations_210 : decode prog_10_method_48_code 210 = .ok (.getfield 118, 3) := by decide +kernel
theorem d_GM_equations_213 : decode prog_10_method_48_code 213 = .ok (.sipush 2600, 3) := by decide +kernel
theorem d_GM_equations_216 : decode prog_10_method_48_code 216 = .ok (.iload_n 3, 1) := by decide +kernel
theorem d_GM_equations_217 : decode prog_10_method_48_code 217 = .ok (.iadd, 1) := by decide +kernel
theorem d_GM_equations_218 : decode prog_10_method_48_code 218 = .ok (.laload, 1) := by decide +kernel
theorem d_GM_equations_219 : decode prog_10_method_48_code 219 = .ok (.l2i, 1) := by decide +kernel
theorem d_GM_equations_220 : decode prog_10_method_48_code 220 = .ok (.iastore, 1) := by decide +kernel
theorem d_GM_equations_221 : decode prog_10_method_48_code 221 = .ok (.iconst 0, 1) := by decide +kernel
theorem d_GM_equations_222 : decode prog_10_method_48_code 222 = .ok (.istore 4, 2) := by decide +kernel
theorem d_GM_equations_224 : decode prog_10_method_48_code 224 = .ok (.iload 4, 2) := by decide +kernel
theorem d_GM_equations_226 : decode prog_10_method_48_code 226 = .ok (.bipush 13, 2) := by decide +kernel
theorem d_GM_equations_228 : decode prog_10_method_48_code 228 = .ok (.if_icmp .ge 37, 3) := by decide +kernel
theorem d_GM_equations_231 : decode prog_10_method_48_code 231 = .ok (.aload_n 0, 1) := by decide +kernel
theorem d_GM_equations_232 : decode prog_10_method_48_code 232 = .ok (.getfield 105, 3) := by decide +kernel
theorem d_GM_equations_235 : decode prog_10_method_48_code 235 = .ok (.iload_n 3, 1) := by decide +kernel
theorem d_GM_equations_236 : decode prog_10_method_48_code 236 = .ok (.bipush 13, 2) := by decide +kernel
theorem d_GM_equations_238 : decode prog_10_method_48_code 238 = .ok (.imul, 1) := by decide +kernel
theorem d_GM_equations_239 : decode prog_10_method_48_code 239 = .ok (.iload 4, 2) := by decide +kernel
theorem d_GM_equations_241 : decode prog_10_method_48_code 241 = .ok (.iadd, 1) := by decide +kernel
theorem d_GM_equations_242 : decode prog_10_method_48_code 242 = .ok (.aload_n 0, 1) := by decide +kernel
theorem d_GM_equations_243 : decode prog_10_method_48_code 243 = .ok (.getfield 118, 3) := by decide +kernel
theorem d_GM_equations_246 : decode prog_10_method_48_code 246 = .ok (.sipush 201, 3) := by decide +kernel
theorem d_GM_equations_249 : decode prog_10_method_48_code 249 = .ok (.iload_n 3, 1) := by decide +kernel
theorem d_GM_equations_250 : decode prog_10_method_48_code 250 = .ok (.iadd, 1) := by decide +kernel
theorem d_GM_equations_251 : decode prog_10_method_48_code 251 = .ok (.bipush 13, 2) := by decide +kernel
theorem d_GM_equations_253 : decode prog_10_method_48_code 253 = .ok (.imul, 1) := by decide +kernel
theorem d_GM_equations_254 : decode prog_10_method_48_code 254 = .ok (.iload 4, 2) := by decide +kernel
theorem d_GM_equations_256 : decode prog_10_method_48_code 256 = .ok (.iadd, 1) := by decide +kernel
theorem d_GM_equations_257 : decode prog_10_method_48_code 257 = .ok (.laload, 1) := by decide +kernel
theorem d_GM_equations_258 : decode prog_10_method_48_code 258 = .ok (.lastore, 1) := by decide +kernel
theorem d_GM_equations_259 : decode prog_10_method_48_code 259 = .ok (.iinc 4 1, 3) := by decide +kernel
theorem d_GM_equations_262 : decode prog_10_method_48_code 262 = .ok (.goto (-38), 3) := by decide +kernel
theorem d_GM_equations_265 : decode prog_10_method_48_code 265 = .ok (.iinc 3 1, 3) := by decide +kernel
theorem d_GM_equations_268 : decode prog_10_method_48_code 268 = .ok (.goto (-77), 3) := by decide +kernel
theorem d_GM_equations_271 : decode prog_10_method_48_code 271 = .ok (.return_, 1) := by decide +kernel
theorem d_GM_equate_0 : decode prog_10_method_47_code 0 = .ok (.aload_n 0, 1) := by decide +kernel
theorem d_GM_equate_1 : decode prog_10_method_47_code 1 = .ok (.sipush 396, 3) := by decide +kernel
theorem d_GM_equate_4 : decode prog_10_method_47_code 4 = .ok (.iload_n 1, 1) := by decide +kernel
theorem d_GM_equate_5 : decode prog_10_method_47_code 5 = .ok (.invokevirtual 247, 3) := by decide +kernel
theorem d_GM_equate_8 : decode prog_10_method_47_code 8 = .ok (.aload_n 0, 1) := by decide +kernel
theorem d_GM_equate_9 : decode prog_10_method_47_code 9 = .ok (.sipush 396, 3) := by decide +kernel
theorem d_GM_equate_12 : decode prog_10_method_47_code 12 = .ok (.invokevirtual 307, 3) := by decide +kernel
theorem d_GM_equate_15 : decode prog_10_method_47_code 15 = .ok (.aload_n 0, 1) := by decide +kernel
theorem d_GM_equate_16 : decode prog_10_method_47_code 16 = .ok (.sipush 399, 3) := by decide +kernel
theorem d_GM_equate_19 : decode prog_10_method_47_code 19 = .ok (.iload_n 2, 1) := by decide +kernel
theorem d_GM_equate_20 : decode prog_10_method_47_code 20 = .ok (.invokevirtual 247, 3) := by decide +kernel
theorem d_GM_equate_23 : decode prog_10_method_47_code 23 = .ok (.aload_n 0, 1) := by decide +kernel
theorem d_GM_equate_24 : decode prog_10_method_47_code 24 = .ok (.sipush 399, 3) := by decide +kernel
theorem d_GM_equate_27 : decode prog_10_method_47_code 27 = .ok (.invokevirtual 307, 3) := by decide +kernel
theorem d_GM_equate_30 : decode prog_10_method_47_code 30 = .ok (.iconst 0, 1) := by decide +kernel
theorem d_GM_equate_31 : decode prog_10_method_47_code 31 = .ok (.istore 4, 2) := by decide +kernel
theorem d_GM_equate_33 : decode prog_10_method_47_code 33 = .ok (.iload 4, 2) := by decide +kernel
theorem d_GM_equate_35 : decode prog_10_method_47_code 35 = .ok (.bipush 13, 2) := by decide +kernel
theorem d_GM_equate_37 : decode prog_10_method_47_code 37 = .ok (.if_icmp .ge 43, 3) := by decide +kernel
theorem d_GM_equate_40 : decode prog_10_method_47_code 40 = .ok (.aload_n 0, 1) := by decide +kernel
theorem d_GM_equate_41 : decode prog_10_method_47_code 41 = .ok (.getfield 118, 3) := by decide +kernel
theorem d_GM_equate_44 : decode prog_10_method_47_code 44 = .ok (.sipush 5187, 3) := by decide +kernel
theorem d_GM_equate_47 : decode prog_10_method_47_code 47 = .ok (.iload 4, 2) := by decide +kernel
theorem d_GM_equate_49 : decode prog_10_method_47_code 49 = .ok (.iadd, 1) := by decide +kernel
theorem d_GM_equate_50 : decode prog_10_method_47_code 50 = .ok (.aload_n 0, 1) := by decide +kernel
theorem d_GM_equate_51 : decode prog_10_method_47_code 51 = .ok (.getfield 118, 3) := by decide +kernel
theorem d_GM_equate_54 : decode prog_10_method_47_code 54 = .ok (.sipush 5148, 3) := by decide +kernel
theorem d_GM_equate_57 : decode prog_10_method_47_code 57 = .ok (.iload 4, 2) := by decide +kernel
theorem d_GM_equate_59 : decode prog_10_method_47_code 59 = .ok (.iadd, 1) := by decide +kernel
theorem d_GM_equate_60 : decode prog_10_method_47_code 60 = .ok (.laload, 1) := by decide +kernel
theorem d_GM_equate_61 : decode prog_10_method_47_code 61 = .ok (.aload_n 0, 1) := by decide +kernel
theorem d_GM_equate_62 : decode prog_10_method_47_code 62 = .ok (.getfield 118, 3) := by decide +kernel
theorem d_GM_equate_65 : decode prog_10_method_47_code 65 = .ok (.sipush 5187, 3) := by decide +kernel
theorem d_GM_equate_68 : decode prog_10_method_47_code 68 = .ok (.iload 4, 2) := by decide +kernel
theorem d_GM_equate_70 : decode prog_10_method_47_code 70 = .ok (.iadd, 1) := by decide +kernel
theorem d_GM_equate_71 : decode prog_10_method_47_code 71 = .ok (.laload, 1) := by decide +kernel
theorem d_GM_equate_72 : decode prog_10_method_47_code 72 = .ok (.lsub, 1) := by decide +kernel
theorem d_GM_equate_73 : decode prog_10_method_47_code 73 = .ok (.lastore, 1) := by decide +kernel
theorem d_GM_equate_74 : decode prog_10_method_47_code 74 = .ok (.iinc 4 1, 3) := by decide +kernel
theorem d_GM_equate_77 : decode prog_10_method_47_code 77 = .ok (.goto (-44), 3) := by decide +kernel
theorem d_GM_equate_80 : decode prog_10_method_47_code 80 = .ok (.aload_n 0, 1) := by decide +kernel
theorem d_GM_equate_81 : decode prog_10_method_47_code 81 = .ok (.getfield 55, 3) := by decide +kernel
theorem d_GM_equate_84 : decode prog_10_method_47_code 84 = .ok (.ifCond .eq 13, 3) := by decide +kernel
theorem d_GM_equate_87 : decode prog_10_method_47_code 87 = .ok (.aload_n 0, 1) := by decide +kernel
theorem d_GM_equate_88 : decode prog_10_method_47_code 88 = .ok (.bipush (-9), 2) := by decide +kernel
theorem d_GM_equate_90 : decode prog_10_method_47_code 90 = .ok (.iload_n 3, 1) := by decide +kernel
theorem d_GM_equate_91 : decode prog_10_method_47_code 91 = .ok (.invokevirtual 164, 3) := by decide +kernel
theorem d_GM_equate_94 : decode prog_10_method_47_code 94 = .ok (.goto 80, 3) := by decide +kernel
theorem d_GM_equate_97 : decode prog_10_method_47_code 97 = .ok (.aload_n 0, 1) := by decide +kernel
theorem d_GM_equate_98 : decode prog_10_method_47_code 98 = .ok (.sipush 399, 3) := by decide +kernel
theorem d_GM_equate_101 : decode prog_10_method_47_code 101 = .ok (.invokevirtual 260, 3) := by decide +kernel
theorem d_GM_equate_104 : decode prog_10_method_47_code 104 = .ok (.ifCond .eq 26, 3) := by decide +kernel
theorem d_GM_equate_107 : decode prog_10_method_47_code 107 = .ok (.aload_n 0, 1) := by decide +kernel
theorem d_GM_equate_108 : decode prog_10_method_47_code 108 = .ok (.getfield 118, 3) := by decide +kernel
theorem d_GM_equate_111 : decode prog_10_method_47_code 111 = .ok (.sipush 5199, 3) := by decide +kernel
theorem d_GM_equate_114 : decode prog_10_method_47_code 114 = .ok (.laload, 1) := by decide +kernel
theorem d_GM_equate_115 : decode prog_10_method_47_code 115 = .ok (.lconst 0, 1) := by decide +kernel
theorem d_GM_equate_116 : decode prog_10_method_47_code 116 = .ok (.lcmp, 1) := by decide +kernel
theorem d_GM_equate_117 : decode prog_10_method_47_code 117 = .ok (.ifCond .eq 57, 3) := by decide +kernel
theorem d_GM_equate_120 : decode prog_10_method_47_code 120 = .ok (.aload_n 0, 1) := by decide +kernel
theorem d_GM_equate_121 : decode prog_10_method_47_code 121 = .ok (.bipush (-10), 2) := by decide +kernel
theorem d_GM_equate_123 : decode prog_10_method_47_code 123 = .ok (.iload_n 3, 1) := by decide +kernel
theorem d_GM_equate_124 : decode prog_10_method_47_code 124 = .ok (.invokevirtual 164, 3) := by decide +kernel
theorem d_GM_equate_127 : decode prog_10_method_47_code 127 = .ok (.goto 47, 3) := by decide +kernel
theorem d_GM_equate_130 : decode prog_10_method_47_code 130 = .ok (.aload_n 0, 1) := by decide +kernel
theorem d_GM_equate_131 : decode prog_10_method_47_code 131 = .ok (.sipush 399, 3) := by decide +kernel
theorem d_GM_equate_134 : decode prog_10_method_47_code 134 = .ok (.invokevirtual 310, 3) := by decide +kernel
theorem d_GM_equate_137 : decode prog_10_method_47_code 137 = .ok (.istore 4, 2) := by decide +kernel
theorem d_GM_equate_139 : decode prog_10_method_47_code 139 = .ok (.iload 4, 2) := by decide +kernel
theorem d_GM_equate_141 : decode prog_10_method_47_code 141 = .ok (.ifCond .ge 13, 3) := by decide +kernel
theorem d_GM_equate_144 : decode prog_10_method_47_code 144 = .ok (.aload_n 0, 1) := by decide +kernel
theorem d_GM_equate_145 : decode prog_10_method_47_code 145 = .ok (.bipush (-11), 2) := by decide +kernel
theorem d_GM_equate_147 : decode prog_10_method_47_code 147 = .ok (.iload_n 3, 1) := by decide +kernel
theorem d_GM_equate_148 : decode prog_10_method_47_code 148 = .ok (.invokevirtual 164, 3) := by decide +kernel
theorem d_GM_equate_151 : decode prog_10_method_47_code 151 = .ok (.goto 9, 3) := by decide +kernel
theorem d_GM_equate_154 : decode prog_10_method_47_code 154 = .ok (.aload_n 0, 1) := by decide +kernel
theorem d_GM_equate_155 : decode prog_10_method_47_code 155 = .ok (.iload 4, 2) := by decide +kernel
theorem d_GM_equate_157 : decode prog_10_method_47_code 157 = .ok (.invokevirtual 314, 3) := by decide +kernel
theorem d_GM_equate_160 : decode prog_10_method_47_code 160 = .ok (.aload_n 0, 1) := by decide +kernel
theorem d_GM_equate_161 : decode prog_10_method_47_code 161 = .ok (.getfield 55, 3) := by decide +kernel
theorem d_GM_equate_164 : decode prog_10_method_47_code 164 = .ok (.ifCond .eq 10, 3) := by decide +kernel
theorem d_GM_equate_167 : decode prog_10_method_47_code 167 = .ok (.aload_n 0, 1) := by decide +kernel
theorem d_GM_equate_168 : decode prog_10_method_47_code 168 = .ok (.bipush (-9), 2) := by decide +kernel
theorem d_GM_equate_170 : decode prog_10_method_47_code 170 = .ok (.iload_n 3, 1) := by decide +kernel
theorem d_GM_equate_171 : decode prog_10_method_47_code 171 = .ok (.invokevirtual 164, 3) := by decide +kernel
theorem d_GM_equate_174 : decode prog_10_method_47_code 174 = .ok (.return_, 1) := by decide +kernel
theorem GM_c274 : jLk "GlyphCompilerModel" 274 Y_GM_coordinate := Or.inl (jin_t (jin_4 178 rfl) rfl)
theorem GM_c278 : jLk "GlyphCompilerModel" 278 Y_GM_piece := Or.inl (jin_t (jin_4 183 rfl) rfl)
theorem GM_c282 : jLk "GlyphCompilerModel" 282 Y_GM_bend := Or.inl (jin_t (jin_4 187 rfl) rfl)
theorem GM_k270 : Jvm.Cond.constantLong "GlyphCompilerModel" 270 (jL 512) ∈ jTs := by rw [show jL 512 = 512 by decide]; exact (jin_t (jin_4 182 rfl) rfl)
theorem GM_f133 : jFl "GlyphCompilerModel" 133 8 40 := ⟨R_GM, T_GM, 46, rfl, Nat.le_of_ble_eq_true rfl, Or.inl (jin_t (jin_3 162 rfl) rfl)⟩
theorem GM_f40 : jFl "GlyphCompilerModel" 40 8 10 := ⟨R_GM, T_GM, 46, rfl, Nat.le_of_ble_eq_true rfl, Or.inl (jin_t (jin_3 132 rfl) rfl)⟩
theorem GM_f136 : jFl "GlyphCompilerModel" 136 8 41 := ⟨R_GM, T_GM, 46, rfl, Nat.le_of_ble_eq_true rfl, Or.inl (jin_t (jin_3 163 rfl) rfl)⟩
theorem GM_f139 : jFl "GlyphCompilerModel" 139 8 42 := ⟨R_GM, T_GM, 46, rfl, Nat.le_of_ble_eq_true rfl, Or.inl (jin_t (jin_3 164 rfl) rfl)⟩
theorem GM_f142 : jFl "GlyphCompilerModel" 142 8 43 := ⟨R_GM, T_GM, 46, rfl, Nat.le_of_ble_eq_true rfl, Or.inl (jin_t (jin_3 165 rfl) rfl)⟩
theorem GM_k272 : Jvm.Cond.constantLong "GlyphCompilerModel" 272 (jL 3) ∈ jTs := by rw [show jL 3 = 3 by decide]; exact (jin_t (jin_4 191 rfl) rfl)
theorem GM_c317 : jLk "GlyphCompilerModel" 317 Y_GM_equate := Or.inl (jin_t (jin_4 201 rfl) rfl)
theorem GM_c307 : jLk "GlyphCompilerModel" 307 Y_GM_refresh := Or.inl (jin_t (jin_4 205 rfl) rfl)
theorem GM_c310 : jLk "GlyphCompilerModel" 310 Y_GM_pivot := Or.inl (jin_t (jin_4 222 rfl) rfl)
theorem GM_c314 : jLk "GlyphCompilerModel" 314 Y_GM_solve := Or.inl (jin_t (jin_4 226 rfl) rfl)
theorem yk_GM_makePieces : jYok Y_GM_makePieces 0 := ⟨(jin_t (jin_4 177 rfl) rfl), (jin_t (jin_1 9 rfl) rfl), ⟨by decide +kernel, by decide +kernel⟩, by decide +kernel⟩
theorem yv_GM_makePieces : Cond.instanceMethod (yN Y_GM_makePieces) ∈ jTs ∧ Cond.selects (yN Y_GM_makePieces).cls (yN Y_GM_makePieces) (yN Y_GM_makePieces) ∈ jTs := ⟨(jin_t (jin_4 176 rfl) rfl), (jin_p (List.mem_map.mpr ⟨(({ cls := "GlyphCompilerModel", name := "makePieces", desc := "()V" } : Jvm.MethodName), 46), by decide +kernel, rfl⟩) rfl)⟩
theorem yk_GM_coordinate : jYok Y_GM_coordinate 2 := ⟨(jin_t (jin_4 181 rfl) rfl), (jin_t (jin_1 9 rfl) rfl), ⟨by decide +kernel, by decide +kernel⟩, by decide +kernel⟩
theorem yv_GM_coordinate : Cond.instanceMethod (yN Y_GM_coordinate) ∈ jTs ∧ Cond.selects (yN Y_GM_coordinate).cls (yN Y_GM_coordinate) (yN Y_GM_coordinate) ∈ jTs := ⟨(jin_t (jin_4 180 rfl) rfl), (jin_p (List.mem_map.mpr ⟨(({ cls := "GlyphCompilerModel", name := "coordinate", desc := "(II)J" } : Jvm.MethodName), 46), by decide +kernel, rfl⟩) rfl)⟩
theorem yk_GM_piece : jYok Y_GM_piece 4 := ⟨(jin_t (jin_4 186 rfl) rfl), (jin_t (jin_1 9 rfl) rfl), ⟨by decide +kernel, by decide +kernel⟩, by decide +kernel⟩
theorem yv_GM_piece : Cond.instanceMethod (yN Y_GM_piece) ∈ jTs ∧ Cond.selects (yN Y_GM_piece).cls (yN Y_GM_piece) (yN Y_GM_piece) ∈ jTs := ⟨(jin_t (jin_4 185 rfl) rfl), (jin_p (List.mem_map.mpr ⟨(({ cls := "GlyphCompilerModel", name := "piece", desc := "(JJJJ)V" } : Jvm.MethodName), 46), by decide +kernel, rfl⟩) rfl)⟩
theorem yk_GM_bend : jYok Y_GM_bend 3 := ⟨(jin_t (jin_4 190 rfl) rfl), (jin_t (jin_1 9 rfl) rfl), ⟨by decide +kernel, by decide +kernel⟩, by decide +kernel⟩
theorem yv_GM_bend : Cond.instanceMethod (yN Y_GM_bend) ∈ jTs ∧ Cond.selects (yN Y_GM_bend).cls (yN Y_GM_bend) (yN Y_GM_bend) ∈ jTs := ⟨(jin_t (jin_4 189 rfl) rfl), (jin_p (List.mem_map.mpr ⟨(({ cls := "GlyphCompilerModel", name := "bend", desc := "(III)J" } : Jvm.MethodName), 46), by decide +kernel, rfl⟩) rfl)⟩
theorem yk_GM_winding : jYok Y_GM_winding 2 := ⟨(jin_t (jin_4 196 rfl) rfl), (jin_t (jin_1 9 rfl) rfl), ⟨by decide +kernel, by decide +kernel⟩, by decide +kernel⟩
theorem yv_GM_winding : Cond.instanceMethod (yN Y_GM_winding) ∈ jTs ∧ Cond.selects (yN Y_GM_winding).cls (yN Y_GM_winding) (yN Y_GM_winding) ∈ jTs := ⟨(jin_t (jin_4 195 rfl) rfl), (jin_p (List.mem_map.mpr ⟨(({ cls := "GlyphCompilerModel", name := "winding", desc := "(JJ)I" } : Jvm.MethodName), 46), by decide +kernel, rfl⟩) rfl)⟩
theorem yk_GM_equations : jYok Y_GM_equations 0 := ⟨(jin_t (jin_4 200 rfl) rfl), (jin_t (jin_1 9 rfl) rfl), ⟨by decide +kernel, by decide +kernel⟩, by decide +kernel⟩
theorem yv_GM_equations : Cond.instanceMethod (yN Y_GM_equations) ∈ jTs ∧ Cond.selects (yN Y_GM_equations).cls (yN Y_GM_equations) (yN Y_GM_equations) ∈ jTs := ⟨(jin_t (jin_4 199 rfl) rfl), (jin_p (List.mem_map.mpr ⟨(({ cls := "GlyphCompilerModel", name := "equations", desc := "()V" } : Jvm.MethodName), 46), by decide +kernel, rfl⟩) rfl)⟩
theorem yk_GM_equate : jYok Y_GM_equate 3 := ⟨(jin_t (jin_4 204 rfl) rfl), (jin_t (jin_1 9 rfl) rfl), ⟨by decide +kernel, by decide +kernel⟩, by decide +kernel⟩
theorem yv_GM_equate : Cond.instanceMethod (yN Y_GM_equate) ∈ jTs ∧ Cond.selects (yN Y_GM_equate).cls (yN Y_GM_equate) (yN Y_GM_equate) ∈ jTs := ⟨(jin_t (jin_4 203 rfl) rfl), (jin_p (List.mem_map.mpr ⟨(({ cls := "GlyphCompilerModel", name := "equate", desc := "(III)V" } : Jvm.MethodName), 46), by decide +kernel, rfl⟩) rfl)⟩

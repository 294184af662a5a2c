theorem d_FO_row_0 : decode prog_3_method_2_code 0 = .ok (.iload_n 0, 1) := by decide +kernel
theorem d_FO_row_1 : decode prog_3_method_2_code 1 = .ok (.anewarray 1, 3) := by decide +kernel
theorem d_FO_row_4 : decode prog_3_method_2_code 4 = .ok (.astore_n 1, 1) := by decide +kernel
theorem d_FO_row_5 : decode prog_3_method_2_code 5 = .ok (.iconst 0, 1) := by decide +kernel
theorem d_FO_row_6 : decode prog_3_method_2_code 6 = .ok (.istore_n 2, 1) := by decide +kernel
theorem d_FO_row_7 : decode prog_3_method_2_code 7 = .ok (.iload_n 2, 1) := by decide +kernel
theorem d_FO_row_8 : decode prog_3_method_2_code 8 = .ok (.iload_n 0, 1) := by decide +kernel
theorem d_FO_row_9 : decode prog_3_method_2_code 9 = .ok (.if_icmp .ge 19, 3) := by decide +kernel
theorem d_FO_row_12 : decode prog_3_method_2_code 12 = .ok (.aload_n 1, 1) := by decide +kernel
theorem d_FO_row_13 : decode prog_3_method_2_code 13 = .ok (.iload_n 2, 1) := by decide +kernel
theorem d_FO_row_14 : decode prog_3_method_2_code 14 = .ok (.new 1, 3) := by decide +kernel
theorem d_FO_row_17 : decode prog_3_method_2_code 17 = .ok (.dup, 1) := by decide +kernel
theorem d_FO_row_18 : decode prog_3_method_2_code 18 = .ok (.invokespecial 15, 3) := by decide +kernel
theorem d_FO_row_21 : decode prog_3_method_2_code 21 = .ok (.aastore, 1) := by decide +kernel
theorem d_FO_row_22 : decode prog_3_method_2_code 22 = .ok (.iinc 2 1, 3) := by decide +kernel
theorem d_FO_row_25 : decode prog_3_method_2_code 25 = .ok (.goto (-18), 3) := by decide +kernel
theorem d_FO_row_28 : decode prog_3_method_2_code 28 = .ok (.aload_n 1, 1) := by decide +kernel
theorem d_FO_row_29 : decode prog_3_method_2_code 29 = .ok (.areturn, 1) := by decide +kernel
theorem d_FO_init_0 : decode prog_3_method_1_code 0 = .ok (.aload_n 0, 1) := by decide +kernel
theorem d_FO_init_1 : decode prog_3_method_1_code 1 = .ok (.invokespecial 5, 3) := by decide +kernel
theorem d_FO_init_4 : decode prog_3_method_1_code 4 = .ok (.aload_n 0, 1) := by decide +kernel
theorem d_FO_init_5 : decode prog_3_method_1_code 5 = .ok (.bipush 13, 2) := by decide +kernel
theorem d_FO_init_7 : decode prog_3_method_1_code 7 = .ok (.newarray .long, 2) := by decide +kernel
theorem d_FO_init_9 : decode prog_3_method_1_code 9 = .ok (.putfield 11, 3) := by decide +kernel
theorem d_FO_init_12 : decode prog_3_method_1_code 12 = .ok (.return_, 1) := by decide +kernel
theorem d_FO_set_0 : decode prog_3_method_6_code 0 = .ok (.iconst 0, 1) := by decide +kernel
theorem d_FO_set_1 : decode prog_3_method_6_code 1 = .ok (.istore 4, 2) := by decide +kernel
theorem d_FO_set_3 : decode prog_3_method_6_code 3 = .ok (.iload 4, 2) := by decide +kernel
theorem d_FO_set_5 : decode prog_3_method_6_code 5 = .ok (.bipush 13, 2) := by decide +kernel
theorem d_FO_set_7 : decode prog_3_method_6_code 7 = .ok (.if_icmp .ge 27, 3) := by decide +kernel
theorem d_FO_set_10 : decode prog_3_method_6_code 10 = .ok (.aload_n 0, 1) := by decide +kernel
theorem d_FO_set_11 : decode prog_3_method_6_code 11 = .ok (.getfield 11, 3) := by decide +kernel
theorem d_FO_set_14 : decode prog_3_method_6_code 14 = .ok (.iload 4, 2) := by decide +kernel
theorem d_FO_set_16 : decode prog_3_method_6_code 16 = .ok (.iload 4, 2) := by decide +kernel
theorem d_FO_set_18 : decode prog_3_method_6_code 18 = .ok (.iload_n 1, 1) := by decide +kernel
theorem d_FO_set_19 : decode prog_3_method_6_code 19 = .ok (.if_icmp .ne 7, 3) := by decide +kernel
theorem d_FO_set_22 : decode prog_3_method_6_code 22 = .ok (.lload_n 2, 1) := by decide +kernel
theorem d_FO_set_23 : decode prog_3_method_6_code 23 = .ok (.goto 4, 3) := by decide +kernel
theorem d_FO_set_26 : decode prog_3_method_6_code 26 = .ok (.lconst 0, 1) := by decide +kernel
theorem d_FO_set_27 : decode prog_3_method_6_code 27 = .ok (.lastore, 1) := by decide +kernel
theorem d_FO_set_28 : decode prog_3_method_6_code 28 = .ok (.iinc 4 1, 3) := by decide +kernel
theorem d_FO_set_31 : decode prog_3_method_6_code 31 = .ok (.goto (-28), 3) := by decide +kernel
theorem d_FO_set_34 : decode prog_3_method_6_code 34 = .ok (.return_, 1) := by decide +kernel
theorem d_FO_copy_0 : decode prog_3_method_7_code 0 = .ok (.iconst 0, 1) := by decide +kernel
theorem d_FO_copy_1 : decode prog_3_method_7_code 1 = .ok (.istore_n 2, 1) := by decide +kernel
theorem d_FO_copy_2 : decode prog_3_method_7_code 2 = .ok (.iload_n 2, 1) := by decide +kernel
theorem d_FO_copy_3 : decode prog_3_method_7_code 3 = .ok (.bipush 13, 2) := by decide +kernel
theorem d_FO_copy_5 : decode prog_3_method_7_code 5 = .ok (.if_icmp .ge 21, 3) := by decide +kernel
theorem d_FO_copy_8 : decode prog_3_method_7_code 8 = .ok (.aload_n 0, 1) := by decide +kernel
theorem d_FO_copy_9 : decode prog_3_method_7_code 9 = .ok (.getfield 11, 3) := by decide +kernel
theorem d_FO_copy_12 : decode prog_3_method_7_code 12 = .ok (.iload_n 2, 1) := by decide +kernel
theorem d_FO_copy_13 : decode prog_3_method_7_code 13 = .ok (.aload_n 1, 1) := by decide +kernel
theorem d_FO_copy_14 : decode prog_3_method_7_code 14 = .ok (.getfield 11, 3) := by decide +kernel
theorem d_FO_copy_17 : decode prog_3_method_7_code 17 = .ok (.iload_n 2, 1) := by decide +kernel
theorem d_FO_copy_18 : decode prog_3_method_7_code 18 = .ok (.laload, 1) := by decide +kernel
theorem d_FO_copy_19 : decode prog_3_method_7_code 19 = .ok (.lastore, 1) := by decide +kernel
theorem d_FO_copy_20 : decode prog_3_method_7_code 20 = .ok (.iinc 2 1, 3) := by decide +kernel
theorem d_FO_copy_23 : decode prog_3_method_7_code 23 = .ok (.goto (-21), 3) := by decide +kernel
theorem d_FO_copy_26 : decode prog_3_method_7_code 26 = .ok (.return_, 1) := by decide +kernel
theorem d_FO_multiply_0 : decode prog_3_method_10_code 0 = .ok (.iconst 1, 1) := by decide +kernel
theorem d_FO_multiply_1 : decode prog_3_method_10_code 1 = .ok (.istore_n 2, 1) := by decide +kernel
theorem d_FO_multiply_2 : decode prog_3_method_10_code 2 = .ok (.iconst 0, 1) := by decide +kernel
theorem d_FO_multiply_3 : decode prog_3_method_10_code 3 = .ok (.istore_n 3, 1) := by decide +kernel
theorem d_FO_multiply_4 : decode prog_3_method_10_code 4 = .ok (.iload_n 3, 1) := by decide +kernel
theorem d_FO_multiply_5 : decode prog_3_method_10_code 5 = .ok (.bipush 13, 2) := by decide +kernel
theorem d_FO_multiply_7 : decode prog_3_method_10_code 7 = .ok (.if_icmp .ge 63, 3) := by decide +kernel
theorem d_FO_multiply_10 : decode prog_3_method_10_code 10 = .ok (.aload_n 0, 1) := by decide +kernel
theorem d_FO_multiply_11 : decode prog_3_method_10_code 11 = .ok (.getfield 11, 3) := by decide +kernel
theorem d_FO_multiply_14 : decode prog_3_method_10_code 14 = .ok (.iload_n 3, 1) := by decide +kernel
theorem d_FO_multiply_15 : decode prog_3_method_10_code 15 = .ok (.laload, 1) := by decide +kernel
theorem d_FO_multiply_16 : decode prog_3_method_10_code 16 = .ok (.iload_n 1, 1) := by decide +kernel
theorem d_FO_multiply_17 : decode prog_3_method_10_code 17 = .ok (.i2l, 1) := by decide +kernel
theorem d_FO_multiply_18 : decode prog_3_method_10_code 18 = .ok (.lmul, 1) := by decide +kernel
theorem d_FO_multiply_19 : decode prog_3_method_10_code 19 = .ok (.lstore 4, 2) := by decide +kernel
theorem d_FO_multiply_21 : decode prog_3_method_10_code 21 = .ok (.aload_n 0, 1) := by decide +kernel
theorem d_FO_multiply_22 : decode prog_3_method_10_code 22 = .ok (.getfield 11, 3) := by decide +kernel
theorem d_FO_multiply_25 : decode prog_3_method_10_code 25 = .ok (.iload_n 3, 1) := by decide +kernel
theorem d_FO_multiply_26 : decode prog_3_method_10_code 26 = .ok (.lload 4, 2) := by decide +kernel
theorem d_FO_multiply_28 : decode prog_3_method_10_code 28 = .ok (.iconst 4, 1) := by decide +kernel
theorem d_FO_multiply_29 : decode prog_3_method_10_code 29 = .ok (.lshr, 1) := by decide +kernel
theorem d_FO_multiply_30 : decode prog_3_method_10_code 30 = .ok (.lastore, 1) := by decide +kernel
theorem d_FO_multiply_31 : decode prog_3_method_10_code 31 = .ok (.iload_n 2, 1) := by decide +kernel
theorem d_FO_multiply_32 : decode prog_3_method_10_code 32 = .ok (.ifCond .eq 30, 3) := by decide +kernel
theorem d_FO_multiply_35 : decode prog_3_method_10_code 35 = .ok (.lload 4, 2) := by decide +kernel
theorem d_FO_multiply_37 : decode prog_3_method_10_code 37 = .ok (.ldc2_w 24, 3) := by decide +kernel
theorem d_FO_multiply_40 : decode prog_3_method_10_code 40 = .ok (.land, 1) := by decide +kernel
theorem d_FO_multiply_41 : decode prog_3_method_10_code 41 = .ok (.lconst 0, 1) := by decide +kernel
theorem d_FO_multiply_42 : decode prog_3_method_10_code 42 = .ok (.lcmp, 1) := by decide +kernel
theorem d_FO_multiply_43 : decode prog_3_method_10_code 43 = .ok (.ifCond .ne 19, 3) := by decide +kernel
theorem d_FO_multiply_46 : decode prog_3_method_10_code 46 = .ok (.aload_n 0, 1) := by decide +kernel
theorem d_FO_multiply_47 : decode prog_3_method_10_code 47 = .ok (.getfield 11, 3) := by decide +kernel
theorem d_FO_multiply_50 : decode prog_3_method_10_code 50 = .ok (.iload_n 3, 1) := by decide +kernel
theorem d_FO_multiply_51 : decode prog_3_method_10_code 51 = .ok (.laload, 1) := by decide +kernel
theorem d_FO_multiply_52 : decode prog_3_method_10_code 52 = .ok (.invokestatic 20, 3) := by decide +kernel
theorem d_FO_multiply_55 : decode prog_3_method_10_code 55 = .ok (.ifCond .eq 7, 3) := by decide +kernel
theorem d_FO_multiply_58 : decode prog_3_method_10_code 58 = .ok (.iconst 1, 1) := by decide +kernel
theorem d_FO_multiply_59 : decode prog_3_method_10_code 59 = .ok (.goto 4, 3) := by decide +kernel
theorem d_FO_multiply_62 : decode prog_3_method_10_code 62 = .ok (.iconst 0, 1) := by decide +kernel
theorem d_FO_multiply_63 : decode prog_3_method_10_code 63 = .ok (.istore_n 2, 1) := by decide +kernel
theorem d_FO_multiply_64 : decode prog_3_method_10_code 64 = .ok (.iinc 3 1, 3) := by decide +kernel
theorem d_FO_multiply_67 : decode prog_3_method_10_code 67 = .ok (.goto (-63), 3) := by decide +kernel
theorem d_FO_multiply_70 : decode prog_3_method_10_code 70 = .ok (.iload_n 2, 1) := by decide +kernel
theorem d_FO_multiply_71 : decode prog_3_method_10_code 71 = .ok (.ireturn, 1) := by decide +kernel
theorem d_FO_isNumber_0 : decode prog_3_method_3_code 0 = .ok (.lload_n 0, 1) := by decide +kernel
theorem d_FO_isNumber_1 : decode prog_3_method_3_code 1 = .ok (.ldc2_w 16, 3) := by decide +kernel
theorem d_FO_isNumber_4 : decode prog_3_method_3_code 4 = .ok (.lcmp, 1) := by decide +kernel
theorem d_FO_isNumber_5 : decode prog_3_method_3_code 5 = .ok (.ifCond .lt 15, 3) := by decide +kernel
theorem d_FO_isNumber_8 : decode prog_3_method_3_code 8 = .ok (.lload_n 0, 1) := by decide +kernel
theorem d_FO_isNumber_9 : decode prog_3_method_3_code 9 = .ok (.ldc2_w 18, 3) := by decide +kernel
theorem d_FO_isNumber_12 : decode prog_3_method_3_code 12 = .ok (.lcmp, 1) := by decide +kernel
theorem d_FO_isNumber_13 : decode prog_3_method_3_code 13 = .ok (.ifCond .gt 7, 3) := by decide +kernel
theorem d_FO_isNumber_16 : decode prog_3_method_3_code 16 = .ok (.iconst 1, 1) := by decide +kernel
theorem d_FO_isNumber_17 : decode prog_3_method_3_code 17 = .ok (.goto 4, 3) := by decide +kernel
theorem d_FO_isNumber_20 : decode prog_3_method_3_code 20 = .ok (.iconst 0, 1) := by decide +kernel
theorem d_FO_isNumber_21 : decode prog_3_method_3_code 21 = .ok (.ireturn, 1) := by decide +kernel
theorem d_FO_setBetween_0 : decode prog_3_method_11_code 0 = .ok (.iconst 1, 1) := by decide +kernel
theorem d_FO_setBetween_1 : decode prog_3_method_11_code 1 = .ok (.istore 4, 2) := by decide +kernel
theorem d_FO_setBetween_3 : decode prog_3_method_11_code 3 = .ok (.iconst 0, 1) := by decide +kernel
theorem d_FO_setBetween_4 : decode prog_3_method_11_code 4 = .ok (.istore 5, 2) := by decide +kernel
theorem d_FO_setBetween_6 : decode prog_3_method_11_code 6 = .ok (.iload 5, 2) := by decide +kernel
theorem d_FO_setBetween_8 : decode prog_3_method_11_code 8 = .ok (.bipush 13, 2) := by decide +kernel
theorem d_FO_setBetween_10 : decode prog_3_method_11_code 10 = .ok (.if_icmp .ge 88, 3) := by decide +kernel
theorem d_FO_setBetween_13 : decode prog_3_method_11_code 13 = .ok (.ldc2_w 26, 3) := by decide +kernel
theorem d_FO_setBetween_16 : decode prog_3_method_11_code 16 = .ok (.aload_n 2, 1) := by decide +kernel
theorem d_FO_setBetween_17 : decode prog_3_method_11_code 17 = .ok (.getfield 11, 3) := by decide +kernel
theorem d_FO_setBetween_20 : decode prog_3_method_11_code 20 = .ok (.iload 5, 2) := by decide +kernel
theorem d_FO_setBetween_22 : decode prog_3_method_11_code 22 = .ok (.laload, 1) := by decide +kernel
theorem d_FO_setBetween_23 : decode prog_3_method_11_code 23 = .ok (.lmul, 1) := by decide +kernel
theorem d_FO_setBetween_24 : decode prog_3_method_11_code 24 = .ok (.iload_n 1, 1) := by decide +kernel
theorem d_FO_setBetween_25 : decode prog_3_method_11_code 25 = .ok (.i2l, 1) := by decide +kernel
theorem d_FO_setBetween_26 : decode prog_3_method_11_code 26 = .ok (.aload_n 3, 1) := by decide +kernel
theorem d_FO_setBetween_27 : decode prog_3_method_11_code 27 = .ok (.getfield 11, 3) := by decide +kernel
theorem d_FO_setBetween_30 : decode prog_3_method_11_code 30 = .ok (.iload 5, 2) := by decide +kernel
theorem d_FO_setBetween_32 : decode prog_3_method_11_code 32 = .ok (.laload, 1) := by decide +kernel
theorem d_FO_setBetween_33 : decode prog_3_method_11_code 33 = .ok (.aload_n 2, 1) := by decide +kernel
theorem d_FO_setBetween_34 : decode prog_3_method_11_code 34 = .ok (.getfield 11, 3) := by decide +kernel
theorem d_FO_setBetween_37 : decode prog_3_method_11_code 37 = .ok (.iload 5, 2) := by decide +kernel
theorem d_FO_setBetween_39 : decode prog_3_method_11_code 39 = .ok (.laload, 1) := by decide +kernel
theorem d_FO_setBetween_40 : decode prog_3_method_11_code 40 = .ok (.lsub, 1) := by decide +kernel
theorem d_FO_setBetween_41 : decode prog_3_method_11_code 41 = .ok (.lmul, 1) := by decide +kernel
theorem d_FO_setBetween_42 : decode prog_3_method_11_code 42 = .ok (.ladd, 1) := by decide +kernel
theorem d_FO_setBetween_43 : decode prog_3_method_11_code 43 = .ok (.lstore 6, 2) := by decide +kernel
theorem d_FO_setBetween_45 : decode prog_3_method_11_code 45 = .ok (.aload_n 0, 1) := by decide +kernel
theorem d_FO_setBetween_46 : decode prog_3_method_11_code 46 = .ok (.getfield 11, 3) := by decide +kernel
theorem d_FO_setBetween_49 : decode prog_3_method_11_code 49 = .ok (.iload 5, 2) := by decide +kernel
theorem d_FO_setBetween_51 : decode prog_3_method_11_code 51 = .ok (.lload 6, 2) := by decide +kernel
theorem d_FO_setBetween_53 : decode prog_3_method_11_code 53 = .ok (.iconst 4, 1) := by decide +kernel
theorem d_FO_setBetween_54 : decode prog_3_method_11_code 54 = .ok (.lshr, 1) := by decide +kernel
theorem d_FO_setBetween_55 : decode prog_3_method_11_code 55 = .ok (.lastore, 1) := by decide +kernel
theorem d_FO_setBetween_56 : decode prog_3_method_11_code 56 = .ok (.iload 4, 2) := by decide +kernel
theorem d_FO_setBetween_58 : decode prog_3_method_11_code 58 = .ok (.ifCond .eq 31, 3) := by decide +kernel
theorem d_FO_setBetween_61 : decode prog_3_method_11_code 61 = .ok (.lload 6, 2) := by decide +kernel
theorem d_FO_setBetween_63 : decode prog_3_method_11_code 63 = .ok (.ldc2_w 24, 3) := by decide +kernel
theorem d_FO_setBetween_66 : decode prog_3_method_11_code 66 = .ok (.land, 1) := by decide +kernel
theorem d_FO_setBetween_67 : decode prog_3_method_11_code 67 = .ok (.lconst 0, 1) := by decide +kernel
theorem d_FO_setBetween_68 : decode prog_3_method_11_code 68 = .ok (.lcmp, 1) := by decide +kernel
theorem d_FO_setBetween_69 : decode prog_3_method_11_code 69 = .ok (.ifCond .ne 20, 3) := by decide +kernel
theorem d_FO_setBetween_72 : decode prog_3_method_11_code 72 = .ok (.aload_n 0, 1) := by decide +kernel
theorem d_FO_setBetween_73 : decode prog_3_method_11_code 73 = .ok (.getfield 11, 3) := by decide +kernel
theorem d_FO_setBetween_76 : decode prog_3_method_11_code 76 = .ok (.iload 5, 2) := by decide +kernel
theorem d_FO_setBetween_78 : decode prog_3_method_11_code 78 = .ok (.laload, 1) := by decide +kernel
theorem d_FO_setBetween_79 : decode prog_3_method_11_code 79 = .ok (.invokestatic 20, 3) := by decide +kernel
theorem d_FO_setBetween_82 : decode prog_3_method_11_code 82 = .ok (.ifCond .eq 7, 3) := by decide +kernel
theorem d_FO_setBetween_85 : decode prog_3_method_11_code 85 = .ok (.iconst 1, 1) := by decide +kernel
theorem d_FO_setBetween_86 : decode prog_3_method_11_code 86 = .ok (.goto 4, 3) := by decide +kernel
theorem d_FO_setBetween_89 : decode prog_3_method_11_code 89 = .ok (.iconst 0, 1) := by decide +kernel
theorem d_FO_setBetween_90 : decode prog_3_method_11_code 90 = .ok (.istore 4, 2) := by decide +kernel
theorem d_FO_setBetween_92 : decode prog_3_method_11_code 92 = .ok (.iinc 5 1, 3) := by decide +kernel
theorem d_FO_setBetween_95 : decode prog_3_method_11_code 95 = .ok (.goto (-89), 3) := by decide +kernel
theorem d_FO_setBetween_98 : decode prog_3_method_11_code 98 = .ok (.iload 4, 2) := by decide +kernel
theorem d_FO_setBetween_100 : decode prog_3_method_11_code 100 = .ok (.ireturn, 1) := by decide +kernel
theorem d_FO_subtract_0 : decode prog_3_method_9_code 0 = .ok (.iconst 0, 1) := by decide +kernel
theorem d_FO_subtract_1 : decode prog_3_method_9_code 1 = .ok (.istore_n 2, 1) := by decide +kernel
theorem d_FO_subtract_2 : decode prog_3_method_9_code 2 = .ok (.iload_n 2, 1) := by decide +kernel
theorem d_FO_subtract_3 : decode prog_3_method_9_code 3 = .ok (.bipush 13, 2) := by decide +kernel
theorem d_FO_subtract_5 : decode prog_3_method_9_code 5 = .ok (.if_icmp .ge 24, 3) := by decide +kernel
theorem d_FO_subtract_8 : decode prog_3_method_9_code 8 = .ok (.aload_n 0, 1) := by decide +kernel
theorem d_FO_subtract_9 : decode prog_3_method_9_code 9 = .ok (.getfield 11, 3) := by decide +kernel
theorem d_FO_subtract_12 : decode prog_3_method_9_code 12 = .ok (.iload_n 2, 1) := by decide +kernel
theorem d_FO_subtract_13 : decode prog_3_method_9_code 13 = .ok (.dup2, 1) := by decide +kernel
theorem d_FO_subtract_14 : decode prog_3_method_9_code 14 = .ok (.laload, 1) := by decide +kernel
theorem d_FO_subtract_15 : decode prog_3_method_9_code 15 = .ok (.aload_n 1, 1) := by decide +kernel
theorem d_FO_subtract_16 : decode prog_3_method_9_code 16 = .ok (.getfield 11, 3) := by decide +kernel
theorem d_FO_subtract_19 : decode prog_3_method_9_code 19 = .ok (.iload_n 2, 1) := by decide +kernel
theorem d_FO_subtract_20 : decode prog_3_method_9_code 20 = .ok (.laload, 1) := by decide +kernel
theorem d_FO_subtract_21 : decode prog_3_method_9_code 21 = .ok (.lsub, 1) := by decide +kernel
theorem d_FO_subtract_22 : decode prog_3_method_9_code 22 = .ok (.lastore, 1) := by decide +kernel
theorem d_FO_subtract_23 : decode prog_3_method_9_code 23 = .ok (.iinc 2 1, 3) := by decide +kernel
theorem d_FO_subtract_26 : decode prog_3_method_9_code 26 = .ok (.goto (-24), 3) := by decide +kernel
theorem d_FO_subtract_29 : decode prog_3_method_9_code 29 = .ok (.return_, 1) := by decide +kernel
theorem d_FO_add_0 : decode prog_3_method_8_code 0 = .ok (.iconst 0, 1) := by decide +kernel
theorem d_FO_add_1 : decode prog_3_method_8_code 1 = .ok (.istore_n 2, 1) := by decide +kernel
theorem d_FO_add_2 : decode prog_3_method_8_code 2 = .ok (.iload_n 2, 1) := by decide +kernel
theorem d_FO_add_3 : decode prog_3_method_8_code 3 = .ok (.bipush 13, 2) := by decide +kernel
theorem d_FO_add_5 : decode prog_3_method_8_code 5 = .ok (.if_icmp .ge 24, 3) := by decide +kernel
theorem d_FO_add_8 : decode prog_3_method_8_code 8 = .ok (.aload_n 0, 1) := by decide +kernel
theorem d_FO_add_9 : decode prog_3_method_8_code 9 = .ok (.getfield 11, 3) := by decide +kernel
theorem d_FO_add_12 : decode prog_3_method_8_code 12 = .ok (.iload_n 2, 1) := by decide +kernel
theorem d_FO_add_13 : decode prog_3_method_8_code 13 = .ok (.dup2, 1) := by decide +kernel
theorem d_FO_add_14 : decode prog_3_method_8_code 14 = .ok (.laload, 1) := by decide +kernel
theorem d_FO_add_15 : decode prog_3_method_8_code 15 = .ok (.aload_n 1, 1) := by decide +kernel
theorem d_FO_add_16 : decode prog_3_method_8_code 16 = .ok (.getfield 11, 3) := by decide +kernel
theorem d_FO_add_19 : decode prog_3_method_8_code 19 = .ok (.iload_n 2, 1) := by decide +kernel
theorem d_FO_add_20 : decode prog_3_method_8_code 20 = .ok (.laload, 1) := by decide +kernel
theorem d_FO_add_21 : decode prog_3_method_8_code 21 = .ok (.ladd, 1) := by decide +kernel
theorem d_FO_add_22 : decode prog_3_method_8_code 22 = .ok (.lastore, 1) := by decide +kernel
theorem d_FO_add_23 : decode prog_3_method_8_code 23 = .ok (.iinc 2 1, 3) := by decide +kernel
theorem d_FO_add_26 : decode prog_3_method_8_code 26 = .ok (.goto (-24), 3) := by decide +kernel
theorem d_FO_add_29 : decode prog_3_method_8_code 29 = .ok (.return_, 1) := by decide +kernel
theorem d_FO_hasNumbers_0 : decode prog_3_method_4_code 0 = .ok (.iconst 1, 1) := by decide +kernel
theorem d_FO_hasNumbers_1 : decode prog_3_method_4_code 1 = .ok (.istore_n 1, 1) := by decide +kernel
theorem d_FO_hasNumbers_2 : decode prog_3_method_4_code 2 = .ok (.iconst 0, 1) := by decide +kernel
theorem d_FO_hasNumbers_3 : decode prog_3_method_4_code 3 = .ok (.istore_n 2, 1) := by decide +kernel
theorem d_FO_hasNumbers_4 : decode prog_3_method_4_code 4 = .ok (.iload_n 2, 1) := by decide +kernel
theorem d_FO_hasNumbers_5 : decode prog_3_method_4_code 5 = .ok (.bipush 13, 2) := by decide +kernel
theorem d_FO_hasNumbers_7 : decode prog_3_method_4_code 7 = .ok (.if_icmp .ge 31, 3) := by decide +kernel
theorem d_FO_hasNumbers_10 : decode prog_3_method_4_code 10 = .ok (.iload_n 1, 1) := by decide +kernel
theorem d_FO_hasNumbers_11 : decode prog_3_method_4_code 11 = .ok (.ifCond .eq 19, 3) := by decide +kernel
theorem d_FO_hasNumbers_14 : decode prog_3_method_4_code 14 = .ok (.aload_n 0, 1) := by decide +kernel
theorem d_FO_hasNumbers_15 : decode prog_3_method_4_code 15 = .ok (.getfield 11, 3) := by decide +kernel
theorem d_FO_hasNumbers_18 : decode prog_3_method_4_code 18 = .ok (.iload_n 2, 1) := by decide +kernel
theorem d_FO_hasNumbers_19 : decode prog_3_method_4_code 19 = .ok (.laload, 1) := by decide +kernel
theorem d_FO_hasNumbers_20 : decode prog_3_method_4_code 20 = .ok (.invokestatic 20, 3) := by decide +kernel
theorem d_FO_hasNumbers_23 : decode prog_3_method_4_code 23 = .ok (.ifCond .eq 7, 3) := by decide +kernel
theorem d_FO_hasNumbers_26 : decode prog_3_method_4_code 26 = .ok (.iconst 1, 1) := by decide +kernel
theorem d_FO_hasNumbers_27 : decode prog_3_method_4_code 27 = .ok (.goto 4, 3) := by decide +kernel
theorem d_FO_hasNumbers_30 : decode prog_3_method_4_code 30 = .ok (.iconst 0, 1) := by decide +kernel
theorem d_FO_hasNumbers_31 : decode prog_3_method_4_code 31 = .ok (.istore_n 1, 1) := by decide +kernel
theorem d_FO_hasNumbers_32 : decode prog_3_method_4_code 32 = .ok (.iinc 2 1, 3) := by decide +kernel
theorem d_FO_hasNumbers_35 : decode prog_3_method_4_code 35 = .ok (.goto (-31), 3) := by decide +kernel
theorem d_FO_hasNumbers_38 : decode prog_3_method_4_code 38 = .ok (.iload_n 1, 1) := by decide +kernel
theorem d_FO_hasNumbers_39 : decode prog_3_method_4_code 39 = .ok (.ireturn, 1) := by decide +kernel
theorem d_FO_isPlain_0 : decode prog_3_method_5_code 0 = .ok (.iconst 1, 1) := by decide +kernel
theorem d_FO_isPlain_1 : decode prog_3_method_5_code 1 = .ok (.istore_n 1, 1) := by decide +kernel
theorem d_FO_isPlain_2 : decode prog_3_method_5_code 2 = .ok (.iconst 0, 1) := by decide +kernel
theorem d_FO_isPlain_3 : decode prog_3_method_5_code 3 = .ok (.istore_n 2, 1) := by decide +kernel
theorem d_FO_isPlain_4 : decode prog_3_method_5_code 4 = .ok (.iload_n 2, 1) := by decide +kernel
theorem d_FO_isPlain_5 : decode prog_3_method_5_code 5 = .ok (.bipush 12, 2) := by decide +kernel
theorem d_FO_isPlain_7 : decode prog_3_method_5_code 7 = .ok (.if_icmp .ge 30, 3) := by decide +kernel
theorem d_FO_isPlain_10 : decode prog_3_method_5_code 10 = .ok (.iload_n 1, 1) := by decide +kernel
theorem d_FO_isPlain_11 : decode prog_3_method_5_code 11 = .ok (.ifCond .eq 18, 3) := by decide +kernel
theorem d_FO_isPlain_14 : decode prog_3_method_5_code 14 = .ok (.aload_n 0, 1) := by decide +kernel
theorem d_FO_isPlain_15 : decode prog_3_method_5_code 15 = .ok (.getfield 11, 3) := by decide +kernel
theorem d_FO_isPlain_18 : decode prog_3_method_5_code 18 = .ok (.iload_n 2, 1) := by decide +kernel
theorem d_FO_isPlain_19 : decode prog_3_method_5_code 19 = .ok (.laload, 1) := by decide +kernel
theorem d_FO_isPlain_20 : decode prog_3_method_5_code 20 = .ok (.lconst 0, 1) := by decide +kernel
theorem d_FO_isPlain_21 : decode prog_3_method_5_code 21 = .ok (.lcmp, 1) := by decide +kernel
theorem d_FO_isPlain_22 : decode prog_3_method_5_code 22 = .ok (.ifCond .ne 7, 3) := by decide +kernel
theorem d_FO_isPlain_25 : decode prog_3_method_5_code 25 = .ok (.iconst 1, 1) := by decide +kernel
theorem d_FO_isPlain_26 : decode prog_3_method_5_code 26 = .ok (.goto 4, 3) := by decide +kernel
theorem d_FO_isPlain_29 : decode prog_3_method_5_code 29 = .ok (.iconst 0, 1) := by decide +kernel
theorem d_FO_isPlain_30 : decode prog_3_method_5_code 30 = .ok (.istore_n 1, 1) := by decide +kernel
theorem d_FO_isPlain_31 : decode prog_3_method_5_code 31 = .ok (.iinc 2 1, 3) := by decide +kernel
theorem d_FO_isPlain_34 : decode prog_3_method_5_code 34 = .ok (.goto (-30), 3) := by decide +kernel
theorem d_FO_isPlain_37 : decode prog_3_method_5_code 37 = .ok (.iload_n 1, 1) := by decide +kernel
theorem d_FO_isPlain_38 : decode prog_3_method_5_code 38 = .ok (.ireturn, 1) := by decide +kernel
theorem d_FO_setReplaced_0 : decode prog_3_method_12_code 0 = .ok (.iconst 1, 1) := by decide +kernel
theorem d_FO_setReplaced_1 : decode prog_3_method_12_code 1 = .ok (.istore_n 3, 1) := by decide +kernel
theorem d_FO_setReplaced_2 : decode prog_3_method_12_code 2 = .ok (.iconst 0, 1) := by decide +kernel
theorem d_FO_setReplaced_3 : decode prog_3_method_12_code 3 = .ok (.istore 4, 2) := by decide +kernel
theorem d_FO_setReplaced_5 : decode prog_3_method_12_code 5 = .ok (.iload 4, 2) := by decide +kernel
theorem d_FO_setReplaced_7 : decode prog_3_method_12_code 7 = .ok (.bipush 13, 2) := by decide +kernel
theorem d_FO_setReplaced_9 : decode prog_3_method_12_code 9 = .ok (.if_icmp .ge 180, 3) := by decide +kernel
theorem d_FO_setReplaced_12 : decode prog_3_method_12_code 12 = .ok (.lconst 0, 1) := by decide +kernel
theorem d_FO_setReplaced_13 : decode prog_3_method_12_code 13 = .ok (.lstore 5, 2) := by decide +kernel
theorem d_FO_setReplaced_15 : decode prog_3_method_12_code 15 = .ok (.iload 4, 2) := by decide +kernel
theorem d_FO_setReplaced_17 : decode prog_3_method_12_code 17 = .ok (.bipush 12, 2) := by decide +kernel
theorem d_FO_setReplaced_19 : decode prog_3_method_12_code 19 = .ok (.if_icmp .ne 17, 3) := by decide +kernel
theorem d_FO_setReplaced_22 : decode prog_3_method_12_code 22 = .ok (.aload_n 1, 1) := by decide +kernel
theorem d_FO_setReplaced_23 : decode prog_3_method_12_code 23 = .ok (.getfield 11, 3) := by decide +kernel
theorem d_FO_setReplaced_26 : decode prog_3_method_12_code 26 = .ok (.bipush 12, 2) := by decide +kernel
theorem d_FO_setReplaced_28 : decode prog_3_method_12_code 28 = .ok (.laload, 1) := by decide +kernel
theorem d_FO_setReplaced_29 : decode prog_3_method_12_code 29 = .ok (.ldc2_w 28, 3) := by decide +kernel
theorem d_FO_setReplaced_32 : decode prog_3_method_12_code 32 = .ok (.lmul, 1) := by decide +kernel
theorem d_FO_setReplaced_33 : decode prog_3_method_12_code 33 = .ok (.goto 4, 3) := by decide +kernel
theorem d_FO_setReplaced_36 : decode prog_3_method_12_code 36 = .ok (.lconst 0, 1) := by decide +kernel
theorem d_FO_setReplaced_37 : decode prog_3_method_12_code 37 = .ok (.lstore 7, 2) := by decide +kernel
theorem d_FO_setReplaced_39 : decode prog_3_method_12_code 39 = .ok (.iconst 0, 1) := by decide +kernel
theorem d_FO_setReplaced_40 : decode prog_3_method_12_code 40 = .ok (.istore 9, 2) := by decide +kernel
theorem d_FO_setReplaced_42 : decode prog_3_method_12_code 42 = .ok (.iload 9, 2) := by decide +kernel
theorem d_FO_setReplaced_44 : decode prog_3_method_12_code 44 = .ok (.bipush 12, 2) := by decide +kernel
theorem d_FO_setReplaced_46 : decode prog_3_method_12_code 46 = .ok (.if_icmp .ge 68, 3) := by decide +kernel
theorem d_FO_setReplaced_49 : decode prog_3_method_12_code 49 = .ok (.aload_n 1, 1) := by decide +kernel
theorem d_FO_setReplaced_50 : decode prog_3_method_12_code 50 = .ok (.getfield 11, 3) := by decide +kernel
theorem d_FO_setReplaced_53 : decode prog_3_method_12_code 53 = .ok (.iload 9, 2) := by decide +kernel
theorem d_FO_setReplaced_55 : decode prog_3_method_12_code 55 = .ok (.laload, 1) := by decide +kernel
theorem d_FO_setReplaced_56 : decode prog_3_method_12_code 56 = .ok (.lstore 10, 2) := by decide +kernel
theorem d_FO_setReplaced_58 : decode prog_3_method_12_code 58 = .ok (.lload 10, 2) := by decide +kernel
theorem d_FO_setReplaced_60 : decode prog_3_method_12_code 60 = .ok (.lconst 0, 1) := by decide +kernel
theorem d_FO_setReplaced_61 : decode prog_3_method_12_code 61 = .ok (.lcmp, 1) := by decide +kernel
theorem d_FO_setReplaced_62 : decode prog_3_method_12_code 62 = .ok (.ifCond .eq 46, 3) := by decide +kernel
theorem d_FO_setReplaced_65 : decode prog_3_method_12_code 65 = .ok (.lload 5, 2) := by decide +kernel
theorem d_FO_setReplaced_67 : decode prog_3_method_12_code 67 = .ok (.lload 10, 2) := by decide +kernel
theorem d_FO_setReplaced_69 : decode prog_3_method_12_code 69 = .ok (.bipush 20, 2) := by decide +kernel
theorem d_FO_setReplaced_71 : decode prog_3_method_12_code 71 = .ok (.lshr, 1) := by decide +kernel
theorem d_FO_setReplaced_72 : decode prog_3_method_12_code 72 = .ok (.aload_n 2, 1) := by decide +kernel
theorem d_FO_setReplaced_73 : decode prog_3_method_12_code 73 = .ok (.iload 9, 2) := by decide +kernel
theorem d_FO_setReplaced_75 : decode prog_3_method_12_code 75 = .ok (.aaload, 1) := by decide +kernel
theorem d_FO_setReplaced_76 : decode prog_3_method_12_code 76 = .ok (.getfield 11, 3) := by decide +kernel
theorem d_FO_setReplaced_79 : decode prog_3_method_12_code 79 = .ok (.iload 4, 2) := by decide +kernel
theorem d_FO_setReplaced_81 : decode prog_3_method_12_code 81 = .ok (.laload, 1) := by decide +kernel
theorem d_FO_setReplaced_82 : decode prog_3_method_12_code 82 = .ok (.lmul, 1) := by decide +kernel
theorem d_FO_setReplaced_83 : decode prog_3_method_12_code 83 = .ok (.ladd, 1) := by decide +kernel
theorem d_FO_setReplaced_84 : decode prog_3_method_12_code 84 = .ok (.lstore 5, 2) := by decide +kernel
theorem d_FO_setReplaced_86 : decode prog_3_method_12_code 86 = .ok (.lload 7, 2) := by decide +kernel
theorem d_FO_setReplaced_88 : decode prog_3_method_12_code 88 = .ok (.lload 10, 2) := by decide +kernel
theorem d_FO_setReplaced_90 : decode prog_3_method_12_code 90 = .ok (.ldc2_w 30, 3) := by decide +kernel
theorem d_FO_setReplaced_93 : decode prog_3_method_12_code 93 = .ok (.land, 1) := by decide +kernel
theorem d_FO_setReplaced_94 : decode prog_3_method_12_code 94 = .ok (.aload_n 2, 1) := by decide +kernel
theorem d_FO_setReplaced_95 : decode prog_3_method_12_code 95 = .ok (.iload 9, 2) := by decide +kernel
theorem d_FO_setReplaced_97 : decode prog_3_method_12_code 97 = .ok (.aaload, 1) := by decide +kernel
theorem d_FO_setReplaced_98 : decode prog_3_method_12_code 98 = .ok (.getfield 11, 3) := by decide +kernel
theorem d_FO_setReplaced_101 : decode prog_3_method_12_code 101 = .ok (.iload 4, 2) := by decide +kernel
theorem d_FO_setReplaced_103 : decode prog_3_method_12_code 103 = .ok (.laload, 1) := by decide +kernel
theorem d_FO_setReplaced_104 : decode prog_3_method_12_code 104 = .ok (.lmul, 1) := by decide +kernel
theorem d_FO_setReplaced_105 : decode prog_3_method_12_code 105 = .ok (.ladd, 1) := by decide +kernel
theorem d_FO_setReplaced_106 : decode prog_3_method_12_code 106 = .ok (.lstore 7, 2) := by decide +kernel
theorem d_FO_setReplaced_108 : decode prog_3_method_12_code 108 = .ok (.iinc 9 1, 3) := by decide +kernel
theorem d_FO_setReplaced_111 : decode prog_3_method_12_code 111 = .ok (.goto (-69), 3) := by decide +kernel
theorem d_FO_setReplaced_114 : decode prog_3_method_12_code 114 = .ok (.lload 5, 2) := by decide +kernel
theorem d_FO_setReplaced_116 : decode prog_3_method_12_code 116 = .ok (.lload 7, 2) := by decide +kernel
theorem d_FO_setReplaced_118 : decode prog_3_method_12_code 118 = .ok (.bipush 20, 2) := by decide +kernel
theorem d_FO_setReplaced_120 : decode prog_3_method_12_code 120 = .ok (.lshr, 1) := by decide +kernel
theorem d_FO_setReplaced_121 : decode prog_3_method_12_code 121 = .ok (.ladd, 1) := by decide +kernel
theorem d_FO_setReplaced_122 : decode prog_3_method_12_code 122 = .ok (.lstore 5, 2) := by decide +kernel
theorem d_FO_setReplaced_124 : decode prog_3_method_12_code 124 = .ok (.lload 7, 2) := by decide +kernel
theorem d_FO_setReplaced_126 : decode prog_3_method_12_code 126 = .ok (.ldc2_w 30, 3) := by decide +kernel
theorem d_FO_setReplaced_129 : decode prog_3_method_12_code 129 = .ok (.land, 1) := by decide +kernel
theorem d_FO_setReplaced_130 : decode prog_3_method_12_code 130 = .ok (.lstore 7, 2) := by decide +kernel
theorem d_FO_setReplaced_132 : decode prog_3_method_12_code 132 = .ok (.aload_n 0, 1) := by decide +kernel
theorem d_FO_setReplaced_133 : decode prog_3_method_12_code 133 = .ok (.getfield 11, 3) := by decide +kernel
theorem d_FO_setReplaced_136 : decode prog_3_method_12_code 136 = .ok (.iload 4, 2) := by decide +kernel
theorem d_FO_setReplaced_138 : decode prog_3_method_12_code 138 = .ok (.lload 5, 2) := by decide +kernel
theorem d_FO_setReplaced_140 : decode prog_3_method_12_code 140 = .ok (.iconst 4, 1) := by decide +kernel
theorem d_FO_setReplaced_141 : decode prog_3_method_12_code 141 = .ok (.lshl, 1) := by decide +kernel
theorem d_FO_setReplaced_142 : decode prog_3_method_12_code 142 = .ok (.lload 7, 2) := by decide +kernel
theorem d_FO_setReplaced_144 : decode prog_3_method_12_code 144 = .ok (.bipush 16, 2) := by decide +kernel
theorem d_FO_setReplaced_146 : decode prog_3_method_12_code 146 = .ok (.lshr, 1) := by decide +kernel
theorem d_FO_setReplaced_147 : decode prog_3_method_12_code 147 = .ok (.ladd, 1) := by decide +kernel
theorem d_FO_setReplaced_148 : decode prog_3_method_12_code 148 = .ok (.lastore, 1) := by decide +kernel
theorem d_FO_setReplaced_149 : decode prog_3_method_12_code 149 = .ok (.iload_n 3, 1) := by decide +kernel
theorem d_FO_setReplaced_150 : decode prog_3_method_12_code 150 = .ok (.ifCond .eq 31, 3) := by decide +kernel
theorem d_FO_setReplaced_153 : decode prog_3_method_12_code 153 = .ok (.lload 7, 2) := by decide +kernel
theorem d_FO_setReplaced_155 : decode prog_3_method_12_code 155 = .ok (.ldc2_w 32, 3) := by decide +kernel
theorem d_FO_setReplaced_158 : decode prog_3_method_12_code 158 = .ok (.land, 1) := by decide +kernel
theorem d_FO_setReplaced_159 : decode prog_3_method_12_code 159 = .ok (.lconst 0, 1) := by decide +kernel
theorem d_FO_setReplaced_160 : decode prog_3_method_12_code 160 = .ok (.lcmp, 1) := by decide +kernel
theorem d_FO_setReplaced_161 : decode prog_3_method_12_code 161 = .ok (.ifCond .ne 20, 3) := by decide +kernel
theorem d_FO_setReplaced_164 : decode prog_3_method_12_code 164 = .ok (.aload_n 0, 1) := by decide +kernel
theorem d_FO_setReplaced_165 : decode prog_3_method_12_code 165 = .ok (.getfield 11, 3) := by decide +kernel
theorem d_FO_setReplaced_168 : decode prog_3_method_12_code 168 = .ok (.iload 4, 2) := by decide +kernel
theorem d_FO_setReplaced_170 : decode prog_3_method_12_code 170 = .ok (.laload, 1) := by decide +kernel
theorem d_FO_setReplaced_171 : decode prog_3_method_12_code 171 = .ok (.invokestatic 20, 3) := by decide +kernel
theorem d_FO_setReplaced_174 : decode prog_3_method_12_code 174 = .ok (.ifCond .eq 7, 3) := by decide +kernel
theorem d_FO_setReplaced_177 : decode prog_3_method_12_code 177 = .ok (.iconst 1, 1) := by decide +kernel
theorem d_FO_setReplaced_178 : decode prog_3_method_12_code 178 = .ok (.goto 4, 3) := by decide +kernel
theorem d_FO_setReplaced_181 : decode prog_3_method_12_code 181 = .ok (.iconst 0, 1) := by decide +kernel
theorem d_FO_setReplaced_182 : decode prog_3_method_12_code 182 = .ok (.istore_n 3, 1) := by decide +kernel
theorem d_FO_setReplaced_183 : decode prog_3_method_12_code 183 = .ok (.iinc 4 1, 3) := by decide +kernel
theorem d_FO_setReplaced_186 : decode prog_3_method_12_code 186 = .ok (.goto (-181), 3) := by decide +kernel
theorem d_FO_setReplaced_189 : decode prog_3_method_12_code 189 = .ok (.iload_n 3, 1) := by decide +kernel
theorem d_FO_setReplaced_190 : decode prog_3_method_12_code 190 = .ok (.ireturn, 1) := by decide +kernel
theorem d_FO_setSolved_0 : decode prog_3_method_13_code 0 = .ok (.aload_n 1, 1) := by decide +kernel
theorem d_FO_setSolved_1 : decode prog_3_method_13_code 1 = .ok (.getfield 11, 3) := by decide +kernel
theorem d_FO_setSolved_4 : decode prog_3_method_13_code 4 = .ok (.iload_n 2, 1) := by decide +kernel
theorem d_FO_setSolved_5 : decode prog_3_method_13_code 5 = .ok (.laload, 1) := by decide +kernel
theorem d_FO_setSolved_6 : decode prog_3_method_13_code 6 = .ok (.lneg, 1) := by decide +kernel
theorem d_FO_setSolved_7 : decode prog_3_method_13_code 7 = .ok (.lstore_n 3, 1) := by decide +kernel
theorem d_FO_setSolved_8 : decode prog_3_method_13_code 8 = .ok (.lload_n 3, 1) := by decide +kernel
theorem d_FO_setSolved_9 : decode prog_3_method_13_code 9 = .ok (.lconst 0, 1) := by decide +kernel
theorem d_FO_setSolved_10 : decode prog_3_method_13_code 10 = .ok (.lcmp, 1) := by decide +kernel
theorem d_FO_setSolved_11 : decode prog_3_method_13_code 11 = .ok (.ifCond .ne 5, 3) := by decide +kernel
theorem d_FO_setSolved_14 : decode prog_3_method_13_code 14 = .ok (.iconst 0, 1) := by decide +kernel
theorem d_FO_setSolved_15 : decode prog_3_method_13_code 15 = .ok (.ireturn, 1) := by decide +kernel
theorem d_FO_setSolved_16 : decode prog_3_method_13_code 16 = .ok (.iconst 1, 1) := by decide +kernel
theorem d_FO_setSolved_17 : decode prog_3_method_13_code 17 = .ok (.istore 5, 2) := by decide +kernel
theorem d_FO_setSolved_19 : decode prog_3_method_13_code 19 = .ok (.iconst 0, 1) := by decide +kernel
theorem d_FO_setSolved_20 : decode prog_3_method_13_code 20 = .ok (.istore 6, 2) := by decide +kernel
theorem d_FO_setSolved_22 : decode prog_3_method_13_code 22 = .ok (.iload 6, 2) := by decide +kernel
theorem d_FO_setSolved_24 : decode prog_3_method_13_code 24 = .ok (.bipush 13, 2) := by decide +kernel
theorem d_FO_setSolved_26 : decode prog_3_method_13_code 26 = .ok (.if_icmp .ge 77, 3) := by decide +kernel
theorem d_FO_setSolved_29 : decode prog_3_method_13_code 29 = .ok (.iload 6, 2) := by decide +kernel
theorem d_FO_setSolved_31 : decode prog_3_method_13_code 31 = .ok (.iload_n 2, 1) := by decide +kernel
theorem d_FO_setSolved_32 : decode prog_3_method_13_code 32 = .ok (.if_icmp .ne 7, 3) := by decide +kernel
theorem d_FO_setSolved_35 : decode prog_3_method_13_code 35 = .ok (.lconst 0, 1) := by decide +kernel
theorem d_FO_setSolved_36 : decode prog_3_method_13_code 36 = .ok (.goto 14, 3) := by decide +kernel
theorem d_FO_setSolved_39 : decode prog_3_method_13_code 39 = .ok (.aload_n 1, 1) := by decide +kernel
theorem d_FO_setSolved_40 : decode prog_3_method_13_code 40 = .ok (.getfield 11, 3) := by decide +kernel
theorem d_FO_setSolved_43 : decode prog_3_method_13_code 43 = .ok (.iload 6, 2) := by decide +kernel
theorem d_FO_setSolved_45 : decode prog_3_method_13_code 45 = .ok (.laload, 1) := by decide +kernel
theorem d_FO_setSolved_46 : decode prog_3_method_13_code 46 = .ok (.ldc2_w 28, 3) := by decide +kernel
theorem d_FO_setSolved_49 : decode prog_3_method_13_code 49 = .ok (.lmul, 1) := by decide +kernel
theorem d_FO_setSolved_50 : decode prog_3_method_13_code 50 = .ok (.lstore 7, 2) := by decide +kernel
theorem d_FO_setSolved_52 : decode prog_3_method_13_code 52 = .ok (.aload_n 0, 1) := by decide +kernel
theorem d_FO_setSolved_53 : decode prog_3_method_13_code 53 = .ok (.getfield 11, 3) := by decide +kernel
theorem d_FO_setSolved_56 : decode prog_3_method_13_code 56 = .ok (.iload 6, 2) := by decide +kernel
theorem d_FO_setSolved_58 : decode prog_3_method_13_code 58 = .ok (.lload 7, 2) := by decide +kernel
theorem d_FO_setSolved_60 : decode prog_3_method_13_code 60 = .ok (.lload_n 3, 1) := by decide +kernel
theorem d_FO_setSolved_61 : decode prog_3_method_13_code 61 = .ok (.ldiv, 1) := by decide +kernel
theorem d_FO_setSolved_62 : decode prog_3_method_13_code 62 = .ok (.lastore, 1) := by decide +kernel
theorem d_FO_setSolved_63 : decode prog_3_method_13_code 63 = .ok (.iload 5, 2) := by decide +kernel
theorem d_FO_setSolved_65 : decode prog_3_method_13_code 65 = .ok (.ifCond .eq 29, 3) := by decide +kernel
theorem d_FO_setSolved_68 : decode prog_3_method_13_code 68 = .ok (.lload 7, 2) := by decide +kernel
theorem d_FO_setSolved_70 : decode prog_3_method_13_code 70 = .ok (.lload_n 3, 1) := by decide +kernel
theorem d_FO_setSolved_71 : decode prog_3_method_13_code 71 = .ok (.lrem, 1) := by decide +kernel
theorem d_FO_setSolved_72 : decode prog_3_method_13_code 72 = .ok (.lconst 0, 1) := by decide +kernel
theorem d_FO_setSolved_73 : decode prog_3_method_13_code 73 = .ok (.lcmp, 1) := by decide +kernel
theorem d_FO_setSolved_74 : decode prog_3_method_13_code 74 = .ok (.ifCond .ne 20, 3) := by decide +kernel
theorem d_FO_setSolved_77 : decode prog_3_method_13_code 77 = .ok (.aload_n 0, 1) := by decide +kernel
theorem d_FO_setSolved_78 : decode prog_3_method_13_code 78 = .ok (.getfield 11, 3) := by decide +kernel
theorem d_FO_setSolved_81 : decode prog_3_method_13_code 81 = .ok (.iload 6, 2) := by decide +kernel
theorem d_FO_setSolved_83 : decode prog_3_method_13_code 83 = .ok (.laload, 1) := by decide +kernel
theorem d_FO_setSolved_84 : decode prog_3_method_13_code 84 = .ok (.invokestatic 20, 3) := by decide +kernel
theorem d_FO_setSolved_87 : decode prog_3_method_13_code 87 = .ok (.ifCond .eq 7, 3) := by decide +kernel
theorem d_FO_setSolved_90 : decode prog_3_method_13_code 90 = .ok (.iconst 1, 1) := by decide +kernel
theorem d_FO_setSolved_91 : decode prog_3_method_13_code 91 = .ok (.goto 4, 3) := by decide +kernel
theorem d_FO_setSolved_94 : decode prog_3_method_13_code 94 = .ok (.iconst 0, 1) := by decide +kernel
theorem d_FO_setSolved_95 : decode prog_3_method_13_code 95 = .ok (.istore 5, 2) := by decide +kernel
theorem d_FO_setSolved_97 : decode prog_3_method_13_code 97 = .ok (.iinc 6 1, 3) := by decide +kernel
theorem d_FO_setSolved_100 : decode prog_3_method_13_code 100 = .ok (.goto (-78), 3) := by decide +kernel
theorem d_FO_setSolved_103 : decode prog_3_method_13_code 103 = .ok (.iload 5, 2) := by decide +kernel
theorem d_FO_setSolved_105 : decode prog_3_method_13_code 105 = .ok (.ireturn, 1) := by decide +kernel
theorem FO_c15 : jLk "GlyphCompiler$Form" 15 Y_FO_init := Or.inl (jin_t (jin_1 103 rfl) rfl)
theorem FO_o5 : Cond.methodLink "GlyphCompiler$Form" 5 objectInit ∈ jTs ∧ Cond.instanceMethod objectInit ∈ jTs ∧ Cond.code objectInit ⟨#[0xb1]⟩ 1 none ∈ jTs := ⟨(jin_t (jin_1 106 rfl) rfl), (jin_t (jin_1 20 rfl) rfl), (jin_t (jin_1 21 rfl) rfl)⟩
theorem FO_w11 (y : MethodName) (h : y.cls = "GlyphCompiler$Form") (h2 : y.name = "<init>") : jFw y 11 4 0 (.array .long) := ⟨R_FO, T_FO, 1, rfl, Nat.le_of_ble_eq_true rfl, by decide +kernel, Or.inr ⟨rfl, h2, h.symm, by rw [h]; exact (jin_t (jin_1 107 rfl) rfl)⟩⟩
theorem FO_f11 : jFl "GlyphCompiler$Form" 11 4 0 := ⟨R_FO, T_FO, 1, rfl, Nat.le_of_ble_eq_true rfl, Or.inl (jin_t (jin_1 107 rfl) rfl)⟩
theorem FO_k24 : Jvm.Cond.constantLong "GlyphCompiler$Form" 24 (jL 15) ∈ jTs := by rw [show jL 15 = 15 by decide]; exact (jin_t (jin_2 132 rfl) rfl)
theorem FO_c20 : jLk "GlyphCompiler$Form" 20 Y_FO_isNumber := Or.inl (jin_t (jin_2 133 rfl) rfl)
theorem FO_k16 : Jvm.Cond.constantLong "GlyphCompiler$Form" 16 (jL (-68719476736)) ∈ jTs := by rw [show jL (-68719476736) = (-68719476736) by decide]; exact (jin_t (jin_2 136 rfl) rfl)
theorem FO_k18 : Jvm.Cond.constantLong "GlyphCompiler$Form" 18 (jL 68719476736) ∈ jTs := by rw [show jL 68719476736 = 68719476736 by decide]; exact (jin_t (jin_2 137 rfl) rfl)
theorem FO_k26 : Jvm.Cond.constantLong "GlyphCompiler$Form" 26 (jL 16) ∈ jTs := by rw [show jL 16 = 16 by decide]; exact (jin_t (jin_2 150 rfl) rfl)
theorem FO_k28 : Jvm.Cond.constantLong "GlyphCompiler$Form" 28 (jL 65536) ∈ jTs := by rw [show jL 65536 = 65536 by decide]; exact (jin_t (jin_3 15 rfl) rfl)
theorem FO_k30 : Jvm.Cond.constantLong "GlyphCompiler$Form" 30 (jL 1048575) ∈ jTs := by rw [show jL 1048575 = 1048575 by decide]; exact (jin_t (jin_3 16 rfl) rfl)
theorem FO_k32 : Jvm.Cond.constantLong "GlyphCompiler$Form" 32 (jL 65535) ∈ jTs := by rw [show jL 65535 = 65535 by decide]; exact (jin_t (jin_3 17 rfl) rfl)
theorem yk_FO_row : jYok Y_FO_row 1 := ⟨(jin_t (jin_1 99 rfl) rfl), (jin_t (jin_1 6 rfl) rfl), ⟨by decide +kernel, by decide +kernel⟩, by decide +kernel⟩
theorem ys_FO_row : Cond.static (yN Y_FO_row) ∈ jTs := (jin_t (jin_1 98 rfl) rfl)
theorem yk_FO_init : jYok Y_FO_init 0 := ⟨(jin_t (jin_1 105 rfl) rfl), (jin_t (jin_1 6 rfl) rfl), ⟨by decide +kernel, by decide +kernel⟩, by decide +kernel⟩
theorem yv_FO_init : Cond.instanceMethod (yN Y_FO_init) ∈ jTs := (jin_t (jin_1 104 rfl) rfl)
theorem yk_FO_set : jYok Y_FO_set 2 := ⟨(jin_t (jin_1 121 rfl) rfl), (jin_t (jin_1 6 rfl) rfl), ⟨by decide +kernel, by decide +kernel⟩, by decide +kernel⟩
theorem yv_FO_set : Cond.instanceMethod (yN Y_FO_set) ∈ jTs ∧ Cond.selects (yN Y_FO_set).cls (yN Y_FO_set) (yN Y_FO_set) ∈ jTs := ⟨(jin_t (jin_1 119 rfl) rfl), (jin_t (jin_1 120 rfl) rfl)⟩
theorem yk_FO_copy : jYok Y_FO_copy 1 := ⟨(jin_t (jin_2 123 rfl) rfl), (jin_t (jin_1 6 rfl) rfl), ⟨by decide +kernel, by decide +kernel⟩, by decide +kernel⟩
theorem yv_FO_copy : Cond.instanceMethod (yN Y_FO_copy) ∈ jTs ∧ Cond.selects (yN Y_FO_copy).cls (yN Y_FO_copy) (yN Y_FO_copy) ∈ jTs := ⟨(jin_t (jin_2 121 rfl) rfl), (jin_t (jin_2 122 rfl) rfl)⟩
theorem yk_FO_multiply : jYok Y_FO_multiply 1 := ⟨(jin_t (jin_2 131 rfl) rfl), (jin_t (jin_1 6 rfl) rfl), ⟨by decide +kernel, by decide +kernel⟩, by decide +kernel⟩
theorem yv_FO_multiply : Cond.instanceMethod (yN Y_FO_multiply) ∈ jTs ∧ Cond.selects (yN Y_FO_multiply).cls (yN Y_FO_multiply) (yN Y_FO_multiply) ∈ jTs := ⟨(jin_t (jin_2 129 rfl) rfl), (jin_t (jin_2 130 rfl) rfl)⟩
theorem yk_FO_isNumber : jYok Y_FO_isNumber 1 := ⟨(jin_t (jin_2 135 rfl) rfl), (jin_t (jin_1 6 rfl) rfl), ⟨by decide +kernel, by decide +kernel⟩, by decide +kernel⟩
theorem ys_FO_isNumber : Cond.static (yN Y_FO_isNumber) ∈ jTs := (jin_t (jin_2 134 rfl) rfl)
theorem yk_FO_setBetween : jYok Y_FO_setBetween 3 := ⟨(jin_t (jin_2 149 rfl) rfl), (jin_t (jin_1 6 rfl) rfl), ⟨by decide +kernel, by decide +kernel⟩, by decide +kernel⟩
theorem yv_FO_setBetween : Cond.instanceMethod (yN Y_FO_setBetween) ∈ jTs ∧ Cond.selects (yN Y_FO_setBetween).cls (yN Y_FO_setBetween) (yN Y_FO_setBetween) ∈ jTs := ⟨(jin_t (jin_2 147 rfl) rfl), (jin_t (jin_2 148 rfl) rfl)⟩
theorem yk_FO_subtract : jYok Y_FO_subtract 1 := ⟨(jin_t (jin_2 155 rfl) rfl), (jin_t (jin_1 6 rfl) rfl), ⟨by decide +kernel, by decide +kernel⟩, by decide +kernel⟩
theorem yv_FO_subtract : Cond.instanceMethod (yN Y_FO_subtract) ∈ jTs ∧ Cond.selects (yN Y_FO_subtract).cls (yN Y_FO_subtract) (yN Y_FO_subtract) ∈ jTs := ⟨(jin_t (jin_2 153 rfl) rfl), (jin_t (jin_2 154 rfl) rfl)⟩
theorem yk_FO_add : jYok Y_FO_add 1 := ⟨(jin_t (jin_2 159 rfl) rfl), (jin_t (jin_1 6 rfl) rfl), ⟨by decide +kernel, by decide +kernel⟩, by decide +kernel⟩
theorem yv_FO_add : Cond.instanceMethod (yN Y_FO_add) ∈ jTs ∧ Cond.selects (yN Y_FO_add).cls (yN Y_FO_add) (yN Y_FO_add) ∈ jTs := ⟨(jin_t (jin_2 157 rfl) rfl), (jin_t (jin_2 158 rfl) rfl)⟩
theorem yk_FO_hasNumbers : jYok Y_FO_hasNumbers 0 := ⟨(jin_t (jin_2 163 rfl) rfl), (jin_t (jin_1 6 rfl) rfl), ⟨by decide +kernel, by decide +kernel⟩, by decide +kernel⟩
theorem yv_FO_hasNumbers : Cond.instanceMethod (yN Y_FO_hasNumbers) ∈ jTs ∧ Cond.selects (yN Y_FO_hasNumbers).cls (yN Y_FO_hasNumbers) (yN Y_FO_hasNumbers) ∈ jTs := ⟨(jin_t (jin_2 161 rfl) rfl), (jin_t (jin_2 162 rfl) rfl)⟩
theorem yk_FO_isPlain : jYok Y_FO_isPlain 0 := ⟨(jin_t (jin_2 195 rfl) rfl), (jin_t (jin_1 6 rfl) rfl), ⟨by decide +kernel, by decide +kernel⟩, by decide +kernel⟩
theorem yv_FO_isPlain : Cond.instanceMethod (yN Y_FO_isPlain) ∈ jTs ∧ Cond.selects (yN Y_FO_isPlain).cls (yN Y_FO_isPlain) (yN Y_FO_isPlain) ∈ jTs := ⟨(jin_t (jin_2 193 rfl) rfl), (jin_t (jin_2 194 rfl) rfl)⟩
theorem yk_FO_setReplaced : jYok Y_FO_setReplaced 2 := ⟨(jin_t (jin_3 14 rfl) rfl), (jin_t (jin_1 6 rfl) rfl), ⟨by decide +kernel, by decide +kernel⟩, by decide +kernel⟩
theorem yv_FO_setReplaced : Cond.instanceMethod (yN Y_FO_setReplaced) ∈ jTs ∧ Cond.selects (yN Y_FO_setReplaced).cls (yN Y_FO_setReplaced) (yN Y_FO_setReplaced) ∈ jTs := ⟨(jin_t (jin_3 12 rfl) rfl), (jin_t (jin_3 13 rfl) rfl)⟩
theorem yk_FO_setSolved : jYok Y_FO_setSolved 2 := ⟨(jin_t (jin_3 37 rfl) rfl), (jin_t (jin_1 6 rfl) rfl), ⟨by decide +kernel, by decide +kernel⟩, by decide +kernel⟩
theorem yv_FO_setSolved : Cond.instanceMethod (yN Y_FO_setSolved) ∈ jTs ∧ Cond.selects (yN Y_FO_setSolved).cls (yN Y_FO_setSolved) (yN Y_FO_setSolved) ∈ jTs := ⟨(jin_t (jin_3 35 rfl) rfl), (jin_t (jin_3 36 rfl) rfl)⟩

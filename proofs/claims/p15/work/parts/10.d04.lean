theorem d_RD_init_0 : decode prog_6_method_1_code 0 = .ok (.aload_n 0, 1) := by decide +kernel
theorem d_RD_init_1 : decode prog_6_method_1_code 1 = .ok (.invokespecial 3, 3) := by decide +kernel
theorem d_RD_init_4 : decode prog_6_method_1_code 4 = .ok (.aload_n 0, 1) := by decide +kernel
theorem d_RD_init_5 : decode prog_6_method_1_code 5 = .ok (.new 9, 3) := by decide +kernel
theorem d_RD_init_8 : decode prog_6_method_1_code 8 = .ok (.dup, 1) := by decide +kernel
theorem d_RD_init_9 : decode prog_6_method_1_code 9 = .ok (.sipush 300, 3) := by decide +kernel
theorem d_RD_init_12 : decode prog_6_method_1_code 12 = .ok (.invokespecial 11, 3) := by decide +kernel
theorem d_RD_init_15 : decode prog_6_method_1_code 15 = .ok (.putfield 14, 3) := by decide +kernel
theorem d_RD_init_18 : decode prog_6_method_1_code 18 = .ok (.aload_n 0, 1) := by decide +kernel
theorem d_RD_init_19 : decode prog_6_method_1_code 19 = .ok (.new 20, 3) := by decide +kernel
theorem d_RD_init_22 : decode prog_6_method_1_code 22 = .ok (.dup, 1) := by decide +kernel
theorem d_RD_init_23 : decode prog_6_method_1_code 23 = .ok (.invokespecial 22, 3) := by decide +kernel
theorem d_RD_init_26 : decode prog_6_method_1_code 26 = .ok (.putfield 23, 3) := by decide +kernel
theorem d_RD_init_29 : decode prog_6_method_1_code 29 = .ok (.aload_n 0, 1) := by decide +kernel
theorem d_RD_init_30 : decode prog_6_method_1_code 30 = .ok (.sipush 150, 3) := by decide +kernel
theorem d_RD_init_33 : decode prog_6_method_1_code 33 = .ok (.invokestatic 27, 3) := by decide +kernel
theorem d_RD_init_36 : decode prog_6_method_1_code 36 = .ok (.putfield 32, 3) := by decide +kernel
theorem d_RD_init_39 : decode prog_6_method_1_code 39 = .ok (.aload_n 0, 1) := by decide +kernel
theorem d_RD_init_40 : decode prog_6_method_1_code 40 = .ok (.bipush 12, 2) := by decide +kernel
theorem d_RD_init_42 : decode prog_6_method_1_code 42 = .ok (.newarray .boolean, 2) := by decide +kernel
theorem d_RD_init_44 : decode prog_6_method_1_code 44 = .ok (.putfield 36, 3) := by decide +kernel
theorem d_RD_init_47 : decode prog_6_method_1_code 47 = .ok (.aload_n 0, 1) := by decide +kernel
theorem d_RD_init_48 : decode prog_6_method_1_code 48 = .ok (.bipush 9, 2) := by decide +kernel
theorem d_RD_init_50 : decode prog_6_method_1_code 50 = .ok (.invokestatic 27, 3) := by decide +kernel
theorem d_RD_init_53 : decode prog_6_method_1_code 53 = .ok (.putfield 40, 3) := by decide +kernel
theorem d_RD_init_56 : decode prog_6_method_1_code 56 = .ok (.aload_n 0, 1) := by decide +kernel
theorem d_RD_init_57 : decode prog_6_method_1_code 57 = .ok (.bipush 9, 2) := by decide +kernel
theorem d_RD_init_59 : decode prog_6_method_1_code 59 = .ok (.invokestatic 27, 3) := by decide +kernel
theorem d_RD_init_62 : decode prog_6_method_1_code 62 = .ok (.putfield 43, 3) := by decide +kernel
theorem d_RD_init_65 : decode prog_6_method_1_code 65 = .ok (.aload_n 0, 1) := by decide +kernel
theorem d_RD_init_66 : decode prog_6_method_1_code 66 = .ok (.bipush 9, 2) := by decide +kernel
theorem d_RD_init_68 : decode prog_6_method_1_code 68 = .ok (.invokestatic 27, 3) := by decide +kernel
theorem d_RD_init_71 : decode prog_6_method_1_code 71 = .ok (.putfield 46, 3) := by decide +kernel
theorem d_RD_init_74 : decode prog_6_method_1_code 74 = .ok (.return_, 1) := by decide +kernel
theorem d_RD_readStatement_0 : decode prog_6_method_2_code 0 = .ok (.aload_n 0, 1) := by decide +kernel
theorem d_RD_readStatement_1 : decode prog_6_method_2_code 1 = .ok (.iconst 0, 1) := by decide +kernel
theorem d_RD_readStatement_2 : decode prog_6_method_2_code 2 = .ok (.putfield 49, 3) := by decide +kernel
theorem d_RD_readStatement_5 : decode prog_6_method_2_code 5 = .ok (.aload_n 0, 1) := by decide +kernel
theorem d_RD_readStatement_6 : decode prog_6_method_2_code 6 = .ok (.iconst 0, 1) := by decide +kernel
theorem d_RD_readStatement_7 : decode prog_6_method_2_code 7 = .ok (.putfield 53, 3) := by decide +kernel
theorem d_RD_readStatement_10 : decode prog_6_method_2_code 10 = .ok (.aload_n 0, 1) := by decide +kernel
theorem d_RD_readStatement_11 : decode prog_6_method_2_code 11 = .ok (.iconst 1, 1) := by decide +kernel
theorem d_RD_readStatement_12 : decode prog_6_method_2_code 12 = .ok (.putfield 56, 3) := by decide +kernel
theorem d_RD_readStatement_15 : decode prog_6_method_2_code 15 = .ok (.aload_n 0, 1) := by decide +kernel
theorem d_RD_readStatement_16 : decode prog_6_method_2_code 16 = .ok (.aload_n 0, 1) := by decide +kernel
theorem d_RD_readStatement_17 : decode prog_6_method_2_code 17 = .ok (.getfield 14, 3) := by decide +kernel
theorem d_RD_readStatement_20 : decode prog_6_method_2_code 20 = .ok (.aload_n 0, 1) := by decide +kernel
theorem d_RD_readStatement_21 : decode prog_6_method_2_code 21 = .ok (.getfield 60, 3) := by decide +kernel
theorem d_RD_readStatement_24 : decode prog_6_method_2_code 24 = .ok (.iconst 4, 1) := by decide +kernel
theorem d_RD_readStatement_25 : decode prog_6_method_2_code 25 = .ok (.invokevirtual 63, 3) := by decide +kernel
theorem d_RD_readStatement_28 : decode prog_6_method_2_code 28 = .ok (.ifCond .eq 18, 3) := by decide +kernel
theorem d_RD_readStatement_31 : decode prog_6_method_2_code 31 = .ok (.aload_n 0, 1) := by decide +kernel
theorem d_RD_readStatement_32 : decode prog_6_method_2_code 32 = .ok (.getfield 14, 3) := by decide +kernel
theorem d_RD_readStatement_35 : decode prog_6_method_2_code 35 = .ok (.getfield 67, 3) := by decide +kernel
theorem d_RD_readStatement_38 : decode prog_6_method_2_code 38 = .ok (.aload_n 0, 1) := by decide +kernel
theorem d_RD_readStatement_39 : decode prog_6_method_2_code 39 = .ok (.getfield 60, 3) := by decide +kernel
theorem d_RD_readStatement_42 : decode prog_6_method_2_code 42 = .ok (.iaload, 1) := by decide +kernel
theorem d_RD_readStatement_43 : decode prog_6_method_2_code 43 = .ok (.goto 4, 3) := by decide +kernel
theorem d_RD_readStatement_46 : decode prog_6_method_2_code 46 = .ok (.iconst 2, 1) := by decide +kernel
theorem d_RD_readStatement_47 : decode prog_6_method_2_code 47 = .ok (.putfield 71, 3) := by decide +kernel
theorem d_RD_readStatement_50 : decode prog_6_method_2_code 50 = .ok (.iconst 1, 1) := by decide +kernel
theorem d_RD_readStatement_51 : decode prog_6_method_2_code 51 = .ok (.istore_n 1, 1) := by decide +kernel
theorem d_RD_readStatement_52 : decode prog_6_method_2_code 52 = .ok (.aload_n 0, 1) := by decide +kernel
theorem d_RD_readStatement_53 : decode prog_6_method_2_code 53 = .ok (.getfield 71, 3) := by decide +kernel
theorem d_RD_readStatement_56 : decode prog_6_method_2_code 56 = .ok (.tableswitch 99 6 12 #[44, 99, 99, 99, 81, 81, 47], 44) := by decide +kernel
theorem d_RD_readStatement_100 : decode prog_6_method_2_code 100 = .ok (.goto 65, 3) := by decide +kernel
theorem d_RD_readStatement_103 : decode prog_6_method_2_code 103 = .ok (.aload_n 0, 1) := by decide +kernel
theorem d_RD_readStatement_104 : decode prog_6_method_2_code 104 = .ok (.dup, 1) := by decide +kernel
theorem d_RD_readStatement_105 : decode prog_6_method_2_code 105 = .ok (.getfield 60, 3) := by decide +kernel
theorem d_RD_readStatement_108 : decode prog_6_method_2_code 108 = .ok (.iconst 1, 1) := by decide +kernel
theorem d_RD_readStatement_109 : decode prog_6_method_2_code 109 = .ok (.iadd, 1) := by decide +kernel
theorem d_RD_readStatement_110 : decode prog_6_method_2_code 110 = .ok (.putfield 60, 3) := by decide +kernel
theorem d_RD_readStatement_113 : decode prog_6_method_2_code 113 = .ok (.aload_n 0, 1) := by decide +kernel
theorem d_RD_readStatement_114 : decode prog_6_method_2_code 114 = .ok (.iconst 0, 1) := by decide +kernel
theorem d_RD_readStatement_115 : decode prog_6_method_2_code 115 = .ok (.invokevirtual 74, 3) := by decide +kernel
theorem d_RD_readStatement_118 : decode prog_6_method_2_code 118 = .ok (.ifCond .eq 14, 3) := by decide +kernel
theorem d_RD_readStatement_121 : decode prog_6_method_2_code 121 = .ok (.aload_n 0, 1) := by decide +kernel
theorem d_RD_readStatement_122 : decode prog_6_method_2_code 122 = .ok (.invokevirtual 78, 3) := by decide +kernel
theorem d_RD_readStatement_125 : decode prog_6_method_2_code 125 = .ok (.ifCond .eq 7, 3) := by decide +kernel
theorem d_RD_readStatement_128 : decode prog_6_method_2_code 128 = .ok (.iconst 1, 1) := by decide +kernel
theorem d_RD_readStatement_129 : decode prog_6_method_2_code 129 = .ok (.goto 4, 3) := by decide +kernel
theorem d_RD_readStatement_132 : decode prog_6_method_2_code 132 = .ok (.iconst 0, 1) := by decide +kernel
theorem d_RD_readStatement_133 : decode prog_6_method_2_code 133 = .ok (.istore_n 1, 1) := by decide +kernel
theorem d_RD_readStatement_134 : decode prog_6_method_2_code 134 = .ok (.goto 31, 3) := by decide +kernel
theorem d_RD_readStatement_137 : decode prog_6_method_2_code 137 = .ok (.aload_n 0, 1) := by decide +kernel
theorem d_RD_readStatement_138 : decode prog_6_method_2_code 138 = .ok (.dup, 1) := by decide +kernel
theorem d_RD_readStatement_139 : decode prog_6_method_2_code 139 = .ok (.getfield 60, 3) := by decide +kernel
theorem d_RD_readStatement_142 : decode prog_6_method_2_code 142 = .ok (.iconst 1, 1) := by decide +kernel
theorem d_RD_readStatement_143 : decode prog_6_method_2_code 143 = .ok (.iadd, 1) := by decide +kernel
theorem d_RD_readStatement_144 : decode prog_6_method_2_code 144 = .ok (.putfield 60, 3) := by decide +kernel
theorem d_RD_readStatement_147 : decode prog_6_method_2_code 147 = .ok (.aload_n 0, 1) := by decide +kernel
theorem d_RD_readStatement_148 : decode prog_6_method_2_code 148 = .ok (.invokevirtual 82, 3) := by decide +kernel
theorem d_RD_readStatement_151 : decode prog_6_method_2_code 151 = .ok (.istore_n 1, 1) := by decide +kernel
theorem d_RD_readStatement_152 : decode prog_6_method_2_code 152 = .ok (.goto 13, 3) := by decide +kernel
theorem d_RD_readStatement_155 : decode prog_6_method_2_code 155 = .ok (.aload_n 0, 1) := by decide +kernel
theorem d_RD_readStatement_156 : decode prog_6_method_2_code 156 = .ok (.iconst 2, 1) := by decide +kernel
theorem d_RD_readStatement_157 : decode prog_6_method_2_code 157 = .ok (.putfield 71, 3) := by decide +kernel
theorem d_RD_readStatement_160 : decode prog_6_method_2_code 160 = .ok (.aload_n 0, 1) := by decide +kernel
theorem d_RD_readStatement_161 : decode prog_6_method_2_code 161 = .ok (.invokevirtual 85, 3) := by decide +kernel
theorem d_RD_readStatement_164 : decode prog_6_method_2_code 164 = .ok (.istore_n 1, 1) := by decide +kernel
theorem d_RD_readStatement_165 : decode prog_6_method_2_code 165 = .ok (.iload_n 1, 1) := by decide +kernel
theorem d_RD_readStatement_166 : decode prog_6_method_2_code 166 = .ok (.ifCond .eq 16, 3) := by decide +kernel
theorem d_RD_readStatement_169 : decode prog_6_method_2_code 169 = .ok (.aload_n 0, 1) := by decide +kernel
theorem d_RD_readStatement_170 : decode prog_6_method_2_code 170 = .ok (.bipush 6, 2) := by decide +kernel
theorem d_RD_readStatement_172 : decode prog_6_method_2_code 172 = .ok (.invokevirtual 88, 3) := by decide +kernel
theorem d_RD_readStatement_175 : decode prog_6_method_2_code 175 = .ok (.ifCond .eq 7, 3) := by decide +kernel
theorem d_RD_readStatement_178 : decode prog_6_method_2_code 178 = .ok (.iconst 1, 1) := by decide +kernel
theorem d_RD_readStatement_179 : decode prog_6_method_2_code 179 = .ok (.goto 4, 3) := by decide +kernel
theorem d_RD_readStatement_182 : decode prog_6_method_2_code 182 = .ok (.iconst 0, 1) := by decide +kernel
theorem d_RD_readStatement_183 : decode prog_6_method_2_code 183 = .ok (.ireturn, 1) := by decide +kernel
theorem d_RD_readExpression_0 : decode prog_6_method_9_code 0 = .ok (.iload_n 1, 1) := by decide +kernel
theorem d_RD_readExpression_1 : decode prog_6_method_9_code 1 = .ok (.bipush 8, 2) := by decide +kernel
theorem d_RD_readExpression_3 : decode prog_6_method_9_code 3 = .ok (.if_icmp .le 21, 3) := by decide +kernel
theorem d_RD_readExpression_6 : decode prog_6_method_9_code 6 = .ok (.aload_n 0, 1) := by decide +kernel
theorem d_RD_readExpression_7 : decode prog_6_method_9_code 7 = .ok (.dup, 1) := by decide +kernel
theorem d_RD_readExpression_8 : decode prog_6_method_9_code 8 = .ok (.getfield 60, 3) := by decide +kernel
theorem d_RD_readExpression_11 : decode prog_6_method_9_code 11 = .ok (.iconst 1, 1) := by decide +kernel
theorem d_RD_readExpression_12 : decode prog_6_method_9_code 12 = .ok (.isub, 1) := by decide +kernel
theorem d_RD_readExpression_13 : decode prog_6_method_9_code 13 = .ok (.putfield 60, 3) := by decide +kernel
theorem d_RD_readExpression_16 : decode prog_6_method_9_code 16 = .ok (.aload_n 0, 1) := by decide +kernel
theorem d_RD_readExpression_17 : decode prog_6_method_9_code 17 = .ok (.bipush (-5), 2) := by decide +kernel
theorem d_RD_readExpression_19 : decode prog_6_method_9_code 19 = .ok (.putfield 111, 3) := by decide +kernel
theorem d_RD_readExpression_22 : decode prog_6_method_9_code 22 = .ok (.iconst 0, 1) := by decide +kernel
theorem d_RD_readExpression_23 : decode prog_6_method_9_code 23 = .ok (.ireturn, 1) := by decide +kernel
theorem d_RD_readExpression_24 : decode prog_6_method_9_code 24 = .ok (.aload_n 0, 1) := by decide +kernel
theorem d_RD_readExpression_25 : decode prog_6_method_9_code 25 = .ok (.getfield 40, 3) := by decide +kernel
theorem d_RD_readExpression_28 : decode prog_6_method_9_code 28 = .ok (.iload_n 1, 1) := by decide +kernel
theorem d_RD_readExpression_29 : decode prog_6_method_9_code 29 = .ok (.aaload, 1) := by decide +kernel
theorem d_RD_readExpression_30 : decode prog_6_method_9_code 30 = .ok (.astore_n 2, 1) := by decide +kernel
theorem d_RD_readExpression_31 : decode prog_6_method_9_code 31 = .ok (.aload_n 2, 1) := by decide +kernel
theorem d_RD_readExpression_32 : decode prog_6_method_9_code 32 = .ok (.bipush 12, 2) := by decide +kernel
theorem d_RD_readExpression_34 : decode prog_6_method_9_code 34 = .ok (.lconst 0, 1) := by decide +kernel
theorem d_RD_readExpression_35 : decode prog_6_method_9_code 35 = .ok (.invokevirtual 114, 3) := by decide +kernel
theorem d_RD_readExpression_38 : decode prog_6_method_9_code 38 = .ok (.iconst 0, 1) := by decide +kernel
theorem d_RD_readExpression_39 : decode prog_6_method_9_code 39 = .ok (.istore_n 3, 1) := by decide +kernel
theorem d_RD_readExpression_40 : decode prog_6_method_9_code 40 = .ok (.iconst 1, 1) := by decide +kernel
theorem d_RD_readExpression_41 : decode prog_6_method_9_code 41 = .ok (.istore 4, 2) := by decide +kernel
theorem d_RD_readExpression_43 : decode prog_6_method_9_code 43 = .ok (.iconst 0, 1) := by decide +kernel
theorem d_RD_readExpression_44 : decode prog_6_method_9_code 44 = .ok (.istore 5, 2) := by decide +kernel
theorem d_RD_readExpression_46 : decode prog_6_method_9_code 46 = .ok (.iload 5, 2) := by decide +kernel
theorem d_RD_readExpression_48 : decode prog_6_method_9_code 48 = .ok (.sipush 300, 3) := by decide +kernel
theorem d_RD_readExpression_51 : decode prog_6_method_9_code 51 = .ok (.if_icmp .ge 105, 3) := by decide +kernel
theorem d_RD_readExpression_54 : decode prog_6_method_9_code 54 = .ok (.iload 4, 2) := by decide +kernel
theorem d_RD_readExpression_56 : decode prog_6_method_9_code 56 = .ok (.ifCond .eq 100, 3) := by decide +kernel
theorem d_RD_readExpression_59 : decode prog_6_method_9_code 59 = .ok (.aload_n 0, 1) := by decide +kernel
theorem d_RD_readExpression_60 : decode prog_6_method_9_code 60 = .ok (.iload_n 1, 1) := by decide +kernel
theorem d_RD_readExpression_61 : decode prog_6_method_9_code 61 = .ok (.invokevirtual 118, 3) := by decide +kernel
theorem d_RD_readExpression_64 : decode prog_6_method_9_code 64 = .ok (.ifCond .ne 5, 3) := by decide +kernel
theorem d_RD_readExpression_67 : decode prog_6_method_9_code 67 = .ok (.iconst 0, 1) := by decide +kernel
theorem d_RD_readExpression_68 : decode prog_6_method_9_code 68 = .ok (.ireturn, 1) := by decide +kernel
theorem d_RD_readExpression_69 : decode prog_6_method_9_code 69 = .ok (.iload_n 3, 1) := by decide +kernel
theorem d_RD_readExpression_70 : decode prog_6_method_9_code 70 = .ok (.ifCond .eq 16, 3) := by decide +kernel
theorem d_RD_readExpression_73 : decode prog_6_method_9_code 73 = .ok (.aload_n 2, 1) := by decide +kernel
theorem d_RD_readExpression_74 : decode prog_6_method_9_code 74 = .ok (.aload_n 0, 1) := by decide +kernel
theorem d_RD_readExpression_75 : decode prog_6_method_9_code 75 = .ok (.getfield 43, 3) := by decide +kernel
theorem d_RD_readExpression_78 : decode prog_6_method_9_code 78 = .ok (.iload_n 1, 1) := by decide +kernel
theorem d_RD_readExpression_79 : decode prog_6_method_9_code 79 = .ok (.aaload, 1) := by decide +kernel
theorem d_RD_readExpression_80 : decode prog_6_method_9_code 80 = .ok (.invokevirtual 121, 3) := by decide +kernel
theorem d_RD_readExpression_83 : decode prog_6_method_9_code 83 = .ok (.goto 13, 3) := by decide +kernel
theorem d_RD_readExpression_86 : decode prog_6_method_9_code 86 = .ok (.aload_n 2, 1) := by decide +kernel
theorem d_RD_readExpression_87 : decode prog_6_method_9_code 87 = .ok (.aload_n 0, 1) := by decide +kernel
theorem d_RD_readExpression_88 : decode prog_6_method_9_code 88 = .ok (.getfield 43, 3) := by decide +kernel
theorem d_RD_readExpression_91 : decode prog_6_method_9_code 91 = .ok (.iload_n 1, 1) := by decide +kernel
theorem d_RD_readExpression_92 : decode prog_6_method_9_code 92 = .ok (.aaload, 1) := by decide +kernel
theorem d_RD_readExpression_93 : decode prog_6_method_9_code 93 = .ok (.invokevirtual 124, 3) := by decide +kernel
theorem d_RD_readExpression_96 : decode prog_6_method_9_code 96 = .ok (.aload_n 0, 1) := by decide +kernel
theorem d_RD_readExpression_97 : decode prog_6_method_9_code 97 = .ok (.getfield 14, 3) := by decide +kernel
theorem d_RD_readExpression_100 : decode prog_6_method_9_code 100 = .ok (.aload_n 0, 1) := by decide +kernel
theorem d_RD_readExpression_101 : decode prog_6_method_9_code 101 = .ok (.getfield 60, 3) := by decide +kernel
theorem d_RD_readExpression_104 : decode prog_6_method_9_code 104 = .ok (.iconst 1, 1) := by decide +kernel
theorem d_RD_readExpression_105 : decode prog_6_method_9_code 105 = .ok (.invokevirtual 91, 3) := by decide +kernel
theorem d_RD_readExpression_108 : decode prog_6_method_9_code 108 = .ok (.istore_n 3, 1) := by decide +kernel
theorem d_RD_readExpression_109 : decode prog_6_method_9_code 109 = .ok (.iload_n 3, 1) := by decide +kernel
theorem d_RD_readExpression_110 : decode prog_6_method_9_code 110 = .ok (.ifCond .ne 18, 3) := by decide +kernel
theorem d_RD_readExpression_113 : decode prog_6_method_9_code 113 = .ok (.aload_n 0, 1) := by decide +kernel
theorem d_RD_readExpression_114 : decode prog_6_method_9_code 114 = .ok (.getfield 14, 3) := by decide +kernel
theorem d_RD_readExpression_117 : decode prog_6_method_9_code 117 = .ok (.aload_n 0, 1) := by decide +kernel
theorem d_RD_readExpression_118 : decode prog_6_method_9_code 118 = .ok (.getfield 60, 3) := by decide +kernel
theorem d_RD_readExpression_121 : decode prog_6_method_9_code 121 = .ok (.iconst 0, 1) := by decide +kernel
theorem d_RD_readExpression_122 : decode prog_6_method_9_code 122 = .ok (.invokevirtual 91, 3) := by decide +kernel
theorem d_RD_readExpression_125 : decode prog_6_method_9_code 125 = .ok (.ifCond .eq 7, 3) := by decide +kernel
theorem d_RD_readExpression_128 : decode prog_6_method_9_code 128 = .ok (.iconst 1, 1) := by decide +kernel
theorem d_RD_readExpression_129 : decode prog_6_method_9_code 129 = .ok (.goto 4, 3) := by decide +kernel
theorem d_RD_readExpression_132 : decode prog_6_method_9_code 132 = .ok (.iconst 0, 1) := by decide +kernel
theorem d_RD_readExpression_133 : decode prog_6_method_9_code 133 = .ok (.istore 4, 2) := by decide +kernel
theorem d_RD_readExpression_135 : decode prog_6_method_9_code 135 = .ok (.iload 4, 2) := by decide +kernel
theorem d_RD_readExpression_137 : decode prog_6_method_9_code 137 = .ok (.ifCond .eq 13, 3) := by decide +kernel
theorem d_RD_readExpression_140 : decode prog_6_method_9_code 140 = .ok (.aload_n 0, 1) := by decide +kernel
theorem d_RD_readExpression_141 : decode prog_6_method_9_code 141 = .ok (.dup, 1) := by decide +kernel
theorem d_RD_readExpression_142 : decode prog_6_method_9_code 142 = .ok (.getfield 60, 3) := by decide +kernel
theorem d_RD_readExpression_145 : decode prog_6_method_9_code 145 = .ok (.iconst 1, 1) := by decide +kernel
theorem d_RD_readExpression_146 : decode prog_6_method_9_code 146 = .ok (.iadd, 1) := by decide +kernel
theorem d_RD_readExpression_147 : decode prog_6_method_9_code 147 = .ok (.putfield 60, 3) := by decide +kernel
theorem d_RD_readExpression_150 : decode prog_6_method_9_code 150 = .ok (.iinc 5 1, 3) := by decide +kernel
theorem d_RD_readExpression_153 : decode prog_6_method_9_code 153 = .ok (.goto (-107), 3) := by decide +kernel
theorem d_RD_readExpression_156 : decode prog_6_method_9_code 156 = .ok (.aload_n 0, 1) := by decide +kernel
theorem d_RD_readExpression_157 : decode prog_6_method_9_code 157 = .ok (.aload_n 2, 1) := by decide +kernel
theorem d_RD_readExpression_158 : decode prog_6_method_9_code 158 = .ok (.invokevirtual 127, 3) := by decide +kernel
theorem d_RD_readExpression_161 : decode prog_6_method_9_code 161 = .ok (.ifCond .eq 14, 3) := by decide +kernel
theorem d_RD_readExpression_164 : decode prog_6_method_9_code 164 = .ok (.aload_n 0, 1) := by decide +kernel
theorem d_RD_readExpression_165 : decode prog_6_method_9_code 165 = .ok (.getfield 56, 3) := by decide +kernel
theorem d_RD_readExpression_168 : decode prog_6_method_9_code 168 = .ok (.ifCond .eq 7, 3) := by decide +kernel
theorem d_RD_readExpression_171 : decode prog_6_method_9_code 171 = .ok (.iconst 1, 1) := by decide +kernel
theorem d_RD_readExpression_172 : decode prog_6_method_9_code 172 = .ok (.goto 4, 3) := by decide +kernel
theorem d_RD_readExpression_175 : decode prog_6_method_9_code 175 = .ok (.iconst 0, 1) := by decide +kernel
theorem d_RD_readExpression_176 : decode prog_6_method_9_code 176 = .ok (.putfield 56, 3) := by decide +kernel
theorem d_RD_readExpression_179 : decode prog_6_method_9_code 179 = .ok (.iconst 1, 1) := by decide +kernel
theorem d_RD_readExpression_180 : decode prog_6_method_9_code 180 = .ok (.ireturn, 1) := by decide +kernel
theorem d_RD_readTerm_0 : decode prog_6_method_10_code 0 = .ok (.aload_n 0, 1) := by decide +kernel
theorem d_RD_readTerm_1 : decode prog_6_method_10_code 1 = .ok (.getfield 43, 3) := by decide +kernel
theorem d_RD_readTerm_4 : decode prog_6_method_10_code 4 = .ok (.iload_n 1, 1) := by decide +kernel
theorem d_RD_readTerm_5 : decode prog_6_method_10_code 5 = .ok (.aaload, 1) := by decide +kernel
theorem d_RD_readTerm_6 : decode prog_6_method_10_code 6 = .ok (.astore_n 2, 1) := by decide +kernel
theorem d_RD_readTerm_7 : decode prog_6_method_10_code 7 = .ok (.iconst 1, 1) := by decide +kernel
theorem d_RD_readTerm_8 : decode prog_6_method_10_code 8 = .ok (.istore_n 3, 1) := by decide +kernel
theorem d_RD_readTerm_9 : decode prog_6_method_10_code 9 = .ok (.aload_n 0, 1) := by decide +kernel
theorem d_RD_readTerm_10 : decode prog_6_method_10_code 10 = .ok (.getfield 60, 3) := by decide +kernel
theorem d_RD_readTerm_13 : decode prog_6_method_10_code 13 = .ok (.aload_n 0, 1) := by decide +kernel
theorem d_RD_readTerm_14 : decode prog_6_method_10_code 14 = .ok (.getfield 14, 3) := by decide +kernel
theorem d_RD_readTerm_17 : decode prog_6_method_10_code 17 = .ok (.getfield 105, 3) := by decide +kernel
theorem d_RD_readTerm_20 : decode prog_6_method_10_code 20 = .ok (.if_icmp .ge 34, 3) := by decide +kernel
theorem d_RD_readTerm_23 : decode prog_6_method_10_code 23 = .ok (.aload_n 0, 1) := by decide +kernel
theorem d_RD_readTerm_24 : decode prog_6_method_10_code 24 = .ok (.getfield 14, 3) := by decide +kernel
theorem d_RD_readTerm_27 : decode prog_6_method_10_code 27 = .ok (.aload_n 0, 1) := by decide +kernel
theorem d_RD_readTerm_28 : decode prog_6_method_10_code 28 = .ok (.getfield 60, 3) := by decide +kernel
theorem d_RD_readTerm_31 : decode prog_6_method_10_code 31 = .ok (.iconst 1, 1) := by decide +kernel
theorem d_RD_readTerm_32 : decode prog_6_method_10_code 32 = .ok (.invokevirtual 91, 3) := by decide +kernel
theorem d_RD_readTerm_35 : decode prog_6_method_10_code 35 = .ok (.ifCond .eq 19, 3) := by decide +kernel
theorem d_RD_readTerm_38 : decode prog_6_method_10_code 38 = .ok (.iload_n 3, 1) := by decide +kernel
theorem d_RD_readTerm_39 : decode prog_6_method_10_code 39 = .ok (.ineg, 1) := by decide +kernel
theorem d_RD_readTerm_40 : decode prog_6_method_10_code 40 = .ok (.istore_n 3, 1) := by decide +kernel
theorem d_RD_readTerm_41 : decode prog_6_method_10_code 41 = .ok (.aload_n 0, 1) := by decide +kernel
theorem d_RD_readTerm_42 : decode prog_6_method_10_code 42 = .ok (.dup, 1) := by decide +kernel
theorem d_RD_readTerm_43 : decode prog_6_method_10_code 43 = .ok (.getfield 60, 3) := by decide +kernel
theorem d_RD_readTerm_46 : decode prog_6_method_10_code 46 = .ok (.iconst 1, 1) := by decide +kernel
theorem d_RD_readTerm_47 : decode prog_6_method_10_code 47 = .ok (.iadd, 1) := by decide +kernel
theorem d_RD_readTerm_48 : decode prog_6_method_10_code 48 = .ok (.putfield 60, 3) := by decide +kernel
theorem d_RD_readTerm_51 : decode prog_6_method_10_code 51 = .ok (.goto (-42), 3) := by decide +kernel
theorem d_RD_readTerm_54 : decode prog_6_method_10_code 54 = .ok (.aload_n 0, 1) := by decide +kernel
theorem d_RD_readTerm_55 : decode prog_6_method_10_code 55 = .ok (.getfield 14, 3) := by decide +kernel
theorem d_RD_readTerm_58 : decode prog_6_method_10_code 58 = .ok (.aload_n 0, 1) := by decide +kernel
theorem d_RD_readTerm_59 : decode prog_6_method_10_code 59 = .ok (.getfield 60, 3) := by decide +kernel
theorem d_RD_readTerm_62 : decode prog_6_method_10_code 62 = .ok (.iconst 0, 1) := by decide +kernel
theorem d_RD_readTerm_63 : decode prog_6_method_10_code 63 = .ok (.invokevirtual 63, 3) := by decide +kernel
theorem d_RD_readTerm_66 : decode prog_6_method_10_code 66 = .ok (.ifCond .ne 32, 3) := by decide +kernel
theorem d_RD_readTerm_69 : decode prog_6_method_10_code 69 = .ok (.aload_n 0, 1) := by decide +kernel
theorem d_RD_readTerm_70 : decode prog_6_method_10_code 70 = .ok (.iload_n 1, 1) := by decide +kernel
theorem d_RD_readTerm_71 : decode prog_6_method_10_code 71 = .ok (.invokevirtual 130, 3) := by decide +kernel
theorem d_RD_readTerm_74 : decode prog_6_method_10_code 74 = .ok (.ifCond .eq 22, 3) := by decide +kernel
theorem d_RD_readTerm_77 : decode prog_6_method_10_code 77 = .ok (.aload_n 0, 1) := by decide +kernel
theorem d_RD_readTerm_78 : decode prog_6_method_10_code 78 = .ok (.aload_n 2, 1) := by decide +kernel
theorem d_RD_readTerm_79 : decode prog_6_method_10_code 79 = .ok (.bipush 16, 2) := by decide +kernel
theorem d_RD_readTerm_81 : decode prog_6_method_10_code 81 = .ok (.iload_n 3, 1) := by decide +kernel
theorem d_RD_readTerm_82 : decode prog_6_method_10_code 82 = .ok (.imul, 1) := by decide +kernel
theorem d_RD_readTerm_83 : decode prog_6_method_10_code 83 = .ok (.invokevirtual 133, 3) := by decide +kernel
theorem d_RD_readTerm_86 : decode prog_6_method_10_code 86 = .ok (.invokevirtual 136, 3) := by decide +kernel
theorem d_RD_readTerm_89 : decode prog_6_method_10_code 89 = .ok (.ifCond .eq 7, 3) := by decide +kernel
theorem d_RD_readTerm_92 : decode prog_6_method_10_code 92 = .ok (.iconst 1, 1) := by decide +kernel
theorem d_RD_readTerm_93 : decode prog_6_method_10_code 93 = .ok (.goto 4, 3) := by decide +kernel
theorem d_RD_readTerm_96 : decode prog_6_method_10_code 96 = .ok (.iconst 0, 1) := by decide +kernel
theorem d_RD_readTerm_97 : decode prog_6_method_10_code 97 = .ok (.ireturn, 1) := by decide +kernel
theorem d_RD_readTerm_98 : decode prog_6_method_10_code 98 = .ok (.aload_n 0, 1) := by decide +kernel
theorem d_RD_readTerm_99 : decode prog_6_method_10_code 99 = .ok (.getfield 14, 3) := by decide +kernel
theorem d_RD_readTerm_102 : decode prog_6_method_10_code 102 = .ok (.getfield 67, 3) := by decide +kernel
theorem d_RD_readTerm_105 : decode prog_6_method_10_code 105 = .ok (.aload_n 0, 1) := by decide +kernel
theorem d_RD_readTerm_106 : decode prog_6_method_10_code 106 = .ok (.getfield 60, 3) := by decide +kernel
theorem d_RD_readTerm_109 : decode prog_6_method_10_code 109 = .ok (.iaload, 1) := by decide +kernel
theorem d_RD_readTerm_110 : decode prog_6_method_10_code 110 = .ok (.istore 4, 2) := by decide +kernel
theorem d_RD_readTerm_112 : decode prog_6_method_10_code 112 = .ok (.aload_n 0, 1) := by decide +kernel
theorem d_RD_readTerm_113 : decode prog_6_method_10_code 113 = .ok (.dup, 1) := by decide +kernel
theorem d_RD_readTerm_114 : decode prog_6_method_10_code 114 = .ok (.getfield 60, 3) := by decide +kernel
theorem d_RD_readTerm_117 : decode prog_6_method_10_code 117 = .ok (.iconst 1, 1) := by decide +kernel
theorem d_RD_readTerm_118 : decode prog_6_method_10_code 118 = .ok (.iadd, 1) := by decide +kernel
theorem d_RD_readTerm_119 : decode prog_6_method_10_code 119 = .ok (.putfield 60, 3) := by decide +kernel
theorem d_RD_readTerm_122 : decode prog_6_method_10_code 122 = .ok (.aload_n 0, 1) := by decide +kernel
theorem d_RD_readTerm_123 : decode prog_6_method_10_code 123 = .ok (.getfield 14, 3) := by decide +kernel
theorem d_RD_readTerm_126 : decode prog_6_method_10_code 126 = .ok (.aload_n 0, 1) := by decide +kernel
theorem d_RD_readTerm_127 : decode prog_6_method_10_code 127 = .ok (.getfield 60, 3) := by decide +kernel
theorem d_RD_readTerm_130 : decode prog_6_method_10_code 130 = .ok (.bipush 13, 2) := by decide +kernel
theorem d_RD_readTerm_132 : decode prog_6_method_10_code 132 = .ok (.invokevirtual 91, 3) := by decide +kernel
theorem d_RD_readTerm_135 : decode prog_6_method_10_code 135 = .ok (.ifCond .eq 69, 3) := by decide +kernel
theorem d_RD_readTerm_138 : decode prog_6_method_10_code 138 = .ok (.aload_n 0, 1) := by decide +kernel
theorem d_RD_readTerm_139 : decode prog_6_method_10_code 139 = .ok (.dup, 1) := by decide +kernel
theorem d_RD_readTerm_140 : decode prog_6_method_10_code 140 = .ok (.getfield 60, 3) := by decide +kernel
theorem d_RD_readTerm_143 : decode prog_6_method_10_code 143 = .ok (.iconst 1, 1) := by decide +kernel
theorem d_RD_readTerm_144 : decode prog_6_method_10_code 144 = .ok (.iadd, 1) := by decide +kernel
theorem d_RD_readTerm_145 : decode prog_6_method_10_code 145 = .ok (.putfield 60, 3) := by decide +kernel
theorem d_RD_readTerm_148 : decode prog_6_method_10_code 148 = .ok (.aload_n 0, 1) := by decide +kernel
theorem d_RD_readTerm_149 : decode prog_6_method_10_code 149 = .ok (.iload_n 1, 1) := by decide +kernel
theorem d_RD_readTerm_150 : decode prog_6_method_10_code 150 = .ok (.invokevirtual 140, 3) := by decide +kernel
theorem d_RD_readTerm_153 : decode prog_6_method_10_code 153 = .ok (.ifCond .eq 49, 3) := by decide +kernel
theorem d_RD_readTerm_156 : decode prog_6_method_10_code 156 = .ok (.aload_n 0, 1) := by decide +kernel
theorem d_RD_readTerm_157 : decode prog_6_method_10_code 157 = .ok (.aload_n 2, 1) := by decide +kernel
theorem d_RD_readTerm_158 : decode prog_6_method_10_code 158 = .ok (.iload 4, 2) := by decide +kernel
theorem d_RD_readTerm_160 : decode prog_6_method_10_code 160 = .ok (.aload_n 0, 1) := by decide +kernel
theorem d_RD_readTerm_161 : decode prog_6_method_10_code 161 = .ok (.getfield 46, 3) := by decide +kernel
theorem d_RD_readTerm_164 : decode prog_6_method_10_code 164 = .ok (.iload_n 1, 1) := by decide +kernel
theorem d_RD_readTerm_165 : decode prog_6_method_10_code 165 = .ok (.aaload, 1) := by decide +kernel
theorem d_RD_readTerm_166 : decode prog_6_method_10_code 166 = .ok (.aload_n 0, 1) := by decide +kernel
theorem d_RD_readTerm_167 : decode prog_6_method_10_code 167 = .ok (.getfield 40, 3) := by decide +kernel
theorem d_RD_readTerm_170 : decode prog_6_method_10_code 170 = .ok (.iload_n 1, 1) := by decide +kernel
theorem d_RD_readTerm_171 : decode prog_6_method_10_code 171 = .ok (.iconst 1, 1) := by decide +kernel
theorem d_RD_readTerm_172 : decode prog_6_method_10_code 172 = .ok (.iadd, 1) := by decide +kernel
theorem d_RD_readTerm_173 : decode prog_6_method_10_code 173 = .ok (.aaload, 1) := by decide +kernel
theorem d_RD_readTerm_174 : decode prog_6_method_10_code 174 = .ok (.invokevirtual 143, 3) := by decide +kernel
theorem d_RD_readTerm_177 : decode prog_6_method_10_code 177 = .ok (.invokevirtual 136, 3) := by decide +kernel
theorem d_RD_readTerm_180 : decode prog_6_method_10_code 180 = .ok (.ifCond .eq 22, 3) := by decide +kernel
theorem d_RD_readTerm_183 : decode prog_6_method_10_code 183 = .ok (.aload_n 0, 1) := by decide +kernel
theorem d_RD_readTerm_184 : decode prog_6_method_10_code 184 = .ok (.aload_n 2, 1) := by decide +kernel
theorem d_RD_readTerm_185 : decode prog_6_method_10_code 185 = .ok (.bipush 16, 2) := by decide +kernel
theorem d_RD_readTerm_187 : decode prog_6_method_10_code 187 = .ok (.iload_n 3, 1) := by decide +kernel
theorem d_RD_readTerm_188 : decode prog_6_method_10_code 188 = .ok (.imul, 1) := by decide +kernel
theorem d_RD_readTerm_189 : decode prog_6_method_10_code 189 = .ok (.invokevirtual 133, 3) := by decide +kernel
theorem d_RD_readTerm_192 : decode prog_6_method_10_code 192 = .ok (.invokevirtual 136, 3) := by decide +kernel
theorem d_RD_readTerm_195 : decode prog_6_method_10_code 195 = .ok (.ifCond .eq 7, 3) := by decide +kernel
theorem d_RD_readTerm_198 : decode prog_6_method_10_code 198 = .ok (.iconst 1, 1) := by decide +kernel
theorem d_RD_readTerm_199 : decode prog_6_method_10_code 199 = .ok (.goto 4, 3) := by decide +kernel
theorem d_RD_readTerm_202 : decode prog_6_method_10_code 202 = .ok (.iconst 0, 1) := by decide +kernel
theorem d_RD_readTerm_203 : decode prog_6_method_10_code 203 = .ok (.ireturn, 1) := by decide +kernel
theorem d_RD_readTerm_204 : decode prog_6_method_10_code 204 = .ok (.aload_n 0, 1) := by decide +kernel
theorem d_RD_readTerm_205 : decode prog_6_method_10_code 205 = .ok (.getfield 14, 3) := by decide +kernel
theorem d_RD_readTerm_208 : decode prog_6_method_10_code 208 = .ok (.aload_n 0, 1) := by decide +kernel
theorem d_RD_readTerm_209 : decode prog_6_method_10_code 209 = .ok (.getfield 60, 3) := by decide +kernel
theorem d_RD_readTerm_212 : decode prog_6_method_10_code 212 = .ok (.iconst 1, 1) := by decide +kernel
theorem d_RD_readTerm_213 : decode prog_6_method_10_code 213 = .ok (.invokevirtual 63, 3) := by decide +kernel
theorem d_RD_readTerm_216 : decode prog_6_method_10_code 216 = .ok (.ifCond .ne 18, 3) := by decide +kernel
theorem d_RD_readTerm_219 : decode prog_6_method_10_code 219 = .ok (.aload_n 0, 1) := by decide +kernel
theorem d_RD_readTerm_220 : decode prog_6_method_10_code 220 = .ok (.getfield 14, 3) := by decide +kernel
theorem d_RD_readTerm_223 : decode prog_6_method_10_code 223 = .ok (.aload_n 0, 1) := by decide +kernel
theorem d_RD_readTerm_224 : decode prog_6_method_10_code 224 = .ok (.getfield 60, 3) := by decide +kernel
theorem d_RD_readTerm_227 : decode prog_6_method_10_code 227 = .ok (.iconst 3, 1) := by decide +kernel
theorem d_RD_readTerm_228 : decode prog_6_method_10_code 228 = .ok (.invokevirtual 91, 3) := by decide +kernel
theorem d_RD_readTerm_231 : decode prog_6_method_10_code 231 = .ok (.ifCond .eq 32, 3) := by decide +kernel
theorem d_RD_readTerm_234 : decode prog_6_method_10_code 234 = .ok (.aload_n 0, 1) := by decide +kernel
theorem d_RD_readTerm_235 : decode prog_6_method_10_code 235 = .ok (.iload_n 1, 1) := by decide +kernel
theorem d_RD_readTerm_236 : decode prog_6_method_10_code 236 = .ok (.invokevirtual 130, 3) := by decide +kernel
theorem d_RD_readTerm_239 : decode prog_6_method_10_code 239 = .ok (.ifCond .eq 22, 3) := by decide +kernel
theorem d_RD_readTerm_242 : decode prog_6_method_10_code 242 = .ok (.aload_n 0, 1) := by decide +kernel
theorem d_RD_readTerm_243 : decode prog_6_method_10_code 243 = .ok (.aload_n 2, 1) := by decide +kernel
theorem d_RD_readTerm_244 : decode prog_6_method_10_code 244 = .ok (.iload 4, 2) := by decide +kernel
theorem d_RD_readTerm_246 : decode prog_6_method_10_code 246 = .ok (.iload_n 3, 1) := by decide +kernel
theorem d_RD_readTerm_247 : decode prog_6_method_10_code 247 = .ok (.imul, 1) := by decide +kernel
theorem d_RD_readTerm_248 : decode prog_6_method_10_code 248 = .ok (.invokevirtual 133, 3) := by decide +kernel
theorem d_RD_readTerm_251 : decode prog_6_method_10_code 251 = .ok (.invokevirtual 136, 3) := by decide +kernel
theorem d_RD_readTerm_254 : decode prog_6_method_10_code 254 = .ok (.ifCond .eq 7, 3) := by decide +kernel
theorem d_RD_readTerm_257 : decode prog_6_method_10_code 257 = .ok (.iconst 1, 1) := by decide +kernel
theorem d_RD_readTerm_258 : decode prog_6_method_10_code 258 = .ok (.goto 4, 3) := by decide +kernel
theorem d_RD_readTerm_261 : decode prog_6_method_10_code 261 = .ok (.iconst 0, 1) := by decide +kernel
theorem d_RD_readTerm_262 : decode prog_6_method_10_code 262 = .ok (.ireturn, 1) := by decide +kernel
theorem d_RD_readTerm_263 : decode prog_6_method_10_code 263 = .ok (.aload_n 2, 1) := by decide +kernel
theorem d_RD_readTerm_264 : decode prog_6_method_10_code 264 = .ok (.bipush 12, 2) := by decide +kernel
theorem d_RD_readTerm_266 : decode prog_6_method_10_code 266 = .ok (.iload 4, 2) := by decide +kernel
theorem d_RD_readTerm_268 : decode prog_6_method_10_code 268 = .ok (.iload_n 3, 1) := by decide +kernel
theorem d_RD_readTerm_269 : decode prog_6_method_10_code 269 = .ok (.imul, 1) := by decide +kernel
theorem d_RD_readTerm_270 : decode prog_6_method_10_code 270 = .ok (.i2l, 1) := by decide +kernel
theorem d_RD_readTerm_271 : decode prog_6_method_10_code 271 = .ok (.ldc2_w 147, 3) := by decide +kernel
theorem d_RD_readTerm_274 : decode prog_6_method_10_code 274 = .ok (.lmul, 1) := by decide +kernel
theorem d_RD_readTerm_275 : decode prog_6_method_10_code 275 = .ok (.invokevirtual 114, 3) := by decide +kernel
theorem d_RD_readTerm_278 : decode prog_6_method_10_code 278 = .ok (.iconst 1, 1) := by decide +kernel
theorem d_RD_readTerm_279 : decode prog_6_method_10_code 279 = .ok (.ireturn, 1) := by decide +kernel
theorem d_RD_readPrimary_0 : decode prog_6_method_12_code 0 = .ok (.aload_n 0, 1) := by decide +kernel
theorem d_RD_readPrimary_1 : decode prog_6_method_12_code 1 = .ok (.getfield 14, 3) := by decide +kernel
theorem d_RD_readPrimary_4 : decode prog_6_method_12_code 4 = .ok (.aload_n 0, 1) := by decide +kernel
theorem d_RD_readPrimary_5 : decode prog_6_method_12_code 5 = .ok (.getfield 60, 3) := by decide +kernel
theorem d_RD_readPrimary_8 : decode prog_6_method_12_code 8 = .ok (.iconst 1, 1) := by decide +kernel
theorem d_RD_readPrimary_9 : decode prog_6_method_12_code 9 = .ok (.invokevirtual 63, 3) := by decide +kernel
theorem d_RD_readPrimary_12 : decode prog_6_method_12_code 12 = .ok (.ifCond .eq 44, 3) := by decide +kernel
theorem d_RD_readPrimary_15 : decode prog_6_method_12_code 15 = .ok (.aload_n 0, 1) := by decide +kernel
theorem d_RD_readPrimary_16 : decode prog_6_method_12_code 16 = .ok (.getfield 43, 3) := by decide +kernel
theorem d_RD_readPrimary_19 : decode prog_6_method_12_code 19 = .ok (.iload_n 1, 1) := by decide +kernel
theorem d_RD_readPrimary_20 : decode prog_6_method_12_code 20 = .ok (.aaload, 1) := by decide +kernel
theorem d_RD_readPrimary_21 : decode prog_6_method_12_code 21 = .ok (.aload_n 0, 1) := by decide +kernel
theorem d_RD_readPrimary_22 : decode prog_6_method_12_code 22 = .ok (.getfield 23, 3) := by decide +kernel
theorem d_RD_readPrimary_25 : decode prog_6_method_12_code 25 = .ok (.getfield 149, 3) := by decide +kernel
theorem d_RD_readPrimary_28 : decode prog_6_method_12_code 28 = .ok (.aload_n 0, 1) := by decide +kernel
theorem d_RD_readPrimary_29 : decode prog_6_method_12_code 29 = .ok (.getfield 14, 3) := by decide +kernel
theorem d_RD_readPrimary_32 : decode prog_6_method_12_code 32 = .ok (.getfield 67, 3) := by decide +kernel
theorem d_RD_readPrimary_35 : decode prog_6_method_12_code 35 = .ok (.aload_n 0, 1) := by decide +kernel
theorem d_RD_readPrimary_36 : decode prog_6_method_12_code 36 = .ok (.getfield 60, 3) := by decide +kernel
theorem d_RD_readPrimary_39 : decode prog_6_method_12_code 39 = .ok (.iaload, 1) := by decide +kernel
theorem d_RD_readPrimary_40 : decode prog_6_method_12_code 40 = .ok (.aaload, 1) := by decide +kernel
theorem d_RD_readPrimary_41 : decode prog_6_method_12_code 41 = .ok (.invokevirtual 101, 3) := by decide +kernel
theorem d_RD_readPrimary_44 : decode prog_6_method_12_code 44 = .ok (.aload_n 0, 1) := by decide +kernel
theorem d_RD_readPrimary_45 : decode prog_6_method_12_code 45 = .ok (.dup, 1) := by decide +kernel
theorem d_RD_readPrimary_46 : decode prog_6_method_12_code 46 = .ok (.getfield 60, 3) := by decide +kernel
theorem d_RD_readPrimary_49 : decode prog_6_method_12_code 49 = .ok (.iconst 1, 1) := by decide +kernel
theorem d_RD_readPrimary_50 : decode prog_6_method_12_code 50 = .ok (.iadd, 1) := by decide +kernel
theorem d_RD_readPrimary_51 : decode prog_6_method_12_code 51 = .ok (.putfield 60, 3) := by decide +kernel
theorem d_RD_readPrimary_54 : decode prog_6_method_12_code 54 = .ok (.iconst 1, 1) := by decide +kernel
theorem d_RD_readPrimary_55 : decode prog_6_method_12_code 55 = .ok (.ireturn, 1) := by decide +kernel
theorem d_RD_readPrimary_56 : decode prog_6_method_12_code 56 = .ok (.aload_n 0, 1) := by decide +kernel
theorem d_RD_readPrimary_57 : decode prog_6_method_12_code 57 = .ok (.iconst 3, 1) := by decide +kernel
theorem d_RD_readPrimary_58 : decode prog_6_method_12_code 58 = .ok (.invokevirtual 88, 3) := by decide +kernel
theorem d_RD_readPrimary_61 : decode prog_6_method_12_code 61 = .ok (.ifCond .eq 21, 3) := by decide +kernel
theorem d_RD_readPrimary_64 : decode prog_6_method_12_code 64 = .ok (.aload_n 0, 1) := by decide +kernel
theorem d_RD_readPrimary_65 : decode prog_6_method_12_code 65 = .ok (.iload_n 1, 1) := by decide +kernel
theorem d_RD_readPrimary_66 : decode prog_6_method_12_code 66 = .ok (.iconst 1, 1) := by decide +kernel
theorem d_RD_readPrimary_67 : decode prog_6_method_12_code 67 = .ok (.iadd, 1) := by decide +kernel
theorem d_RD_readPrimary_68 : decode prog_6_method_12_code 68 = .ok (.invokevirtual 74, 3) := by decide +kernel
theorem d_RD_readPrimary_71 : decode prog_6_method_12_code 71 = .ok (.ifCond .eq 11, 3) := by decide +kernel
theorem d_RD_readPrimary_74 : decode prog_6_method_12_code 74 = .ok (.aload_n 0, 1) := by decide +kernel
theorem d_RD_readPrimary_75 : decode prog_6_method_12_code 75 = .ok (.iconst 4, 1) := by decide +kernel
theorem d_RD_readPrimary_76 : decode prog_6_method_12_code 76 = .ok (.invokevirtual 88, 3) := by decide +kernel
theorem d_RD_readPrimary_79 : decode prog_6_method_12_code 79 = .ok (.ifCond .ne 5, 3) := by decide +kernel
theorem d_RD_readPrimary_82 : decode prog_6_method_12_code 82 = .ok (.iconst 0, 1) := by decide +kernel
theorem d_RD_readPrimary_83 : decode prog_6_method_12_code 83 = .ok (.ireturn, 1) := by decide +kernel
theorem d_RD_readPrimary_84 : decode prog_6_method_12_code 84 = .ok (.aload_n 0, 1) := by decide +kernel
theorem d_RD_readPrimary_85 : decode prog_6_method_12_code 85 = .ok (.getfield 43, 3) := by decide +kernel
theorem d_RD_readPrimary_88 : decode prog_6_method_12_code 88 = .ok (.iload_n 1, 1) := by decide +kernel
theorem d_RD_readPrimary_89 : decode prog_6_method_12_code 89 = .ok (.aaload, 1) := by decide +kernel
theorem d_RD_readPrimary_90 : decode prog_6_method_12_code 90 = .ok (.aload_n 0, 1) := by decide +kernel
theorem d_RD_readPrimary_91 : decode prog_6_method_12_code 91 = .ok (.getfield 40, 3) := by decide +kernel
theorem d_RD_readPrimary_94 : decode prog_6_method_12_code 94 = .ok (.iload_n 1, 1) := by decide +kernel
theorem d_RD_readPrimary_95 : decode prog_6_method_12_code 95 = .ok (.iconst 1, 1) := by decide +kernel
theorem d_RD_readPrimary_96 : decode prog_6_method_12_code 96 = .ok (.iadd, 1) := by decide +kernel
theorem d_RD_readPrimary_97 : decode prog_6_method_12_code 97 = .ok (.aaload, 1) := by decide +kernel
theorem d_RD_readPrimary_98 : decode prog_6_method_12_code 98 = .ok (.invokevirtual 101, 3) := by decide +kernel
theorem d_RD_readPrimary_101 : decode prog_6_method_12_code 101 = .ok (.iconst 1, 1) := by decide +kernel
theorem d_RD_readPrimary_102 : decode prog_6_method_12_code 102 = .ok (.ireturn, 1) := by decide +kernel
theorem d_RD_take_0 : decode prog_6_method_8_code 0 = .ok (.aload_n 0, 1) := by decide +kernel
theorem d_RD_take_1 : decode prog_6_method_8_code 1 = .ok (.getfield 60, 3) := by decide +kernel
theorem d_RD_take_4 : decode prog_6_method_8_code 4 = .ok (.aload_n 0, 1) := by decide +kernel
theorem d_RD_take_5 : decode prog_6_method_8_code 5 = .ok (.getfield 14, 3) := by decide +kernel
theorem d_RD_take_8 : decode prog_6_method_8_code 8 = .ok (.getfield 105, 3) := by decide +kernel
theorem d_RD_take_11 : decode prog_6_method_8_code 11 = .ok (.if_icmp .ge 39, 3) := by decide +kernel
theorem d_RD_take_14 : decode prog_6_method_8_code 14 = .ok (.aload_n 0, 1) := by decide +kernel
theorem d_RD_take_15 : decode prog_6_method_8_code 15 = .ok (.getfield 14, 3) := by decide +kernel
theorem d_RD_take_18 : decode prog_6_method_8_code 18 = .ok (.getfield 108, 3) := by decide +kernel
theorem d_RD_take_21 : decode prog_6_method_8_code 21 = .ok (.aload_n 0, 1) := by decide +kernel
theorem d_RD_take_22 : decode prog_6_method_8_code 22 = .ok (.getfield 60, 3) := by decide +kernel
theorem d_RD_take_25 : decode prog_6_method_8_code 25 = .ok (.iaload, 1) := by decide +kernel
theorem d_RD_take_26 : decode prog_6_method_8_code 26 = .ok (.iconst 4, 1) := by decide +kernel
theorem d_RD_take_27 : decode prog_6_method_8_code 27 = .ok (.if_icmp .ne 23, 3) := by decide +kernel
theorem d_RD_take_30 : decode prog_6_method_8_code 30 = .ok (.aload_n 0, 1) := by decide +kernel
theorem d_RD_take_31 : decode prog_6_method_8_code 31 = .ok (.getfield 14, 3) := by decide +kernel
theorem d_RD_take_34 : decode prog_6_method_8_code 34 = .ok (.getfield 67, 3) := by decide +kernel
theorem d_RD_take_37 : decode prog_6_method_8_code 37 = .ok (.aload_n 0, 1) := by decide +kernel
theorem d_RD_take_38 : decode prog_6_method_8_code 38 = .ok (.getfield 60, 3) := by decide +kernel
theorem d_RD_take_41 : decode prog_6_method_8_code 41 = .ok (.iaload, 1) := by decide +kernel
theorem d_RD_take_42 : decode prog_6_method_8_code 42 = .ok (.iload_n 1, 1) := by decide +kernel
theorem d_RD_take_43 : decode prog_6_method_8_code 43 = .ok (.if_icmp .ne 7, 3) := by decide +kernel
theorem d_RD_take_46 : decode prog_6_method_8_code 46 = .ok (.iconst 1, 1) := by decide +kernel
theorem d_RD_take_47 : decode prog_6_method_8_code 47 = .ok (.goto 4, 3) := by decide +kernel
theorem d_RD_take_50 : decode prog_6_method_8_code 50 = .ok (.iconst 0, 1) := by decide +kernel
theorem d_RD_take_51 : decode prog_6_method_8_code 51 = .ok (.istore_n 2, 1) := by decide +kernel
theorem d_RD_take_52 : decode prog_6_method_8_code 52 = .ok (.iload_n 2, 1) := by decide +kernel
theorem d_RD_take_53 : decode prog_6_method_8_code 53 = .ok (.ifCond .eq 16, 3) := by decide +kernel
theorem d_RD_take_56 : decode prog_6_method_8_code 56 = .ok (.aload_n 0, 1) := by decide +kernel
theorem d_RD_take_57 : decode prog_6_method_8_code 57 = .ok (.dup, 1) := by decide +kernel
theorem d_RD_take_58 : decode prog_6_method_8_code 58 = .ok (.getfield 60, 3) := by decide +kernel
theorem d_RD_take_61 : decode prog_6_method_8_code 61 = .ok (.iconst 1, 1) := by decide +kernel
theorem d_RD_take_62 : decode prog_6_method_8_code 62 = .ok (.iadd, 1) := by decide +kernel
theorem d_RD_take_63 : decode prog_6_method_8_code 63 = .ok (.putfield 60, 3) := by decide +kernel
theorem d_RD_take_66 : decode prog_6_method_8_code 66 = .ok (.goto 9, 3) := by decide +kernel
theorem d_RD_take_69 : decode prog_6_method_8_code 69 = .ok (.aload_n 0, 1) := by decide +kernel
theorem d_RD_take_70 : decode prog_6_method_8_code 70 = .ok (.bipush (-8), 2) := by decide +kernel
theorem d_RD_take_72 : decode prog_6_method_8_code 72 = .ok (.putfield 111, 3) := by decide +kernel
theorem d_RD_take_75 : decode prog_6_method_8_code 75 = .ok (.iload_n 2, 1) := by decide +kernel
theorem d_RD_take_76 : decode prog_6_method_8_code 76 = .ok (.ireturn, 1) := by decide +kernel
theorem d_RD_check_0 : decode prog_6_method_11_code 0 = .ok (.aload_n 0, 1) := by decide +kernel
theorem d_RD_check_1 : decode prog_6_method_11_code 1 = .ok (.aload_n 0, 1) := by decide +kernel
theorem d_RD_check_2 : decode prog_6_method_11_code 2 = .ok (.getfield 56, 3) := by decide +kernel
theorem d_RD_check_5 : decode prog_6_method_11_code 5 = .ok (.ifCond .eq 11, 3) := by decide +kernel
theorem d_RD_check_8 : decode prog_6_method_11_code 8 = .ok (.iload_n 1, 1) := by decide +kernel
theorem d_RD_check_9 : decode prog_6_method_11_code 9 = .ok (.ifCond .eq 7, 3) := by decide +kernel
theorem d_RD_check_12 : decode prog_6_method_11_code 12 = .ok (.iconst 1, 1) := by decide +kernel
theorem d_RD_check_13 : decode prog_6_method_11_code 13 = .ok (.goto 4, 3) := by decide +kernel
theorem d_RD_check_16 : decode prog_6_method_11_code 16 = .ok (.iconst 0, 1) := by decide +kernel
theorem d_RD_check_17 : decode prog_6_method_11_code 17 = .ok (.putfield 56, 3) := by decide +kernel
theorem d_RD_check_20 : decode prog_6_method_11_code 20 = .ok (.iconst 1, 1) := by decide +kernel
theorem d_RD_check_21 : decode prog_6_method_11_code 21 = .ok (.ireturn, 1) := by decide +kernel
theorem d_RD_readEnds_0 : decode prog_6_method_13_code 0 = .ok (.aload_n 0, 1) := by decide +kernel
theorem d_RD_readEnds_1 : decode prog_6_method_13_code 1 = .ok (.iconst 3, 1) := by decide +kernel
theorem d_RD_readEnds_2 : decode prog_6_method_13_code 2 = .ok (.invokevirtual 88, 3) := by decide +kernel
theorem d_RD_readEnds_5 : decode prog_6_method_13_code 5 = .ok (.ifCond .eq 21, 3) := by decide +kernel
theorem d_RD_readEnds_8 : decode prog_6_method_13_code 8 = .ok (.aload_n 0, 1) := by decide +kernel
theorem d_RD_readEnds_9 : decode prog_6_method_13_code 9 = .ok (.iload_n 1, 1) := by decide +kernel
theorem d_RD_readEnds_10 : decode prog_6_method_13_code 10 = .ok (.iconst 1, 1) := by decide +kernel
theorem d_RD_readEnds_11 : decode prog_6_method_13_code 11 = .ok (.iadd, 1) := by decide +kernel
theorem d_RD_readEnds_12 : decode prog_6_method_13_code 12 = .ok (.invokevirtual 74, 3) := by decide +kernel
theorem d_RD_readEnds_15 : decode prog_6_method_13_code 15 = .ok (.ifCond .eq 11, 3) := by decide +kernel
theorem d_RD_readEnds_18 : decode prog_6_method_13_code 18 = .ok (.aload_n 0, 1) := by decide +kernel
theorem d_RD_readEnds_19 : decode prog_6_method_13_code 19 = .ok (.iconst 5, 1) := by decide +kernel
theorem d_RD_readEnds_20 : decode prog_6_method_13_code 20 = .ok (.invokevirtual 88, 3) := by decide +kernel
theorem d_RD_readEnds_23 : decode prog_6_method_13_code 23 = .ok (.ifCond .ne 5, 3) := by decide +kernel
theorem d_RD_readEnds_26 : decode prog_6_method_13_code 26 = .ok (.iconst 0, 1) := by decide +kernel
theorem d_RD_readEnds_27 : decode prog_6_method_13_code 27 = .ok (.ireturn, 1) := by decide +kernel
theorem d_RD_readEnds_28 : decode prog_6_method_13_code 28 = .ok (.aload_n 0, 1) := by decide +kernel
theorem d_RD_readEnds_29 : decode prog_6_method_13_code 29 = .ok (.getfield 46, 3) := by decide +kernel
theorem d_RD_readEnds_32 : decode prog_6_method_13_code 32 = .ok (.iload_n 1, 1) := by decide +kernel
theorem d_RD_readEnds_33 : decode prog_6_method_13_code 33 = .ok (.aaload, 1) := by decide +kernel
theorem d_RD_readEnds_34 : decode prog_6_method_13_code 34 = .ok (.aload_n 0, 1) := by decide +kernel
theorem d_RD_readEnds_35 : decode prog_6_method_13_code 35 = .ok (.getfield 40, 3) := by decide +kernel
theorem d_RD_readEnds_38 : decode prog_6_method_13_code 38 = .ok (.iload_n 1, 1) := by decide +kernel
theorem d_RD_readEnds_39 : decode prog_6_method_13_code 39 = .ok (.iconst 1, 1) := by decide +kernel
theorem d_RD_readEnds_40 : decode prog_6_method_13_code 40 = .ok (.iadd, 1) := by decide +kernel
theorem d_RD_readEnds_41 : decode prog_6_method_13_code 41 = .ok (.aaload, 1) := by decide +kernel
theorem d_RD_readEnds_42 : decode prog_6_method_13_code 42 = .ok (.invokevirtual 101, 3) := by decide +kernel
theorem d_RD_readEnds_45 : decode prog_6_method_13_code 45 = .ok (.aload_n 0, 1) := by decide +kernel
theorem d_RD_readEnds_46 : decode prog_6_method_13_code 46 = .ok (.iload_n 1, 1) := by decide +kernel
theorem d_RD_readEnds_47 : decode prog_6_method_13_code 47 = .ok (.iconst 1, 1) := by decide +kernel
theorem d_RD_readEnds_48 : decode prog_6_method_13_code 48 = .ok (.iadd, 1) := by decide +kernel
theorem d_RD_readEnds_49 : decode prog_6_method_13_code 49 = .ok (.invokevirtual 74, 3) := by decide +kernel
theorem d_RD_readEnds_52 : decode prog_6_method_13_code 52 = .ok (.ifCond .eq 15, 3) := by decide +kernel
theorem d_RD_readEnds_55 : decode prog_6_method_13_code 55 = .ok (.aload_n 0, 1) := by decide +kernel
theorem d_RD_readEnds_56 : decode prog_6_method_13_code 56 = .ok (.iconst 4, 1) := by decide +kernel
theorem d_RD_readEnds_57 : decode prog_6_method_13_code 57 = .ok (.invokevirtual 88, 3) := by decide +kernel
theorem d_RD_readEnds_60 : decode prog_6_method_13_code 60 = .ok (.ifCond .eq 7, 3) := by decide +kernel
theorem d_RD_readEnds_63 : decode prog_6_method_13_code 63 = .ok (.iconst 1, 1) := by decide +kernel
theorem d_RD_readEnds_64 : decode prog_6_method_13_code 64 = .ok (.goto 4, 3) := by decide +kernel
theorem d_RD_readEnds_67 : decode prog_6_method_13_code 67 = .ok (.iconst 0, 1) := by decide +kernel
theorem d_RD_readEnds_68 : decode prog_6_method_13_code 68 = .ok (.ireturn, 1) := by decide +kernel
theorem d_RD_keep_0 : decode prog_6_method_7_code 0 = .ok (.aload_n 0, 1) := by decide +kernel
theorem d_RD_keep_1 : decode prog_6_method_7_code 1 = .ok (.getfield 49, 3) := by decide +kernel
theorem d_RD_keep_4 : decode prog_6_method_7_code 4 = .ok (.sipush 150, 3) := by decide +kernel
theorem d_RD_keep_7 : decode prog_6_method_7_code 7 = .ok (.if_icmp .ge 31, 3) := by decide +kernel
theorem d_RD_keep_10 : decode prog_6_method_7_code 10 = .ok (.aload_n 0, 1) := by decide +kernel
theorem d_RD_keep_11 : decode prog_6_method_7_code 11 = .ok (.getfield 32, 3) := by decide +kernel
theorem d_RD_keep_14 : decode prog_6_method_7_code 14 = .ok (.aload_n 0, 1) := by decide +kernel
theorem d_RD_keep_15 : decode prog_6_method_7_code 15 = .ok (.getfield 49, 3) := by decide +kernel
theorem d_RD_keep_18 : decode prog_6_method_7_code 18 = .ok (.aaload, 1) := by decide +kernel
theorem d_RD_keep_19 : decode prog_6_method_7_code 19 = .ok (.aload_n 0, 1) := by decide +kernel
theorem d_RD_keep_20 : decode prog_6_method_7_code 20 = .ok (.getfield 40, 3) := by decide +kernel
theorem d_RD_keep_23 : decode prog_6_method_7_code 23 = .ok (.iconst 0, 1) := by decide +kernel
theorem d_RD_keep_24 : decode prog_6_method_7_code 24 = .ok (.aaload, 1) := by decide +kernel
theorem d_RD_keep_25 : decode prog_6_method_7_code 25 = .ok (.invokevirtual 101, 3) := by decide +kernel
theorem d_RD_keep_28 : decode prog_6_method_7_code 28 = .ok (.aload_n 0, 1) := by decide +kernel
theorem d_RD_keep_29 : decode prog_6_method_7_code 29 = .ok (.dup, 1) := by decide +kernel
theorem d_RD_keep_30 : decode prog_6_method_7_code 30 = .ok (.getfield 49, 3) := by decide +kernel
theorem d_RD_keep_33 : decode prog_6_method_7_code 33 = .ok (.iconst 1, 1) := by decide +kernel
theorem d_RD_keep_34 : decode prog_6_method_7_code 34 = .ok (.iadd, 1) := by decide +kernel
theorem d_RD_keep_35 : decode prog_6_method_7_code 35 = .ok (.putfield 49, 3) := by decide +kernel
theorem d_RD_keep_38 : decode prog_6_method_7_code 38 = .ok (.iconst 1, 1) := by decide +kernel
theorem d_RD_keep_39 : decode prog_6_method_7_code 39 = .ok (.ireturn, 1) := by decide +kernel
theorem d_RD_readPath_0 : decode prog_6_method_4_code 0 = .ok (.aload_n 0, 1) := by decide +kernel
theorem d_RD_readPath_1 : decode prog_6_method_4_code 1 = .ok (.invokevirtual 94, 3) := by decide +kernel
theorem d_RD_readPath_4 : decode prog_6_method_4_code 4 = .ok (.istore_n 1, 1) := by decide +kernel
theorem d_RD_readPath_5 : decode prog_6_method_4_code 5 = .ok (.iconst 0, 1) := by decide +kernel
theorem d_RD_readPath_6 : decode prog_6_method_4_code 6 = .ok (.istore_n 2, 1) := by decide +kernel
theorem d_RD_readPath_7 : decode prog_6_method_4_code 7 = .ok (.iconst 0, 1) := by decide +kernel
theorem d_RD_readPath_8 : decode prog_6_method_4_code 8 = .ok (.istore_n 3, 1) := by decide +kernel
theorem d_RD_readPath_9 : decode prog_6_method_4_code 9 = .ok (.iload_n 3, 1) := by decide +kernel
theorem d_RD_readPath_10 : decode prog_6_method_4_code 10 = .ok (.sipush 300, 3) := by decide +kernel
theorem d_RD_readPath_13 : decode prog_6_method_4_code 13 = .ok (.if_icmp .ge 150, 3) := by decide +kernel
theorem d_RD_readPath_16 : decode prog_6_method_4_code 16 = .ok (.iload_n 1, 1) := by decide +kernel
theorem d_RD_readPath_17 : decode prog_6_method_4_code 17 = .ok (.ifCond .eq 146, 3) := by decide +kernel
theorem d_RD_readPath_20 : decode prog_6_method_4_code 20 = .ok (.iload_n 2, 1) := by decide +kernel
theorem d_RD_readPath_21 : decode prog_6_method_4_code 21 = .ok (.ifCond .ne 142, 3) := by decide +kernel
theorem d_RD_readPath_24 : decode prog_6_method_4_code 24 = .ok (.aload_n 0, 1) := by decide +kernel
theorem d_RD_readPath_25 : decode prog_6_method_4_code 25 = .ok (.getfield 14, 3) := by decide +kernel
theorem d_RD_readPath_28 : decode prog_6_method_4_code 28 = .ok (.aload_n 0, 1) := by decide +kernel
theorem d_RD_readPath_29 : decode prog_6_method_4_code 29 = .ok (.getfield 60, 3) := by decide +kernel
theorem d_RD_readPath_32 : decode prog_6_method_4_code 32 = .ok (.bipush 7, 2) := by decide +kernel
theorem d_RD_readPath_34 : decode prog_6_method_4_code 34 = .ok (.invokevirtual 91, 3) := by decide +kernel
theorem d_RD_readPath_37 : decode prog_6_method_4_code 37 = .ok (.ifCond .eq 65, 3) := by decide +kernel
theorem d_RD_readPath_40 : decode prog_6_method_4_code 40 = .ok (.aload_n 0, 1) := by decide +kernel
theorem d_RD_readPath_41 : decode prog_6_method_4_code 41 = .ok (.iconst 1, 1) := by decide +kernel
theorem d_RD_readPath_42 : decode prog_6_method_4_code 42 = .ok (.invokevirtual 97, 3) := by decide +kernel
theorem d_RD_readPath_45 : decode prog_6_method_4_code 45 = .ok (.aload_n 0, 1) := by decide +kernel
theorem d_RD_readPath_46 : decode prog_6_method_4_code 46 = .ok (.bipush 7, 2) := by decide +kernel
theorem d_RD_readPath_48 : decode prog_6_method_4_code 48 = .ok (.invokevirtual 88, 3) := by decide +kernel
theorem d_RD_readPath_51 : decode prog_6_method_4_code 51 = .ok (.ifCond .eq 46, 3) := by decide +kernel
theorem d_RD_readPath_54 : decode prog_6_method_4_code 54 = .ok (.aload_n 0, 1) := by decide +kernel
theorem d_RD_readPath_55 : decode prog_6_method_4_code 55 = .ok (.invokevirtual 94, 3) := by decide +kernel
theorem d_RD_readPath_58 : decode prog_6_method_4_code 58 = .ok (.ifCond .eq 39, 3) := by decide +kernel
theorem d_RD_readPath_61 : decode prog_6_method_4_code 61 = .ok (.aload_n 0, 1) := by decide +kernel
theorem d_RD_readPath_62 : decode prog_6_method_4_code 62 = .ok (.bipush 7, 2) := by decide +kernel
theorem d_RD_readPath_64 : decode prog_6_method_4_code 64 = .ok (.invokevirtual 88, 3) := by decide +kernel
theorem d_RD_readPath_67 : decode prog_6_method_4_code 67 = .ok (.ifCond .eq 30, 3) := by decide +kernel
theorem d_RD_readPath_70 : decode prog_6_method_4_code 70 = .ok (.aload_n 0, 1) := by decide +kernel
theorem d_RD_readPath_71 : decode prog_6_method_4_code 71 = .ok (.invokevirtual 94, 3) := by decide +kernel
theorem d_RD_readPath_74 : decode prog_6_method_4_code 74 = .ok (.ifCond .eq 23, 3) := by decide +kernel
theorem d_RD_readPath_77 : decode prog_6_method_4_code 77 = .ok (.aload_n 0, 1) := by decide +kernel
theorem d_RD_readPath_78 : decode prog_6_method_4_code 78 = .ok (.bipush 7, 2) := by decide +kernel
theorem d_RD_readPath_80 : decode prog_6_method_4_code 80 = .ok (.invokevirtual 88, 3) := by decide +kernel
theorem d_RD_readPath_83 : decode prog_6_method_4_code 83 = .ok (.ifCond .eq 14, 3) := by decide +kernel
theorem d_RD_readPath_86 : decode prog_6_method_4_code 86 = .ok (.aload_n 0, 1) := by decide +kernel
theorem d_RD_readPath_87 : decode prog_6_method_4_code 87 = .ok (.invokevirtual 94, 3) := by decide +kernel
theorem d_RD_readPath_90 : decode prog_6_method_4_code 90 = .ok (.ifCond .eq 7, 3) := by decide +kernel
theorem d_RD_readPath_93 : decode prog_6_method_4_code 93 = .ok (.iconst 1, 1) := by decide +kernel
theorem d_RD_readPath_94 : decode prog_6_method_4_code 94 = .ok (.goto 4, 3) := by decide +kernel
theorem d_RD_readPath_97 : decode prog_6_method_4_code 97 = .ok (.iconst 0, 1) := by decide +kernel
theorem d_RD_readPath_98 : decode prog_6_method_4_code 98 = .ok (.istore_n 1, 1) := by decide +kernel
theorem d_RD_readPath_99 : decode prog_6_method_4_code 99 = .ok (.goto 58, 3) := by decide +kernel
theorem d_RD_readPath_102 : decode prog_6_method_4_code 102 = .ok (.aload_n 0, 1) := by decide +kernel
theorem d_RD_readPath_103 : decode prog_6_method_4_code 103 = .ok (.bipush 8, 2) := by decide +kernel
theorem d_RD_readPath_105 : decode prog_6_method_4_code 105 = .ok (.invokevirtual 88, 3) := by decide +kernel
theorem d_RD_readPath_108 : decode prog_6_method_4_code 108 = .ok (.ifCond .ne 8, 3) := by decide +kernel
theorem d_RD_readPath_111 : decode prog_6_method_4_code 111 = .ok (.iconst 0, 1) := by decide +kernel
theorem d_RD_readPath_112 : decode prog_6_method_4_code 112 = .ok (.istore_n 1, 1) := by decide +kernel
theorem d_RD_readPath_113 : decode prog_6_method_4_code 113 = .ok (.goto 44, 3) := by decide +kernel
theorem d_RD_readPath_116 : decode prog_6_method_4_code 116 = .ok (.aload_n 0, 1) := by decide +kernel
theorem d_RD_readPath_117 : decode prog_6_method_4_code 117 = .ok (.getfield 14, 3) := by decide +kernel
theorem d_RD_readPath_120 : decode prog_6_method_4_code 120 = .ok (.aload_n 0, 1) := by decide +kernel
theorem d_RD_readPath_121 : decode prog_6_method_4_code 121 = .ok (.getfield 60, 3) := by decide +kernel
theorem d_RD_readPath_124 : decode prog_6_method_4_code 124 = .ok (.bipush 9, 2) := by decide +kernel
theorem d_RD_readPath_126 : decode prog_6_method_4_code 126 = .ok (.invokevirtual 91, 3) := by decide +kernel
theorem d_RD_readPath_129 : decode prog_6_method_4_code 129 = .ok (.ifCond .eq 18, 3) := by decide +kernel
theorem d_RD_readPath_132 : decode prog_6_method_4_code 132 = .ok (.aload_n 0, 1) := by decide +kernel
theorem d_RD_readPath_133 : decode prog_6_method_4_code 133 = .ok (.dup, 1) := by decide +kernel
theorem d_RD_readPath_134 : decode prog_6_method_4_code 134 = .ok (.getfield 60, 3) := by decide +kernel
theorem d_RD_readPath_137 : decode prog_6_method_4_code 137 = .ok (.iconst 1, 1) := by decide +kernel
theorem d_RD_readPath_138 : decode prog_6_method_4_code 138 = .ok (.iadd, 1) := by decide +kernel
theorem d_RD_readPath_139 : decode prog_6_method_4_code 139 = .ok (.putfield 60, 3) := by decide +kernel
theorem d_RD_readPath_142 : decode prog_6_method_4_code 142 = .ok (.iconst 1, 1) := by decide +kernel
theorem d_RD_readPath_143 : decode prog_6_method_4_code 143 = .ok (.istore_n 2, 1) := by decide +kernel
theorem d_RD_readPath_144 : decode prog_6_method_4_code 144 = .ok (.goto 13, 3) := by decide +kernel
theorem d_RD_readPath_147 : decode prog_6_method_4_code 147 = .ok (.aload_n 0, 1) := by decide +kernel
theorem d_RD_readPath_148 : decode prog_6_method_4_code 148 = .ok (.iconst 0, 1) := by decide +kernel
theorem d_RD_readPath_149 : decode prog_6_method_4_code 149 = .ok (.invokevirtual 97, 3) := by decide +kernel
theorem d_RD_readPath_152 : decode prog_6_method_4_code 152 = .ok (.aload_n 0, 1) := by decide +kernel
theorem d_RD_readPath_153 : decode prog_6_method_4_code 153 = .ok (.invokevirtual 94, 3) := by decide +kernel
theorem d_RD_readPath_156 : decode prog_6_method_4_code 156 = .ok (.istore_n 1, 1) := by decide +kernel
theorem d_RD_readPath_157 : decode prog_6_method_4_code 157 = .ok (.iinc 3 1, 3) := by decide +kernel
theorem d_RD_readPath_160 : decode prog_6_method_4_code 160 = .ok (.goto (-151), 3) := by decide +kernel
theorem d_RD_readPath_163 : decode prog_6_method_4_code 163 = .ok (.iload_n 1, 1) := by decide +kernel
theorem d_RD_readPath_164 : decode prog_6_method_4_code 164 = .ok (.ireturn, 1) := by decide +kernel
theorem d_RD_readPair_0 : decode prog_6_method_6_code 0 = .ok (.aload_n 0, 1) := by decide +kernel
theorem d_RD_readPair_1 : decode prog_6_method_6_code 1 = .ok (.iconst 3, 1) := by decide +kernel
theorem d_RD_readPair_2 : decode prog_6_method_6_code 2 = .ok (.invokevirtual 88, 3) := by decide +kernel
theorem d_RD_readPair_5 : decode prog_6_method_6_code 5 = .ok (.ifCond .eq 53, 3) := by decide +kernel
theorem d_RD_readPair_8 : decode prog_6_method_6_code 8 = .ok (.aload_n 0, 1) := by decide +kernel
theorem d_RD_readPair_9 : decode prog_6_method_6_code 9 = .ok (.iconst 0, 1) := by decide +kernel
theorem d_RD_readPair_10 : decode prog_6_method_6_code 10 = .ok (.invokevirtual 74, 3) := by decide +kernel
theorem d_RD_readPair_13 : decode prog_6_method_6_code 13 = .ok (.ifCond .eq 45, 3) := by decide +kernel
theorem d_RD_readPair_16 : decode prog_6_method_6_code 16 = .ok (.aload_n 0, 1) := by decide +kernel
theorem d_RD_readPair_17 : decode prog_6_method_6_code 17 = .ok (.invokevirtual 78, 3) := by decide +kernel
theorem d_RD_readPair_20 : decode prog_6_method_6_code 20 = .ok (.ifCond .eq 38, 3) := by decide +kernel
theorem d_RD_readPair_23 : decode prog_6_method_6_code 23 = .ok (.aload_n 0, 1) := by decide +kernel
theorem d_RD_readPair_24 : decode prog_6_method_6_code 24 = .ok (.iconst 5, 1) := by decide +kernel
theorem d_RD_readPair_25 : decode prog_6_method_6_code 25 = .ok (.invokevirtual 88, 3) := by decide +kernel
theorem d_RD_readPair_28 : decode prog_6_method_6_code 28 = .ok (.ifCond .eq 30, 3) := by decide +kernel
theorem d_RD_readPair_31 : decode prog_6_method_6_code 31 = .ok (.aload_n 0, 1) := by decide +kernel
theorem d_RD_readPair_32 : decode prog_6_method_6_code 32 = .ok (.iconst 0, 1) := by decide +kernel
theorem d_RD_readPair_33 : decode prog_6_method_6_code 33 = .ok (.invokevirtual 74, 3) := by decide +kernel
theorem d_RD_readPair_36 : decode prog_6_method_6_code 36 = .ok (.ifCond .eq 22, 3) := by decide +kernel
theorem d_RD_readPair_39 : decode prog_6_method_6_code 39 = .ok (.aload_n 0, 1) := by decide +kernel
theorem d_RD_readPair_40 : decode prog_6_method_6_code 40 = .ok (.invokevirtual 78, 3) := by decide +kernel
theorem d_RD_readPair_43 : decode prog_6_method_6_code 43 = .ok (.ifCond .eq 15, 3) := by decide +kernel
theorem d_RD_readPair_46 : decode prog_6_method_6_code 46 = .ok (.aload_n 0, 1) := by decide +kernel
theorem d_RD_readPair_47 : decode prog_6_method_6_code 47 = .ok (.iconst 4, 1) := by decide +kernel
theorem d_RD_readPair_48 : decode prog_6_method_6_code 48 = .ok (.invokevirtual 88, 3) := by decide +kernel
theorem d_RD_readPair_51 : decode prog_6_method_6_code 51 = .ok (.ifCond .eq 7, 3) := by decide +kernel
theorem d_RD_readPair_54 : decode prog_6_method_6_code 54 = .ok (.iconst 1, 1) := by decide +kernel
theorem d_RD_readPair_55 : decode prog_6_method_6_code 55 = .ok (.goto 4, 3) := by decide +kernel
theorem d_RD_readPair_58 : decode prog_6_method_6_code 58 = .ok (.iconst 0, 1) := by decide +kernel
theorem d_RD_readPair_59 : decode prog_6_method_6_code 59 = .ok (.ireturn, 1) := by decide +kernel
theorem d_RD_countLeg_0 : decode prog_6_method_5_code 0 = .ok (.aload_n 0, 1) := by decide +kernel
theorem d_RD_countLeg_1 : decode prog_6_method_5_code 1 = .ok (.getfield 53, 3) := by decide +kernel
theorem d_RD_countLeg_4 : decode prog_6_method_5_code 4 = .ok (.bipush 12, 2) := by decide +kernel
theorem d_RD_countLeg_6 : decode prog_6_method_5_code 6 = .ok (.if_icmp .ge 13, 3) := by decide +kernel
theorem d_RD_countLeg_9 : decode prog_6_method_5_code 9 = .ok (.aload_n 0, 1) := by decide +kernel
theorem d_RD_countLeg_10 : decode prog_6_method_5_code 10 = .ok (.getfield 36, 3) := by decide +kernel
theorem d_RD_countLeg_13 : decode prog_6_method_5_code 13 = .ok (.aload_n 0, 1) := by decide +kernel
theorem d_RD_countLeg_14 : decode prog_6_method_5_code 14 = .ok (.getfield 53, 3) := by decide +kernel
theorem d_RD_countLeg_17 : decode prog_6_method_5_code 17 = .ok (.iload_n 1, 1) := by decide +kernel
theorem d_RD_countLeg_18 : decode prog_6_method_5_code 18 = .ok (.bastore, 1) := by decide +kernel
theorem d_RD_countLeg_19 : decode prog_6_method_5_code 19 = .ok (.aload_n 0, 1) := by decide +kernel
theorem d_RD_countLeg_20 : decode prog_6_method_5_code 20 = .ok (.dup, 1) := by decide +kernel
theorem d_RD_countLeg_21 : decode prog_6_method_5_code 21 = .ok (.getfield 53, 3) := by decide +kernel
theorem d_RD_countLeg_24 : decode prog_6_method_5_code 24 = .ok (.iconst 1, 1) := by decide +kernel
theorem d_RD_countLeg_25 : decode prog_6_method_5_code 25 = .ok (.iadd, 1) := by decide +kernel
theorem d_RD_countLeg_26 : decode prog_6_method_5_code 26 = .ok (.putfield 53, 3) := by decide +kernel
theorem d_RD_countLeg_29 : decode prog_6_method_5_code 29 = .ok (.return_, 1) := by decide +kernel
theorem d_RD_readEquation_0 : decode prog_6_method_3_code 0 = .ok (.aload_n 0, 1) := by decide +kernel
theorem d_RD_readEquation_1 : decode prog_6_method_3_code 1 = .ok (.iconst 0, 1) := by decide +kernel
theorem d_RD_readEquation_2 : decode prog_6_method_3_code 2 = .ok (.invokevirtual 74, 3) := by decide +kernel
theorem d_RD_readEquation_5 : decode prog_6_method_3_code 5 = .ok (.ifCond .eq 37, 3) := by decide +kernel
theorem d_RD_readEquation_8 : decode prog_6_method_3_code 8 = .ok (.aload_n 0, 1) := by decide +kernel
theorem d_RD_readEquation_9 : decode prog_6_method_3_code 9 = .ok (.invokevirtual 78, 3) := by decide +kernel
theorem d_RD_readEquation_12 : decode prog_6_method_3_code 12 = .ok (.ifCond .eq 30, 3) := by decide +kernel
theorem d_RD_readEquation_15 : decode prog_6_method_3_code 15 = .ok (.aload_n 0, 1) := by decide +kernel
theorem d_RD_readEquation_16 : decode prog_6_method_3_code 16 = .ok (.iconst 2, 1) := by decide +kernel
theorem d_RD_readEquation_17 : decode prog_6_method_3_code 17 = .ok (.invokevirtual 88, 3) := by decide +kernel
theorem d_RD_readEquation_20 : decode prog_6_method_3_code 20 = .ok (.ifCond .eq 22, 3) := by decide +kernel
theorem d_RD_readEquation_23 : decode prog_6_method_3_code 23 = .ok (.aload_n 0, 1) := by decide +kernel
theorem d_RD_readEquation_24 : decode prog_6_method_3_code 24 = .ok (.iconst 0, 1) := by decide +kernel
theorem d_RD_readEquation_25 : decode prog_6_method_3_code 25 = .ok (.invokevirtual 74, 3) := by decide +kernel
theorem d_RD_readEquation_28 : decode prog_6_method_3_code 28 = .ok (.ifCond .eq 14, 3) := by decide +kernel
theorem d_RD_readEquation_31 : decode prog_6_method_3_code 31 = .ok (.aload_n 0, 1) := by decide +kernel
theorem d_RD_readEquation_32 : decode prog_6_method_3_code 32 = .ok (.invokevirtual 78, 3) := by decide +kernel
theorem d_RD_readEquation_35 : decode prog_6_method_3_code 35 = .ok (.ifCond .eq 7, 3) := by decide +kernel
theorem d_RD_readEquation_38 : decode prog_6_method_3_code 38 = .ok (.iconst 1, 1) := by decide +kernel
theorem d_RD_readEquation_39 : decode prog_6_method_3_code 39 = .ok (.goto 4, 3) := by decide +kernel
theorem d_RD_readEquation_42 : decode prog_6_method_3_code 42 = .ok (.iconst 0, 1) := by decide +kernel
theorem d_RD_readEquation_43 : decode prog_6_method_3_code 43 = .ok (.istore_n 1, 1) := by decide +kernel
theorem d_RD_readEquation_44 : decode prog_6_method_3_code 44 = .ok (.iconst 0, 1) := by decide +kernel
theorem d_RD_readEquation_45 : decode prog_6_method_3_code 45 = .ok (.istore_n 2, 1) := by decide +kernel
theorem d_RD_readEquation_46 : decode prog_6_method_3_code 46 = .ok (.iload_n 2, 1) := by decide +kernel
theorem d_RD_readEquation_47 : decode prog_6_method_3_code 47 = .ok (.sipush 150, 3) := by decide +kernel
theorem d_RD_readEquation_50 : decode prog_6_method_3_code 50 = .ok (.if_icmp .ge 59, 3) := by decide +kernel
theorem d_RD_readEquation_53 : decode prog_6_method_3_code 53 = .ok (.iload_n 1, 1) := by decide +kernel
theorem d_RD_readEquation_54 : decode prog_6_method_3_code 54 = .ok (.ifCond .eq 55, 3) := by decide +kernel
theorem d_RD_readEquation_57 : decode prog_6_method_3_code 57 = .ok (.aload_n 0, 1) := by decide +kernel
theorem d_RD_readEquation_58 : decode prog_6_method_3_code 58 = .ok (.getfield 14, 3) := by decide +kernel
theorem d_RD_readEquation_61 : decode prog_6_method_3_code 61 = .ok (.aload_n 0, 1) := by decide +kernel
theorem d_RD_readEquation_62 : decode prog_6_method_3_code 62 = .ok (.getfield 60, 3) := by decide +kernel
theorem d_RD_readEquation_65 : decode prog_6_method_3_code 65 = .ok (.iconst 2, 1) := by decide +kernel
theorem d_RD_readEquation_66 : decode prog_6_method_3_code 66 = .ok (.invokevirtual 91, 3) := by decide +kernel
theorem d_RD_readEquation_69 : decode prog_6_method_3_code 69 = .ok (.ifCond .eq 40, 3) := by decide +kernel
theorem d_RD_readEquation_72 : decode prog_6_method_3_code 72 = .ok (.aload_n 0, 1) := by decide +kernel
theorem d_RD_readEquation_73 : decode prog_6_method_3_code 73 = .ok (.dup, 1) := by decide +kernel
theorem d_RD_readEquation_74 : decode prog_6_method_3_code 74 = .ok (.getfield 60, 3) := by decide +kernel
theorem d_RD_readEquation_77 : decode prog_6_method_3_code 77 = .ok (.iconst 1, 1) := by decide +kernel
theorem d_RD_readEquation_78 : decode prog_6_method_3_code 78 = .ok (.iadd, 1) := by decide +kernel
theorem d_RD_readEquation_79 : decode prog_6_method_3_code 79 = .ok (.putfield 60, 3) := by decide +kernel
theorem d_RD_readEquation_82 : decode prog_6_method_3_code 82 = .ok (.aload_n 0, 1) := by decide +kernel
theorem d_RD_readEquation_83 : decode prog_6_method_3_code 83 = .ok (.iconst 0, 1) := by decide +kernel
theorem d_RD_readEquation_84 : decode prog_6_method_3_code 84 = .ok (.invokevirtual 74, 3) := by decide +kernel
theorem d_RD_readEquation_87 : decode prog_6_method_3_code 87 = .ok (.ifCond .eq 14, 3) := by decide +kernel
theorem d_RD_readEquation_90 : decode prog_6_method_3_code 90 = .ok (.aload_n 0, 1) := by decide +kernel
theorem d_RD_readEquation_91 : decode prog_6_method_3_code 91 = .ok (.invokevirtual 78, 3) := by decide +kernel
theorem d_RD_readEquation_94 : decode prog_6_method_3_code 94 = .ok (.ifCond .eq 7, 3) := by decide +kernel
theorem d_RD_readEquation_97 : decode prog_6_method_3_code 97 = .ok (.iconst 1, 1) := by decide +kernel
theorem d_RD_readEquation_98 : decode prog_6_method_3_code 98 = .ok (.goto 4, 3) := by decide +kernel
theorem d_RD_readEquation_101 : decode prog_6_method_3_code 101 = .ok (.iconst 0, 1) := by decide +kernel
theorem d_RD_readEquation_102 : decode prog_6_method_3_code 102 = .ok (.istore_n 1, 1) := by decide +kernel
theorem d_RD_readEquation_103 : decode prog_6_method_3_code 103 = .ok (.iinc 2 1, 3) := by decide +kernel
theorem d_RD_readEquation_106 : decode prog_6_method_3_code 106 = .ok (.goto (-60), 3) := by decide +kernel
theorem d_RD_readEquation_109 : decode prog_6_method_3_code 109 = .ok (.iload_n 1, 1) := by decide +kernel
theorem d_RD_readEquation_110 : decode prog_6_method_3_code 110 = .ok (.ireturn, 1) := by decide +kernel
theorem RD_o3 : Cond.methodLink "GlyphCompiler$Reader" 3 objectInit ∈ jTs ∧ Cond.instanceMethod objectInit ∈ jTs ∧ Cond.code objectInit ⟨#[0xb1]⟩ 1 none ∈ jTs := ⟨(jin_t (jin_1 88 rfl) rfl), (jin_t (jin_1 20 rfl) rfl), (jin_t (jin_1 21 rfl) rfl)⟩
theorem RD_c11 : jLk "GlyphCompiler$Reader" 11 Y_TR_init := Or.inl (jin_t (jin_1 90 rfl) rfl)
theorem RD_w14 (y : MethodName) (h : y.cls = "GlyphCompiler$Reader") (h2 : y.name = "<init>") : jFw y 14 2 0 (.object "GlyphCompiler$TokenRow") := ⟨R_RD, T_RD, 13, rfl, Nat.le_of_ble_eq_true rfl, by decide +kernel, Or.inr ⟨rfl, h2, h.symm, by rw [h]; exact (jin_t (jin_1 139 rfl) rfl)⟩⟩
theorem RD_c22 : jLk "GlyphCompiler$Reader" 22 Y_VA_init := Or.inl (jin_t (jin_1 93 rfl) rfl)
theorem RD_w23 (y : MethodName) (h : y.cls = "GlyphCompiler$Reader") (h2 : y.name = "<init>") : jFw y 23 2 1 (.object "GlyphCompiler$Variables") := ⟨R_RD, T_RD, 13, rfl, Nat.le_of_ble_eq_true rfl, by decide +kernel, Or.inr ⟨rfl, h2, h.symm, by rw [h]; exact (jin_t (jin_1 141 rfl) rfl)⟩⟩
theorem RD_c27 : jLk "GlyphCompiler$Reader" 27 Y_FO_row := Or.inl (jin_t (jin_1 138 rfl) rfl)
theorem RD_w32 (y : MethodName) (h : y.cls = "GlyphCompiler$Reader") (h2 : y.name = "<init>") : jFw y 32 2 5 (.array (.object "GlyphCompiler$Form")) := ⟨R_RD, T_RD, 13, rfl, Nat.le_of_ble_eq_true rfl, by decide +kernel, Or.inr ⟨rfl, h2, h.symm, by rw [h]; exact (jin_t (jin_1 149 rfl) rfl)⟩⟩
theorem RD_w36 (y : MethodName) (h : y.cls = "GlyphCompiler$Reader") (h2 : y.name = "<init>") : jFw y 36 2 8 (.array .boolean) := ⟨R_RD, T_RD, 13, rfl, Nat.le_of_ble_eq_true rfl, by decide +kernel, Or.inr ⟨rfl, h2, h.symm, by rw [h]; exact (jin_t (jin_1 155 rfl) rfl)⟩⟩
theorem RD_w40 (y : MethodName) (h : y.cls = "GlyphCompiler$Reader") (h2 : y.name = "<init>") : jFw y 40 2 10 (.array (.object "GlyphCompiler$Form")) := ⟨R_RD, T_RD, 13, rfl, Nat.le_of_ble_eq_true rfl, by decide +kernel, Or.inr ⟨rfl, h2, h.symm, by rw [h]; exact (jin_t (jin_1 159 rfl) rfl)⟩⟩
theorem RD_w43 (y : MethodName) (h : y.cls = "GlyphCompiler$Reader") (h2 : y.name = "<init>") : jFw y 43 2 11 (.array (.object "GlyphCompiler$Form")) := ⟨R_RD, T_RD, 13, rfl, Nat.le_of_ble_eq_true rfl, by decide +kernel, Or.inr ⟨rfl, h2, h.symm, by rw [h]; exact (jin_t (jin_1 160 rfl) rfl)⟩⟩
theorem RD_w46 (y : MethodName) (h : y.cls = "GlyphCompiler$Reader") (h2 : y.name = "<init>") : jFw y 46 2 12 (.array (.object "GlyphCompiler$Form")) := ⟨R_RD, T_RD, 13, rfl, Nat.le_of_ble_eq_true rfl, by decide +kernel, Or.inr ⟨rfl, h2, h.symm, by rw [h]; exact (jin_t (jin_1 161 rfl) rfl)⟩⟩
theorem RD_w49 (y : MethodName) (h : y.cls = "GlyphCompiler$Reader") : jFw y 49 2 6 .int := ⟨R_RD, T_RD, 13, rfl, Nat.le_of_ble_eq_true rfl, by decide +kernel, Or.inl ⟨rfl, Or.inl (by rw [h]; exact (jin_t (jin_1 151 rfl) rfl))⟩⟩
theorem RD_w53 (y : MethodName) (h : y.cls = "GlyphCompiler$Reader") : jFw y 53 2 9 .int := ⟨R_RD, T_RD, 13, rfl, Nat.le_of_ble_eq_true rfl, by decide +kernel, Or.inl ⟨rfl, Or.inl (by rw [h]; exact (jin_t (jin_1 157 rfl) rfl))⟩⟩
theorem RD_w56 (y : MethodName) (h : y.cls = "GlyphCompiler$Reader") : jFw y 56 2 7 .boolean := ⟨R_RD, T_RD, 13, rfl, Nat.le_of_ble_eq_true rfl, by decide +kernel, Or.inl ⟨rfl, Or.inl (by rw [h]; exact (jin_t (jin_1 153 rfl) rfl))⟩⟩
theorem RD_f14 : jFl "GlyphCompiler$Reader" 14 2 0 := ⟨R_RD, T_RD, 13, rfl, Nat.le_of_ble_eq_true rfl, Or.inl (jin_t (jin_1 139 rfl) rfl)⟩
theorem RD_f60 : jFl "GlyphCompiler$Reader" 60 2 2 := ⟨R_RD, T_RD, 13, rfl, Nat.le_of_ble_eq_true rfl, Or.inl (jin_t (jin_1 143 rfl) rfl)⟩
theorem RD_c63 : jLk "GlyphCompiler$Reader" 63 Y_TR_isKind := Or.inl (jin_t (jin_2 102 rfl) rfl)
theorem RD_f67 : jFl "GlyphCompiler$Reader" 67 0 1 := ⟨R_TR, T_TR, 4, rfl, Nat.le_of_ble_eq_true rfl, Or.inl (jin_t (jin_1 32 rfl) rfl)⟩
theorem RD_w71 (y : MethodName) (h : y.cls = "GlyphCompiler$Reader") : jFw y 71 2 4 .int := ⟨R_RD, T_RD, 13, rfl, Nat.le_of_ble_eq_true rfl, by decide +kernel, Or.inl ⟨rfl, Or.inl (by rw [h]; exact (jin_t (jin_1 147 rfl) rfl))⟩⟩
theorem RD_f71 : jFl "GlyphCompiler$Reader" 71 2 4 := ⟨R_RD, T_RD, 13, rfl, Nat.le_of_ble_eq_true rfl, Or.inl (jin_t (jin_1 147 rfl) rfl)⟩
theorem RD_w60 (y : MethodName) (h : y.cls = "GlyphCompiler$Reader") : jFw y 60 2 2 .int := ⟨R_RD, T_RD, 13, rfl, Nat.le_of_ble_eq_true rfl, by decide +kernel, Or.inl ⟨rfl, Or.inl (by rw [h]; exact (jin_t (jin_1 143 rfl) rfl))⟩⟩
theorem RD_c74 : jLk "GlyphCompiler$Reader" 74 Y_RD_readExpression := Or.inl (jin_t (jin_2 106 rfl) rfl)
theorem RD_c78 : jLk "GlyphCompiler$Reader" 78 Y_RD_keep := Or.inl (jin_t (jin_2 164 rfl) rfl)
theorem RD_c82 : jLk "GlyphCompiler$Reader" 82 Y_RD_readPath := Or.inl (jin_t (jin_2 168 rfl) rfl)
theorem RD_c85 : jLk "GlyphCompiler$Reader" 85 Y_RD_readEquation := Or.inl (jin_t (jin_2 180 rfl) rfl)
theorem RD_c88 : jLk "GlyphCompiler$Reader" 88 Y_RD_take := Or.inl (jin_t (jin_2 124 rfl) rfl)
theorem RD_w111 (y : MethodName) (h : y.cls = "GlyphCompiler$Reader") : jFw y 111 2 3 .int := ⟨R_RD, T_RD, 13, rfl, Nat.le_of_ble_eq_true rfl, by decide +kernel, Or.inl ⟨rfl, Or.inl (by rw [h]; exact (jin_t (jin_1 146 rfl) rfl))⟩⟩
theorem RD_f40 : jFl "GlyphCompiler$Reader" 40 2 10 := ⟨R_RD, T_RD, 13, rfl, Nat.le_of_ble_eq_true rfl, Or.inl (jin_t (jin_1 159 rfl) rfl)⟩
theorem RD_c114 : jLk "GlyphCompiler$Reader" 114 Y_FO_set := Or.inl (jin_t (jin_2 110 rfl) rfl)
theorem RD_c118 : jLk "GlyphCompiler$Reader" 118 Y_RD_readTerm := Or.inl (jin_t (jin_2 111 rfl) rfl)
theorem RD_f43 : jFl "GlyphCompiler$Reader" 43 2 11 := ⟨R_RD, T_RD, 13, rfl, Nat.le_of_ble_eq_true rfl, Or.inl (jin_t (jin_1 160 rfl) rfl)⟩
theorem RD_c121 : jLk "GlyphCompiler$Reader" 121 Y_FO_subtract := Or.inl (jin_t (jin_2 152 rfl) rfl)
theorem RD_c124 : jLk "GlyphCompiler$Reader" 124 Y_FO_add := Or.inl (jin_t (jin_2 156 rfl) rfl)
theorem RD_c91 : jLk "GlyphCompiler$Reader" 91 Y_TR_isWord := Or.inl (jin_t (jin_2 115 rfl) rfl)
theorem RD_c127 : jLk "GlyphCompiler$Reader" 127 Y_FO_hasNumbers := Or.inl (jin_t (jin_2 160 rfl) rfl)
theorem RD_f56 : jFl "GlyphCompiler$Reader" 56 2 7 := ⟨R_RD, T_RD, 13, rfl, Nat.le_of_ble_eq_true rfl, Or.inl (jin_t (jin_1 153 rfl) rfl)⟩
theorem RD_f105 : jFl "GlyphCompiler$Reader" 105 0 3 := ⟨R_TR, T_TR, 4, rfl, Nat.le_of_ble_eq_true rfl, Or.inl (jin_t (jin_1 39 rfl) rfl)⟩
theorem RD_c130 : jLk "GlyphCompiler$Reader" 130 Y_RD_readPrimary := Or.inl (jin_t (jin_2 116 rfl) rfl)
theorem RD_c133 : jLk "GlyphCompiler$Reader" 133 Y_FO_multiply := Or.inl (jin_t (jin_2 128 rfl) rfl)
theorem RD_c136 : jLk "GlyphCompiler$Reader" 136 Y_RD_check := Or.inl (jin_t (jin_2 138 rfl) rfl)
theorem RD_c140 : jLk "GlyphCompiler$Reader" 140 Y_RD_readEnds := Or.inl (jin_t (jin_2 142 rfl) rfl)
theorem RD_f46 : jFl "GlyphCompiler$Reader" 46 2 12 := ⟨R_RD, T_RD, 13, rfl, Nat.le_of_ble_eq_true rfl, Or.inl (jin_t (jin_1 161 rfl) rfl)⟩
theorem RD_c143 : jLk "GlyphCompiler$Reader" 143 Y_FO_setBetween := Or.inl (jin_t (jin_2 146 rfl) rfl)
theorem RD_k147 : Jvm.Cond.constantLong "GlyphCompiler$Reader" 147 (jL 4096) ∈ jTs := by rw [show jL 4096 = 4096 by decide]; exact (jin_t (jin_2 151 rfl) rfl)
theorem RD_f23 : jFl "GlyphCompiler$Reader" 23 2 1 := ⟨R_RD, T_RD, 13, rfl, Nat.le_of_ble_eq_true rfl, Or.inl (jin_t (jin_1 141 rfl) rfl)⟩
theorem RD_f149 : jFl "GlyphCompiler$Reader" 149 3 1 := ⟨R_VA, T_VA, 4, rfl, Nat.le_of_ble_eq_true rfl, Or.inl (jin_t (jin_1 125 rfl) rfl)⟩
theorem RD_c101 : jLk "GlyphCompiler$Reader" 101 Y_FO_copy := Or.inl (jin_t (jin_2 120 rfl) rfl)
theorem RD_f108 : jFl "GlyphCompiler$Reader" 108 0 0 := ⟨R_TR, T_TR, 4, rfl, Nat.le_of_ble_eq_true rfl, Or.inl (jin_t (jin_1 30 rfl) rfl)⟩
theorem RD_f49 : jFl "GlyphCompiler$Reader" 49 2 6 := ⟨R_RD, T_RD, 13, rfl, Nat.le_of_ble_eq_true rfl, Or.inl (jin_t (jin_1 151 rfl) rfl)⟩
theorem RD_f32 : jFl "GlyphCompiler$Reader" 32 2 5 := ⟨R_RD, T_RD, 13, rfl, Nat.le_of_ble_eq_true rfl, Or.inl (jin_t (jin_1 149 rfl) rfl)⟩
theorem RD_c94 : jLk "GlyphCompiler$Reader" 94 Y_RD_readPair := Or.inl (jin_t (jin_2 172 rfl) rfl)
theorem RD_c97 : jLk "GlyphCompiler$Reader" 97 Y_RD_countLeg := Or.inl (jin_t (jin_2 176 rfl) rfl)
theorem RD_f53 : jFl "GlyphCompiler$Reader" 53 2 9 := ⟨R_RD, T_RD, 13, rfl, Nat.le_of_ble_eq_true rfl, Or.inl (jin_t (jin_1 157 rfl) rfl)⟩
theorem RD_f36 : jFl "GlyphCompiler$Reader" 36 2 8 := ⟨R_RD, T_RD, 13, rfl, Nat.le_of_ble_eq_true rfl, Or.inl (jin_t (jin_1 155 rfl) rfl)⟩
theorem yk_RD_init : jYok Y_RD_init 0 := ⟨(jin_t (jin_1 87 rfl) rfl), (jin_t (jin_1 4 rfl) rfl), ⟨by decide +kernel, by decide +kernel⟩, by decide +kernel⟩
theorem yv_RD_init : Cond.instanceMethod (yN Y_RD_init) ∈ jTs := (jin_t (jin_1 86 rfl) rfl)
theorem yk_RD_readStatement : jYok Y_RD_readStatement 0 := ⟨(jin_t (jin_2 101 rfl) rfl), (jin_t (jin_1 4 rfl) rfl), ⟨by decide +kernel, by decide +kernel⟩, by decide +kernel⟩
theorem yv_RD_readStatement : Cond.instanceMethod (yN Y_RD_readStatement) ∈ jTs ∧ Cond.selects (yN Y_RD_readStatement).cls (yN Y_RD_readStatement) (yN Y_RD_readStatement) ∈ jTs := ⟨(jin_t (jin_2 99 rfl) rfl), (jin_t (jin_2 100 rfl) rfl)⟩
theorem yk_RD_readExpression : jYok Y_RD_readExpression 1 := ⟨(jin_t (jin_2 109 rfl) rfl), (jin_t (jin_1 4 rfl) rfl), ⟨by decide +kernel, by decide +kernel⟩, by decide +kernel⟩
theorem yv_RD_readExpression : Cond.instanceMethod (yN Y_RD_readExpression) ∈ jTs ∧ Cond.selects (yN Y_RD_readExpression).cls (yN Y_RD_readExpression) (yN Y_RD_readExpression) ∈ jTs := ⟨(jin_t (jin_2 108 rfl) rfl), (jin_p (List.mem_map.mpr ⟨(({ cls := "GlyphCompiler$Reader", name := "readExpression", desc := "(I)Z" } : Jvm.MethodName), 13), by decide +kernel, rfl⟩) rfl)⟩
theorem yk_RD_readTerm : jYok Y_RD_readTerm 1 := ⟨(jin_t (jin_2 114 rfl) rfl), (jin_t (jin_1 4 rfl) rfl), ⟨by decide +kernel, by decide +kernel⟩, by decide +kernel⟩
theorem yv_RD_readTerm : Cond.instanceMethod (yN Y_RD_readTerm) ∈ jTs ∧ Cond.selects (yN Y_RD_readTerm).cls (yN Y_RD_readTerm) (yN Y_RD_readTerm) ∈ jTs := ⟨(jin_t (jin_2 113 rfl) rfl), (jin_p (List.mem_map.mpr ⟨(({ cls := "GlyphCompiler$Reader", name := "readTerm", desc := "(I)Z" } : Jvm.MethodName), 13), by decide +kernel, rfl⟩) rfl)⟩
theorem yk_RD_readPrimary : jYok Y_RD_readPrimary 1 := ⟨(jin_t (jin_2 119 rfl) rfl), (jin_t (jin_1 4 rfl) rfl), ⟨by decide +kernel, by decide +kernel⟩, by decide +kernel⟩
theorem yv_RD_readPrimary : Cond.instanceMethod (yN Y_RD_readPrimary) ∈ jTs ∧ Cond.selects (yN Y_RD_readPrimary).cls (yN Y_RD_readPrimary) (yN Y_RD_readPrimary) ∈ jTs := ⟨(jin_t (jin_2 118 rfl) rfl), (jin_p (List.mem_map.mpr ⟨(({ cls := "GlyphCompiler$Reader", name := "readPrimary", desc := "(I)Z" } : Jvm.MethodName), 13), by decide +kernel, rfl⟩) rfl)⟩
theorem yk_RD_take : jYok Y_RD_take 1 := ⟨(jin_t (jin_2 127 rfl) rfl), (jin_t (jin_1 4 rfl) rfl), ⟨by decide +kernel, by decide +kernel⟩, by decide +kernel⟩
theorem yv_RD_take : Cond.instanceMethod (yN Y_RD_take) ∈ jTs ∧ Cond.selects (yN Y_RD_take).cls (yN Y_RD_take) (yN Y_RD_take) ∈ jTs := ⟨(jin_t (jin_2 126 rfl) rfl), (jin_p (List.mem_map.mpr ⟨(({ cls := "GlyphCompiler$Reader", name := "take", desc := "(I)Z" } : Jvm.MethodName), 13), by decide +kernel, rfl⟩) rfl)⟩
theorem yk_RD_check : jYok Y_RD_check 1 := ⟨(jin_t (jin_2 141 rfl) rfl), (jin_t (jin_1 4 rfl) rfl), ⟨by decide +kernel, by decide +kernel⟩, by decide +kernel⟩
theorem yv_RD_check : Cond.instanceMethod (yN Y_RD_check) ∈ jTs ∧ Cond.selects (yN Y_RD_check).cls (yN Y_RD_check) (yN Y_RD_check) ∈ jTs := ⟨(jin_t (jin_2 140 rfl) rfl), (jin_p (List.mem_map.mpr ⟨(({ cls := "GlyphCompiler$Reader", name := "check", desc := "(Z)Z" } : Jvm.MethodName), 13), by decide +kernel, rfl⟩) rfl)⟩
theorem yk_RD_readEnds : jYok Y_RD_readEnds 1 := ⟨(jin_t (jin_2 145 rfl) rfl), (jin_t (jin_1 4 rfl) rfl), ⟨by decide +kernel, by decide +kernel⟩, by decide +kernel⟩
theorem yv_RD_readEnds : Cond.instanceMethod (yN Y_RD_readEnds) ∈ jTs ∧ Cond.selects (yN Y_RD_readEnds).cls (yN Y_RD_readEnds) (yN Y_RD_readEnds) ∈ jTs := ⟨(jin_t (jin_2 144 rfl) rfl), (jin_p (List.mem_map.mpr ⟨(({ cls := "GlyphCompiler$Reader", name := "readEnds", desc := "(I)Z" } : Jvm.MethodName), 13), by decide +kernel, rfl⟩) rfl)⟩
theorem yk_RD_keep : jYok Y_RD_keep 0 := ⟨(jin_t (jin_2 167 rfl) rfl), (jin_t (jin_1 4 rfl) rfl), ⟨by decide +kernel, by decide +kernel⟩, by decide +kernel⟩
theorem yv_RD_keep : Cond.instanceMethod (yN Y_RD_keep) ∈ jTs ∧ Cond.selects (yN Y_RD_keep).cls (yN Y_RD_keep) (yN Y_RD_keep) ∈ jTs := ⟨(jin_t (jin_2 166 rfl) rfl), (jin_p (List.mem_map.mpr ⟨(({ cls := "GlyphCompiler$Reader", name := "keep", desc := "()Z" } : Jvm.MethodName), 13), by decide +kernel, rfl⟩) rfl)⟩
theorem yk_RD_readPath : jYok Y_RD_readPath 0 := ⟨(jin_t (jin_2 171 rfl) rfl), (jin_t (jin_1 4 rfl) rfl), ⟨by decide +kernel, by decide +kernel⟩, by decide +kernel⟩
theorem yv_RD_readPath : Cond.instanceMethod (yN Y_RD_readPath) ∈ jTs ∧ Cond.selects (yN Y_RD_readPath).cls (yN Y_RD_readPath) (yN Y_RD_readPath) ∈ jTs := ⟨(jin_t (jin_2 170 rfl) rfl), (jin_p (List.mem_map.mpr ⟨(({ cls := "GlyphCompiler$Reader", name := "readPath", desc := "()Z" } : Jvm.MethodName), 13), by decide +kernel, rfl⟩) rfl)⟩
theorem yk_RD_readPair : jYok Y_RD_readPair 0 := ⟨(jin_t (jin_2 175 rfl) rfl), (jin_t (jin_1 4 rfl) rfl), ⟨by decide +kernel, by decide +kernel⟩, by decide +kernel⟩
theorem yv_RD_readPair : Cond.instanceMethod (yN Y_RD_readPair) ∈ jTs ∧ Cond.selects (yN Y_RD_readPair).cls (yN Y_RD_readPair) (yN Y_RD_readPair) ∈ jTs := ⟨(jin_t (jin_2 174 rfl) rfl), (jin_p (List.mem_map.mpr ⟨(({ cls := "GlyphCompiler$Reader", name := "readPair", desc := "()Z" } : Jvm.MethodName), 13), by decide +kernel, rfl⟩) rfl)⟩
theorem yk_RD_countLeg : jYok Y_RD_countLeg 1 := ⟨(jin_t (jin_2 179 rfl) rfl), (jin_t (jin_1 4 rfl) rfl), ⟨by decide +kernel, by decide +kernel⟩, by decide +kernel⟩
theorem yv_RD_countLeg : Cond.instanceMethod (yN Y_RD_countLeg) ∈ jTs ∧ Cond.selects (yN Y_RD_countLeg).cls (yN Y_RD_countLeg) (yN Y_RD_countLeg) ∈ jTs := ⟨(jin_t (jin_2 178 rfl) rfl), (jin_p (List.mem_map.mpr ⟨(({ cls := "GlyphCompiler$Reader", name := "countLeg", desc := "(Z)V" } : Jvm.MethodName), 13), by decide +kernel, rfl⟩) rfl)⟩
theorem yk_RD_readEquation : jYok Y_RD_readEquation 0 := ⟨(jin_t (jin_2 183 rfl) rfl), (jin_t (jin_1 4 rfl) rfl), ⟨by decide +kernel, by decide +kernel⟩, by decide +kernel⟩
theorem yv_RD_readEquation : Cond.instanceMethod (yN Y_RD_readEquation) ∈ jTs ∧ Cond.selects (yN Y_RD_readEquation).cls (yN Y_RD_readEquation) (yN Y_RD_readEquation) ∈ jTs := ⟨(jin_t (jin_2 182 rfl) rfl), (jin_p (List.mem_map.mpr ⟨(({ cls := "GlyphCompiler$Reader", name := "readEquation", desc := "()Z" } : Jvm.MethodName), 13), by decide +kernel, rfl⟩) rfl)⟩

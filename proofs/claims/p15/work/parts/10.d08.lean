theorem d_GM_arguments_0 : decode prog_10_method_7_code 0 = .ok (.aload_n 0, 1) := by decide +kernel
theorem d_GM_arguments_1 : decode prog_10_method_7_code 1 = .ok (.iload_n 1, 1) := by decide +kernel
theorem d_GM_arguments_2 : decode prog_10_method_7_code 2 = .ok (.iconst 1, 1) := by decide +kernel
theorem d_GM_arguments_3 : decode prog_10_method_7_code 3 = .ok (.iadd, 1) := by decide +kernel
theorem d_GM_arguments_4 : decode prog_10_method_7_code 4 = .ok (.iconst 3, 1) := by decide +kernel
theorem d_GM_arguments_5 : decode prog_10_method_7_code 5 = .ok (.invokevirtual 156, 3) := by decide +kernel
theorem d_GM_arguments_8 : decode prog_10_method_7_code 8 = .ok (.ifCond .ne 5, 3) := by decide +kernel
theorem d_GM_arguments_11 : decode prog_10_method_7_code 11 = .ok (.iconst (-1), 1) := by decide +kernel
theorem d_GM_arguments_12 : decode prog_10_method_7_code 12 = .ok (.ireturn, 1) := by decide +kernel
theorem d_GM_arguments_13 : decode prog_10_method_7_code 13 = .ok (.iload_n 1, 1) := by decide +kernel
theorem d_GM_arguments_14 : decode prog_10_method_7_code 14 = .ok (.iconst 2, 1) := by decide +kernel
theorem d_GM_arguments_15 : decode prog_10_method_7_code 15 = .ok (.iadd, 1) := by decide +kernel
theorem d_GM_arguments_16 : decode prog_10_method_7_code 16 = .ok (.istore_n 3, 1) := by decide +kernel
theorem d_GM_arguments_17 : decode prog_10_method_7_code 17 = .ok (.iconst 0, 1) := by decide +kernel
theorem d_GM_arguments_18 : decode prog_10_method_7_code 18 = .ok (.istore 4, 2) := by decide +kernel
theorem d_GM_arguments_20 : decode prog_10_method_7_code 20 = .ok (.iload 4, 2) := by decide +kernel
theorem d_GM_arguments_22 : decode prog_10_method_7_code 22 = .ok (.iload_n 2, 1) := by decide +kernel
theorem d_GM_arguments_23 : decode prog_10_method_7_code 23 = .ok (.if_icmp .ge 123, 3) := by decide +kernel
theorem d_GM_arguments_26 : decode prog_10_method_7_code 26 = .ok (.iconst 0, 1) := by decide +kernel
theorem d_GM_arguments_27 : decode prog_10_method_7_code 27 = .ok (.istore 5, 2) := by decide +kernel
theorem d_GM_arguments_29 : decode prog_10_method_7_code 29 = .ok (.aload_n 0, 1) := by decide +kernel
theorem d_GM_arguments_30 : decode prog_10_method_7_code 30 = .ok (.getfield 96, 3) := by decide +kernel
theorem d_GM_arguments_33 : decode prog_10_method_7_code 33 = .ok (.iload 4, 2) := by decide +kernel
theorem d_GM_arguments_35 : decode prog_10_method_7_code 35 = .ok (.iload_n 3, 1) := by decide +kernel
theorem d_GM_arguments_36 : decode prog_10_method_7_code 36 = .ok (.iastore, 1) := by decide +kernel
theorem d_GM_arguments_37 : decode prog_10_method_7_code 37 = .ok (.iload_n 3, 1) := by decide +kernel
theorem d_GM_arguments_38 : decode prog_10_method_7_code 38 = .ok (.aload_n 0, 1) := by decide +kernel
theorem d_GM_arguments_39 : decode prog_10_method_7_code 39 = .ok (.getfield 13, 3) := by decide +kernel
theorem d_GM_arguments_42 : decode prog_10_method_7_code 42 = .ok (.if_icmp .ge 56, 3) := by decide +kernel
theorem d_GM_arguments_45 : decode prog_10_method_7_code 45 = .ok (.iload 5, 2) := by decide +kernel
theorem d_GM_arguments_47 : decode prog_10_method_7_code 47 = .ok (.ifCond .gt 21, 3) := by decide +kernel
theorem d_GM_arguments_50 : decode prog_10_method_7_code 50 = .ok (.aload_n 0, 1) := by decide +kernel
theorem d_GM_arguments_51 : decode prog_10_method_7_code 51 = .ok (.iload_n 3, 1) := by decide +kernel
theorem d_GM_arguments_52 : decode prog_10_method_7_code 52 = .ok (.iconst 5, 1) := by decide +kernel
theorem d_GM_arguments_53 : decode prog_10_method_7_code 53 = .ok (.invokevirtual 156, 3) := by decide +kernel
theorem d_GM_arguments_56 : decode prog_10_method_7_code 56 = .ok (.ifCond .ne 42, 3) := by decide +kernel
theorem d_GM_arguments_59 : decode prog_10_method_7_code 59 = .ok (.aload_n 0, 1) := by decide +kernel
theorem d_GM_arguments_60 : decode prog_10_method_7_code 60 = .ok (.iload_n 3, 1) := by decide +kernel
theorem d_GM_arguments_61 : decode prog_10_method_7_code 61 = .ok (.iconst 4, 1) := by decide +kernel
theorem d_GM_arguments_62 : decode prog_10_method_7_code 62 = .ok (.invokevirtual 156, 3) := by decide +kernel
theorem d_GM_arguments_65 : decode prog_10_method_7_code 65 = .ok (.ifCond .ne 33, 3) := by decide +kernel
theorem d_GM_arguments_68 : decode prog_10_method_7_code 68 = .ok (.aload_n 0, 1) := by decide +kernel
theorem d_GM_arguments_69 : decode prog_10_method_7_code 69 = .ok (.iload_n 3, 1) := by decide +kernel
theorem d_GM_arguments_70 : decode prog_10_method_7_code 70 = .ok (.iconst 3, 1) := by decide +kernel
theorem d_GM_arguments_71 : decode prog_10_method_7_code 71 = .ok (.invokevirtual 156, 3) := by decide +kernel
theorem d_GM_arguments_74 : decode prog_10_method_7_code 74 = .ok (.ifCond .eq 6, 3) := by decide +kernel
theorem d_GM_arguments_77 : decode prog_10_method_7_code 77 = .ok (.iinc 5 1, 3) := by decide +kernel
theorem d_GM_arguments_80 : decode prog_10_method_7_code 80 = .ok (.aload_n 0, 1) := by decide +kernel
theorem d_GM_arguments_81 : decode prog_10_method_7_code 81 = .ok (.iload_n 3, 1) := by decide +kernel
theorem d_GM_arguments_82 : decode prog_10_method_7_code 82 = .ok (.iconst 4, 1) := by decide +kernel
theorem d_GM_arguments_83 : decode prog_10_method_7_code 83 = .ok (.invokevirtual 156, 3) := by decide +kernel
theorem d_GM_arguments_86 : decode prog_10_method_7_code 86 = .ok (.ifCond .eq 6, 3) := by decide +kernel
theorem d_GM_arguments_89 : decode prog_10_method_7_code 89 = .ok (.iinc 5 (-1), 3) := by decide +kernel
theorem d_GM_arguments_92 : decode prog_10_method_7_code 92 = .ok (.iinc 3 1, 3) := by decide +kernel
theorem d_GM_arguments_95 : decode prog_10_method_7_code 95 = .ok (.goto (-58), 3) := by decide +kernel
theorem d_GM_arguments_98 : decode prog_10_method_7_code 98 = .ok (.iload_n 3, 1) := by decide +kernel
theorem d_GM_arguments_99 : decode prog_10_method_7_code 99 = .ok (.aload_n 0, 1) := by decide +kernel
theorem d_GM_arguments_100 : decode prog_10_method_7_code 100 = .ok (.getfield 13, 3) := by decide +kernel
theorem d_GM_arguments_103 : decode prog_10_method_7_code 103 = .ok (.if_icmp .ge 24, 3) := by decide +kernel
theorem d_GM_arguments_106 : decode prog_10_method_7_code 106 = .ok (.aload_n 0, 1) := by decide +kernel
theorem d_GM_arguments_107 : decode prog_10_method_7_code 107 = .ok (.iload_n 3, 1) := by decide +kernel
theorem d_GM_arguments_108 : decode prog_10_method_7_code 108 = .ok (.iload 4, 2) := by decide +kernel
theorem d_GM_arguments_110 : decode prog_10_method_7_code 110 = .ok (.iload_n 2, 1) := by decide +kernel
theorem d_GM_arguments_111 : decode prog_10_method_7_code 111 = .ok (.iconst 1, 1) := by decide +kernel
theorem d_GM_arguments_112 : decode prog_10_method_7_code 112 = .ok (.isub, 1) := by decide +kernel
theorem d_GM_arguments_113 : decode prog_10_method_7_code 113 = .ok (.if_icmp .ge 7, 3) := by decide +kernel
theorem d_GM_arguments_116 : decode prog_10_method_7_code 116 = .ok (.iconst 5, 1) := by decide +kernel
theorem d_GM_arguments_117 : decode prog_10_method_7_code 117 = .ok (.goto 4, 3) := by decide +kernel
theorem d_GM_arguments_120 : decode prog_10_method_7_code 120 = .ok (.iconst 4, 1) := by decide +kernel
theorem d_GM_arguments_121 : decode prog_10_method_7_code 121 = .ok (.invokevirtual 156, 3) := by decide +kernel
theorem d_GM_arguments_124 : decode prog_10_method_7_code 124 = .ok (.ifCond .ne 5, 3) := by decide +kernel
theorem d_GM_arguments_127 : decode prog_10_method_7_code 127 = .ok (.iconst (-1), 1) := by decide +kernel
theorem d_GM_arguments_128 : decode prog_10_method_7_code 128 = .ok (.ireturn, 1) := by decide +kernel
theorem d_GM_arguments_129 : decode prog_10_method_7_code 129 = .ok (.aload_n 0, 1) := by decide +kernel
theorem d_GM_arguments_130 : decode prog_10_method_7_code 130 = .ok (.getfield 99, 3) := by decide +kernel
theorem d_GM_arguments_133 : decode prog_10_method_7_code 133 = .ok (.iload 4, 2) := by decide +kernel
theorem d_GM_arguments_135 : decode prog_10_method_7_code 135 = .ok (.iload_n 3, 1) := by decide +kernel
theorem d_GM_arguments_136 : decode prog_10_method_7_code 136 = .ok (.iastore, 1) := by decide +kernel
theorem d_GM_arguments_137 : decode prog_10_method_7_code 137 = .ok (.iinc 3 1, 3) := by decide +kernel
theorem d_GM_arguments_140 : decode prog_10_method_7_code 140 = .ok (.iinc 4 1, 3) := by decide +kernel
theorem d_GM_arguments_143 : decode prog_10_method_7_code 143 = .ok (.goto (-123), 3) := by decide +kernel
theorem d_GM_arguments_146 : decode prog_10_method_7_code 146 = .ok (.iload_n 3, 1) := by decide +kernel
theorem d_GM_arguments_147 : decode prog_10_method_7_code 147 = .ok (.ireturn, 1) := by decide +kernel
theorem d_GM_isWord_0 : decode prog_10_method_6_code 0 = .ok (.iload_n 1, 1) := by decide +kernel
theorem d_GM_isWord_1 : decode prog_10_method_6_code 1 = .ok (.aload_n 0, 1) := by decide +kernel
theorem d_GM_isWord_2 : decode prog_10_method_6_code 2 = .ok (.getfield 13, 3) := by decide +kernel
theorem d_GM_isWord_5 : decode prog_10_method_6_code 5 = .ok (.if_icmp .ge 27, 3) := by decide +kernel
theorem d_GM_isWord_8 : decode prog_10_method_6_code 8 = .ok (.aload_n 0, 1) := by decide +kernel
theorem d_GM_isWord_9 : decode prog_10_method_6_code 9 = .ok (.getfield 78, 3) := by decide +kernel
theorem d_GM_isWord_12 : decode prog_10_method_6_code 12 = .ok (.iload_n 1, 1) := by decide +kernel
theorem d_GM_isWord_13 : decode prog_10_method_6_code 13 = .ok (.iaload, 1) := by decide +kernel
theorem d_GM_isWord_14 : decode prog_10_method_6_code 14 = .ok (.iconst 4, 1) := by decide +kernel
theorem d_GM_isWord_15 : decode prog_10_method_6_code 15 = .ok (.if_icmp .ne 17, 3) := by decide +kernel
theorem d_GM_isWord_18 : decode prog_10_method_6_code 18 = .ok (.aload_n 0, 1) := by decide +kernel
theorem d_GM_isWord_19 : decode prog_10_method_6_code 19 = .ok (.getfield 81, 3) := by decide +kernel
theorem d_GM_isWord_22 : decode prog_10_method_6_code 22 = .ok (.iload_n 1, 1) := by decide +kernel
theorem d_GM_isWord_23 : decode prog_10_method_6_code 23 = .ok (.iaload, 1) := by decide +kernel
theorem d_GM_isWord_24 : decode prog_10_method_6_code 24 = .ok (.iload_n 2, 1) := by decide +kernel
theorem d_GM_isWord_25 : decode prog_10_method_6_code 25 = .ok (.if_icmp .ne 7, 3) := by decide +kernel
theorem d_GM_isWord_28 : decode prog_10_method_6_code 28 = .ok (.iconst 1, 1) := by decide +kernel
theorem d_GM_isWord_29 : decode prog_10_method_6_code 29 = .ok (.goto 4, 3) := by decide +kernel
theorem d_GM_isWord_32 : decode prog_10_method_6_code 32 = .ok (.iconst 0, 1) := by decide +kernel
theorem d_GM_isWord_33 : decode prog_10_method_6_code 33 = .ok (.ireturn, 1) := by decide +kernel
theorem d_GM_replace_0 : decode prog_10_method_9_code 0 = .ok (.iconst 0, 1) := by decide +kernel
theorem d_GM_replace_1 : decode prog_10_method_9_code 1 = .ok (.istore 4, 2) := by decide +kernel
theorem d_GM_replace_3 : decode prog_10_method_9_code 3 = .ok (.aload_n 0, 1) := by decide +kernel
theorem d_GM_replace_4 : decode prog_10_method_9_code 4 = .ok (.getfield 84, 3) := by decide +kernel
theorem d_GM_replace_7 : decode prog_10_method_9_code 7 = .ok (.iload_n 1, 1) := by decide +kernel
theorem d_GM_replace_8 : decode prog_10_method_9_code 8 = .ok (.iaload, 1) := by decide +kernel
theorem d_GM_replace_9 : decode prog_10_method_9_code 9 = .ok (.iconst 1, 1) := by decide +kernel
theorem d_GM_replace_10 : decode prog_10_method_9_code 10 = .ok (.iadd, 1) := by decide +kernel
theorem d_GM_replace_11 : decode prog_10_method_9_code 11 = .ok (.istore 5, 2) := by decide +kernel
theorem d_GM_replace_13 : decode prog_10_method_9_code 13 = .ok (.iconst 0, 1) := by decide +kernel
theorem d_GM_replace_14 : decode prog_10_method_9_code 14 = .ok (.istore 6, 2) := by decide +kernel
theorem d_GM_replace_16 : decode prog_10_method_9_code 16 = .ok (.iload 6, 2) := by decide +kernel
theorem d_GM_replace_18 : decode prog_10_method_9_code 18 = .ok (.iload_n 1, 1) := by decide +kernel
theorem d_GM_replace_19 : decode prog_10_method_9_code 19 = .ok (.if_icmp .ge 38, 3) := by decide +kernel
theorem d_GM_replace_22 : decode prog_10_method_9_code 22 = .ok (.aload_n 0, 1) := by decide +kernel
theorem d_GM_replace_23 : decode prog_10_method_9_code 23 = .ok (.iload 4, 2) := by decide +kernel
theorem d_GM_replace_25 : decode prog_10_method_9_code 25 = .ok (.aload_n 0, 1) := by decide +kernel
theorem d_GM_replace_26 : decode prog_10_method_9_code 26 = .ok (.getfield 78, 3) := by decide +kernel
theorem d_GM_replace_29 : decode prog_10_method_9_code 29 = .ok (.iload 6, 2) := by decide +kernel
theorem d_GM_replace_31 : decode prog_10_method_9_code 31 = .ok (.iaload, 1) := by decide +kernel
theorem d_GM_replace_32 : decode prog_10_method_9_code 32 = .ok (.aload_n 0, 1) := by decide +kernel
theorem d_GM_replace_33 : decode prog_10_method_9_code 33 = .ok (.getfield 81, 3) := by decide +kernel
theorem d_GM_replace_36 : decode prog_10_method_9_code 36 = .ok (.iload 6, 2) := by decide +kernel
theorem d_GM_replace_38 : decode prog_10_method_9_code 38 = .ok (.iaload, 1) := by decide +kernel
theorem d_GM_replace_39 : decode prog_10_method_9_code 39 = .ok (.aload_n 0, 1) := by decide +kernel
theorem d_GM_replace_40 : decode prog_10_method_9_code 40 = .ok (.getfield 84, 3) := by decide +kernel
theorem d_GM_replace_43 : decode prog_10_method_9_code 43 = .ok (.iload 6, 2) := by decide +kernel
theorem d_GM_replace_45 : decode prog_10_method_9_code 45 = .ok (.iaload, 1) := by decide +kernel
theorem d_GM_replace_46 : decode prog_10_method_9_code 46 = .ok (.invokevirtual 160, 3) := by decide +kernel
theorem d_GM_replace_49 : decode prog_10_method_9_code 49 = .ok (.istore 4, 2) := by decide +kernel
theorem d_GM_replace_51 : decode prog_10_method_9_code 51 = .ok (.iinc 6 1, 3) := by decide +kernel
theorem d_GM_replace_54 : decode prog_10_method_9_code 54 = .ok (.goto (-38), 3) := by decide +kernel
theorem d_GM_replace_57 : decode prog_10_method_9_code 57 = .ok (.iload_n 3, 1) := by decide +kernel
theorem d_GM_replace_58 : decode prog_10_method_9_code 58 = .ok (.bipush 40, 2) := by decide +kernel
theorem d_GM_replace_60 : decode prog_10_method_9_code 60 = .ok (.imul, 1) := by decide +kernel
theorem d_GM_replace_61 : decode prog_10_method_9_code 61 = .ok (.istore 6, 2) := by decide +kernel
theorem d_GM_replace_63 : decode prog_10_method_9_code 63 = .ok (.iload 6, 2) := by decide +kernel
theorem d_GM_replace_65 : decode prog_10_method_9_code 65 = .ok (.iload_n 3, 1) := by decide +kernel
theorem d_GM_replace_66 : decode prog_10_method_9_code 66 = .ok (.bipush 40, 2) := by decide +kernel
theorem d_GM_replace_68 : decode prog_10_method_9_code 68 = .ok (.imul, 1) := by decide +kernel
theorem d_GM_replace_69 : decode prog_10_method_9_code 69 = .ok (.aload_n 0, 1) := by decide +kernel
theorem d_GM_replace_70 : decode prog_10_method_9_code 70 = .ok (.getfield 72, 3) := by decide +kernel
theorem d_GM_replace_73 : decode prog_10_method_9_code 73 = .ok (.iload_n 3, 1) := by decide +kernel
theorem d_GM_replace_74 : decode prog_10_method_9_code 74 = .ok (.iaload, 1) := by decide +kernel
theorem d_GM_replace_75 : decode prog_10_method_9_code 75 = .ok (.iadd, 1) := by decide +kernel
theorem d_GM_replace_76 : decode prog_10_method_9_code 76 = .ok (.if_icmp .ge 113, 3) := by decide +kernel
theorem d_GM_replace_79 : decode prog_10_method_9_code 79 = .ok (.aload_n 0, 1) := by decide +kernel
theorem d_GM_replace_80 : decode prog_10_method_9_code 80 = .ok (.getfield 66, 3) := by decide +kernel
theorem d_GM_replace_83 : decode prog_10_method_9_code 83 = .ok (.iload 6, 2) := by decide +kernel
theorem d_GM_replace_85 : decode prog_10_method_9_code 85 = .ok (.iaload, 1) := by decide +kernel
theorem d_GM_replace_86 : decode prog_10_method_9_code 86 = .ok (.iconst 2, 1) := by decide +kernel
theorem d_GM_replace_87 : decode prog_10_method_9_code 87 = .ok (.if_icmp .eq 30, 3) := by decide +kernel
theorem d_GM_replace_90 : decode prog_10_method_9_code 90 = .ok (.aload_n 0, 1) := by decide +kernel
theorem d_GM_replace_91 : decode prog_10_method_9_code 91 = .ok (.iload 4, 2) := by decide +kernel
theorem d_GM_replace_93 : decode prog_10_method_9_code 93 = .ok (.aload_n 0, 1) := by decide +kernel
theorem d_GM_replace_94 : decode prog_10_method_9_code 94 = .ok (.getfield 66, 3) := by decide +kernel
theorem d_GM_replace_97 : decode prog_10_method_9_code 97 = .ok (.iload 6, 2) := by decide +kernel
theorem d_GM_replace_99 : decode prog_10_method_9_code 99 = .ok (.iaload, 1) := by decide +kernel
theorem d_GM_replace_100 : decode prog_10_method_9_code 100 = .ok (.aload_n 0, 1) := by decide +kernel
theorem d_GM_replace_101 : decode prog_10_method_9_code 101 = .ok (.getfield 69, 3) := by decide +kernel
theorem d_GM_replace_104 : decode prog_10_method_9_code 104 = .ok (.iload 6, 2) := by decide +kernel
theorem d_GM_replace_106 : decode prog_10_method_9_code 106 = .ok (.iaload, 1) := by decide +kernel
theorem d_GM_replace_107 : decode prog_10_method_9_code 107 = .ok (.iload 5, 2) := by decide +kernel
theorem d_GM_replace_109 : decode prog_10_method_9_code 109 = .ok (.invokevirtual 160, 3) := by decide +kernel
theorem d_GM_replace_112 : decode prog_10_method_9_code 112 = .ok (.istore 4, 2) := by decide +kernel
theorem d_GM_replace_114 : decode prog_10_method_9_code 114 = .ok (.goto 69, 3) := by decide +kernel
theorem d_GM_replace_117 : decode prog_10_method_9_code 117 = .ok (.aload_n 0, 1) := by decide +kernel
theorem d_GM_replace_118 : decode prog_10_method_9_code 118 = .ok (.getfield 96, 3) := by decide +kernel
theorem d_GM_replace_121 : decode prog_10_method_9_code 121 = .ok (.aload_n 0, 1) := by decide +kernel
theorem d_GM_replace_122 : decode prog_10_method_9_code 122 = .ok (.getfield 69, 3) := by decide +kernel
theorem d_GM_replace_125 : decode prog_10_method_9_code 125 = .ok (.iload 6, 2) := by decide +kernel
theorem d_GM_replace_127 : decode prog_10_method_9_code 127 = .ok (.iaload, 1) := by decide +kernel
theorem d_GM_replace_128 : decode prog_10_method_9_code 128 = .ok (.iaload, 1) := by decide +kernel
theorem d_GM_replace_129 : decode prog_10_method_9_code 129 = .ok (.istore 7, 2) := by decide +kernel
theorem d_GM_replace_131 : decode prog_10_method_9_code 131 = .ok (.iload 7, 2) := by decide +kernel
theorem d_GM_replace_133 : decode prog_10_method_9_code 133 = .ok (.aload_n 0, 1) := by decide +kernel
theorem d_GM_replace_134 : decode prog_10_method_9_code 134 = .ok (.getfield 99, 3) := by decide +kernel
theorem d_GM_replace_137 : decode prog_10_method_9_code 137 = .ok (.aload_n 0, 1) := by decide +kernel
theorem d_GM_replace_138 : decode prog_10_method_9_code 138 = .ok (.getfield 69, 3) := by decide +kernel
theorem d_GM_replace_141 : decode prog_10_method_9_code 141 = .ok (.iload 6, 2) := by decide +kernel
theorem d_GM_replace_143 : decode prog_10_method_9_code 143 = .ok (.iaload, 1) := by decide +kernel
theorem d_GM_replace_144 : decode prog_10_method_9_code 144 = .ok (.iaload, 1) := by decide +kernel
theorem d_GM_replace_145 : decode prog_10_method_9_code 145 = .ok (.if_icmp .ge 38, 3) := by decide +kernel
theorem d_GM_replace_148 : decode prog_10_method_9_code 148 = .ok (.aload_n 0, 1) := by decide +kernel
theorem d_GM_replace_149 : decode prog_10_method_9_code 149 = .ok (.iload 4, 2) := by decide +kernel
theorem d_GM_replace_151 : decode prog_10_method_9_code 151 = .ok (.aload_n 0, 1) := by decide +kernel
theorem d_GM_replace_152 : decode prog_10_method_9_code 152 = .ok (.getfield 78, 3) := by decide +kernel
theorem d_GM_replace_155 : decode prog_10_method_9_code 155 = .ok (.iload 7, 2) := by decide +kernel
theorem d_GM_replace_157 : decode prog_10_method_9_code 157 = .ok (.iaload, 1) := by decide +kernel
theorem d_GM_replace_158 : decode prog_10_method_9_code 158 = .ok (.aload_n 0, 1) := by decide +kernel
theorem d_GM_replace_159 : decode prog_10_method_9_code 159 = .ok (.getfield 81, 3) := by decide +kernel
theorem d_GM_replace_162 : decode prog_10_method_9_code 162 = .ok (.iload 7, 2) := by decide +kernel
theorem d_GM_replace_164 : decode prog_10_method_9_code 164 = .ok (.iaload, 1) := by decide +kernel
theorem d_GM_replace_165 : decode prog_10_method_9_code 165 = .ok (.aload_n 0, 1) := by decide +kernel
theorem d_GM_replace_166 : decode prog_10_method_9_code 166 = .ok (.getfield 84, 3) := by decide +kernel
theorem d_GM_replace_169 : decode prog_10_method_9_code 169 = .ok (.iload 7, 2) := by decide +kernel
theorem d_GM_replace_171 : decode prog_10_method_9_code 171 = .ok (.iaload, 1) := by decide +kernel
theorem d_GM_replace_172 : decode prog_10_method_9_code 172 = .ok (.invokevirtual 160, 3) := by decide +kernel
theorem d_GM_replace_175 : decode prog_10_method_9_code 175 = .ok (.istore 4, 2) := by decide +kernel
theorem d_GM_replace_177 : decode prog_10_method_9_code 177 = .ok (.iinc 7 1, 3) := by decide +kernel
theorem d_GM_replace_180 : decode prog_10_method_9_code 180 = .ok (.goto (-49), 3) := by decide +kernel
theorem d_GM_replace_183 : decode prog_10_method_9_code 183 = .ok (.iinc 6 1, 3) := by decide +kernel
theorem d_GM_replace_186 : decode prog_10_method_9_code 186 = .ok (.goto (-123), 3) := by decide +kernel
theorem d_GM_replace_189 : decode prog_10_method_9_code 189 = .ok (.iload_n 2, 1) := by decide +kernel
theorem d_GM_replace_190 : decode prog_10_method_9_code 190 = .ok (.istore 6, 2) := by decide +kernel
theorem d_GM_replace_192 : decode prog_10_method_9_code 192 = .ok (.iload 6, 2) := by decide +kernel
theorem d_GM_replace_194 : decode prog_10_method_9_code 194 = .ok (.aload_n 0, 1) := by decide +kernel
theorem d_GM_replace_195 : decode prog_10_method_9_code 195 = .ok (.getfield 13, 3) := by decide +kernel
theorem d_GM_replace_198 : decode prog_10_method_9_code 198 = .ok (.if_icmp .ge 38, 3) := by decide +kernel
theorem d_GM_replace_201 : decode prog_10_method_9_code 201 = .ok (.aload_n 0, 1) := by decide +kernel
theorem d_GM_replace_202 : decode prog_10_method_9_code 202 = .ok (.iload 4, 2) := by decide +kernel
theorem d_GM_replace_204 : decode prog_10_method_9_code 204 = .ok (.aload_n 0, 1) := by decide +kernel
theorem d_GM_replace_205 : decode prog_10_method_9_code 205 = .ok (.getfield 78, 3) := by decide +kernel
theorem d_GM_replace_208 : decode prog_10_method_9_code 208 = .ok (.iload 6, 2) := by decide +kernel
theorem d_GM_replace_210 : decode prog_10_method_9_code 210 = .ok (.iaload, 1) := by decide +kernel
theorem d_GM_replace_211 : decode prog_10_method_9_code 211 = .ok (.aload_n 0, 1) := by decide +kernel
theorem d_GM_replace_212 : decode prog_10_method_9_code 212 = .ok (.getfield 81, 3) := by decide +kernel
theorem d_GM_replace_215 : decode prog_10_method_9_code 215 = .ok (.iload 6, 2) := by decide +kernel
theorem d_GM_replace_217 : decode prog_10_method_9_code 217 = .ok (.iaload, 1) := by decide +kernel
theorem d_GM_replace_218 : decode prog_10_method_9_code 218 = .ok (.aload_n 0, 1) := by decide +kernel
theorem d_GM_replace_219 : decode prog_10_method_9_code 219 = .ok (.getfield 84, 3) := by decide +kernel
theorem d_GM_replace_222 : decode prog_10_method_9_code 222 = .ok (.iload 6, 2) := by decide +kernel
theorem d_GM_replace_224 : decode prog_10_method_9_code 224 = .ok (.iaload, 1) := by decide +kernel
theorem d_GM_replace_225 : decode prog_10_method_9_code 225 = .ok (.invokevirtual 160, 3) := by decide +kernel
theorem d_GM_replace_228 : decode prog_10_method_9_code 228 = .ok (.istore 4, 2) := by decide +kernel
theorem d_GM_replace_230 : decode prog_10_method_9_code 230 = .ok (.iinc 6 1, 3) := by decide +kernel
theorem d_GM_replace_233 : decode prog_10_method_9_code 233 = .ok (.goto (-41), 3) := by decide +kernel
theorem d_GM_replace_236 : decode prog_10_method_9_code 236 = .ok (.iload 4, 2) := by decide +kernel
theorem d_GM_replace_238 : decode prog_10_method_9_code 238 = .ok (.ireturn, 1) := by decide +kernel
theorem d_GM_putToken_0 : decode prog_10_method_8_code 0 = .ok (.iload_n 1, 1) := by decide +kernel
theorem d_GM_putToken_1 : decode prog_10_method_8_code 1 = .ok (.sipush 700, 3) := by decide +kernel
theorem d_GM_putToken_4 : decode prog_10_method_8_code 4 = .ok (.if_icmp .ge 25, 3) := by decide +kernel
theorem d_GM_putToken_7 : decode prog_10_method_8_code 7 = .ok (.aload_n 0, 1) := by decide +kernel
theorem d_GM_putToken_8 : decode prog_10_method_8_code 8 = .ok (.getfield 87, 3) := by decide +kernel
theorem d_GM_putToken_11 : decode prog_10_method_8_code 11 = .ok (.iload_n 1, 1) := by decide +kernel
theorem d_GM_putToken_12 : decode prog_10_method_8_code 12 = .ok (.iload_n 2, 1) := by decide +kernel
theorem d_GM_putToken_13 : decode prog_10_method_8_code 13 = .ok (.iastore, 1) := by decide +kernel
theorem d_GM_putToken_14 : decode prog_10_method_8_code 14 = .ok (.aload_n 0, 1) := by decide +kernel
theorem d_GM_putToken_15 : decode prog_10_method_8_code 15 = .ok (.getfield 90, 3) := by decide +kernel
theorem d_GM_putToken_18 : decode prog_10_method_8_code 18 = .ok (.iload_n 1, 1) := by decide +kernel
theorem d_GM_putToken_19 : decode prog_10_method_8_code 19 = .ok (.iload_n 3, 1) := by decide +kernel
theorem d_GM_putToken_20 : decode prog_10_method_8_code 20 = .ok (.iastore, 1) := by decide +kernel
theorem d_GM_putToken_21 : decode prog_10_method_8_code 21 = .ok (.aload_n 0, 1) := by decide +kernel
theorem d_GM_putToken_22 : decode prog_10_method_8_code 22 = .ok (.getfield 93, 3) := by decide +kernel
theorem d_GM_putToken_25 : decode prog_10_method_8_code 25 = .ok (.iload_n 1, 1) := by decide +kernel
theorem d_GM_putToken_26 : decode prog_10_method_8_code 26 = .ok (.iload 4, 2) := by decide +kernel
theorem d_GM_putToken_28 : decode prog_10_method_8_code 28 = .ok (.iastore, 1) := by decide +kernel
theorem d_GM_putToken_29 : decode prog_10_method_8_code 29 = .ok (.iload_n 1, 1) := by decide +kernel
theorem d_GM_putToken_30 : decode prog_10_method_8_code 30 = .ok (.iconst 1, 1) := by decide +kernel
theorem d_GM_putToken_31 : decode prog_10_method_8_code 31 = .ok (.iadd, 1) := by decide +kernel
theorem d_GM_putToken_32 : decode prog_10_method_8_code 32 = .ok (.ireturn, 1) := by decide +kernel
theorem d_GM_statement_0 : decode prog_10_method_50_code 0 = .ok (.aload_n 0, 1) := by decide +kernel
theorem d_GM_statement_1 : decode prog_10_method_50_code 1 = .ok (.iconst 0, 1) := by decide +kernel
theorem d_GM_statement_2 : decode prog_10_method_50_code 2 = .ok (.putfield 55, 3) := by decide +kernel
theorem d_GM_statement_5 : decode prog_10_method_50_code 5 = .ok (.aload_n 0, 1) := by decide +kernel
theorem d_GM_statement_6 : decode prog_10_method_50_code 6 = .ok (.iconst 0, 1) := by decide +kernel
theorem d_GM_statement_7 : decode prog_10_method_50_code 7 = .ok (.putfield 49, 3) := by decide +kernel
theorem d_GM_statement_10 : decode prog_10_method_50_code 10 = .ok (.aload_n 0, 1) := by decide +kernel
theorem d_GM_statement_11 : decode prog_10_method_50_code 11 = .ok (.bipush 6, 2) := by decide +kernel
theorem d_GM_statement_13 : decode prog_10_method_50_code 13 = .ok (.invokevirtual 201, 3) := by decide +kernel
theorem d_GM_statement_16 : decode prog_10_method_50_code 16 = .ok (.ifCond .eq 16, 3) := by decide +kernel
theorem d_GM_statement_19 : decode prog_10_method_50_code 19 = .ok (.aload_n 0, 1) := by decide +kernel
theorem d_GM_statement_20 : decode prog_10_method_50_code 20 = .ok (.dup, 1) := by decide +kernel
theorem d_GM_statement_21 : decode prog_10_method_50_code 21 = .ok (.getfield 22, 3) := by decide +kernel
theorem d_GM_statement_24 : decode prog_10_method_50_code 24 = .ok (.iconst 1, 1) := by decide +kernel
theorem d_GM_statement_25 : decode prog_10_method_50_code 25 = .ok (.iadd, 1) := by decide +kernel
theorem d_GM_statement_26 : decode prog_10_method_50_code 26 = .ok (.putfield 22, 3) := by decide +kernel
theorem d_GM_statement_29 : decode prog_10_method_50_code 29 = .ok (.goto 54, 3) := by decide +kernel
theorem d_GM_statement_32 : decode prog_10_method_50_code 32 = .ok (.aload_n 0, 1) := by decide +kernel
theorem d_GM_statement_33 : decode prog_10_method_50_code 33 = .ok (.bipush 12, 2) := by decide +kernel
theorem d_GM_statement_35 : decode prog_10_method_50_code 35 = .ok (.invokevirtual 201, 3) := by decide +kernel
theorem d_GM_statement_38 : decode prog_10_method_50_code 38 = .ok (.ifCond .eq 10, 3) := by decide +kernel
theorem d_GM_statement_41 : decode prog_10_method_50_code 41 = .ok (.aload_n 0, 1) := by decide +kernel
theorem d_GM_statement_42 : decode prog_10_method_50_code 42 = .ok (.invokevirtual 320, 3) := by decide +kernel
theorem d_GM_statement_45 : decode prog_10_method_50_code 45 = .ok (.goto 38, 3) := by decide +kernel
theorem d_GM_statement_48 : decode prog_10_method_50_code 48 = .ok (.aload_n 0, 1) := by decide +kernel
theorem d_GM_statement_49 : decode prog_10_method_50_code 49 = .ok (.bipush 10, 2) := by decide +kernel
theorem d_GM_statement_51 : decode prog_10_method_50_code 51 = .ok (.invokevirtual 201, 3) := by decide +kernel
theorem d_GM_statement_54 : decode prog_10_method_50_code 54 = .ok (.ifCond .ne 12, 3) := by decide +kernel
theorem d_GM_statement_57 : decode prog_10_method_50_code 57 = .ok (.aload_n 0, 1) := by decide +kernel
theorem d_GM_statement_58 : decode prog_10_method_50_code 58 = .ok (.bipush 11, 2) := by decide +kernel
theorem d_GM_statement_60 : decode prog_10_method_50_code 60 = .ok (.invokevirtual 201, 3) := by decide +kernel
theorem d_GM_statement_63 : decode prog_10_method_50_code 63 = .ok (.ifCond .eq 16, 3) := by decide +kernel
theorem d_GM_statement_66 : decode prog_10_method_50_code 66 = .ok (.aload_n 0, 1) := by decide +kernel
theorem d_GM_statement_67 : decode prog_10_method_50_code 67 = .ok (.aload_n 0, 1) := by decide +kernel
theorem d_GM_statement_68 : decode prog_10_method_50_code 68 = .ok (.bipush 10, 2) := by decide +kernel
theorem d_GM_statement_70 : decode prog_10_method_50_code 70 = .ok (.invokevirtual 201, 3) := by decide +kernel
theorem d_GM_statement_73 : decode prog_10_method_50_code 73 = .ok (.invokevirtual 323, 3) := by decide +kernel
theorem d_GM_statement_76 : decode prog_10_method_50_code 76 = .ok (.goto 7, 3) := by decide +kernel
theorem d_GM_statement_79 : decode prog_10_method_50_code 79 = .ok (.aload_n 0, 1) := by decide +kernel
theorem d_GM_statement_80 : decode prog_10_method_50_code 80 = .ok (.invokevirtual 326, 3) := by decide +kernel
theorem d_GM_statement_83 : decode prog_10_method_50_code 83 = .ok (.aload_n 0, 1) := by decide +kernel
theorem d_GM_statement_84 : decode prog_10_method_50_code 84 = .ok (.getfield 25, 3) := by decide +kernel
theorem d_GM_statement_87 : decode prog_10_method_50_code 87 = .ok (.ifCond .ne 13, 3) := by decide +kernel
theorem d_GM_statement_90 : decode prog_10_method_50_code 90 = .ok (.aload_n 0, 1) := by decide +kernel
theorem d_GM_statement_91 : decode prog_10_method_50_code 91 = .ok (.dup, 1) := by decide +kernel
theorem d_GM_statement_92 : decode prog_10_method_50_code 92 = .ok (.getfield 34, 3) := by decide +kernel
theorem d_GM_statement_95 : decode prog_10_method_50_code 95 = .ok (.iconst 1, 1) := by decide +kernel
theorem d_GM_statement_96 : decode prog_10_method_50_code 96 = .ok (.iadd, 1) := by decide +kernel
theorem d_GM_statement_97 : decode prog_10_method_50_code 97 = .ok (.putfield 34, 3) := by decide +kernel
theorem d_GM_statement_100 : decode prog_10_method_50_code 100 = .ok (.return_, 1) := by decide +kernel
theorem d_GM_word_0 : decode prog_10_method_25_code 0 = .ok (.aload_n 0, 1) := by decide +kernel
theorem d_GM_word_1 : decode prog_10_method_25_code 1 = .ok (.aload_n 0, 1) := by decide +kernel
theorem d_GM_word_2 : decode prog_10_method_25_code 2 = .ok (.getfield 22, 3) := by decide +kernel
theorem d_GM_word_5 : decode prog_10_method_25_code 5 = .ok (.iload_n 1, 1) := by decide +kernel
theorem d_GM_word_6 : decode prog_10_method_25_code 6 = .ok (.invokevirtual 156, 3) := by decide +kernel
theorem d_GM_word_9 : decode prog_10_method_25_code 9 = .ok (.ireturn, 1) := by decide +kernel
theorem d_GM_showIt_0 : decode prog_10_method_49_code 0 = .ok (.aload_n 0, 1) := by decide +kernel
theorem d_GM_showIt_1 : decode prog_10_method_49_code 1 = .ok (.dup, 1) := by decide +kernel
theorem d_GM_showIt_2 : decode prog_10_method_49_code 2 = .ok (.getfield 22, 3) := by decide +kernel
theorem d_GM_showIt_5 : decode prog_10_method_49_code 5 = .ok (.iconst 1, 1) := by decide +kernel
theorem d_GM_showIt_6 : decode prog_10_method_49_code 6 = .ok (.iadd, 1) := by decide +kernel
theorem d_GM_showIt_7 : decode prog_10_method_49_code 7 = .ok (.putfield 22, 3) := by decide +kernel
theorem d_GM_showIt_10 : decode prog_10_method_49_code 10 = .ok (.aload_n 0, 1) := by decide +kernel
theorem d_GM_showIt_11 : decode prog_10_method_49_code 11 = .ok (.iconst 0, 1) := by decide +kernel
theorem d_GM_showIt_12 : decode prog_10_method_49_code 12 = .ok (.invokevirtual 250, 3) := by decide +kernel
theorem d_GM_showIt_15 : decode prog_10_method_49_code 15 = .ok (.aload_n 0, 1) := by decide +kernel
theorem d_GM_showIt_16 : decode prog_10_method_49_code 16 = .ok (.bipush 6, 2) := by decide +kernel
theorem d_GM_showIt_18 : decode prog_10_method_49_code 18 = .ok (.invokevirtual 241, 3) := by decide +kernel
theorem d_GM_showIt_21 : decode prog_10_method_49_code 21 = .ok (.aload_n 0, 1) := by decide +kernel
theorem d_GM_showIt_22 : decode prog_10_method_49_code 22 = .ok (.getfield 25, 3) := by decide +kernel
theorem d_GM_showIt_25 : decode prog_10_method_49_code 25 = .ok (.ifCond .eq 4, 3) := by decide +kernel
theorem d_GM_showIt_28 : decode prog_10_method_49_code 28 = .ok (.return_, 1) := by decide +kernel
theorem d_GM_showIt_29 : decode prog_10_method_49_code 29 = .ok (.aload_n 0, 1) := by decide +kernel
theorem d_GM_showIt_30 : decode prog_10_method_49_code 30 = .ok (.getfield 55, 3) := by decide +kernel
theorem d_GM_showIt_33 : decode prog_10_method_49_code 33 = .ok (.ifCond .eq 18, 3) := by decide +kernel
theorem d_GM_showIt_36 : decode prog_10_method_49_code 36 = .ok (.aload_n 0, 1) := by decide +kernel
theorem d_GM_showIt_37 : decode prog_10_method_49_code 37 = .ok (.bipush (-9), 2) := by decide +kernel
theorem d_GM_showIt_39 : decode prog_10_method_49_code 39 = .ok (.aload_n 0, 1) := by decide +kernel
theorem d_GM_showIt_40 : decode prog_10_method_49_code 40 = .ok (.getfield 22, 3) := by decide +kernel
theorem d_GM_showIt_43 : decode prog_10_method_49_code 43 = .ok (.iconst 1, 1) := by decide +kernel
theorem d_GM_showIt_44 : decode prog_10_method_49_code 44 = .ok (.isub, 1) := by decide +kernel
theorem d_GM_showIt_45 : decode prog_10_method_49_code 45 = .ok (.invokevirtual 164, 3) := by decide +kernel
theorem d_GM_showIt_48 : decode prog_10_method_49_code 48 = .ok (.goto 76, 3) := by decide +kernel
theorem d_GM_showIt_51 : decode prog_10_method_49_code 51 = .ok (.aload_n 0, 1) := by decide +kernel
theorem d_GM_showIt_52 : decode prog_10_method_49_code 52 = .ok (.iconst 0, 1) := by decide +kernel
theorem d_GM_showIt_53 : decode prog_10_method_49_code 53 = .ok (.invokevirtual 260, 3) := by decide +kernel
theorem d_GM_showIt_56 : decode prog_10_method_49_code 56 = .ok (.ifCond .ne 18, 3) := by decide +kernel
theorem d_GM_showIt_59 : decode prog_10_method_49_code 59 = .ok (.aload_n 0, 1) := by decide +kernel
theorem d_GM_showIt_60 : decode prog_10_method_49_code 60 = .ok (.bipush (-12), 2) := by decide +kernel
theorem d_GM_showIt_62 : decode prog_10_method_49_code 62 = .ok (.aload_n 0, 1) := by decide +kernel
theorem d_GM_showIt_63 : decode prog_10_method_49_code 63 = .ok (.getfield 22, 3) := by decide +kernel
theorem d_GM_showIt_66 : decode prog_10_method_49_code 66 = .ok (.iconst 1, 1) := by decide +kernel
theorem d_GM_showIt_67 : decode prog_10_method_49_code 67 = .ok (.isub, 1) := by decide +kernel
theorem d_GM_showIt_68 : decode prog_10_method_49_code 68 = .ok (.invokevirtual 164, 3) := by decide +kernel
theorem d_GM_showIt_71 : decode prog_10_method_49_code 71 = .ok (.goto 53, 3) := by decide +kernel
theorem d_GM_showIt_74 : decode prog_10_method_49_code 74 = .ok (.bipush 7, 2) := by decide +kernel
theorem d_GM_showIt_76 : decode prog_10_method_49_code 76 = .ok (.istore_n 1, 1) := by decide +kernel
theorem d_GM_showIt_77 : decode prog_10_method_49_code 77 = .ok (.iload_n 1, 1) := by decide +kernel
theorem d_GM_showIt_78 : decode prog_10_method_49_code 78 = .ok (.ifCond .le 23, 3) := by decide +kernel
theorem d_GM_showIt_81 : decode prog_10_method_49_code 81 = .ok (.aload_n 0, 1) := by decide +kernel
theorem d_GM_showIt_82 : decode prog_10_method_49_code 82 = .ok (.getfield 109, 3) := by decide +kernel
theorem d_GM_showIt_85 : decode prog_10_method_49_code 85 = .ok (.iload_n 1, 1) := by decide +kernel
theorem d_GM_showIt_86 : decode prog_10_method_49_code 86 = .ok (.aload_n 0, 1) := by decide +kernel
theorem d_GM_showIt_87 : decode prog_10_method_49_code 87 = .ok (.getfield 109, 3) := by decide +kernel
theorem d_GM_showIt_90 : decode prog_10_method_49_code 90 = .ok (.iload_n 1, 1) := by decide +kernel
theorem d_GM_showIt_91 : decode prog_10_method_49_code 91 = .ok (.iconst 1, 1) := by decide +kernel
theorem d_GM_showIt_92 : decode prog_10_method_49_code 92 = .ok (.isub, 1) := by decide +kernel
theorem d_GM_showIt_93 : decode prog_10_method_49_code 93 = .ok (.laload, 1) := by decide +kernel
theorem d_GM_showIt_94 : decode prog_10_method_49_code 94 = .ok (.lastore, 1) := by decide +kernel
theorem d_GM_showIt_95 : decode prog_10_method_49_code 95 = .ok (.iinc 1 (-1), 3) := by decide +kernel
theorem d_GM_showIt_98 : decode prog_10_method_49_code 98 = .ok (.goto (-21), 3) := by decide +kernel
theorem d_GM_showIt_101 : decode prog_10_method_49_code 101 = .ok (.aload_n 0, 1) := by decide +kernel
theorem d_GM_showIt_102 : decode prog_10_method_49_code 102 = .ok (.getfield 109, 3) := by decide +kernel
theorem d_GM_showIt_105 : decode prog_10_method_49_code 105 = .ok (.iconst 0, 1) := by decide +kernel
theorem d_GM_showIt_106 : decode prog_10_method_49_code 106 = .ok (.aload_n 0, 1) := by decide +kernel
theorem d_GM_showIt_107 : decode prog_10_method_49_code 107 = .ok (.getfield 118, 3) := by decide +kernel
theorem d_GM_showIt_110 : decode prog_10_method_49_code 110 = .ok (.bipush 12, 2) := by decide +kernel
theorem d_GM_showIt_112 : decode prog_10_method_49_code 112 = .ok (.laload, 1) := by decide +kernel
theorem d_GM_showIt_113 : decode prog_10_method_49_code 113 = .ok (.lastore, 1) := by decide +kernel
theorem d_GM_showIt_114 : decode prog_10_method_49_code 114 = .ok (.aload_n 0, 1) := by decide +kernel
theorem d_GM_showIt_115 : decode prog_10_method_49_code 115 = .ok (.dup, 1) := by decide +kernel
theorem d_GM_showIt_116 : decode prog_10_method_49_code 116 = .ok (.getfield 31, 3) := by decide +kernel
theorem d_GM_showIt_119 : decode prog_10_method_49_code 119 = .ok (.iconst 1, 1) := by decide +kernel
theorem d_GM_showIt_120 : decode prog_10_method_49_code 120 = .ok (.iadd, 1) := by decide +kernel
theorem d_GM_showIt_121 : decode prog_10_method_49_code 121 = .ok (.putfield 31, 3) := by decide +kernel
theorem d_GM_showIt_124 : decode prog_10_method_49_code 124 = .ok (.return_, 1) := by decide +kernel
theorem d_GM_expr_0 : decode prog_10_method_33_code 0 = .ok (.aload_n 0, 1) := by decide +kernel
theorem d_GM_expr_1 : decode prog_10_method_33_code 1 = .ok (.getfield 49, 3) := by decide +kernel
theorem d_GM_expr_4 : decode prog_10_method_33_code 4 = .ok (.istore_n 2, 1) := by decide +kernel
theorem d_GM_expr_5 : decode prog_10_method_33_code 5 = .ok (.iconst 1, 1) := by decide +kernel
theorem d_GM_expr_6 : decode prog_10_method_33_code 6 = .ok (.istore_n 3, 1) := by decide +kernel
theorem d_GM_expr_7 : decode prog_10_method_33_code 7 = .ok (.aload_n 0, 1) := by decide +kernel
theorem d_GM_expr_8 : decode prog_10_method_33_code 8 = .ok (.iconst 0, 1) := by decide +kernel
theorem d_GM_expr_9 : decode prog_10_method_33_code 9 = .ok (.putfield 52, 3) := by decide +kernel
theorem d_GM_expr_12 : decode prog_10_method_33_code 12 = .ok (.aload_n 0, 1) := by decide +kernel
theorem d_GM_expr_13 : decode prog_10_method_33_code 13 = .ok (.iconst 0, 1) := by decide +kernel
theorem d_GM_expr_14 : decode prog_10_method_33_code 14 = .ok (.putfield 37, 3) := by decide +kernel
theorem d_GM_expr_17 : decode prog_10_method_33_code 17 = .ok (.aload_n 0, 1) := by decide +kernel
theorem d_GM_expr_18 : decode prog_10_method_33_code 18 = .ok (.getfield 25, 3) := by decide +kernel
theorem d_GM_expr_21 : decode prog_10_method_33_code 21 = .ok (.ifCond .ne 210, 3) := by decide +kernel
theorem d_GM_expr_24 : decode prog_10_method_33_code 24 = .ok (.iload_n 3, 1) := by decide +kernel
theorem d_GM_expr_25 : decode prog_10_method_33_code 25 = .ok (.ifCond .eq 19, 3) := by decide +kernel
theorem d_GM_expr_28 : decode prog_10_method_33_code 28 = .ok (.aload_n 0, 1) := by decide +kernel
theorem d_GM_expr_29 : decode prog_10_method_33_code 29 = .ok (.invokevirtual 231, 3) := by decide +kernel
theorem d_GM_expr_32 : decode prog_10_method_33_code 32 = .ok (.ifCond .ne 7, 3) := by decide +kernel
theorem d_GM_expr_35 : decode prog_10_method_33_code 35 = .ok (.iconst 1, 1) := by decide +kernel
theorem d_GM_expr_36 : decode prog_10_method_33_code 36 = .ok (.goto 4, 3) := by decide +kernel
theorem d_GM_expr_39 : decode prog_10_method_33_code 39 = .ok (.iconst 0, 1) := by decide +kernel
theorem d_GM_expr_40 : decode prog_10_method_33_code 40 = .ok (.istore_n 3, 1) := by decide +kernel
theorem d_GM_expr_41 : decode prog_10_method_33_code 41 = .ok (.goto (-24), 3) := by decide +kernel
theorem d_GM_expr_44 : decode prog_10_method_33_code 44 = .ok (.aload_n 0, 1) := by decide +kernel
theorem d_GM_expr_45 : decode prog_10_method_33_code 45 = .ok (.iload_n 2, 1) := by decide +kernel
theorem d_GM_expr_46 : decode prog_10_method_33_code 46 = .ok (.invokevirtual 235, 3) := by decide +kernel
theorem d_GM_expr_49 : decode prog_10_method_33_code 49 = .ok (.aload_n 0, 1) := by decide +kernel
theorem d_GM_expr_50 : decode prog_10_method_33_code 50 = .ok (.getfield 49, 3) := by decide +kernel
theorem d_GM_expr_53 : decode prog_10_method_33_code 53 = .ok (.iload_n 2, 1) := by decide +kernel
theorem d_GM_expr_54 : decode prog_10_method_33_code 54 = .ok (.if_icmp .le 17, 3) := by decide +kernel
theorem d_GM_expr_57 : decode prog_10_method_33_code 57 = .ok (.aload_n 0, 1) := by decide +kernel
theorem d_GM_expr_58 : decode prog_10_method_33_code 58 = .ok (.getfield 121, 3) := by decide +kernel
theorem d_GM_expr_61 : decode prog_10_method_33_code 61 = .ok (.aload_n 0, 1) := by decide +kernel
theorem d_GM_expr_62 : decode prog_10_method_33_code 62 = .ok (.getfield 49, 3) := by decide +kernel
theorem d_GM_expr_65 : decode prog_10_method_33_code 65 = .ok (.iconst 1, 1) := by decide +kernel
theorem d_GM_expr_66 : decode prog_10_method_33_code 66 = .ok (.isub, 1) := by decide +kernel
theorem d_GM_expr_67 : decode prog_10_method_33_code 67 = .ok (.iaload, 1) := by decide +kernel
theorem d_GM_expr_68 : decode prog_10_method_33_code 68 = .ok (.goto 4, 3) := by decide +kernel
theorem d_GM_expr_71 : decode prog_10_method_33_code 71 = .ok (.iconst (-1), 1) := by decide +kernel
theorem d_GM_expr_72 : decode prog_10_method_33_code 72 = .ok (.istore 4, 2) := by decide +kernel
theorem d_GM_expr_74 : decode prog_10_method_33_code 74 = .ok (.aload_n 0, 1) := by decide +kernel
theorem d_GM_expr_75 : decode prog_10_method_33_code 75 = .ok (.iconst 0, 1) := by decide +kernel
theorem d_GM_expr_76 : decode prog_10_method_33_code 76 = .ok (.invokevirtual 201, 3) := by decide +kernel
theorem d_GM_expr_79 : decode prog_10_method_33_code 79 = .ok (.ifCond .ne 11, 3) := by decide +kernel
theorem d_GM_expr_82 : decode prog_10_method_33_code 82 = .ok (.aload_n 0, 1) := by decide +kernel
theorem d_GM_expr_83 : decode prog_10_method_33_code 83 = .ok (.iconst 1, 1) := by decide +kernel
theorem d_GM_expr_84 : decode prog_10_method_33_code 84 = .ok (.invokevirtual 201, 3) := by decide +kernel
theorem d_GM_expr_87 : decode prog_10_method_33_code 87 = .ok (.ifCond .eq 35, 3) := by decide +kernel
theorem d_GM_expr_90 : decode prog_10_method_33_code 90 = .ok (.aload_n 0, 1) := by decide +kernel
theorem d_GM_expr_91 : decode prog_10_method_33_code 91 = .ok (.aload_n 0, 1) := by decide +kernel
theorem d_GM_expr_92 : decode prog_10_method_33_code 92 = .ok (.iconst 0, 1) := by decide +kernel
theorem d_GM_expr_93 : decode prog_10_method_33_code 93 = .ok (.invokevirtual 201, 3) := by decide +kernel
theorem d_GM_expr_96 : decode prog_10_method_33_code 96 = .ok (.ifCond .eq 7, 3) := by decide +kernel
theorem d_GM_expr_99 : decode prog_10_method_33_code 99 = .ok (.iconst 1, 1) := by decide +kernel
theorem d_GM_expr_100 : decode prog_10_method_33_code 100 = .ok (.goto 4, 3) := by decide +kernel
theorem d_GM_expr_103 : decode prog_10_method_33_code 103 = .ok (.iconst 2, 1) := by decide +kernel
theorem d_GM_expr_104 : decode prog_10_method_33_code 104 = .ok (.invokevirtual 208, 3) := by decide +kernel
theorem d_GM_expr_107 : decode prog_10_method_33_code 107 = .ok (.aload_n 0, 1) := by decide +kernel
theorem d_GM_expr_108 : decode prog_10_method_33_code 108 = .ok (.dup, 1) := by decide +kernel
theorem d_GM_expr_109 : decode prog_10_method_33_code 109 = .ok (.getfield 22, 3) := by decide +kernel
theorem d_GM_expr_112 : decode prog_10_method_33_code 112 = .ok (.iconst 1, 1) := by decide +kernel
theorem d_GM_expr_113 : decode prog_10_method_33_code 113 = .ok (.iadd, 1) := by decide +kernel
theorem d_GM_expr_114 : decode prog_10_method_33_code 114 = .ok (.putfield 22, 3) := by decide +kernel
theorem d_GM_expr_117 : decode prog_10_method_33_code 117 = .ok (.iconst 1, 1) := by decide +kernel
theorem d_GM_expr_118 : decode prog_10_method_33_code 118 = .ok (.istore_n 3, 1) := by decide +kernel
theorem d_GM_expr_119 : decode prog_10_method_33_code 119 = .ok (.goto 109, 3) := by decide +kernel
theorem d_GM_expr_122 : decode prog_10_method_33_code 122 = .ok (.iload 4, 2) := by decide +kernel
theorem d_GM_expr_124 : decode prog_10_method_33_code 124 = .ok (.ifCond .ge 6, 3) := by decide +kernel
theorem d_GM_expr_127 : decode prog_10_method_33_code 127 = .ok (.goto 104, 3) := by decide +kernel
theorem d_GM_expr_130 : decode prog_10_method_33_code 130 = .ok (.iload 4, 2) := by decide +kernel
theorem d_GM_expr_132 : decode prog_10_method_33_code 132 = .ok (.iconst 5, 1) := by decide +kernel
theorem d_GM_expr_133 : decode prog_10_method_33_code 133 = .ok (.if_icmp .ne 38, 3) := by decide +kernel
theorem d_GM_expr_136 : decode prog_10_method_33_code 136 = .ok (.aload_n 0, 1) := by decide +kernel
theorem d_GM_expr_137 : decode prog_10_method_33_code 137 = .ok (.sipush 299, 3) := by decide +kernel
theorem d_GM_expr_140 : decode prog_10_method_33_code 140 = .ok (.aload_n 0, 1) := by decide +kernel
theorem d_GM_expr_141 : decode prog_10_method_33_code 141 = .ok (.getfield 37, 3) := by decide +kernel
theorem d_GM_expr_144 : decode prog_10_method_33_code 144 = .ok (.iadd, 1) := by decide +kernel
theorem d_GM_expr_145 : decode prog_10_method_33_code 145 = .ok (.invokevirtual 238, 3) := by decide +kernel
theorem d_GM_expr_148 : decode prog_10_method_33_code 148 = .ok (.aload_n 0, 1) := by decide +kernel
theorem d_GM_expr_149 : decode prog_10_method_33_code 149 = .ok (.iconst 5, 1) := by decide +kernel
theorem d_GM_expr_150 : decode prog_10_method_33_code 150 = .ok (.invokevirtual 241, 3) := by decide +kernel
theorem d_GM_expr_153 : decode prog_10_method_33_code 153 = .ok (.aload_n 0, 1) := by decide +kernel
theorem d_GM_expr_154 : decode prog_10_method_33_code 154 = .ok (.getfield 121, 3) := by decide +kernel
theorem d_GM_expr_157 : decode prog_10_method_33_code 157 = .ok (.aload_n 0, 1) := by decide +kernel
theorem d_GM_expr_158 : decode prog_10_method_33_code 158 = .ok (.getfield 49, 3) := by decide +kernel
theorem d_GM_expr_161 : decode prog_10_method_33_code 161 = .ok (.iconst 1, 1) := by decide +kernel
theorem d_GM_expr_162 : decode prog_10_method_33_code 162 = .ok (.isub, 1) := by decide +kernel
theorem d_GM_expr_163 : decode prog_10_method_33_code 163 = .ok (.bipush 6, 2) := by decide +kernel
theorem d_GM_expr_165 : decode prog_10_method_33_code 165 = .ok (.iastore, 1) := by decide +kernel
theorem d_GM_expr_166 : decode prog_10_method_33_code 166 = .ok (.iconst 1, 1) := by decide +kernel
theorem d_GM_expr_167 : decode prog_10_method_33_code 167 = .ok (.istore_n 3, 1) := by decide +kernel
theorem d_GM_expr_168 : decode prog_10_method_33_code 168 = .ok (.goto 60, 3) := by decide +kernel
theorem d_GM_expr_171 : decode prog_10_method_33_code 171 = .ok (.aload_n 0, 1) := by decide +kernel
theorem d_GM_expr_172 : decode prog_10_method_33_code 172 = .ok (.iconst 4, 1) := by decide +kernel
theorem d_GM_expr_173 : decode prog_10_method_33_code 173 = .ok (.invokevirtual 241, 3) := by decide +kernel
theorem d_GM_expr_176 : decode prog_10_method_33_code 176 = .ok (.aload_n 0, 1) := by decide +kernel
theorem d_GM_expr_177 : decode prog_10_method_33_code 177 = .ok (.getfield 25, 3) := by decide +kernel
theorem d_GM_expr_180 : decode prog_10_method_33_code 180 = .ok (.ifCond .eq 4, 3) := by decide +kernel
theorem d_GM_expr_183 : decode prog_10_method_33_code 183 = .ok (.return_, 1) := by decide +kernel
theorem d_GM_expr_184 : decode prog_10_method_33_code 184 = .ok (.aload_n 0, 1) := by decide +kernel
theorem d_GM_expr_185 : decode prog_10_method_33_code 185 = .ok (.dup, 1) := by decide +kernel
theorem d_GM_expr_186 : decode prog_10_method_33_code 186 = .ok (.getfield 52, 3) := by decide +kernel
theorem d_GM_expr_189 : decode prog_10_method_33_code 189 = .ok (.iconst 1, 1) := by decide +kernel
theorem d_GM_expr_190 : decode prog_10_method_33_code 190 = .ok (.isub, 1) := by decide +kernel
theorem d_GM_expr_191 : decode prog_10_method_33_code 191 = .ok (.putfield 52, 3) := by decide +kernel
theorem d_GM_expr_194 : decode prog_10_method_33_code 194 = .ok (.aload_n 0, 1) := by decide +kernel
theorem d_GM_expr_195 : decode prog_10_method_33_code 195 = .ok (.sipush 299, 3) := by decide +kernel
theorem d_GM_expr_198 : decode prog_10_method_33_code 198 = .ok (.aload_n 0, 1) := by decide +kernel
theorem d_GM_expr_199 : decode prog_10_method_33_code 199 = .ok (.getfield 37, 3) := by decide +kernel
theorem d_GM_expr_202 : decode prog_10_method_33_code 202 = .ok (.iadd, 1) := by decide +kernel
theorem d_GM_expr_203 : decode prog_10_method_33_code 203 = .ok (.invokevirtual 238, 3) := by decide +kernel
theorem d_GM_expr_206 : decode prog_10_method_33_code 206 = .ok (.iload 4, 2) := by decide +kernel
theorem d_GM_expr_208 : decode prog_10_method_33_code 208 = .ok (.ifCond .ne 16, 3) := by decide +kernel
theorem d_GM_expr_211 : decode prog_10_method_33_code 211 = .ok (.aload_n 0, 1) := by decide +kernel
theorem d_GM_expr_212 : decode prog_10_method_33_code 212 = .ok (.dup, 1) := by decide +kernel
theorem d_GM_expr_213 : decode prog_10_method_33_code 213 = .ok (.getfield 49, 3) := by decide +kernel
theorem d_GM_expr_216 : decode prog_10_method_33_code 216 = .ok (.iconst 1, 1) := by decide +kernel
theorem d_GM_expr_217 : decode prog_10_method_33_code 217 = .ok (.isub, 1) := by decide +kernel
theorem d_GM_expr_218 : decode prog_10_method_33_code 218 = .ok (.putfield 49, 3) := by decide +kernel
theorem d_GM_expr_221 : decode prog_10_method_33_code 221 = .ok (.goto 7, 3) := by decide +kernel
theorem d_GM_expr_224 : decode prog_10_method_33_code 224 = .ok (.aload_n 0, 1) := by decide +kernel
theorem d_GM_expr_225 : decode prog_10_method_33_code 225 = .ok (.invokevirtual 244, 3) := by decide +kernel
theorem d_GM_expr_228 : decode prog_10_method_33_code 228 = .ok (.goto (-211), 3) := by decide +kernel
theorem d_GM_expr_231 : decode prog_10_method_33_code 231 = .ok (.aload_n 0, 1) := by decide +kernel
theorem d_GM_expr_232 : decode prog_10_method_33_code 232 = .ok (.iload_n 2, 1) := by decide +kernel
theorem d_GM_expr_233 : decode prog_10_method_33_code 233 = .ok (.putfield 49, 3) := by decide +kernel
theorem d_GM_expr_236 : decode prog_10_method_33_code 236 = .ok (.aload_n 0, 1) := by decide +kernel
theorem d_GM_expr_237 : decode prog_10_method_33_code 237 = .ok (.getfield 25, 3) := by decide +kernel
theorem d_GM_expr_240 : decode prog_10_method_33_code 240 = .ok (.ifCond .eq 4, 3) := by decide +kernel
theorem d_GM_expr_243 : decode prog_10_method_33_code 243 = .ok (.return_, 1) := by decide +kernel
theorem d_GM_expr_244 : decode prog_10_method_33_code 244 = .ok (.aload_n 0, 1) := by decide +kernel
theorem d_GM_expr_245 : decode prog_10_method_33_code 245 = .ok (.sipush 300, 3) := by decide +kernel
theorem d_GM_expr_248 : decode prog_10_method_33_code 248 = .ok (.invokevirtual 238, 3) := by decide +kernel
theorem d_GM_expr_251 : decode prog_10_method_33_code 251 = .ok (.aload_n 0, 1) := by decide +kernel
theorem d_GM_expr_252 : decode prog_10_method_33_code 252 = .ok (.iload_n 1, 1) := by decide +kernel
theorem d_GM_expr_253 : decode prog_10_method_33_code 253 = .ok (.sipush 300, 3) := by decide +kernel
theorem d_GM_expr_256 : decode prog_10_method_33_code 256 = .ok (.invokevirtual 247, 3) := by decide +kernel
theorem d_GM_expr_259 : decode prog_10_method_33_code 259 = .ok (.return_, 1) := by decide +kernel
theorem GM_c156 : jLk "GlyphCompilerModel" 156 Y_GM_isWord := Or.inl (jin_t (jin_4 57 rfl) rfl)
theorem GM_f96 : jFl "GlyphCompilerModel" 96 8 28 := ⟨R_GM, T_GM, 46, rfl, Nat.le_of_ble_eq_true rfl, Or.inl (jin_t (jin_3 150 rfl) rfl)⟩
theorem GM_f99 : jFl "GlyphCompilerModel" 99 8 29 := ⟨R_GM, T_GM, 46, rfl, Nat.le_of_ble_eq_true rfl, Or.inl (jin_t (jin_3 151 rfl) rfl)⟩
theorem GM_c160 : jLk "GlyphCompilerModel" 160 Y_GM_putToken := Or.inl (jin_t (jin_4 65 rfl) rfl)
theorem GM_c201 : jLk "GlyphCompilerModel" 201 Y_GM_word := Or.inl (jin_t (jin_4 73 rfl) rfl)
theorem GM_c320 : jLk "GlyphCompilerModel" 320 Y_GM_showIt := Or.inl (jin_t (jin_4 77 rfl) rfl)
theorem GM_c323 : jLk "GlyphCompilerModel" 323 Y_GM_path := Or.inl (jin_t (jin_4 156 rfl) rfl)
theorem GM_c326 : jLk "GlyphCompilerModel" 326 Y_GM_equations := Or.inl (jin_t (jin_4 197 rfl) rfl)
theorem GM_f34 : jFl "GlyphCompilerModel" 34 8 8 := ⟨R_GM, T_GM, 46, rfl, Nat.le_of_ble_eq_true rfl, Or.inl (jin_t (jin_3 130 rfl) rfl)⟩
theorem GM_c250 : jLk "GlyphCompilerModel" 250 Y_GM_expr := Or.inl (jin_t (jin_4 81 rfl) rfl)
theorem GM_c241 : jLk "GlyphCompilerModel" 241 Y_GM_need := Or.inl (jin_t (jin_4 139 rfl) rfl)
theorem GM_f55 : jFl "GlyphCompilerModel" 55 8 15 := ⟨R_GM, T_GM, 46, rfl, Nat.le_of_ble_eq_true rfl, Or.inl (jin_t (jin_3 137 rfl) rfl)⟩
theorem GM_c260 : jLk "GlyphCompilerModel" 260 Y_GM_isNumber := Or.inl (jin_t (jin_4 152 rfl) rfl)
theorem GM_f109 : jFl "GlyphCompilerModel" 109 8 32 := ⟨R_GM, T_GM, 46, rfl, Nat.le_of_ble_eq_true rfl, Or.inl (jin_t (jin_3 154 rfl) rfl)⟩
theorem GM_f118 : jFl "GlyphCompilerModel" 118 8 35 := ⟨R_GM, T_GM, 46, rfl, Nat.le_of_ble_eq_true rfl, Or.inl (jin_t (jin_3 157 rfl) rfl)⟩
theorem GM_f31 : jFl "GlyphCompilerModel" 31 8 7 := ⟨R_GM, T_GM, 46, rfl, Nat.le_of_ble_eq_true rfl, Or.inl (jin_t (jin_3 129 rfl) rfl)⟩
theorem GM_f49 : jFl "GlyphCompilerModel" 49 8 13 := ⟨R_GM, T_GM, 46, rfl, Nat.le_of_ble_eq_true rfl, Or.inl (jin_t (jin_3 135 rfl) rfl)⟩
theorem GM_c231 : jLk "GlyphCompilerModel" 231 Y_GM_begin := Or.inl (jin_t (jin_4 85 rfl) rfl)
theorem GM_c235 : jLk "GlyphCompilerModel" 235 Y_GM_finishTerm := Or.inl (jin_t (jin_4 111 rfl) rfl)
theorem GM_f121 : jFl "GlyphCompilerModel" 121 8 36 := ⟨R_GM, T_GM, 46, rfl, Nat.le_of_ble_eq_true rfl, Or.inl (jin_t (jin_3 158 rfl) rfl)⟩
theorem GM_c208 : jLk "GlyphCompilerModel" 208 Y_GM_push := Or.inl (jin_t (jin_4 89 rfl) rfl)
theorem GM_f37 : jFl "GlyphCompilerModel" 37 8 9 := ⟨R_GM, T_GM, 46, rfl, Nat.le_of_ble_eq_true rfl, Or.inl (jin_t (jin_3 131 rfl) rfl)⟩
theorem GM_c238 : jLk "GlyphCompilerModel" 238 Y_GM_check := Or.inl (jin_t (jin_4 135 rfl) rfl)
theorem GM_f52 : jFl "GlyphCompilerModel" 52 8 14 := ⟨R_GM, T_GM, 46, rfl, Nat.le_of_ble_eq_true rfl, Or.inl (jin_t (jin_3 136 rfl) rfl)⟩
theorem GM_c244 : jLk "GlyphCompilerModel" 244 Y_GM_finishBetween := Or.inl (jin_t (jin_4 143 rfl) rfl)
theorem GM_c247 : jLk "GlyphCompilerModel" 247 Y_GM_copyForm := Or.inl (jin_t (jin_4 148 rfl) rfl)
theorem yk_GM_arguments : jYok Y_GM_arguments 2 := ⟨(jin_t (jin_4 56 rfl) rfl), (jin_t (jin_1 9 rfl) rfl), ⟨by decide +kernel, by decide +kernel⟩, by decide +kernel⟩
theorem yv_GM_arguments : Cond.instanceMethod (yN Y_GM_arguments) ∈ jTs ∧ Cond.selects (yN Y_GM_arguments).cls (yN Y_GM_arguments) (yN Y_GM_arguments) ∈ jTs := ⟨(jin_t (jin_4 55 rfl) rfl), (jin_p (List.mem_map.mpr ⟨(({ cls := "GlyphCompilerModel", name := "arguments", desc := "(II)I" } : Jvm.MethodName), 46), by decide +kernel, rfl⟩) rfl)⟩
theorem yk_GM_isWord : jYok Y_GM_isWord 2 := ⟨(jin_t (jin_4 60 rfl) rfl), (jin_t (jin_1 9 rfl) rfl), ⟨by decide +kernel, by decide +kernel⟩, by decide +kernel⟩
theorem yv_GM_isWord : Cond.instanceMethod (yN Y_GM_isWord) ∈ jTs ∧ Cond.selects (yN Y_GM_isWord).cls (yN Y_GM_isWord) (yN Y_GM_isWord) ∈ jTs := ⟨(jin_t (jin_4 59 rfl) rfl), (jin_p (List.mem_map.mpr ⟨(({ cls := "GlyphCompilerModel", name := "isWord", desc := "(II)Z" } : Jvm.MethodName), 46), by decide +kernel, rfl⟩) rfl)⟩
theorem yk_GM_replace : jYok Y_GM_replace 3 := ⟨(jin_t (jin_4 64 rfl) rfl), (jin_t (jin_1 9 rfl) rfl), ⟨by decide +kernel, by decide +kernel⟩, by decide +kernel⟩
theorem yv_GM_replace : Cond.instanceMethod (yN Y_GM_replace) ∈ jTs ∧ Cond.selects (yN Y_GM_replace).cls (yN Y_GM_replace) (yN Y_GM_replace) ∈ jTs := ⟨(jin_t (jin_4 63 rfl) rfl), (jin_p (List.mem_map.mpr ⟨(({ cls := "GlyphCompilerModel", name := "replace", desc := "(III)I" } : Jvm.MethodName), 46), by decide +kernel, rfl⟩) rfl)⟩
theorem yk_GM_putToken : jYok Y_GM_putToken 4 := ⟨(jin_t (jin_4 68 rfl) rfl), (jin_t (jin_1 9 rfl) rfl), ⟨by decide +kernel, by decide +kernel⟩, by decide +kernel⟩
theorem yv_GM_putToken : Cond.instanceMethod (yN Y_GM_putToken) ∈ jTs ∧ Cond.selects (yN Y_GM_putToken).cls (yN Y_GM_putToken) (yN Y_GM_putToken) ∈ jTs := ⟨(jin_t (jin_4 67 rfl) rfl), (jin_p (List.mem_map.mpr ⟨(({ cls := "GlyphCompilerModel", name := "putToken", desc := "(IIII)I" } : Jvm.MethodName), 46), by decide +kernel, rfl⟩) rfl)⟩
theorem yk_GM_statement : jYok Y_GM_statement 0 := ⟨(jin_t (jin_4 72 rfl) rfl), (jin_t (jin_1 9 rfl) rfl), ⟨by decide +kernel, by decide +kernel⟩, by decide +kernel⟩
theorem yv_GM_statement : Cond.instanceMethod (yN Y_GM_statement) ∈ jTs ∧ Cond.selects (yN Y_GM_statement).cls (yN Y_GM_statement) (yN Y_GM_statement) ∈ jTs := ⟨(jin_t (jin_4 71 rfl) rfl), (jin_p (List.mem_map.mpr ⟨(({ cls := "GlyphCompilerModel", name := "statement", desc := "()V" } : Jvm.MethodName), 46), by decide +kernel, rfl⟩) rfl)⟩
theorem yk_GM_word : jYok Y_GM_word 1 := ⟨(jin_t (jin_4 76 rfl) rfl), (jin_t (jin_1 9 rfl) rfl), ⟨by decide +kernel, by decide +kernel⟩, by decide +kernel⟩
theorem yv_GM_word : Cond.instanceMethod (yN Y_GM_word) ∈ jTs ∧ Cond.selects (yN Y_GM_word).cls (yN Y_GM_word) (yN Y_GM_word) ∈ jTs := ⟨(jin_t (jin_4 75 rfl) rfl), (jin_p (List.mem_map.mpr ⟨(({ cls := "GlyphCompilerModel", name := "word", desc := "(I)Z" } : Jvm.MethodName), 46), by decide +kernel, rfl⟩) rfl)⟩
theorem yk_GM_showIt : jYok Y_GM_showIt 0 := ⟨(jin_t (jin_4 80 rfl) rfl), (jin_t (jin_1 9 rfl) rfl), ⟨by decide +kernel, by decide +kernel⟩, by decide +kernel⟩
theorem yv_GM_showIt : Cond.instanceMethod (yN Y_GM_showIt) ∈ jTs ∧ Cond.selects (yN Y_GM_showIt).cls (yN Y_GM_showIt) (yN Y_GM_showIt) ∈ jTs := ⟨(jin_t (jin_4 79 rfl) rfl), (jin_p (List.mem_map.mpr ⟨(({ cls := "GlyphCompilerModel", name := "showIt", desc := "()V" } : Jvm.MethodName), 46), by decide +kernel, rfl⟩) rfl)⟩
theorem yk_GM_expr : jYok Y_GM_expr 1 := ⟨(jin_t (jin_4 84 rfl) rfl), (jin_t (jin_1 9 rfl) rfl), ⟨by decide +kernel, by decide +kernel⟩, by decide +kernel⟩
theorem yv_GM_expr : Cond.instanceMethod (yN Y_GM_expr) ∈ jTs ∧ Cond.selects (yN Y_GM_expr).cls (yN Y_GM_expr) (yN Y_GM_expr) ∈ jTs := ⟨(jin_t (jin_4 83 rfl) rfl), (jin_p (List.mem_map.mpr ⟨(({ cls := "GlyphCompilerModel", name := "expr", desc := "(I)V" } : Jvm.MethodName), 46), by decide +kernel, rfl⟩) rfl)⟩

theorem d_TR_init_0 : decode prog_7_method_1_code 0 = .ok (.aload_n 0, 1) := by decide +kernel
theorem d_TR_init_1 : decode prog_7_method_1_code 1 = .ok (.invokespecial 3, 3) := by decide +kernel
theorem d_TR_init_4 : decode prog_7_method_1_code 4 = .ok (.aload_n 0, 1) := by decide +kernel
theorem d_TR_init_5 : decode prog_7_method_1_code 5 = .ok (.iload_n 1, 1) := by decide +kernel
theorem d_TR_init_6 : decode prog_7_method_1_code 6 = .ok (.newarray .int, 2) := by decide +kernel
theorem d_TR_init_8 : decode prog_7_method_1_code 8 = .ok (.putfield 9, 3) := by decide +kernel
theorem d_TR_init_11 : decode prog_7_method_1_code 11 = .ok (.aload_n 0, 1) := by decide +kernel
theorem d_TR_init_12 : decode prog_7_method_1_code 12 = .ok (.iload_n 1, 1) := by decide +kernel
theorem d_TR_init_13 : decode prog_7_method_1_code 13 = .ok (.newarray .int, 2) := by decide +kernel
theorem d_TR_init_15 : decode prog_7_method_1_code 15 = .ok (.putfield 15, 3) := by decide +kernel
theorem d_TR_init_18 : decode prog_7_method_1_code 18 = .ok (.aload_n 0, 1) := by decide +kernel
theorem d_TR_init_19 : decode prog_7_method_1_code 19 = .ok (.iload_n 1, 1) := by decide +kernel
theorem d_TR_init_20 : decode prog_7_method_1_code 20 = .ok (.newarray .int, 2) := by decide +kernel
theorem d_TR_init_22 : decode prog_7_method_1_code 22 = .ok (.putfield 18, 3) := by decide +kernel
theorem d_TR_init_25 : decode prog_7_method_1_code 25 = .ok (.return_, 1) := by decide +kernel
theorem d_TR_add_0 : decode prog_7_method_5_code 0 = .ok (.aload_n 0, 1) := by decide +kernel
theorem d_TR_add_1 : decode prog_7_method_5_code 1 = .ok (.getfield 21, 3) := by decide +kernel
theorem d_TR_add_4 : decode prog_7_method_5_code 4 = .ok (.aload_n 0, 1) := by decide +kernel
theorem d_TR_add_5 : decode prog_7_method_5_code 5 = .ok (.getfield 9, 3) := by decide +kernel
theorem d_TR_add_8 : decode prog_7_method_5_code 8 = .ok (.arraylength, 1) := by decide +kernel
theorem d_TR_add_9 : decode prog_7_method_5_code 9 = .ok (.if_icmp .ge 43, 3) := by decide +kernel
theorem d_TR_add_12 : decode prog_7_method_5_code 12 = .ok (.aload_n 0, 1) := by decide +kernel
theorem d_TR_add_13 : decode prog_7_method_5_code 13 = .ok (.getfield 9, 3) := by decide +kernel
theorem d_TR_add_16 : decode prog_7_method_5_code 16 = .ok (.aload_n 0, 1) := by decide +kernel
theorem d_TR_add_17 : decode prog_7_method_5_code 17 = .ok (.getfield 21, 3) := by decide +kernel
theorem d_TR_add_20 : decode prog_7_method_5_code 20 = .ok (.iload_n 1, 1) := by decide +kernel
theorem d_TR_add_21 : decode prog_7_method_5_code 21 = .ok (.iastore, 1) := by decide +kernel
theorem d_TR_add_22 : decode prog_7_method_5_code 22 = .ok (.aload_n 0, 1) := by decide +kernel
theorem d_TR_add_23 : decode prog_7_method_5_code 23 = .ok (.getfield 15, 3) := by decide +kernel
theorem d_TR_add_26 : decode prog_7_method_5_code 26 = .ok (.aload_n 0, 1) := by decide +kernel
theorem d_TR_add_27 : decode prog_7_method_5_code 27 = .ok (.getfield 21, 3) := by decide +kernel
theorem d_TR_add_30 : decode prog_7_method_5_code 30 = .ok (.iload_n 2, 1) := by decide +kernel
theorem d_TR_add_31 : decode prog_7_method_5_code 31 = .ok (.iastore, 1) := by decide +kernel
theorem d_TR_add_32 : decode prog_7_method_5_code 32 = .ok (.aload_n 0, 1) := by decide +kernel
theorem d_TR_add_33 : decode prog_7_method_5_code 33 = .ok (.getfield 18, 3) := by decide +kernel
theorem d_TR_add_36 : decode prog_7_method_5_code 36 = .ok (.aload_n 0, 1) := by decide +kernel
theorem d_TR_add_37 : decode prog_7_method_5_code 37 = .ok (.getfield 21, 3) := by decide +kernel
theorem d_TR_add_40 : decode prog_7_method_5_code 40 = .ok (.iload_n 3, 1) := by decide +kernel
theorem d_TR_add_41 : decode prog_7_method_5_code 41 = .ok (.iastore, 1) := by decide +kernel
theorem d_TR_add_42 : decode prog_7_method_5_code 42 = .ok (.aload_n 0, 1) := by decide +kernel
theorem d_TR_add_43 : decode prog_7_method_5_code 43 = .ok (.dup, 1) := by decide +kernel
theorem d_TR_add_44 : decode prog_7_method_5_code 44 = .ok (.getfield 21, 3) := by decide +kernel
theorem d_TR_add_47 : decode prog_7_method_5_code 47 = .ok (.iconst 1, 1) := by decide +kernel
theorem d_TR_add_48 : decode prog_7_method_5_code 48 = .ok (.iadd, 1) := by decide +kernel
theorem d_TR_add_49 : decode prog_7_method_5_code 49 = .ok (.putfield 21, 3) := by decide +kernel
theorem d_TR_add_52 : decode prog_7_method_5_code 52 = .ok (.return_, 1) := by decide +kernel
theorem d_TR_greatestArgument_0 : decode prog_7_method_4_code 0 = .ok (.iconst (-1), 1) := by decide +kernel
theorem d_TR_greatestArgument_1 : decode prog_7_method_4_code 1 = .ok (.istore_n 1, 1) := by decide +kernel
theorem d_TR_greatestArgument_2 : decode prog_7_method_4_code 2 = .ok (.iconst 0, 1) := by decide +kernel
theorem d_TR_greatestArgument_3 : decode prog_7_method_4_code 3 = .ok (.istore_n 2, 1) := by decide +kernel
theorem d_TR_greatestArgument_4 : decode prog_7_method_4_code 4 = .ok (.iload_n 2, 1) := by decide +kernel
theorem d_TR_greatestArgument_5 : decode prog_7_method_4_code 5 = .ok (.aload_n 0, 1) := by decide +kernel
theorem d_TR_greatestArgument_6 : decode prog_7_method_4_code 6 = .ok (.getfield 21, 3) := by decide +kernel
theorem d_TR_greatestArgument_9 : decode prog_7_method_4_code 9 = .ok (.if_icmp .ge 30, 3) := by decide +kernel
theorem d_TR_greatestArgument_12 : decode prog_7_method_4_code 12 = .ok (.aload_n 0, 1) := by decide +kernel
theorem d_TR_greatestArgument_13 : decode prog_7_method_4_code 13 = .ok (.getfield 9, 3) := by decide +kernel
theorem d_TR_greatestArgument_16 : decode prog_7_method_4_code 16 = .ok (.iload_n 2, 1) := by decide +kernel
theorem d_TR_greatestArgument_17 : decode prog_7_method_4_code 17 = .ok (.iaload, 1) := by decide +kernel
theorem d_TR_greatestArgument_18 : decode prog_7_method_4_code 18 = .ok (.iconst 2, 1) := by decide +kernel
theorem d_TR_greatestArgument_19 : decode prog_7_method_4_code 19 = .ok (.if_icmp .ne 14, 3) := by decide +kernel
theorem d_TR_greatestArgument_22 : decode prog_7_method_4_code 22 = .ok (.iload_n 1, 1) := by decide +kernel
theorem d_TR_greatestArgument_23 : decode prog_7_method_4_code 23 = .ok (.aload_n 0, 1) := by decide +kernel
theorem d_TR_greatestArgument_24 : decode prog_7_method_4_code 24 = .ok (.getfield 15, 3) := by decide +kernel
theorem d_TR_greatestArgument_27 : decode prog_7_method_4_code 27 = .ok (.iload_n 2, 1) := by decide +kernel
theorem d_TR_greatestArgument_28 : decode prog_7_method_4_code 28 = .ok (.iaload, 1) := by decide +kernel
theorem d_TR_greatestArgument_29 : decode prog_7_method_4_code 29 = .ok (.invokestatic 25, 3) := by decide +kernel
theorem d_TR_greatestArgument_32 : decode prog_7_method_4_code 32 = .ok (.istore_n 1, 1) := by decide +kernel
theorem d_TR_greatestArgument_33 : decode prog_7_method_4_code 33 = .ok (.iinc 2 1, 3) := by decide +kernel
theorem d_TR_greatestArgument_36 : decode prog_7_method_4_code 36 = .ok (.goto (-32), 3) := by decide +kernel
theorem d_TR_greatestArgument_39 : decode prog_7_method_4_code 39 = .ok (.iload_n 1, 1) := by decide +kernel
theorem d_TR_greatestArgument_40 : decode prog_7_method_4_code 40 = .ok (.ireturn, 1) := by decide +kernel
theorem d_TR_copy_0 : decode prog_7_method_7_code 0 = .ok (.aload_n 0, 1) := by decide +kernel
theorem d_TR_copy_1 : decode prog_7_method_7_code 1 = .ok (.iconst 0, 1) := by decide +kernel
theorem d_TR_copy_2 : decode prog_7_method_7_code 2 = .ok (.putfield 21, 3) := by decide +kernel
theorem d_TR_copy_5 : decode prog_7_method_7_code 5 = .ok (.aload_n 0, 1) := by decide +kernel
theorem d_TR_copy_6 : decode prog_7_method_7_code 6 = .ok (.aload_n 1, 1) := by decide +kernel
theorem d_TR_copy_7 : decode prog_7_method_7_code 7 = .ok (.iconst 0, 1) := by decide +kernel
theorem d_TR_copy_8 : decode prog_7_method_7_code 8 = .ok (.aload_n 1, 1) := by decide +kernel
theorem d_TR_copy_9 : decode prog_7_method_7_code 9 = .ok (.getfield 21, 3) := by decide +kernel
theorem d_TR_copy_12 : decode prog_7_method_7_code 12 = .ok (.invokevirtual 40, 3) := by decide +kernel
theorem d_TR_copy_15 : decode prog_7_method_7_code 15 = .ok (.return_, 1) := by decide +kernel
theorem d_TR_addAll_0 : decode prog_7_method_6_code 0 = .ok (.iload_n 3, 1) := by decide +kernel
theorem d_TR_addAll_1 : decode prog_7_method_6_code 1 = .ok (.iload_n 2, 1) := by decide +kernel
theorem d_TR_addAll_2 : decode prog_7_method_6_code 2 = .ok (.isub, 1) := by decide +kernel
theorem d_TR_addAll_3 : decode prog_7_method_6_code 3 = .ok (.aload_n 0, 1) := by decide +kernel
theorem d_TR_addAll_4 : decode prog_7_method_6_code 4 = .ok (.getfield 9, 3) := by decide +kernel
theorem d_TR_addAll_7 : decode prog_7_method_6_code 7 = .ok (.arraylength, 1) := by decide +kernel
theorem d_TR_addAll_8 : decode prog_7_method_6_code 8 = .ok (.aload_n 0, 1) := by decide +kernel
theorem d_TR_addAll_9 : decode prog_7_method_6_code 9 = .ok (.getfield 21, 3) := by decide +kernel
theorem d_TR_addAll_12 : decode prog_7_method_6_code 12 = .ok (.isub, 1) := by decide +kernel
theorem d_TR_addAll_13 : decode prog_7_method_6_code 13 = .ok (.invokestatic 31, 3) := by decide +kernel
theorem d_TR_addAll_16 : decode prog_7_method_6_code 16 = .ok (.istore 4, 2) := by decide +kernel
theorem d_TR_addAll_18 : decode prog_7_method_6_code 18 = .ok (.iload_n 2, 1) := by decide +kernel
theorem d_TR_addAll_19 : decode prog_7_method_6_code 19 = .ok (.ifCond .lt 73, 3) := by decide +kernel
theorem d_TR_addAll_22 : decode prog_7_method_6_code 22 = .ok (.iload 4, 2) := by decide +kernel
theorem d_TR_addAll_24 : decode prog_7_method_6_code 24 = .ok (.ifCond .le 68, 3) := by decide +kernel
theorem d_TR_addAll_27 : decode prog_7_method_6_code 27 = .ok (.aload_n 1, 1) := by decide +kernel
theorem d_TR_addAll_28 : decode prog_7_method_6_code 28 = .ok (.getfield 9, 3) := by decide +kernel
theorem d_TR_addAll_31 : decode prog_7_method_6_code 31 = .ok (.iload_n 2, 1) := by decide +kernel
theorem d_TR_addAll_32 : decode prog_7_method_6_code 32 = .ok (.aload_n 0, 1) := by decide +kernel
theorem d_TR_addAll_33 : decode prog_7_method_6_code 33 = .ok (.getfield 9, 3) := by decide +kernel
theorem d_TR_addAll_36 : decode prog_7_method_6_code 36 = .ok (.aload_n 0, 1) := by decide +kernel
theorem d_TR_addAll_37 : decode prog_7_method_6_code 37 = .ok (.getfield 21, 3) := by decide +kernel
theorem d_TR_addAll_40 : decode prog_7_method_6_code 40 = .ok (.iload 4, 2) := by decide +kernel
theorem d_TR_addAll_42 : decode prog_7_method_6_code 42 = .ok (.invokestatic 34, 3) := by decide +kernel
theorem d_TR_addAll_45 : decode prog_7_method_6_code 45 = .ok (.aload_n 1, 1) := by decide +kernel
theorem d_TR_addAll_46 : decode prog_7_method_6_code 46 = .ok (.getfield 15, 3) := by decide +kernel
theorem d_TR_addAll_49 : decode prog_7_method_6_code 49 = .ok (.iload_n 2, 1) := by decide +kernel
theorem d_TR_addAll_50 : decode prog_7_method_6_code 50 = .ok (.aload_n 0, 1) := by decide +kernel
theorem d_TR_addAll_51 : decode prog_7_method_6_code 51 = .ok (.getfield 15, 3) := by decide +kernel
theorem d_TR_addAll_54 : decode prog_7_method_6_code 54 = .ok (.aload_n 0, 1) := by decide +kernel
theorem d_TR_addAll_55 : decode prog_7_method_6_code 55 = .ok (.getfield 21, 3) := by decide +kernel
theorem d_TR_addAll_58 : decode prog_7_method_6_code 58 = .ok (.iload 4, 2) := by decide +kernel
theorem d_TR_addAll_60 : decode prog_7_method_6_code 60 = .ok (.invokestatic 34, 3) := by decide +kernel
theorem d_TR_addAll_63 : decode prog_7_method_6_code 63 = .ok (.aload_n 1, 1) := by decide +kernel
theorem d_TR_addAll_64 : decode prog_7_method_6_code 64 = .ok (.getfield 18, 3) := by decide +kernel
theorem d_TR_addAll_67 : decode prog_7_method_6_code 67 = .ok (.iload_n 2, 1) := by decide +kernel
theorem d_TR_addAll_68 : decode prog_7_method_6_code 68 = .ok (.aload_n 0, 1) := by decide +kernel
theorem d_TR_addAll_69 : decode prog_7_method_6_code 69 = .ok (.getfield 18, 3) := by decide +kernel
theorem d_TR_addAll_72 : decode prog_7_method_6_code 72 = .ok (.aload_n 0, 1) := by decide +kernel
theorem d_TR_addAll_73 : decode prog_7_method_6_code 73 = .ok (.getfield 21, 3) := by decide +kernel
theorem d_TR_addAll_76 : decode prog_7_method_6_code 76 = .ok (.iload 4, 2) := by decide +kernel
theorem d_TR_addAll_78 : decode prog_7_method_6_code 78 = .ok (.invokestatic 34, 3) := by decide +kernel
theorem d_TR_addAll_81 : decode prog_7_method_6_code 81 = .ok (.aload_n 0, 1) := by decide +kernel
theorem d_TR_addAll_82 : decode prog_7_method_6_code 82 = .ok (.dup, 1) := by decide +kernel
theorem d_TR_addAll_83 : decode prog_7_method_6_code 83 = .ok (.getfield 21, 3) := by decide +kernel
theorem d_TR_addAll_86 : decode prog_7_method_6_code 86 = .ok (.iload 4, 2) := by decide +kernel
theorem d_TR_addAll_88 : decode prog_7_method_6_code 88 = .ok (.iadd, 1) := by decide +kernel
theorem d_TR_addAll_89 : decode prog_7_method_6_code 89 = .ok (.putfield 21, 3) := by decide +kernel
theorem d_TR_addAll_92 : decode prog_7_method_6_code 92 = .ok (.return_, 1) := by decide +kernel
theorem d_TR_isWord_0 : decode prog_7_method_3_code 0 = .ok (.iload_n 1, 1) := by decide +kernel
theorem d_TR_isWord_1 : decode prog_7_method_3_code 1 = .ok (.ifCond .lt 35, 3) := by decide +kernel
theorem d_TR_isWord_4 : decode prog_7_method_3_code 4 = .ok (.iload_n 1, 1) := by decide +kernel
theorem d_TR_isWord_5 : decode prog_7_method_3_code 5 = .ok (.aload_n 0, 1) := by decide +kernel
theorem d_TR_isWord_6 : decode prog_7_method_3_code 6 = .ok (.getfield 21, 3) := by decide +kernel
theorem d_TR_isWord_9 : decode prog_7_method_3_code 9 = .ok (.if_icmp .ge 27, 3) := by decide +kernel
theorem d_TR_isWord_12 : decode prog_7_method_3_code 12 = .ok (.aload_n 0, 1) := by decide +kernel
theorem d_TR_isWord_13 : decode prog_7_method_3_code 13 = .ok (.getfield 9, 3) := by decide +kernel
theorem d_TR_isWord_16 : decode prog_7_method_3_code 16 = .ok (.iload_n 1, 1) := by decide +kernel
theorem d_TR_isWord_17 : decode prog_7_method_3_code 17 = .ok (.iaload, 1) := by decide +kernel
theorem d_TR_isWord_18 : decode prog_7_method_3_code 18 = .ok (.iconst 4, 1) := by decide +kernel
theorem d_TR_isWord_19 : decode prog_7_method_3_code 19 = .ok (.if_icmp .ne 17, 3) := by decide +kernel
theorem d_TR_isWord_22 : decode prog_7_method_3_code 22 = .ok (.aload_n 0, 1) := by decide +kernel
theorem d_TR_isWord_23 : decode prog_7_method_3_code 23 = .ok (.getfield 15, 3) := by decide +kernel
theorem d_TR_isWord_26 : decode prog_7_method_3_code 26 = .ok (.iload_n 1, 1) := by decide +kernel
theorem d_TR_isWord_27 : decode prog_7_method_3_code 27 = .ok (.iaload, 1) := by decide +kernel
theorem d_TR_isWord_28 : decode prog_7_method_3_code 28 = .ok (.iload_n 2, 1) := by decide +kernel
theorem d_TR_isWord_29 : decode prog_7_method_3_code 29 = .ok (.if_icmp .ne 7, 3) := by decide +kernel
theorem d_TR_isWord_32 : decode prog_7_method_3_code 32 = .ok (.iconst 1, 1) := by decide +kernel
theorem d_TR_isWord_33 : decode prog_7_method_3_code 33 = .ok (.goto 4, 3) := by decide +kernel
theorem d_TR_isWord_36 : decode prog_7_method_3_code 36 = .ok (.iconst 0, 1) := by decide +kernel
theorem d_TR_isWord_37 : decode prog_7_method_3_code 37 = .ok (.ireturn, 1) := by decide +kernel
theorem d_TR_isKind_0 : decode prog_7_method_2_code 0 = .ok (.iload_n 1, 1) := by decide +kernel
theorem d_TR_isKind_1 : decode prog_7_method_2_code 1 = .ok (.ifCond .lt 25, 3) := by decide +kernel
theorem d_TR_isKind_4 : decode prog_7_method_2_code 4 = .ok (.iload_n 1, 1) := by decide +kernel
theorem d_TR_isKind_5 : decode prog_7_method_2_code 5 = .ok (.aload_n 0, 1) := by decide +kernel
theorem d_TR_isKind_6 : decode prog_7_method_2_code 6 = .ok (.getfield 21, 3) := by decide +kernel
theorem d_TR_isKind_9 : decode prog_7_method_2_code 9 = .ok (.if_icmp .ge 17, 3) := by decide +kernel
theorem d_TR_isKind_12 : decode prog_7_method_2_code 12 = .ok (.aload_n 0, 1) := by decide +kernel
theorem d_TR_isKind_13 : decode prog_7_method_2_code 13 = .ok (.getfield 9, 3) := by decide +kernel
theorem d_TR_isKind_16 : decode prog_7_method_2_code 16 = .ok (.iload_n 1, 1) := by decide +kernel
theorem d_TR_isKind_17 : decode prog_7_method_2_code 17 = .ok (.iaload, 1) := by decide +kernel
theorem d_TR_isKind_18 : decode prog_7_method_2_code 18 = .ok (.iload_n 2, 1) := by decide +kernel
theorem d_TR_isKind_19 : decode prog_7_method_2_code 19 = .ok (.if_icmp .ne 7, 3) := by decide +kernel
theorem d_TR_isKind_22 : decode prog_7_method_2_code 22 = .ok (.iconst 1, 1) := by decide +kernel
theorem d_TR_isKind_23 : decode prog_7_method_2_code 23 = .ok (.goto 4, 3) := by decide +kernel
theorem d_TR_isKind_26 : decode prog_7_method_2_code 26 = .ok (.iconst 0, 1) := by decide +kernel
theorem d_TR_isKind_27 : decode prog_7_method_2_code 27 = .ok (.ireturn, 1) := by decide +kernel
theorem TR_o3 : Cond.methodLink "GlyphCompiler$TokenRow" 3 objectInit ∈ jTs ∧ Cond.instanceMethod objectInit ∈ jTs ∧ Cond.code objectInit ⟨#[0xb1]⟩ 1 none ∈ jTs := ⟨(jin_t (jin_1 27 rfl) rfl), (jin_t (jin_1 20 rfl) rfl), (jin_t (jin_1 21 rfl) rfl)⟩
theorem TR_w9 (y : MethodName) (h : y.cls = "GlyphCompiler$TokenRow") (h2 : y.name = "<init>") : jFw y 9 0 0 (.array .int) := ⟨R_TR, T_TR, 4, rfl, Nat.le_of_ble_eq_true rfl, by decide +kernel, Or.inr ⟨rfl, h2, h.symm, by rw [h]; exact (jin_t (jin_1 28 rfl) rfl)⟩⟩
theorem TR_w15 (y : MethodName) (h : y.cls = "GlyphCompiler$TokenRow") (h2 : y.name = "<init>") : jFw y 15 0 1 (.array .int) := ⟨R_TR, T_TR, 4, rfl, Nat.le_of_ble_eq_true rfl, by decide +kernel, Or.inr ⟨rfl, h2, h.symm, by rw [h]; exact (jin_t (jin_1 31 rfl) rfl)⟩⟩
theorem TR_w18 (y : MethodName) (h : y.cls = "GlyphCompiler$TokenRow") (h2 : y.name = "<init>") : jFw y 18 0 2 (.array .int) := ⟨R_TR, T_TR, 4, rfl, Nat.le_of_ble_eq_true rfl, by decide +kernel, Or.inr ⟨rfl, h2, h.symm, by rw [h]; exact (jin_t (jin_1 34 rfl) rfl)⟩⟩
theorem TR_f21 : jFl "GlyphCompiler$TokenRow" 21 0 3 := ⟨R_TR, T_TR, 4, rfl, Nat.le_of_ble_eq_true rfl, Or.inl (jin_t (jin_1 36 rfl) rfl)⟩
theorem TR_f9 : jFl "GlyphCompiler$TokenRow" 9 0 0 := ⟨R_TR, T_TR, 4, rfl, Nat.le_of_ble_eq_true rfl, Or.inl (jin_t (jin_1 28 rfl) rfl)⟩
theorem TR_f15 : jFl "GlyphCompiler$TokenRow" 15 0 1 := ⟨R_TR, T_TR, 4, rfl, Nat.le_of_ble_eq_true rfl, Or.inl (jin_t (jin_1 31 rfl) rfl)⟩
theorem TR_f18 : jFl "GlyphCompiler$TokenRow" 18 0 2 := ⟨R_TR, T_TR, 4, rfl, Nat.le_of_ble_eq_true rfl, Or.inl (jin_t (jin_1 34 rfl) rfl)⟩
theorem TR_w21 (y : MethodName) (h : y.cls = "GlyphCompiler$TokenRow") : jFw y 21 0 3 .int := ⟨R_TR, T_TR, 4, rfl, Nat.le_of_ble_eq_true rfl, by decide +kernel, Or.inl ⟨rfl, Or.inl (by rw [h]; exact (jin_t (jin_1 36 rfl) rfl))⟩⟩
theorem TR_c25 : jLk "GlyphCompiler$TokenRow" 25 Y_Ma_max := Or.inl (jin_t (jin_2 44 rfl) rfl)
theorem TR_c40 : jLk "GlyphCompiler$TokenRow" 40 Y_TR_addAll := Or.inl (jin_t (jin_2 55 rfl) rfl)
theorem TR_c31 : jLk "GlyphCompiler$TokenRow" 31 Y_Ma_min := Or.inl (jin_t (jin_2 59 rfl) rfl)
theorem yk_TR_init : jYok Y_TR_init 1 := ⟨(jin_t (jin_1 26 rfl) rfl), (jin_t (jin_1 2 rfl) rfl), ⟨by decide +kernel, by decide +kernel⟩, by decide +kernel⟩
theorem yv_TR_init : Cond.instanceMethod (yN Y_TR_init) ∈ jTs := (jin_t (jin_1 25 rfl) rfl)
theorem yk_TR_add : jYok Y_TR_add 3 := ⟨(jin_t (jin_2 31 rfl) rfl), (jin_t (jin_1 2 rfl) rfl), ⟨by decide +kernel, by decide +kernel⟩, by decide +kernel⟩
theorem yv_TR_add : Cond.instanceMethod (yN Y_TR_add) ∈ jTs ∧ Cond.selects (yN Y_TR_add).cls (yN Y_TR_add) (yN Y_TR_add) ∈ jTs := ⟨(jin_t (jin_2 29 rfl) rfl), (jin_t (jin_2 30 rfl) rfl)⟩
theorem yk_TR_greatestArgument : jYok Y_TR_greatestArgument 0 := ⟨(jin_t (jin_2 43 rfl) rfl), (jin_t (jin_1 2 rfl) rfl), ⟨by decide +kernel, by decide +kernel⟩, by decide +kernel⟩
theorem yv_TR_greatestArgument : Cond.instanceMethod (yN Y_TR_greatestArgument) ∈ jTs ∧ Cond.selects (yN Y_TR_greatestArgument).cls (yN Y_TR_greatestArgument) (yN Y_TR_greatestArgument) ∈ jTs := ⟨(jin_t (jin_2 41 rfl) rfl), (jin_t (jin_2 42 rfl) rfl)⟩
theorem yk_TR_copy : jYok Y_TR_copy 1 := ⟨(jin_t (jin_2 54 rfl) rfl), (jin_t (jin_1 2 rfl) rfl), ⟨by decide +kernel, by decide +kernel⟩, by decide +kernel⟩
theorem yv_TR_copy : Cond.instanceMethod (yN Y_TR_copy) ∈ jTs ∧ Cond.selects (yN Y_TR_copy).cls (yN Y_TR_copy) (yN Y_TR_copy) ∈ jTs := ⟨(jin_t (jin_2 52 rfl) rfl), (jin_t (jin_2 53 rfl) rfl)⟩
theorem yk_TR_addAll : jYok Y_TR_addAll 3 := ⟨(jin_t (jin_2 58 rfl) rfl), (jin_t (jin_1 2 rfl) rfl), ⟨by decide +kernel, by decide +kernel⟩, by decide +kernel⟩
theorem yv_TR_addAll : Cond.instanceMethod (yN Y_TR_addAll) ∈ jTs ∧ Cond.selects (yN Y_TR_addAll).cls (yN Y_TR_addAll) (yN Y_TR_addAll) ∈ jTs := ⟨(jin_t (jin_2 56 rfl) rfl), (jin_t (jin_2 57 rfl) rfl)⟩
theorem yk_TR_isWord : jYok Y_TR_isWord 2 := ⟨(jin_t (jin_2 84 rfl) rfl), (jin_t (jin_1 2 rfl) rfl), ⟨by decide +kernel, by decide +kernel⟩, by decide +kernel⟩
theorem yv_TR_isWord : Cond.instanceMethod (yN Y_TR_isWord) ∈ jTs ∧ Cond.selects (yN Y_TR_isWord).cls (yN Y_TR_isWord) (yN Y_TR_isWord) ∈ jTs := ⟨(jin_t (jin_2 82 rfl) rfl), (jin_t (jin_2 83 rfl) rfl)⟩
theorem yk_TR_isKind : jYok Y_TR_isKind 2 := ⟨(jin_t (jin_2 105 rfl) rfl), (jin_t (jin_1 2 rfl) rfl), ⟨by decide +kernel, by decide +kernel⟩, by decide +kernel⟩
theorem yv_TR_isKind : Cond.instanceMethod (yN Y_TR_isKind) ∈ jTs ∧ Cond.selects (yN Y_TR_isKind).cls (yN Y_TR_isKind) (yN Y_TR_isKind) ∈ jTs := ⟨(jin_t (jin_2 103 rfl) rfl), (jin_t (jin_2 104 rfl) rfl)⟩

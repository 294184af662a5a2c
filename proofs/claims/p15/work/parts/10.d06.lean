theorem d_Ar_fill_0 : decode prog_14_method_103_code 0 = .ok (.iconst 0, 1) := by decide +kernel
theorem d_Ar_fill_1 : decode prog_14_method_103_code 1 = .ok (.istore_n 2, 1) := by decide +kernel
theorem d_Ar_fill_2 : decode prog_14_method_103_code 2 = .ok (.aload_n 0, 1) := by decide +kernel
theorem d_Ar_fill_3 : decode prog_14_method_103_code 3 = .ok (.arraylength, 1) := by decide +kernel
theorem d_Ar_fill_4 : decode prog_14_method_103_code 4 = .ok (.istore_n 3, 1) := by decide +kernel
theorem d_Ar_fill_5 : decode prog_14_method_103_code 5 = .ok (.iload_n 2, 1) := by decide +kernel
theorem d_Ar_fill_6 : decode prog_14_method_103_code 6 = .ok (.iload_n 3, 1) := by decide +kernel
theorem d_Ar_fill_7 : decode prog_14_method_103_code 7 = .ok (.if_icmp .ge 13, 3) := by decide +kernel
theorem d_Ar_fill_10 : decode prog_14_method_103_code 10 = .ok (.aload_n 0, 1) := by decide +kernel
theorem d_Ar_fill_11 : decode prog_14_method_103_code 11 = .ok (.iload_n 2, 1) := by decide +kernel
theorem d_Ar_fill_12 : decode prog_14_method_103_code 12 = .ok (.iload_n 1, 1) := by decide +kernel
theorem d_Ar_fill_13 : decode prog_14_method_103_code 13 = .ok (.iastore, 1) := by decide +kernel
theorem d_Ar_fill_14 : decode prog_14_method_103_code 14 = .ok (.iinc 2 1, 3) := by decide +kernel
theorem d_Ar_fill_17 : decode prog_14_method_103_code 17 = .ok (.goto (-12), 3) := by decide +kernel
theorem d_Ar_fill_20 : decode prog_14_method_103_code 20 = .ok (.return_, 1) := by decide +kernel
theorem d_Lo_bitCount_0 : decode prog_11_method_50_code 0 = .ok (.lload_n 0, 1) := by decide +kernel
theorem d_Lo_bitCount_1 : decode prog_11_method_50_code 1 = .ok (.lload_n 0, 1) := by decide +kernel
theorem d_Lo_bitCount_2 : decode prog_11_method_50_code 2 = .ok (.iconst 1, 1) := by decide +kernel
theorem d_Lo_bitCount_3 : decode prog_11_method_50_code 3 = .ok (.lushr, 1) := by decide +kernel
theorem d_Lo_bitCount_4 : decode prog_11_method_50_code 4 = .ok (.ldc2_w 314, 3) := by decide +kernel
theorem d_Lo_bitCount_7 : decode prog_11_method_50_code 7 = .ok (.land, 1) := by decide +kernel
theorem d_Lo_bitCount_8 : decode prog_11_method_50_code 8 = .ok (.lsub, 1) := by decide +kernel
theorem d_Lo_bitCount_9 : decode prog_11_method_50_code 9 = .ok (.lstore_n 0, 1) := by decide +kernel
theorem d_Lo_bitCount_10 : decode prog_11_method_50_code 10 = .ok (.lload_n 0, 1) := by decide +kernel
theorem d_Lo_bitCount_11 : decode prog_11_method_50_code 11 = .ok (.ldc2_w 316, 3) := by decide +kernel
theorem d_Lo_bitCount_14 : decode prog_11_method_50_code 14 = .ok (.land, 1) := by decide +kernel
theorem d_Lo_bitCount_15 : decode prog_11_method_50_code 15 = .ok (.lload_n 0, 1) := by decide +kernel
theorem d_Lo_bitCount_16 : decode prog_11_method_50_code 16 = .ok (.iconst 2, 1) := by decide +kernel
theorem d_Lo_bitCount_17 : decode prog_11_method_50_code 17 = .ok (.lushr, 1) := by decide +kernel
theorem d_Lo_bitCount_18 : decode prog_11_method_50_code 18 = .ok (.ldc2_w 316, 3) := by decide +kernel
theorem d_Lo_bitCount_21 : decode prog_11_method_50_code 21 = .ok (.land, 1) := by decide +kernel
theorem d_Lo_bitCount_22 : decode prog_11_method_50_code 22 = .ok (.ladd, 1) := by decide +kernel
theorem d_Lo_bitCount_23 : decode prog_11_method_50_code 23 = .ok (.lstore_n 0, 1) := by decide +kernel
theorem d_Lo_bitCount_24 : decode prog_11_method_50_code 24 = .ok (.lload_n 0, 1) := by decide +kernel
theorem d_Lo_bitCount_25 : decode prog_11_method_50_code 25 = .ok (.lload_n 0, 1) := by decide +kernel
theorem d_Lo_bitCount_26 : decode prog_11_method_50_code 26 = .ok (.iconst 4, 1) := by decide +kernel
theorem d_Lo_bitCount_27 : decode prog_11_method_50_code 27 = .ok (.lushr, 1) := by decide +kernel
theorem d_Lo_bitCount_28 : decode prog_11_method_50_code 28 = .ok (.ladd, 1) := by decide +kernel
theorem d_Lo_bitCount_29 : decode prog_11_method_50_code 29 = .ok (.ldc2_w 318, 3) := by decide +kernel
theorem d_Lo_bitCount_32 : decode prog_11_method_50_code 32 = .ok (.land, 1) := by decide +kernel
theorem d_Lo_bitCount_33 : decode prog_11_method_50_code 33 = .ok (.lstore_n 0, 1) := by decide +kernel
theorem d_Lo_bitCount_34 : decode prog_11_method_50_code 34 = .ok (.lload_n 0, 1) := by decide +kernel
theorem d_Lo_bitCount_35 : decode prog_11_method_50_code 35 = .ok (.lload_n 0, 1) := by decide +kernel
theorem d_Lo_bitCount_36 : decode prog_11_method_50_code 36 = .ok (.bipush 8, 2) := by decide +kernel
theorem d_Lo_bitCount_38 : decode prog_11_method_50_code 38 = .ok (.lushr, 1) := by decide +kernel
theorem d_Lo_bitCount_39 : decode prog_11_method_50_code 39 = .ok (.ladd, 1) := by decide +kernel
theorem d_Lo_bitCount_40 : decode prog_11_method_50_code 40 = .ok (.lstore_n 0, 1) := by decide +kernel
theorem d_Lo_bitCount_41 : decode prog_11_method_50_code 41 = .ok (.lload_n 0, 1) := by decide +kernel
theorem d_Lo_bitCount_42 : decode prog_11_method_50_code 42 = .ok (.lload_n 0, 1) := by decide +kernel
theorem d_Lo_bitCount_43 : decode prog_11_method_50_code 43 = .ok (.bipush 16, 2) := by decide +kernel
theorem d_Lo_bitCount_45 : decode prog_11_method_50_code 45 = .ok (.lushr, 1) := by decide +kernel
theorem d_Lo_bitCount_46 : decode prog_11_method_50_code 46 = .ok (.ladd, 1) := by decide +kernel
theorem d_Lo_bitCount_47 : decode prog_11_method_50_code 47 = .ok (.lstore_n 0, 1) := by decide +kernel
theorem d_Lo_bitCount_48 : decode prog_11_method_50_code 48 = .ok (.lload_n 0, 1) := by decide +kernel
theorem d_Lo_bitCount_49 : decode prog_11_method_50_code 49 = .ok (.lload_n 0, 1) := by decide +kernel
theorem d_Lo_bitCount_50 : decode prog_11_method_50_code 50 = .ok (.bipush 32, 2) := by decide +kernel
theorem d_Lo_bitCount_52 : decode prog_11_method_50_code 52 = .ok (.lushr, 1) := by decide +kernel
theorem d_Lo_bitCount_53 : decode prog_11_method_50_code 53 = .ok (.ladd, 1) := by decide +kernel
theorem d_Lo_bitCount_54 : decode prog_11_method_50_code 54 = .ok (.lstore_n 0, 1) := by decide +kernel
theorem d_Lo_bitCount_55 : decode prog_11_method_50_code 55 = .ok (.lload_n 0, 1) := by decide +kernel
theorem d_Lo_bitCount_56 : decode prog_11_method_50_code 56 = .ok (.l2i, 1) := by decide +kernel
theorem d_Lo_bitCount_57 : decode prog_11_method_50_code 57 = .ok (.bipush 127, 2) := by decide +kernel
theorem d_Lo_bitCount_59 : decode prog_11_method_50_code 59 = .ok (.iand, 1) := by decide +kernel
theorem d_Lo_bitCount_60 : decode prog_11_method_50_code 60 = .ok (.ireturn, 1) := by decide +kernel
theorem Lo_k314 : Jvm.Cond.constantLong "java/lang/Long" 314 (jL 6148914691236517205) ∈ jTs := by rw [show jL 6148914691236517205 = 6148914691236517205 by decide]; exact (jin_t (jin_3 30 rfl) rfl)
theorem Lo_k316 : Jvm.Cond.constantLong "java/lang/Long" 316 (jL 3689348814741910323) ∈ jTs := by rw [show jL 3689348814741910323 = 3689348814741910323 by decide]; exact (jin_t (jin_3 31 rfl) rfl)
theorem Lo_k318 : Jvm.Cond.constantLong "java/lang/Long" 318 (jL 1085102592571150095) ∈ jTs := by rw [show jL 1085102592571150095 = 1085102592571150095 by decide]; exact (jin_t (jin_3 32 rfl) rfl)
theorem yk_Ar_fill : jYok Y_Ar_fill 2 := ⟨(jin_t (jin_2 230 rfl) rfl), (jin_t (jin_1 12 rfl) rfl), ⟨by decide +kernel, by decide +kernel⟩, by decide +kernel⟩
theorem ys_Ar_fill : Cond.static (yN Y_Ar_fill) ∈ jTs := (jin_t (jin_2 229 rfl) rfl)
theorem yk_Lo_bitCount : jYok Y_Lo_bitCount 1 := ⟨(jin_t (jin_3 29 rfl) rfl), (jin_t (jin_1 13 rfl) rfl), ⟨by decide +kernel, by decide +kernel⟩, by decide +kernel⟩
theorem ys_Lo_bitCount : Cond.static (yN Y_Lo_bitCount) ∈ jTs := (jin_t (jin_3 28 rfl) rfl)

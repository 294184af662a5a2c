theorem nw_GC_7 : Cond.classLink "GlyphCompiler" 7 "GlyphCompiler$TokenRow" ∈ jTs ∧ Cond.instantiable "GlyphCompiler$TokenRow" 4 ∈ jTs ∧ Cond.initialized "GlyphCompiler$TokenRow" ∈ jTs := ⟨(jin_t (jin_1 22 rfl) rfl), (jin_t (jin_1 23 rfl) rfl), (jin_t (jin_1 2 rfl) rfl)⟩
theorem nw_GC_18 : Cond.classLink "GlyphCompiler" 18 "GlyphCompiler$Expander" ∈ jTs ∧ Cond.instantiable "GlyphCompiler$Expander" 7 ∈ jTs ∧ Cond.initialized "GlyphCompiler$Expander" ∈ jTs := ⟨(jin_t (jin_1 50 rfl) rfl), (jin_t (jin_1 51 rfl) rfl), (jin_t (jin_1 3 rfl) rfl)⟩
theorem nw_GC_25 : Cond.classLink "GlyphCompiler" 25 "GlyphCompiler$Reader" ∈ jTs ∧ Cond.instantiable "GlyphCompiler$Reader" 13 ∈ jTs ∧ Cond.initialized "GlyphCompiler$Reader" ∈ jTs := ⟨(jin_t (jin_1 83 rfl) rfl), (jin_t (jin_1 84 rfl) rfl), (jin_t (jin_1 4 rfl) rfl)⟩
theorem nw_GC_32 : Cond.classLink "GlyphCompiler" 32 "GlyphCompiler$Variables" ∈ jTs ∧ Cond.instantiable "GlyphCompiler$Variables" 4 ∈ jTs ∧ Cond.initialized "GlyphCompiler$Variables" ∈ jTs := ⟨(jin_t (jin_1 190 rfl) rfl), (jin_t (jin_1 92 rfl) rfl), (jin_t (jin_1 5 rfl) rfl)⟩
theorem nw_GC_39 : Cond.classLink "GlyphCompiler" 39 "GlyphCompiler$Outline" ∈ jTs ∧ Cond.instantiable "GlyphCompiler$Outline" 4 ∈ jTs ∧ Cond.initialized "GlyphCompiler$Outline" ∈ jTs := ⟨(jin_t (jin_1 192 rfl) rfl), (jin_t (jin_1 193 rfl) rfl), (jin_t (jin_1 7 rfl) rfl)⟩
theorem nw_GC_46 : Cond.classLink "GlyphCompiler" 46 "GlyphCompiler$Picture" ∈ jTs ∧ Cond.instantiable "GlyphCompiler$Picture" 2 ∈ jTs ∧ Cond.initialized "GlyphCompiler$Picture" ∈ jTs := ⟨(jin_t (jin_1 214 rfl) rfl), (jin_t (jin_1 215 rfl) rfl), (jin_t (jin_1 8 rfl) rfl)⟩
theorem nw_EX_11 : Cond.classLink "GlyphCompiler$Expander" 11 "GlyphCompiler$TokenRow" ∈ jTs ∧ Cond.instantiable "GlyphCompiler$TokenRow" 4 ∈ jTs ∧ Cond.initialized "GlyphCompiler$TokenRow" ∈ jTs := ⟨(jin_t (jin_1 56 rfl) rfl), (jin_t (jin_1 23 rfl) rfl), (jin_t (jin_1 2 rfl) rfl)⟩
theorem nw_RD_9 : Cond.classLink "GlyphCompiler$Reader" 9 "GlyphCompiler$TokenRow" ∈ jTs ∧ Cond.instantiable "GlyphCompiler$TokenRow" 4 ∈ jTs ∧ Cond.initialized "GlyphCompiler$TokenRow" ∈ jTs := ⟨(jin_t (jin_1 89 rfl) rfl), (jin_t (jin_1 23 rfl) rfl), (jin_t (jin_1 2 rfl) rfl)⟩
theorem nw_RD_20 : Cond.classLink "GlyphCompiler$Reader" 20 "GlyphCompiler$Variables" ∈ jTs ∧ Cond.instantiable "GlyphCompiler$Variables" 4 ∈ jTs ∧ Cond.initialized "GlyphCompiler$Variables" ∈ jTs := ⟨(jin_t (jin_1 91 rfl) rfl), (jin_t (jin_1 92 rfl) rfl), (jin_t (jin_1 5 rfl) rfl)⟩
theorem nw_VA_16 : Cond.classLink "GlyphCompiler$Variables" 16 "GlyphCompiler$Form" ∈ jTs ∧ Cond.instantiable "GlyphCompiler$Form" 1 ∈ jTs ∧ Cond.initialized "GlyphCompiler$Form" ∈ jTs := ⟨(jin_t (jin_1 115 rfl) rfl), (jin_t (jin_1 102 rfl) rfl), (jin_t (jin_1 6 rfl) rfl)⟩
theorem nw_FO_1 : Cond.classLink "GlyphCompiler$Form" 1 "GlyphCompiler$Form" ∈ jTs ∧ Cond.instantiable "GlyphCompiler$Form" 1 ∈ jTs ∧ Cond.initialized "GlyphCompiler$Form" ∈ jTs := ⟨(jin_t (jin_1 100 rfl) rfl), (jin_t (jin_1 102 rfl) rfl), (jin_t (jin_1 6 rfl) rfl)⟩
theorem ac_int : Cond.arrayClass .int ∈ jTs := (jin_t (jin_1 49 rfl) rfl)
theorem ac_long : Cond.arrayClass .long ∈ jTs := (jin_t (jin_1 114 rfl) rfl)
theorem ac_boolean : Cond.arrayClass .boolean ∈ jTs := (jin_t (jin_1 189 rfl) rfl)
theorem pd_TR : ∀ j, j < 4 → defaultValue ((parseFieldDescriptor (T_TR j).2.2.1).getD .int) = vp_V [.null, .null, .null, .int (jI 0)] j := by
  intro j hj
  match j, hj with
  | 0, _ => rfl
  | 1, _ => rfl
  | 2, _ => rfl
  | 3, _ => rfl
  | j + 4, hj => omega
theorem pd_EX : ∀ j, j < 7 → defaultValue ((parseFieldDescriptor (T_EX j).2.2.1).getD .int) = vp_V [.null, .null, .null, .null, .null, .int (jI 0), .int (jI 0)] j := by
  intro j hj
  match j, hj with
  | 0, _ => rfl
  | 1, _ => rfl
  | 2, _ => rfl
  | 3, _ => rfl
  | 4, _ => rfl
  | 5, _ => rfl
  | 6, _ => rfl
  | j + 7, hj => omega
theorem pd_RD : ∀ j, j < 13 → defaultValue ((parseFieldDescriptor (T_RD j).2.2.1).getD .int) = vp_V [.null, .null, .int (jI 0), .int (jI 0), .int (jI 0), .null, .int (jI 0), .int (jI 0), .null, .int (jI 0), .null, .null, .null] j := by
  intro j hj
  match j, hj with
  | 0, _ => rfl
  | 1, _ => rfl
  | 2, _ => rfl
  | 3, _ => rfl
  | 4, _ => rfl
  | 5, _ => rfl
  | 6, _ => rfl
  | 7, _ => rfl
  | 8, _ => rfl
  | 9, _ => rfl
  | 10, _ => rfl
  | 11, _ => rfl
  | 12, _ => rfl
  | j + 13, hj => omega
theorem pd_VA : ∀ j, j < 4 → defaultValue ((parseFieldDescriptor (T_VA j).2.2.1).getD .int) = vp_V [.null, .null, .null, .null] j := by
  intro j hj
  match j, hj with
  | 0, _ => rfl
  | 1, _ => rfl
  | 2, _ => rfl
  | 3, _ => rfl
  | j + 4, hj => omega
theorem pd_FO : ∀ j, j < 1 → defaultValue ((parseFieldDescriptor (T_FO j).2.2.1).getD .int) = vp_V [.null] j := by
  intro j hj
  match j, hj with
  | 0, _ => rfl
  | j + 1, hj => omega
theorem pd_OU : ∀ j, j < 4 → defaultValue ((parseFieldDescriptor (T_OU j).2.2.1).getD .int) = vp_V [.null, .null, .null, .int (jI 0)] j := by
  intro j hj
  match j, hj with
  | 0, _ => rfl
  | 1, _ => rfl
  | 2, _ => rfl
  | 3, _ => rfl
  | j + 4, hj => omega
theorem pd_PI : ∀ j, j < 2 → defaultValue ((parseFieldDescriptor (T_PI j).2.2.1).getD .int) = vp_V [.null, .null] j := by
  intro j hj
  match j, hj with
  | 0, _ => rfl
  | 1, _ => rfl
  | j + 2, hj => omega
theorem pd_GC : ∀ j, j < 10 → defaultValue ((parseFieldDescriptor (T_GC j).2.2.1).getD .int) = vp_V [.null, .null, .null, .null, .null, .null, .null, .int (jI 0), .int (jI 0), .int (jI 0)] j := by
  intro j hj
  match j, hj with
  | 0, _ => rfl
  | 1, _ => rfl
  | 2, _ => rfl
  | 3, _ => rfl
  | 4, _ => rfl
  | 5, _ => rfl
  | 6, _ => rfl
  | 7, _ => rfl
  | 8, _ => rfl
  | 9, _ => rfl
  | j + 10, hj => omega
set_option maxRecDepth 100000 in
set_option maxHeartbeats 1000000 in
theorem i_TR (G : jG) (d b k n : Nat) (A : Nat → Int → Int) (g : jF) (hn : n ≤ 1000) (h0 : cc b I0 A k = jOb 0 [.ref (b + (k + 1)), .ref (b + (k + 2)), .ref (b + (k + 3)), .int (jI 0)]) (h1 : cc b I0 A (k + 1) = jAI n (fun _ => 0)) (h2 : cc b I0 A (k + 2) = jAI n (fun _ => 0)) (h3 : cc b I0 A (k + 3) = jAI n (fun _ => 0)) : jct G Y_TR_init (iR (d + 1) 3 (3 * n)) [.ref (b + k), .int (jI (n : Int))] (va_up g (b + k) (some (jOb 0 [.null, .null, .null, .int (jI 0)]))) (b + (k + 1)) (fun rv f' sz' => rv = none ∧ f' = blk b A k (k + 4) g ∧ sz' = b + (k + 4)) := by
  refine jct_of (by decide) (Nat.le_of_ble_eq_true rfl) ?_
  show jt _ 0 [(0, .ref (b + k)), (1, .int (jI (n : Int)))] [] _ _ _ _
  refine jt_fe (f' := blk b A (k + 1) (k + 1) (va_up g (b + k) (some (jOb 0 [.null, .null, .null, .int (jI 0)])))) (blk_nil _ _ _ _).symm rfl ?_
  refine jt_aload_n d_TR_init_0 rfl ?_
  refine jt_objInit d_TR_init_1 TR_o3 (show 0 + 12 ≤ (d + 1) * 40 by omega) (show 1 ≤ d + 1 by omega) ?_
  refine jt_aload_n d_TR_init_4 rfl ?_
  refine jt_iload_n d_TR_init_5 rfl ?_
  refine jt_newI (n := n) d_TR_init_6 ac_int rfl (by omega) (show 0 + 1 ≤ 3 by omega) (show 0 + n ≤ 3 * n by omega) ?_
  refine jt_fe (blk_1 b A _ h1.symm (by omega)) rfl ?_
  refine jt_putf d_TR_init_8 (TR_w9 _ rfl rfl) (by rw [blk_out b A _ _ _ (Or.inl (by omega)), va_up_self]) rfl rfl (Nat.le_of_ble_eq_true rfl) ?_
  refine jt_fe (blk_3 b A g (by omega)) rfl ?_
  refine jt_aload_n d_TR_init_11 rfl ?_
  refine jt_iload_n d_TR_init_12 rfl ?_
  refine jt_newI (n := n) d_TR_init_13 ac_int rfl (by omega) (show 1 + 1 ≤ 3 by omega) (show n + n ≤ 3 * n by omega) ?_
  refine jt_fe (blk_1 b A _ h2.symm (by omega)) rfl ?_
  refine jt_putf d_TR_init_15 (TR_w15 _ rfl rfl) (by rw [blk_out b A _ _ _ (Or.inl (by omega)), va_up_self]) rfl rfl (Nat.le_of_ble_eq_true rfl) ?_
  refine jt_fe (blk_3 b A g (by omega)) rfl ?_
  refine jt_aload_n d_TR_init_18 rfl ?_
  refine jt_iload_n d_TR_init_19 rfl ?_
  refine jt_newI (n := n) d_TR_init_20 ac_int rfl (by omega) (show 2 + 1 ≤ 3 by omega) (show n + n + n ≤ 3 * n by omega) ?_
  refine jt_fe (blk_1 b A _ h3.symm (by omega)) rfl ?_
  refine jt_putf d_TR_init_22 (TR_w18 _ rfl rfl) (by rw [blk_out b A _ _ _ (Or.inl (by omega)), va_up_self]) rfl rfl (Nat.le_of_ble_eq_true rfl) ?_
  refine jt_fe (blk_3 b A g (by omega)) rfl ?_
  exact jt_vret d_TR_init_25 rfl (Nat.le_refl _) (show n + n + n ≤ 3 * n by omega) ⟨rfl, blk_4 b A g h0.symm (by omega), rfl⟩

theorem nw_GC_7 : Cond.classLink "GlyphCompiler" 7 "GlyphCompiler$TokenRow" ∈ jTs ∧ Cond.instantiable "GlyphCompiler$TokenRow" 4 ∈ jTs ∧ Cond.initialized "GlyphCompiler$TokenRow" ∈ jTs := ⟨(jin_t (jin_1 22 rfl) rfl), (jin_t (jin_1 23 rfl) rfl), (jin_t (jin_1 2 rfl) rfl)⟩
theorem nw_GC_18 : Cond.classLink "GlyphCompiler" 18 "GlyphCompiler$Expander" ∈ jTs ∧ Cond.instantiable "GlyphCompiler$Expander" 7 ∈ jTs ∧ Cond.initialized "GlyphCompiler$Expander" ∈ jTs := ⟨(jin_t (jin_1 50 rfl) rfl), (jin_t (jin_1 51 rfl) rfl), (jin_t (jin_1 3 rfl) rfl)⟩
theorem nw_GC_25 : Cond.classLink "GlyphCompiler" 25 "GlyphCompiler$Reader" ∈ jTs ∧ Cond.instantiable "GlyphCompiler$Reader" 13 ∈ jTs ∧ Cond.initialized "GlyphCompiler$Reader" ∈ jTs := ⟨(jin_t (jin_1 83 rfl) rfl), (jin_t (jin_1 84 rfl) rfl), (jin_t (jin_1 4 rfl) rfl)⟩
theorem nw_GC_32 : Cond.classLink "GlyphCompiler" 32 "GlyphCompiler$Variables" ∈ jTs ∧ Cond.instantiable "GlyphCompiler$Variables" 4 ∈ jTs ∧ Cond.initialized "GlyphCompiler$Variables" ∈ jTs := ⟨(jin_t (jin_1 190 rfl) rfl), (jin_t (jin_1 92 rfl) rfl), (jin_t (jin_1 5 rfl) rfl)⟩
theorem nw_GC_39 : Cond.classLink "GlyphCompiler" 39 "GlyphCompiler$Outline" ∈ jTs ∧ Cond.instantiable "GlyphCompiler$Outline" 4 ∈ jTs ∧ Cond.initialized "GlyphCompiler$Outline" ∈ jTs := ⟨(jin_t (jin_1 192 rfl) rfl), (jin_t (jin_1 193 rfl) rfl), (jin_t (jin_1 7 rfl) rfl)⟩
theorem nw_GC_46 : Cond.classLink "GlyphCompiler" 46 "GlyphCompiler$Picture" ∈ jTs ∧ Cond.instantiable "GlyphCompiler$Picture" 2 ∈ jTs ∧ Cond.initialized "GlyphCompiler$Picture" ∈ jTs := ⟨(jin_t (jin_1 214 rfl) rfl), (jin_t (jin_1 215 rfl) rfl), (jin_t (jin_1 8 rfl) rfl)⟩
theorem nw_EX_11 : Cond.classLink "GlyphCompiler$Expander" 11 "GlyphCompiler$TokenRow" ∈ jTs ∧ Cond.instantiable "GlyphCompiler$TokenRow" 4 ∈ jTs ∧ Cond.initialized "GlyphCompiler$TokenRow" ∈ jTs := ⟨(jin_t (jin_1 56 rfl) rfl), (jin_t (jin_1 23 rfl) rfl), (jin_t (jin_1 2 rfl) rfl)⟩
theorem nw_RD_9 : Cond.classLink "GlyphCompiler$Reader" 9 "GlyphCompiler$TokenRow" ∈ jTs ∧ Cond.instantiable "GlyphCompiler$TokenRow" 4 ∈ jTs ∧ Cond.initialized "GlyphCompiler$TokenRow" ∈ jTs := ⟨(jin_t (jin_1 89 rfl) rfl), (jin_t (jin_1 23 rfl) rfl), (jin_t (jin_1 2 rfl) rfl)⟩
theorem nw_RD_20 : Cond.classLink "GlyphCompiler$Reader" 20 "GlyphCompiler$Variables" ∈ jTs ∧ Cond.instantiable "GlyphCompiler$Variables" 4 ∈ jTs ∧ Cond.initialized "GlyphCompiler$Variables" ∈ jTs := ⟨(jin_t (jin_1 91 rfl) rfl), (jin_t (jin_1 92 rfl) rfl), (jin_t (jin_1 5 rfl) rfl)⟩
theorem nw_VA_16 : Cond.classLink "GlyphCompiler$Variables" 16 "GlyphCompiler$Form" ∈ jTs ∧ Cond.instantiable "GlyphCompiler$Form" 1 ∈ jTs ∧ Cond.initialized "GlyphCompiler$Form" ∈ jTs := ⟨(jin_t (jin_1 115 rfl) rfl), (jin_t (jin_1 102 rfl) rfl), (jin_t (jin_1 6 rfl) rfl)⟩
theorem nw_FO_1 : Cond.classLink "GlyphCompiler$Form" 1 "GlyphCompiler$Form" ∈ jTs ∧ Cond.instantiable "GlyphCompiler$Form" 1 ∈ jTs ∧ Cond.initialized "GlyphCompiler$Form" ∈ jTs := ⟨(jin_t (jin_1 100 rfl) rfl), (jin_t (jin_1 102 rfl) rfl), (jin_t (jin_1 6 rfl) rfl)⟩
theorem ac_int : Cond.arrayClass .int ∈ jTs := (jin_t (jin_1 49 rfl) rfl)
theorem ac_long : Cond.arrayClass .long ∈ jTs := (jin_t (jin_1 114 rfl) rfl)
theorem ac_boolean : Cond.arrayClass .boolean ∈ jTs := (jin_t (jin_1 189 rfl) rfl)
theorem pd_TR : ∀ j, j < 4 → defaultValue ((parseFieldDescriptor (T_TR j).2.2.1).getD .int) = vp_V [.null, .null, .null, .int (jI 0)] j := by
  intro j hj
  match j, hj with
  | 0, _ => rfl
  | 1, _ => rfl
  | 2, _ => rfl
  | 3, _ => rfl
  | j + 4, hj => omega
theorem pd_EX : ∀ j, j < 7 → defaultValue ((parseFieldDescriptor (T_EX j).2.2.1).getD .int) = vp_V [.null, .null, .null, .null, .null, .int (jI 0), .int (jI 0)] j := by
  intro j hj
  match j, hj with
  | 0, _ => rfl
  | 1, _ => rfl
  | 2, _ => rfl
  | 3, _ => rfl
  | 4, _ => rfl
  | 5, _ => rfl
  | 6, _ => rfl
  | j + 7, hj => omega
theorem pd_RD : ∀ j, j < 13 → defaultValue ((parseFieldDescriptor (T_RD j).2.2.1).getD .int) = vp_V [.null, .null, .int (jI 0), .int (jI 0), .int (jI 0), .null, .int (jI 0), .int (jI 0), .null, .int (jI 0), .null, .null, .null] j := by
  intro j hj
  match j, hj with
  | 0, _ => rfl
  | 1, _ => rfl
  | 2, _ => rfl
  | 3, _ => rfl
  | 4, _ => rfl
  | 5, _ => rfl
  | 6, _ => rfl
  | 7, _ => rfl
  | 8, _ => rfl
  | 9, _ => rfl
  | 10, _ => rfl
  | 11, _ => rfl
  | 12, _ => rfl
  | j + 13, hj => omega
theorem pd_VA : ∀ j, j < 4 → defaultValue ((parseFieldDescriptor (T_VA j).2.2.1).getD .int) = vp_V [.null, .null, .null, .null] j := by
  intro j hj
  match j, hj with
  | 0, _ => rfl
  | 1, _ => rfl
  | 2, _ => rfl
  | 3, _ => rfl
  | j + 4, hj => omega
theorem pd_FO : ∀ j, j < 1 → defaultValue ((parseFieldDescriptor (T_FO j).2.2.1).getD .int) = vp_V [.null] j := by
  intro j hj
  match j, hj with
  | 0, _ => rfl
  | j + 1, hj => omega
theorem pd_OU : ∀ j, j < 4 → defaultValue ((parseFieldDescriptor (T_OU j).2.2.1).getD .int) = vp_V [.null, .null, .null, .int (jI 0)] j := by
  intro j hj
  match j, hj with
  | 0, _ => rfl
  | 1, _ => rfl
  | 2, _ => rfl
  | 3, _ => rfl
  | j + 4, hj => omega
theorem pd_PI : ∀ j, j < 2 → defaultValue ((parseFieldDescriptor (T_PI j).2.2.1).getD .int) = vp_V [.null, .null] j := by
  intro j hj
  match j, hj with
  | 0, _ => rfl
  | 1, _ => rfl
  | j + 2, hj => omega
theorem pd_GC : ∀ j, j < 10 → defaultValue ((parseFieldDescriptor (T_GC j).2.2.1).getD .int) = vp_V [.null, .null, .null, .null, .null, .null, .null, .int (jI 0), .int (jI 0), .int (jI 0)] j := by
  intro j hj
  match j, hj with
  | 0, _ => rfl
  | 1, _ => rfl
  | 2, _ => rfl
  | 3, _ => rfl
  | 4, _ => rfl
  | 5, _ => rfl
  | 6, _ => rfl
  | 7, _ => rfl
  | 8, _ => rfl
  | 9, _ => rfl
  | j + 10, hj => omega
set_option maxRecDepth 100000 in
set_option maxHeartbeats 1000000 in
theorem i_TR (G : jG) (d b k n : Nat) (A : Nat → Int → Int) (g : jF) (hn : n ≤ 1000) (h0 : cc b I0 A k = jOb 0 [.ref (b + (k + 1)), .ref (b + (k + 2)), .ref (b + (k + 3)), .int (jI 0)]) (h1 : cc b I0 A (k + 1) = jAI n (fun _ => 0)) (h2 : cc b I0 A (k + 2) = jAI n (fun _ => 0)) (h3 : cc b I0 A (k + 3) = jAI n (fun _ => 0)) : jct G Y_TR_init (iR (d + 1) 3 (3 * n)) [.ref (b + k), .int (jI (n : Int))] (va_up g (b + k) (some (jOb 0 [.null, .null, .null, .int (jI 0)]))) (b + (k + 1)) (fun rv f' sz' => rv = none ∧ f' = blk b A k (k + 4) g ∧ sz' = b + (k + 4)) := by
  refine jct_of (by decide) (Nat.le_of_ble_eq_true rfl) ?_
  show jt _ 0 [(0, .ref (b + k)), (1, .int (jI (n : Int)))] [] _ _ _ _
  refine jt_fe (f' := blk b A (k + 1) (k + 1) (va_up g (b + k) (some (jOb 0 [.null, .null, .null, .int (jI 0)])))) (blk_nil _ _ _ _).symm rfl ?_
  refine jt_aload_n d_TR_init_0 rfl ?_
  refine jt_objInit d_TR_init_1 TR_o3 (show 0 + 12 ≤ (d + 1) * 40 by omega) (show 1 ≤ d + 1 by omega) ?_
  refine jt_aload_n d_TR_init_4 rfl ?_
  refine jt_iload_n d_TR_init_5 rfl ?_
  refine jt_newI (n := n) d_TR_init_6 ac_int rfl (by omega) (show 0 + 1 ≤ 3 by omega) (show 0 + n ≤ 3 * n by omega) ?_
  refine jt_fe (blk_1 b A _ h1.symm (by omega)) rfl ?_
  refine jt_putf d_TR_init_8 (TR_w9 _ rfl rfl) (by rw [blk_out b A _ _ _ (Or.inl (by omega)), va_up_self]) rfl rfl (Nat.le_of_ble_eq_true rfl) ?_
  refine jt_fe (blk_3 b A g (by omega)) rfl ?_
  refine jt_aload_n d_TR_init_11 rfl ?_
  refine jt_iload_n d_TR_init_12 rfl ?_
  refine jt_newI (n := n) d_TR_init_13 ac_int rfl (by omega) (show 1 + 1 ≤ 3 by omega) (show 0 + n + n ≤ 3 * n by omega) ?_
  refine jt_fe (blk_1 b A _ h2.symm (by omega)) rfl ?_
  refine jt_putf d_TR_init_15 (TR_w15 _ rfl rfl) (by rw [blk_out b A _ _ _ (Or.inl (by omega)), va_up_self]) rfl rfl (Nat.le_of_ble_eq_true rfl) ?_
  refine jt_fe (blk_3 b A g (by omega)) rfl ?_
  refine jt_aload_n d_TR_init_18 rfl ?_
  refine jt_iload_n d_TR_init_19 rfl ?_
  refine jt_newI (n := n) d_TR_init_20 ac_int rfl (by omega) (show 2 + 1 ≤ 3 by omega) (show 0 + n + n + n ≤ 3 * n by omega) ?_
  refine jt_fe (blk_1 b A _ h3.symm (by omega)) rfl ?_
  refine jt_putf d_TR_init_22 (TR_w18 _ rfl rfl) (by rw [blk_out b A _ _ _ (Or.inl (by omega)), va_up_self]) rfl rfl (Nat.le_of_ble_eq_true rfl) ?_
  refine jt_fe (blk_3 b A g (by omega)) rfl ?_
  exact jt_vret d_TR_init_25 rfl (Nat.le_refl _) (show 0 + n + n + n ≤ 3 * n by omega) ⟨rfl, blk_4 b A g h0.symm (by omega), rfl⟩
set_option maxRecDepth 100000 in
set_option maxHeartbeats 1000000 in
theorem i_FO (G : jG) (d b k : Nat) (A : Nat → Int → Int) (g : jF) (h0 : cc b I0 A k = jOb 4 [.ref (b + (k + 1))]) (h1 : cc b I0 A (k + 1) = jAL 13 (fun _ => 0)) : jct G Y_FO_init (iR (d + 1) 1 13) [.ref (b + k)] (va_up g (b + k) (some (jOb 4 [.null]))) (b + (k + 1)) (fun rv f' sz' => rv = none ∧ f' = blk b A k (k + 2) g ∧ sz' = b + (k + 2)) := by
  refine jct_of (by decide) (Nat.le_of_ble_eq_true rfl) ?_
  show jt _ 0 [(0, .ref (b + k))] [] _ _ _ _
  refine jt_fe (f' := blk b A (k + 1) (k + 1) (va_up g (b + k) (some (jOb 4 [.null])))) (blk_nil _ _ _ _).symm rfl ?_
  refine jt_aload_n d_FO_init_0 rfl ?_
  refine jt_objInit d_FO_init_1 FO_o5 (show 0 + 12 ≤ (d + 1) * 40 by omega) (show 1 ≤ d + 1 by omega) ?_
  refine jt_aload_n d_FO_init_4 rfl ?_
  refine jt_bipush d_FO_init_5 (by omega) ?_
  refine jt_newL (n := 13) d_FO_init_7 ac_long rfl (by omega) (show 0 + 1 ≤ 1 by omega) (show 0 + 13 ≤ 13 by omega) ?_
  refine jt_fe (blk_1 b A _ h1.symm (by omega)) rfl ?_
  refine jt_putf d_FO_init_9 (FO_w11 _ rfl rfl) (by rw [blk_out b A _ _ _ (Or.inl (by omega)), va_up_self]) rfl rfl (Nat.le_of_ble_eq_true rfl) ?_
  refine jt_fe (blk_3 b A g (by omega)) rfl ?_
  exact jt_vret d_FO_init_12 rfl (Nat.le_refl _) (Nat.le_refl _) ⟨rfl, blk_4 b A g h0.symm (by omega), rfl⟩
set_option maxRecDepth 100000 in
set_option maxHeartbeats 1000000 in
theorem i_rowl (G : jG) (d b k n : Nat) (A : Nat → Int → Int) (g : jF) (hn : n ≤ 1000) (h0 : cc b I0 A k = jAR 4 n (fun z => if 0 ≤ z ∧ z < (n : Int) then some (b + (k + 1 + 2 * z.toNat)) else none)) (h1 : ∀ i, i < n → cc b I0 A (k + 1 + 2 * i) = jOb 4 [.ref (b + (k + 1 + 2 * i + 1))] ∧ cc b I0 A (k + 1 + 2 * i + 1) = jAL 13 (fun _ => 0)) : ∀ (n9 i : Nat), i ≤ n → n - i < n9 → jt (jm G Y_FO_row (iR (d + 2) (1 + 2 * n) (15 * n)) (fun rv f' sz' => rv = some (.ref (b + k)) ∧ f' = blk b A k (k + 1 + 2 * n) g ∧ sz' = b + (k + 1 + 2 * n))) 7 [(0, .int (jI (n : Int))), (1, .ref (b + k)), (2, .int (jI (i : Int)))] [] (blk b A (k + 1) (k + 1 + 2 * i) (va_up g (b + k) (some (jAR 4 n (fun z => if 0 ≤ z ∧ z < (i : Int) then some (b + (k + 1 + 2 * z.toNat)) else none))))) (b + (k + 1 + 2 * i)) (1 + 2 * i) (n + 14 * i) := by
  intro n9
  induction n9 with
  | zero => intro i hi hm; omega
  | succ n9 ih =>
    intro i hi hm
    refine jt_iload_n d_FO_row_7 rfl ?_
    refine jt_iload_n d_FO_row_8 rfl ?_
    refine jt_icmp_ge (t := 28) d_FO_row_9 rfl (by unfold jRi; omega) (by unfold jRi; omega) (fun c => ?_) (fun c => ?_)
    · refine jt_aload_n d_FO_row_28 rfl ?_
      have e : i = n := by omega
      subst e
      exact jt_aret d_FO_row_29 rfl (Or.inr ⟨_, rfl⟩) (show 1 + 2 * i ≤ 1 + 2 * i by omega) (show i + 14 * i ≤ 15 * i by omega) ⟨rfl, blk_4 b A g h0.symm (by omega), rfl⟩
    · have hi2 : i < n := by omega
      refine jt_aload_n d_FO_row_12 rfl ?_
      refine jt_iload_n d_FO_row_13 rfl ?_
      refine jt_new (ci := 4) (fs := [.null]) d_FO_row_14 rfl nw_FO_1 pd_FO (show 1 + 2 * i + 1 ≤ 1 + 2 * n by omega) (show n + 14 * i + 1 ≤ 15 * n by omega) ?_
      refine jt_dup d_FO_row_17 rfl ?_
      refine jt_callI (Y := Y_FO_init) (b := b + (k + 1 + 2 * i)) (As := []) (rest := [.ref (b + (k + 1 + 2 * i)), .int (jI (i : Int)), .ref (b + k)]) (rm := iR (d + 1) 1 13) d_FO_row_18 FO_c15 yk_FO_init yv_FO_init rfl rfl rfl rfl (Nat.le_of_ble_eq_true rfl) (show d + 1 + 1 ≤ d + 2 by omega) (show 8 + (1 + 11) + (d + 1) * 40 ≤ (d + 2) * 40 by omega) (show 1 + 2 * i + 1 + 1 ≤ 1 + 2 * n by omega) (show n + 14 * i + 1 + 13 ≤ 15 * n by omega) (i_FO G d b (k + 1 + 2 * i) A _ (h1 i hi2).1 (h1 i hi2).2) (fun rv f' sz' hq => ?_)
      obtain ⟨rfl, rfl, rfl⟩ := hq
      refine jt_fe (blk_5 b A (k := k + 1) (m := k + 1 + 2 * i) (m2 := k + 1 + 2 * i + 2) _ (by omega) (by omega)) rfl ?_
      refine jt_aastore (ci := 4) (n := n) (t := 4) (fs := [.ref (b + (k + 1 + 2 * i + 1))]) (g := fun z => if 0 ≤ z ∧ z < (i : Int) then some (b + (k + 1 + 2 * z.toNat)) else none) d_FO_row_21 jTy_4 rfl (by rw [blk_out b A _ _ _ (Or.inl (by omega)), va_up_self]) (by rw [blk_in b A _ _ _ (by omega) (by omega), (h1 i hi2).1]) (by omega) (by omega) (by omega) ?_
      refine jt_fe (blk_3 b A g (by omega)) rfl ?_
      refine jt_iinc (L' := [(0, .int (jI (n : Int))), (1, .ref (b + k)), (2, .int (jI ((i : Int) + 1)))]) d_FO_row_22 rfl (Nat.le_of_ble_eq_true rfl) rfl ?_
      refine jt_goto (t := 7) d_FO_row_25 rfl ?_
      have eg : (ju (fun z => if 0 ≤ z ∧ z < (i : Int) then some (b + (k + 1 + 2 * z.toNat)) else none) (i : Int) (some (b + (k + 1 + 2 * i)))) = fun z => if 0 ≤ z ∧ z < ((i + 1 : Nat) : Int) then some (b + (k + 1 + 2 * z.toNat)) else none := by
        funext z
        unfold ju
        by_cases hz : z = (i : Int)
        · rw [if_pos hz, if_pos (by omega), hz, show ((i : Int)).toNat = i by omega]
        · rw [if_neg hz]
          show (if 0 ≤ z ∧ z < (i : Int) then some (b + (k + 1 + 2 * z.toNat)) else none) = _
          by_cases h2 : 0 ≤ z ∧ z < (i : Int)
          · rw [if_pos h2, if_pos (by omega)]
          · rw [if_neg h2, if_neg (by omega)]
      rw [eg]
      have := ih (i + 1) (by omega) (by omega)
      exact this
set_option maxRecDepth 100000 in
set_option maxHeartbeats 1000000 in
theorem i_row (G : jG) (d b k n : Nat) (A : Nat → Int → Int) (g : jF) (hn : n ≤ 1000) (h0 : cc b I0 A k = jAR 4 n (fun z => if 0 ≤ z ∧ z < (n : Int) then some (b + (k + 1 + 2 * z.toNat)) else none)) (h1 : ∀ i, i < n → cc b I0 A (k + 1 + 2 * i) = jOb 4 [.ref (b + (k + 1 + 2 * i + 1))] ∧ cc b I0 A (k + 1 + 2 * i + 1) = jAL 13 (fun _ => 0)) : jct G Y_FO_row (iR (d + 2) (1 + 2 * n) (15 * n)) [.int (jI (n : Int))] g (b + k) (fun rv f' sz' => rv = some (.ref (b + k)) ∧ f' = blk b A k (k + 1 + 2 * n) g ∧ sz' = b + (k + 1 + 2 * n)) := by
  refine jct_of (by decide) (Nat.le_of_ble_eq_true rfl) ?_
  show jt _ 0 [(0, .int (jI (n : Int)))] [] _ _ _ _
  refine jt_iload_n d_FO_row_0 rfl ?_
  refine jt_anew (n := n) (t := 4) d_FO_row_1 jTy_4 nw_FO_1.1 (by decide) rfl (by omega) (show 0 + 1 ≤ 1 + 2 * n by omega) (show 0 + n ≤ 15 * n by omega) ?_
  refine jt_astore_n (L' := [(0, .int (jI (n : Int))), (1, .ref (b + k))]) d_FO_row_4 (Nat.le_of_ble_eq_true rfl) rfl ?_
  refine jt_iconst d_FO_row_5 ?_
  refine jt_istore_n (L' := [(0, .int (jI (n : Int))), (1, .ref (b + k)), (2, .int (jI 0))]) d_FO_row_6 (Nat.le_of_ble_eq_true rfl) rfl ?_
  have eg : (fun _ => none : Int → Option Nat) = fun z => if 0 ≤ z ∧ z < ((0 : Nat) : Int) then some (b + (k + 1 + 2 * z.toNat)) else none := by
    funext z
    rw [if_neg (by omega)]
  rw [eg]
  have h := i_rowl G d b k n A g hn h0 h1 (n + 1) 0 (by omega) (by omega)
  rw [show k + 1 + 2 * 0 = k + 1 by omega, show 1 + 2 * 0 = 1 by omega, show n + 14 * 0 = n by omega] at h
  refine jt_fe (blk_nil b A (k + 1) _).symm rfl ?_
  rw [show (0 : Nat) + 1 = 1 by omega, show 0 + n = n by omega]
  exact h
set_option maxRecDepth 100000 in
set_option maxHeartbeats 1000000 in
theorem i_setl (G : jG) (d b q sz : Nat) (v : Int) (f : jF) (v0 : 0 ≤ v) (v1 : v < 13) (h0 : f (b + q) = some (jOb 4 [.ref (b + (q + 1))])) : ∀ (n9 : Nat) (p : Int), 0 ≤ p → p ≤ 13 → 13 - p < (n9 : Int) → jt (jm G Y_FO_set (iR d 0 0) (fun rv f' sz' => rv = none ∧ f' = va_up f (b + (q + 1)) (some (jAL 13 (fun z => if z = v then 65536 else 0))) ∧ sz' = sz)) 3 [(0, .ref (b + q)), (1, .int (jI v)), (2, .long (jL 65536)), (4, .int (jI p))] [] (va_up f (b + (q + 1)) (some (jAL 13 (fun z => if z < p ∧ z = v then 65536 else 0)))) sz 0 0 := by
  intro n9
  induction n9 with
  | zero => intro p p0 p1 hm; exfalso; omega
  | succ n9 ih =>
    intro p p0 p1 hm
    have hq : va_up f (b + (q + 1)) (some (jAL 13 (fun z => if z < p ∧ z = v then 65536 else 0))) (b + q) = some (jOb 4 [.ref (b + (q + 1))]) := by rw [va_up_ne _ _ (by omega)]; exact h0
    refine jt_iload d_FO_set_3 rfl ?_
    refine jt_bipush d_FO_set_5 (by omega) ?_
    refine jt_icmp_ge (t := 34) d_FO_set_7 rfl (by unfold jRi; omega) (by unfold jRi; omega) (fun c => ?_) (fun c => ?_)
    · have e : p = 13 := by omega
      subst e
      refine jt_vret d_FO_set_34 rfl (Nat.le_refl _) (Nat.le_refl _) ⟨rfl, ?_, rfl⟩
      have eg : (fun z => if z < 13 ∧ z = v then 65536 else 0) = (fun z : Int => if z = v then (65536 : Int) else 0) := by
        funext z
        by_cases h : z = v
        · rw [if_pos ⟨by omega, h⟩, if_pos h]
        · rw [if_neg (by omega), if_neg h]
      rw [eg]
    · refine jt_aload_n d_FO_set_10 rfl ?_
      refine jt_getf d_FO_set_11 FO_f11 hq rfl ?_
      refine jt_iload d_FO_set_14 rfl ?_
      refine jt_iload d_FO_set_16 rfl ?_
      refine jt_iload_n d_FO_set_18 rfl ?_
      have fin : ∀ x : Int, x = (if p = v then 65536 else 0) → jt (jm G Y_FO_set (iR d 0 0) (fun rv f' sz' => rv = none ∧ f' = va_up f (b + (q + 1)) (some (jAL 13 (fun z => if z = v then 65536 else 0))) ∧ sz' = sz)) 27 [(0, .ref (b + q)), (1, .int (jI v)), (2, .long (jL 65536)), (4, .int (jI p))] [.long (jL x), .int (jI p), .ref (b + (q + 1))] (va_up f (b + (q + 1)) (some (jAL 13 (fun z => if z < p ∧ z = v then 65536 else 0)))) sz 0 0 := by
        intro x hx
        refine jt_lastore (n := 13) (g := fun z => if z < p ∧ z = v then 65536 else 0) d_FO_set_27 (by rw [va_up_self]) (by omega) (by omega) (by omega) ?_
        refine jt_iinc (L' := [(0, .ref (b + q)), (1, .int (jI v)), (2, .long (jL 65536)), (4, .int (jI (p + 1)))]) d_FO_set_28 rfl (Nat.le_of_ble_eq_true rfl) rfl ?_
        refine jt_goto (t := 3) d_FO_set_31 rfl ?_
        have eg : ju (fun z => if z < p ∧ z = v then 65536 else 0) p x = fun z => if z < p + 1 ∧ z = v then 65536 else 0 := by
          funext z
          unfold ju
          by_cases hz : z = p
          · rw [if_pos hz, hx, hz]
            by_cases h : p = v
            · rw [if_pos h, if_pos ⟨by omega, h⟩]
            · rw [if_neg h, if_neg (by omega)]
          · rw [if_neg hz]
            show (if z < p ∧ z = v then (65536 : Int) else 0) = _
            by_cases h : z < p ∧ z = v
            · rw [if_pos h, if_pos ⟨by omega, h.2⟩]
            · rw [if_neg h, if_neg (by omega)]
        rw [eg]
        refine jt_fe (bx_uu _ _ _ _) rfl ?_
        exact ih (p + 1) (by omega) (by omega) (by omega)
      refine jt_icmp_ne (t := 26) d_FO_set_19 rfl (by unfold jRi; omega) (by unfold jRi; omega) (fun c2 => ?_) (fun c2 => ?_)
      · refine jt_lconst (z := 0) d_FO_set_26 (by decide) ?_
        exact fin 0 (by rw [if_neg c2])
      · refine jt_lload_n d_FO_set_22 rfl ?_
        refine jt_goto (t := 27) d_FO_set_23 rfl ?_
        exact fin 65536 (by rw [if_pos (by omega)])
set_option maxRecDepth 100000 in
set_option maxHeartbeats 1000000 in
theorem i_set (G : jG) (d b q sz : Nat) (v : Int) (f : jF) (v0 : 0 ≤ v) (v1 : v < 13) (h0 : f (b + q) = some (jOb 4 [.ref (b + (q + 1))])) (h1 : f (b + (q + 1)) = some (jAL 13 (fun _ => 0))) : jct G Y_FO_set (iR d 0 0) [.ref (b + q), .int (jI v), .long (jL 65536)] f sz (fun rv f' sz' => rv = none ∧ f' = va_up f (b + (q + 1)) (some (jAL 13 (fun z => if z = v then 65536 else 0))) ∧ sz' = sz) := by
  refine jct_of (by decide) (Nat.le_of_ble_eq_true rfl) ?_
  show jt _ 0 [(0, .ref (b + q)), (1, .int (jI v)), (2, .long (jL 65536))] [] _ _ _ _
  refine jt_iconst d_FO_set_0 ?_
  refine jt_istore (L' := [(0, .ref (b + q)), (1, .int (jI v)), (2, .long (jL 65536)), (4, .int (jI 0))]) d_FO_set_1 (Nat.le_of_ble_eq_true rfl) rfl ?_
  have h := i_setl G d b q sz v f v0 v1 h0 14 0 (by omega) (by omega) (by omega)
  refine jt_fe (f' := va_up f (b + (q + 1)) (some (jAL 13 (fun z => if z < 0 ∧ z = v then 65536 else 0)))) ?_ rfl h
  have eg : (fun z => if z < 0 ∧ z = v then 65536 else 0) = (fun _ : Int => (0 : Int)) := by
    funext z
    rw [if_neg (by omega)]
  rw [eg]
  funext y
  by_cases hy : y = b + (q + 1)
  · subst hy; rw [va_up_self, h1]
  · rw [va_up_ne _ _ hy]

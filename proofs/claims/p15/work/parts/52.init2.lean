set_option maxRecDepth 100000 in
set_option maxHeartbeats 1000000 in
theorem i_OU_464 (G : jG) (d b : Nat) (g : jF) : jct G Y_OU_init (iR (d + 1) 3 270) [.ref (b + 464)] (va_up g (b + 464) (some (jOb 5 [.null, .null, .null, .int (jI 0)]))) (b + 465) (fun rv f' sz' => rv = none ∧ f' = blk b (aV 12 12) 464 468 g ∧ sz' = b + 468) := by
  refine jct_of (by decide) (Nat.le_of_ble_eq_true rfl) ?_
  show jt _ 0 [(0, .ref (b + 464))] [] _ _ _ _
  refine jt_fe (f' := blk b (aV 12 12) 465 465 (va_up g (b + 464) (some (jOb 5 [.null, .null, .null, .int (jI 0)])))) (blk_nil _ _ _ _).symm rfl ?_
  refine jt_aload_n d_OU_init_0 rfl ?_
  refine jt_objInit d_OU_init_1 OU_o5 (show 0 + 12 ≤ (d + 1) * 40 by omega) (show 1 ≤ d + 1 by omega) ?_
  refine jt_aload_n d_OU_init_4 rfl ?_
  refine jt_bipush d_OU_init_5 (by omega) ?_
  refine jt_newI (n := 74) d_OU_init_7 ac_int rfl (by omega) (show 0 + 1 ≤ 3 by omega) (show 0 + 74 ≤ 270 by omega) ?_
  refine jt_fe (sz' := b + 466) (f' := blk b (aV 12 12) 465 466 (va_up g (b + 464) (some (jOb 5 [.null, .null, .null, .int (jI 0)])))) (blk_1 b (aV 12 12) _ (Eq.symm (by rw [cc_8 (k := 465) (n := 74) rfl rfl, aV_0 (by decide) (by decide) (by decide)])) (by decide)) rfl ?_
  refine jt_putf d_OU_init_9 (OU_w11 _ rfl rfl) (by rw [blk_out b (aV 12 12) _ _ _ (Or.inl (by decide)), va_up_self]) rfl rfl (Nat.le_of_ble_eq_true rfl) ?_
  refine jt_fe (f' := blk b (aV 12 12) 465 466 (va_up g (b + 464) (some (jOb 5 [.ref (b + 465), .null, .null, .int (jI 0)])))) (blk_3 b (aV 12 12) g (by decide)) rfl ?_
  refine jt_aload_n d_OU_init_12 rfl ?_
  refine jt_bipush d_OU_init_13 (by omega) ?_
  refine jt_newI (n := 98) d_OU_init_15 ac_int rfl (by omega) (show 1 + 1 ≤ 3 by omega) (show 74 + 98 ≤ 270 by omega) ?_
  refine jt_fe (sz' := b + 467) (f' := blk b (aV 12 12) 465 467 (va_up g (b + 464) (some (jOb 5 [.ref (b + 465), .null, .null, .int (jI 0)])))) (blk_1 b (aV 12 12) _ (Eq.symm (by rw [cc_8 (k := 466) (n := 98) rfl rfl, aV_0 (by decide) (by decide) (by decide)])) (by decide)) rfl ?_
  refine jt_putf d_OU_init_17 (OU_w15 _ rfl rfl) (by rw [blk_out b (aV 12 12) _ _ _ (Or.inl (by decide)), va_up_self]) rfl rfl (Nat.le_of_ble_eq_true rfl) ?_
  refine jt_fe (f' := blk b (aV 12 12) 465 467 (va_up g (b + 464) (some (jOb 5 [.ref (b + 465), .ref (b + 466), .null, .int (jI 0)])))) (blk_3 b (aV 12 12) g (by decide)) rfl ?_
  refine jt_aload_n d_OU_init_20 rfl ?_
  refine jt_bipush d_OU_init_21 (by omega) ?_
  refine jt_newI (n := 98) d_OU_init_23 ac_int rfl (by omega) (show 2 + 1 ≤ 3 by omega) (show 172 + 98 ≤ 270 by omega) ?_
  refine jt_fe (sz' := b + 468) (f' := blk b (aV 12 12) 465 468 (va_up g (b + 464) (some (jOb 5 [.ref (b + 465), .ref (b + 466), .null, .int (jI 0)])))) (blk_1 b (aV 12 12) _ (Eq.symm (by rw [cc_8 (k := 467) (n := 98) rfl rfl, aV_0 (by decide) (by decide) (by decide)])) (by decide)) rfl ?_
  refine jt_putf d_OU_init_25 (OU_w18 _ rfl rfl) (by rw [blk_out b (aV 12 12) _ _ _ (Or.inl (by decide)), va_up_self]) rfl rfl (Nat.le_of_ble_eq_true rfl) ?_
  refine jt_fe (f' := blk b (aV 12 12) 465 468 (va_up g (b + 464) (some (jOb 5 [.ref (b + 465), .ref (b + 466), .ref (b + 467), .int (jI 0)])))) (blk_3 b (aV 12 12) g (by decide)) rfl ?_
  exact jt_vret d_OU_init_28 rfl (show 3 ≤ 3 by omega) (show 270 ≤ 270 by omega) ⟨rfl, blk_4 b (aV 12 12) g rfl (by decide), rfl⟩
set_option maxRecDepth 100000 in
set_option maxHeartbeats 1000000 in
theorem i_PI_468 (G : jG) (d b : Nat) (g : jF) : jct G Y_PI_init (iR (d + 1) 2 800) [.ref (b + 468)] (va_up g (b + 468) (some (jOb 6 [.null, .null]))) (b + 469) (fun rv f' sz' => rv = none ∧ f' = blk b (aV 12 12) 468 471 g ∧ sz' = b + 471) := by
  refine jct_of (by decide) (Nat.le_of_ble_eq_true rfl) ?_
  show jt _ 0 [(0, .ref (b + 468))] [] _ _ _ _
  refine jt_fe (f' := blk b (aV 12 12) 469 469 (va_up g (b + 468) (some (jOb 6 [.null, .null])))) (blk_nil _ _ _ _).symm rfl ?_
  refine jt_aload_n d_PI_init_0 rfl ?_
  refine jt_objInit d_PI_init_1 PI_o3 (show 0 + 12 ≤ (d + 1) * 40 by omega) (show 1 ≤ d + 1 by omega) ?_
  refine jt_aload_n d_PI_init_4 rfl ?_
  refine jt_sipush d_PI_init_5 (by omega) ?_
  refine jt_newZ (n := 768) d_PI_init_8 ac_boolean rfl (by omega) (show 0 + 1 ≤ 2 by omega) (show 0 + 768 ≤ 800 by omega) ?_
  refine jt_fe (sz' := b + 470) (f' := blk b (aV 12 12) 469 470 (va_up g (b + 468) (some (jOb 6 [.null, .null])))) (blk_1 b (aV 12 12) _ (Eq.symm (by rw [cc_10 (k := 469) (n := 768) rfl rfl, aV_0 (by decide) (by decide) (by decide)])) (by decide)) rfl ?_
  refine jt_putf d_PI_init_10 (PI_w9 _ rfl rfl) (by rw [blk_out b (aV 12 12) _ _ _ (Or.inl (by decide)), va_up_self]) rfl rfl (Nat.le_of_ble_eq_true rfl) ?_
  refine jt_fe (f' := blk b (aV 12 12) 469 470 (va_up g (b + 468) (some (jOb 6 [.ref (b + 469), .null])))) (blk_3 b (aV 12 12) g (by decide)) rfl ?_
  refine jt_aload_n d_PI_init_13 rfl ?_
  refine jt_bipush d_PI_init_14 (by omega) ?_
  refine jt_newI (n := 32) d_PI_init_16 ac_int rfl (by omega) (show 1 + 1 ≤ 2 by omega) (show 768 + 32 ≤ 800 by omega) ?_
  refine jt_fe (sz' := b + 471) (f' := blk b (aV 12 12) 469 471 (va_up g (b + 468) (some (jOb 6 [.ref (b + 469), .null])))) (blk_1 b (aV 12 12) _ (Eq.symm (by rw [cc_8 (k := 470) (n := 32) rfl rfl, aV_0 (by decide) (by decide) (by decide)])) (by decide)) rfl ?_
  refine jt_putf d_PI_init_18 (PI_w15 _ rfl rfl) (by rw [blk_out b (aV 12 12) _ _ _ (Or.inl (by decide)), va_up_self]) rfl rfl (Nat.le_of_ble_eq_true rfl) ?_
  refine jt_fe (f' := blk b (aV 12 12) 469 471 (va_up g (b + 468) (some (jOb 6 [.ref (b + 469), .ref (b + 470)])))) (blk_3 b (aV 12 12) g (by decide)) rfl ?_
  exact jt_vret d_PI_init_21 rfl (show 2 ≤ 2 by omega) (show 800 ≤ 800 by omega) ⟨rfl, blk_4 b (aV 12 12) g rfl (by decide), rfl⟩
set_option maxRecDepth 100000 in
set_option maxHeartbeats 1000000 in
theorem i_VA_43 (G : jG) (d b : Nat) (g : jF) : jct G Y_VA_init (iR (d + 3) 30 220) [.ref (b + 43)] (va_up g (b + 43) (some (jOb 3 [.null, .null, .null, .null]))) (b + 44) (fun rv f' sz' => rv = none ∧ f' = blk b (aV 12 12) 43 74 g ∧ sz' = b + 74) := by
  refine jct_of (by decide) (Nat.le_of_ble_eq_true rfl) ?_
  show jt _ 0 [(0, .ref (b + 43))] [] _ _ _ _
  refine jt_fe (f' := blk b (aV 0 0) 44 44 (va_up g (b + 43) (some (jOb 3 [.null, .null, .null, .null])))) (blk_nil _ _ _ _).symm rfl ?_
  refine jt_aload_n d_VA_init_0 rfl ?_
  refine jt_objInit d_VA_init_1 VA_o3 (show 0 + 12 ≤ (d + 3) * 40 by omega) (show 1 ≤ d + 3 by omega) ?_
  refine jt_aload_n d_VA_init_4 rfl ?_
  refine jt_bipush d_VA_init_5 (by omega) ?_
  refine jt_newI (n := 12) d_VA_init_7 ac_int rfl (by omega) (show 0 + 1 ≤ 30 by omega) (show 0 + 12 ≤ 220 by omega) ?_
  refine jt_fe (sz' := b + 45) (f' := blk b (aV 0 0) 44 45 (va_up g (b + 43) (some (jOb 3 [.null, .null, .null, .null])))) (blk_1 b (aV 0 0) _ (Eq.symm (by rw [cc_8 (k := 44) (n := 12) rfl rfl, aV_0 (by decide) (by decide) (by decide)])) (by decide)) rfl ?_
  refine jt_putf d_VA_init_9 (VA_w9 _ rfl rfl) (by rw [blk_out b (aV 0 0) _ _ _ (Or.inl (by decide)), va_up_self]) rfl rfl (Nat.le_of_ble_eq_true rfl) ?_
  refine jt_fe (f' := blk b (aV 0 0) 44 45 (va_up g (b + 43) (some (jOb 3 [.ref (b + 44), .null, .null, .null])))) (blk_3 b (aV 0 0) g (by decide)) rfl ?_
  refine jt_aload_n d_VA_init_12 rfl ?_
  refine jt_bipush d_VA_init_13 (by omega) ?_
  refine jt_callS (Y := Y_FO_row) (As := [.int (jI 12)]) (rest := [.ref (b + 43)]) (rm := iR (d + 2) 25 180) d_VA_init_15 VA_c15 yk_FO_row ys_FO_row rfl rfl (Nat.le_of_ble_eq_true rfl) (show d + 2 + 1 ≤ d + 3 by omega) (show 8 + (3 + 11) + (d + 2) * 40 ≤ (d + 3) * 40 by omega) (show 1 + 25 ≤ 30 by omega) (show 12 + 180 ≤ 220 by omega) (i_row G _ b 45 12 (aV 0 0) _ (by decide) rfl (fun i hi => ⟨by rw [cc_5 (form_at 45 (by decide) rfl i hi).1], by have q1 := form_at 45 (by decide) rfl i hi; have q2 := form_parts _ q1.2 q1.1; rw [cc_9 q2.1 q2.2.1, aV_0 (by omega) (by omega) (by omega)]⟩)) (fun rv f' sz' hq => ?_)
  obtain ⟨rfl, rfl, rfl⟩ := hq
  refine jt_fe (sz' := b + 70) (f' := blk b (aV 0 0) 44 70 (va_up g (b + 43) (some (jOb 3 [.ref (b + 44), .null, .null, .null])))) (blk_5 b (aV 0 0) (k := 44) (m := 45) (m2 := 70) _ (by decide) (by decide)) rfl ?_
  refine jt_putf d_VA_init_18 (VA_w21 _ rfl rfl) (by rw [blk_out b (aV 0 0) _ _ _ (Or.inl (by decide)), va_up_self]) rfl rfl (Nat.le_of_ble_eq_true rfl) ?_
  refine jt_fe (f' := blk b (aV 0 0) 44 70 (va_up g (b + 43) (some (jOb 3 [.ref (b + 44), .ref (b + 45), .null, .null])))) (blk_3 b (aV 0 0) g (by decide)) rfl ?_
  refine jt_aload_n d_VA_init_21 rfl ?_
  refine jt_new (ci := 4) (fs := [.null]) d_VA_init_22 rfl nw_VA_16 pd_FO (show 26 + 1 ≤ 30 by omega) (show 192 + 1 ≤ 220 by omega) ?_
  refine jt_dup d_VA_init_25 rfl ?_
  refine jt_callI (Y := Y_FO_init) (b := b + 70) (As := []) (rest := [.ref (b + 70), .ref (b + 43)]) (rm := iR (d + 2) 1 13) d_VA_init_26 VA_c25 yk_FO_init yv_FO_init rfl rfl rfl rfl (Nat.le_of_ble_eq_true rfl) (show d + 2 + 1 ≤ d + 3 by omega) (show 8 + (1 + 11) + (d + 2) * 40 ≤ (d + 3) * 40 by omega) (show 27 + 1 ≤ 30 by omega) (show 193 + 13 ≤ 220 by omega) (i_FO G _ b 70 (aV 0 0) _ rfl (by rw [cc_9 (k := 71) (n := 13) rfl rfl, aV_0 (by decide) (by decide) (by decide)])) (fun rv f' sz' hq => ?_)
  obtain ⟨rfl, rfl, rfl⟩ := hq
  refine jt_fe (sz' := b + 72) (f' := blk b (aV 0 0) 44 72 (va_up g (b + 43) (some (jOb 3 [.ref (b + 44), .ref (b + 45), .null, .null])))) (blk_5 b (aV 0 0) (k := 44) (m := 70) (m2 := 72) _ (by decide) (by decide)) rfl ?_
  refine jt_putf d_VA_init_29 (VA_w26 _ rfl rfl) (by rw [blk_out b (aV 0 0) _ _ _ (Or.inl (by decide)), va_up_self]) rfl rfl (Nat.le_of_ble_eq_true rfl) ?_
  refine jt_fe (f' := blk b (aV 0 0) 44 72 (va_up g (b + 43) (some (jOb 3 [.ref (b + 44), .ref (b + 45), .ref (b + 70), .null])))) (blk_3 b (aV 0 0) g (by decide)) rfl ?_
  refine jt_aload_n d_VA_init_32 rfl ?_
  refine jt_new (ci := 4) (fs := [.null]) d_VA_init_33 rfl nw_VA_16 pd_FO (show 28 + 1 ≤ 30 by omega) (show 206 + 1 ≤ 220 by omega) ?_
  refine jt_dup d_VA_init_36 rfl ?_
  refine jt_callI (Y := Y_FO_init) (b := b + 72) (As := []) (rest := [.ref (b + 72), .ref (b + 43)]) (rm := iR (d + 2) 1 13) d_VA_init_37 VA_c25 yk_FO_init yv_FO_init rfl rfl rfl rfl (Nat.le_of_ble_eq_true rfl) (show d + 2 + 1 ≤ d + 3 by omega) (show 8 + (1 + 11) + (d + 2) * 40 ≤ (d + 3) * 40 by omega) (show 29 + 1 ≤ 30 by omega) (show 207 + 13 ≤ 220 by omega) (i_FO G _ b 72 (aV 0 0) _ rfl (by rw [cc_9 (k := 73) (n := 13) rfl rfl, aV_0 (by decide) (by decide) (by decide)])) (fun rv f' sz' hq => ?_)
  obtain ⟨rfl, rfl, rfl⟩ := hq
  refine jt_fe (sz' := b + 74) (f' := blk b (aV 0 0) 44 74 (va_up g (b + 43) (some (jOb 3 [.ref (b + 44), .ref (b + 45), .ref (b + 70), .null])))) (blk_5 b (aV 0 0) (k := 44) (m := 72) (m2 := 74) _ (by decide) (by decide)) rfl ?_
  refine jt_putf d_VA_init_40 (VA_w30 _ rfl rfl) (by rw [blk_out b (aV 0 0) _ _ _ (Or.inl (by decide)), va_up_self]) rfl rfl (Nat.le_of_ble_eq_true rfl) ?_
  refine jt_fe (f' := blk b (aV 0 0) 44 74 (va_up g (b + 43) (some (jOb 3 [.ref (b + 44), .ref (b + 45), .ref (b + 70), .ref (b + 72)])))) (blk_3 b (aV 0 0) g (by decide)) rfl ?_
  refine jt_iconst d_VA_init_43 ?_
  refine jt_istore_n (L' := [(0, .ref (b + 43)), (1, .int (jI 0))]) d_VA_init_44 (Nat.le_of_ble_eq_true rfl) rfl ?_
  show jt _ 45 [(0, .ref (b + 43)), (1, .int (jI 0))] [] (blk b (aV 0 0) 44 74 (va_up g (b + 43) (some (jOb 3 [.ref (b + 44), .ref (b + 45), .ref (b + 70), .ref (b + 72)])))) _ _ _
  refine jt_iload_n d_VA_init_45 rfl ?_
  refine jt_bipush d_VA_init_46 (by omega) ?_
  refine jt_icmp_ge (t := 70) d_VA_init_48 rfl (by unfold jRi; omega) (by unfold jRi; omega) (fun c => absurd c (by omega)) (fun c => ?_)
  refine jt_aload_n d_VA_init_51 rfl ?_
  refine jt_getf d_VA_init_52 VA_f21 (by rw [blk_out b (aV 0 0) _ _ _ (Or.inl (by decide)), va_up_self]) rfl ?_
  refine jt_iload_n d_VA_init_55 rfl ?_
  refine jt_aaload (n := 12) (t := 4) (v := .ref (b + 46)) d_VA_init_56 jTy_4 (by rw [blk_in b (aV 0 0) _ _ _ (by decide) (by decide), cc_12 (k := 45) (n := 12) rfl rfl]) (by omega) (by omega) (by omega) rfl ?_
  refine jt_iload_n d_VA_init_57 rfl ?_
  refine jt_ldc2 (z := 65536) d_VA_init_58 VA_k33 ?_
  refine jt_callV (Y := Y_FO_set) (ci := 4) (b := b + 46) (As := [.int (jI 0), .long (jL 65536)]) (rest := []) (rm := iR (d + 2) 0 0) d_VA_init_61 VA_c35 yk_FO_set yv_FO_set rfl (fs := [.ref (b + 47)]) (by rw [blk_in b (aV 0 0) _ _ _ (by decide) (by decide)]; rfl) rfl rfl (Nat.le_of_ble_eq_true rfl) (show d + 2 + 1 ≤ d + 3 by omega) (show 8 + (5 + 11) + (d + 2) * 40 ≤ (d + 3) * 40 by omega) (show 30 + 0 ≤ 30 by omega) (show 220 + 0 ≤ 220 by omega) (i_set G _ b 46 _ 0 _ (by omega) (by omega) (by rw [blk_in b (aV 0 0) _ _ _ (by decide) (by decide)]; rfl) (by rw [blk_in b (aV 0 0) _ _ _ (by decide) (by decide), cc_9 (k := 47) (n := 13) rfl rfl, aV_0 (by decide) (by decide) (by decide)])) (fun rv f' sz' hq => ?_)
  obtain ⟨rfl, rfl, rfl⟩ := hq
  refine jt_fe (f' := blk b (aV 1 0) 44 74 (va_up g (b + 43) (some (jOb 3 [.ref (b + 44), .ref (b + 45), .ref (b + 70), .ref (b + 72)])))) (blk_u b (aV 0 0) (aV 1 0) (q := 47) _ (by decide) (by decide) (by rw [cc_9 (k := 47) (n := 13) rfl rfl]; exact congrArg (jAL 13) (aV_e1 0 0).symm) (fun p hp => aV_s1 0 0 p hp)) rfl ?_
  refine jt_iinc (L' := [(0, .ref (b + 43)), (1, .int (jI 1))]) d_VA_init_64 rfl (Nat.le_of_ble_eq_true rfl) rfl ?_
  refine jt_goto (t := 45) d_VA_init_67 rfl ?_
  show jt _ 45 [(0, .ref (b + 43)), (1, .int (jI 1))] [] (blk b (aV 1 0) 44 74 (va_up g (b + 43) (some (jOb 3 [.ref (b + 44), .ref (b + 45), .ref (b + 70), .ref (b + 72)])))) _ _ _
  refine jt_iload_n d_VA_init_45 rfl ?_
  refine jt_bipush d_VA_init_46 (by omega) ?_
  refine jt_icmp_ge (t := 70) d_VA_init_48 rfl (by unfold jRi; omega) (by unfold jRi; omega) (fun c => absurd c (by omega)) (fun c => ?_)
  refine jt_aload_n d_VA_init_51 rfl ?_
  refine jt_getf d_VA_init_52 VA_f21 (by rw [blk_out b (aV 1 0) _ _ _ (Or.inl (by decide)), va_up_self]) rfl ?_
  refine jt_iload_n d_VA_init_55 rfl ?_
  refine jt_aaload (n := 12) (t := 4) (v := .ref (b + 48)) d_VA_init_56 jTy_4 (by rw [blk_in b (aV 1 0) _ _ _ (by decide) (by decide), cc_12 (k := 45) (n := 12) rfl rfl]) (by omega) (by omega) (by omega) rfl ?_
  refine jt_iload_n d_VA_init_57 rfl ?_
  refine jt_ldc2 (z := 65536) d_VA_init_58 VA_k33 ?_
  refine jt_callV (Y := Y_FO_set) (ci := 4) (b := b + 48) (As := [.int (jI 1), .long (jL 65536)]) (rest := []) (rm := iR (d + 2) 0 0) d_VA_init_61 VA_c35 yk_FO_set yv_FO_set rfl (fs := [.ref (b + 49)]) (by rw [blk_in b (aV 1 0) _ _ _ (by decide) (by decide)]; rfl) rfl rfl (Nat.le_of_ble_eq_true rfl) (show d + 2 + 1 ≤ d + 3 by omega) (show 8 + (5 + 11) + (d + 2) * 40 ≤ (d + 3) * 40 by omega) (show 30 + 0 ≤ 30 by omega) (show 220 + 0 ≤ 220 by omega) (i_set G _ b 48 _ 1 _ (by omega) (by omega) (by rw [blk_in b (aV 1 0) _ _ _ (by decide) (by decide)]; rfl) (by rw [blk_in b (aV 1 0) _ _ _ (by decide) (by decide), cc_9 (k := 49) (n := 13) rfl rfl, aV_0 (by decide) (by decide) (by decide)])) (fun rv f' sz' hq => ?_)
  obtain ⟨rfl, rfl, rfl⟩ := hq
  refine jt_fe (f' := blk b (aV 2 0) 44 74 (va_up g (b + 43) (some (jOb 3 [.ref (b + 44), .ref (b + 45), .ref (b + 70), .ref (b + 72)])))) (blk_u b (aV 1 0) (aV 2 0) (q := 49) _ (by decide) (by decide) (by rw [cc_9 (k := 49) (n := 13) rfl rfl]; exact congrArg (jAL 13) (aV_e1 1 0).symm) (fun p hp => aV_s1 1 0 p hp)) rfl ?_
  refine jt_iinc (L' := [(0, .ref (b + 43)), (1, .int (jI 2))]) d_VA_init_64 rfl (Nat.le_of_ble_eq_true rfl) rfl ?_
  refine jt_goto (t := 45) d_VA_init_67 rfl ?_
  show jt _ 45 [(0, .ref (b + 43)), (1, .int (jI 2))] [] (blk b (aV 2 0) 44 74 (va_up g (b + 43) (some (jOb 3 [.ref (b + 44), .ref (b + 45), .ref (b + 70), .ref (b + 72)])))) _ _ _
  refine jt_iload_n d_VA_init_45 rfl ?_
  refine jt_bipush d_VA_init_46 (by omega) ?_
  refine jt_icmp_ge (t := 70) d_VA_init_48 rfl (by unfold jRi; omega) (by unfold jRi; omega) (fun c => absurd c (by omega)) (fun c => ?_)
  refine jt_aload_n d_VA_init_51 rfl ?_
  refine jt_getf d_VA_init_52 VA_f21 (by rw [blk_out b (aV 2 0) _ _ _ (Or.inl (by decide)), va_up_self]) rfl ?_
  refine jt_iload_n d_VA_init_55 rfl ?_
  refine jt_aaload (n := 12) (t := 4) (v := .ref (b + 50)) d_VA_init_56 jTy_4 (by rw [blk_in b (aV 2 0) _ _ _ (by decide) (by decide), cc_12 (k := 45) (n := 12) rfl rfl]) (by omega) (by omega) (by omega) rfl ?_
  refine jt_iload_n d_VA_init_57 rfl ?_
  refine jt_ldc2 (z := 65536) d_VA_init_58 VA_k33 ?_
  refine jt_callV (Y := Y_FO_set) (ci := 4) (b := b + 50) (As := [.int (jI 2), .long (jL 65536)]) (rest := []) (rm := iR (d + 2) 0 0) d_VA_init_61 VA_c35 yk_FO_set yv_FO_set rfl (fs := [.ref (b + 51)]) (by rw [blk_in b (aV 2 0) _ _ _ (by decide) (by decide)]; rfl) rfl rfl (Nat.le_of_ble_eq_true rfl) (show d + 2 + 1 ≤ d + 3 by omega) (show 8 + (5 + 11) + (d + 2) * 40 ≤ (d + 3) * 40 by omega) (show 30 + 0 ≤ 30 by omega) (show 220 + 0 ≤ 220 by omega) (i_set G _ b 50 _ 2 _ (by omega) (by omega) (by rw [blk_in b (aV 2 0) _ _ _ (by decide) (by decide)]; rfl) (by rw [blk_in b (aV 2 0) _ _ _ (by decide) (by decide), cc_9 (k := 51) (n := 13) rfl rfl, aV_0 (by decide) (by decide) (by decide)])) (fun rv f' sz' hq => ?_)
  obtain ⟨rfl, rfl, rfl⟩ := hq
  refine jt_fe (f' := blk b (aV 3 0) 44 74 (va_up g (b + 43) (some (jOb 3 [.ref (b + 44), .ref (b + 45), .ref (b + 70), .ref (b + 72)])))) (blk_u b (aV 2 0) (aV 3 0) (q := 51) _ (by decide) (by decide) (by rw [cc_9 (k := 51) (n := 13) rfl rfl]; exact congrArg (jAL 13) (aV_e1 2 0).symm) (fun p hp => aV_s1 2 0 p hp)) rfl ?_
  refine jt_iinc (L' := [(0, .ref (b + 43)), (1, .int (jI 3))]) d_VA_init_64 rfl (Nat.le_of_ble_eq_true rfl) rfl ?_
  refine jt_goto (t := 45) d_VA_init_67 rfl ?_
  show jt _ 45 [(0, .ref (b + 43)), (1, .int (jI 3))] [] (blk b (aV 3 0) 44 74 (va_up g (b + 43) (some (jOb 3 [.ref (b + 44), .ref (b + 45), .ref (b + 70), .ref (b + 72)])))) _ _ _
  refine jt_iload_n d_VA_init_45 rfl ?_
  refine jt_bipush d_VA_init_46 (by omega) ?_
  refine jt_icmp_ge (t := 70) d_VA_init_48 rfl (by unfold jRi; omega) (by unfold jRi; omega) (fun c => absurd c (by omega)) (fun c => ?_)
  refine jt_aload_n d_VA_init_51 rfl ?_
  refine jt_getf d_VA_init_52 VA_f21 (by rw [blk_out b (aV 3 0) _ _ _ (Or.inl (by decide)), va_up_self]) rfl ?_
  refine jt_iload_n d_VA_init_55 rfl ?_
  refine jt_aaload (n := 12) (t := 4) (v := .ref (b + 52)) d_VA_init_56 jTy_4 (by rw [blk_in b (aV 3 0) _ _ _ (by decide) (by decide), cc_12 (k := 45) (n := 12) rfl rfl]) (by omega) (by omega) (by omega) rfl ?_
  refine jt_iload_n d_VA_init_57 rfl ?_
  refine jt_ldc2 (z := 65536) d_VA_init_58 VA_k33 ?_
  refine jt_callV (Y := Y_FO_set) (ci := 4) (b := b + 52) (As := [.int (jI 3), .long (jL 65536)]) (rest := []) (rm := iR (d + 2) 0 0) d_VA_init_61 VA_c35 yk_FO_set yv_FO_set rfl (fs := [.ref (b + 53)]) (by rw [blk_in b (aV 3 0) _ _ _ (by decide) (by decide)]; rfl) rfl rfl (Nat.le_of_ble_eq_true rfl) (show d + 2 + 1 ≤ d + 3 by omega) (show 8 + (5 + 11) + (d + 2) * 40 ≤ (d + 3) * 40 by omega) (show 30 + 0 ≤ 30 by omega) (show 220 + 0 ≤ 220 by omega) (i_set G _ b 52 _ 3 _ (by omega) (by omega) (by rw [blk_in b (aV 3 0) _ _ _ (by decide) (by decide)]; rfl) (by rw [blk_in b (aV 3 0) _ _ _ (by decide) (by decide), cc_9 (k := 53) (n := 13) rfl rfl, aV_0 (by decide) (by decide) (by decide)])) (fun rv f' sz' hq => ?_)
  obtain ⟨rfl, rfl, rfl⟩ := hq
  refine jt_fe (f' := blk b (aV 4 0) 44 74 (va_up g (b + 43) (some (jOb 3 [.ref (b + 44), .ref (b + 45), .ref (b + 70), .ref (b + 72)])))) (blk_u b (aV 3 0) (aV 4 0) (q := 53) _ (by decide) (by decide) (by rw [cc_9 (k := 53) (n := 13) rfl rfl]; exact congrArg (jAL 13) (aV_e1 3 0).symm) (fun p hp => aV_s1 3 0 p hp)) rfl ?_
  refine jt_iinc (L' := [(0, .ref (b + 43)), (1, .int (jI 4))]) d_VA_init_64 rfl (Nat.le_of_ble_eq_true rfl) rfl ?_
  refine jt_goto (t := 45) d_VA_init_67 rfl ?_
  show jt _ 45 [(0, .ref (b + 43)), (1, .int (jI 4))] [] (blk b (aV 4 0) 44 74 (va_up g (b + 43) (some (jOb 3 [.ref (b + 44), .ref (b + 45), .ref (b + 70), .ref (b + 72)])))) _ _ _
  refine jt_iload_n d_VA_init_45 rfl ?_
  refine jt_bipush d_VA_init_46 (by omega) ?_
  refine jt_icmp_ge (t := 70) d_VA_init_48 rfl (by unfold jRi; omega) (by unfold jRi; omega) (fun c => absurd c (by omega)) (fun c => ?_)
  refine jt_aload_n d_VA_init_51 rfl ?_
  refine jt_getf d_VA_init_52 VA_f21 (by rw [blk_out b (aV 4 0) _ _ _ (Or.inl (by decide)), va_up_self]) rfl ?_
  refine jt_iload_n d_VA_init_55 rfl ?_
  refine jt_aaload (n := 12) (t := 4) (v := .ref (b + 54)) d_VA_init_56 jTy_4 (by rw [blk_in b (aV 4 0) _ _ _ (by decide) (by decide), cc_12 (k := 45) (n := 12) rfl rfl]) (by omega) (by omega) (by omega) rfl ?_
  refine jt_iload_n d_VA_init_57 rfl ?_
  refine jt_ldc2 (z := 65536) d_VA_init_58 VA_k33 ?_
  refine jt_callV (Y := Y_FO_set) (ci := 4) (b := b + 54) (As := [.int (jI 4), .long (jL 65536)]) (rest := []) (rm := iR (d + 2) 0 0) d_VA_init_61 VA_c35 yk_FO_set yv_FO_set rfl (fs := [.ref (b + 55)]) (by rw [blk_in b (aV 4 0) _ _ _ (by decide) (by decide)]; rfl) rfl rfl (Nat.le_of_ble_eq_true rfl) (show d + 2 + 1 ≤ d + 3 by omega) (show 8 + (5 + 11) + (d + 2) * 40 ≤ (d + 3) * 40 by omega) (show 30 + 0 ≤ 30 by omega) (show 220 + 0 ≤ 220 by omega) (i_set G _ b 54 _ 4 _ (by omega) (by omega) (by rw [blk_in b (aV 4 0) _ _ _ (by decide) (by decide)]; rfl) (by rw [blk_in b (aV 4 0) _ _ _ (by decide) (by decide), cc_9 (k := 55) (n := 13) rfl rfl, aV_0 (by decide) (by decide) (by decide)])) (fun rv f' sz' hq => ?_)
  obtain ⟨rfl, rfl, rfl⟩ := hq
  refine jt_fe (f' := blk b (aV 5 0) 44 74 (va_up g (b + 43) (some (jOb 3 [.ref (b + 44), .ref (b + 45), .ref (b + 70), .ref (b + 72)])))) (blk_u b (aV 4 0) (aV 5 0) (q := 55) _ (by decide) (by decide) (by rw [cc_9 (k := 55) (n := 13) rfl rfl]; exact congrArg (jAL 13) (aV_e1 4 0).symm) (fun p hp => aV_s1 4 0 p hp)) rfl ?_
  refine jt_iinc (L' := [(0, .ref (b + 43)), (1, .int (jI 5))]) d_VA_init_64 rfl (Nat.le_of_ble_eq_true rfl) rfl ?_
  refine jt_goto (t := 45) d_VA_init_67 rfl ?_
  show jt _ 45 [(0, .ref (b + 43)), (1, .int (jI 5))] [] (blk b (aV 5 0) 44 74 (va_up g (b + 43) (some (jOb 3 [.ref (b + 44), .ref (b + 45), .ref (b + 70), .ref (b + 72)])))) _ _ _
  refine jt_iload_n d_VA_init_45 rfl ?_
  refine jt_bipush d_VA_init_46 (by omega) ?_
  refine jt_icmp_ge (t := 70) d_VA_init_48 rfl (by unfold jRi; omega) (by unfold jRi; omega) (fun c => absurd c (by omega)) (fun c => ?_)
  refine jt_aload_n d_VA_init_51 rfl ?_
  refine jt_getf d_VA_init_52 VA_f21 (by rw [blk_out b (aV 5 0) _ _ _ (Or.inl (by decide)), va_up_self]) rfl ?_
  refine jt_iload_n d_VA_init_55 rfl ?_
  refine jt_aaload (n := 12) (t := 4) (v := .ref (b + 56)) d_VA_init_56 jTy_4 (by rw [blk_in b (aV 5 0) _ _ _ (by decide) (by decide), cc_12 (k := 45) (n := 12) rfl rfl]) (by omega) (by omega) (by omega) rfl ?_
  refine jt_iload_n d_VA_init_57 rfl ?_
  refine jt_ldc2 (z := 65536) d_VA_init_58 VA_k33 ?_
  refine jt_callV (Y := Y_FO_set) (ci := 4) (b := b + 56) (As := [.int (jI 5), .long (jL 65536)]) (rest := []) (rm := iR (d + 2) 0 0) d_VA_init_61 VA_c35 yk_FO_set yv_FO_set rfl (fs := [.ref (b + 57)]) (by rw [blk_in b (aV 5 0) _ _ _ (by decide) (by decide)]; rfl) rfl rfl (Nat.le_of_ble_eq_true rfl) (show d + 2 + 1 ≤ d + 3 by omega) (show 8 + (5 + 11) + (d + 2) * 40 ≤ (d + 3) * 40 by omega) (show 30 + 0 ≤ 30 by omega) (show 220 + 0 ≤ 220 by omega) (i_set G _ b 56 _ 5 _ (by omega) (by omega) (by rw [blk_in b (aV 5 0) _ _ _ (by decide) (by decide)]; rfl) (by rw [blk_in b (aV 5 0) _ _ _ (by decide) (by decide), cc_9 (k := 57) (n := 13) rfl rfl, aV_0 (by decide) (by decide) (by decide)])) (fun rv f' sz' hq => ?_)
  obtain ⟨rfl, rfl, rfl⟩ := hq
  refine jt_fe (f' := blk b (aV 6 0) 44 74 (va_up g (b + 43) (some (jOb 3 [.ref (b + 44), .ref (b + 45), .ref (b + 70), .ref (b + 72)])))) (blk_u b (aV 5 0) (aV 6 0) (q := 57) _ (by decide) (by decide) (by rw [cc_9 (k := 57) (n := 13) rfl rfl]; exact congrArg (jAL 13) (aV_e1 5 0).symm) (fun p hp => aV_s1 5 0 p hp)) rfl ?_
  refine jt_iinc (L' := [(0, .ref (b + 43)), (1, .int (jI 6))]) d_VA_init_64 rfl (Nat.le_of_ble_eq_true rfl) rfl ?_
  refine jt_goto (t := 45) d_VA_init_67 rfl ?_
  show jt _ 45 [(0, .ref (b + 43)), (1, .int (jI 6))] [] (blk b (aV 6 0) 44 74 (va_up g (b + 43) (some (jOb 3 [.ref (b + 44), .ref (b + 45), .ref (b + 70), .ref (b + 72)])))) _ _ _
  refine jt_iload_n d_VA_init_45 rfl ?_
  refine jt_bipush d_VA_init_46 (by omega) ?_
  refine jt_icmp_ge (t := 70) d_VA_init_48 rfl (by unfold jRi; omega) (by unfold jRi; omega) (fun c => absurd c (by omega)) (fun c => ?_)
  refine jt_aload_n d_VA_init_51 rfl ?_
  refine jt_getf d_VA_init_52 VA_f21 (by rw [blk_out b (aV 6 0) _ _ _ (Or.inl (by decide)), va_up_self]) rfl ?_
  refine jt_iload_n d_VA_init_55 rfl ?_
  refine jt_aaload (n := 12) (t := 4) (v := .ref (b + 58)) d_VA_init_56 jTy_4 (by rw [blk_in b (aV 6 0) _ _ _ (by decide) (by decide), cc_12 (k := 45) (n := 12) rfl rfl]) (by omega) (by omega) (by omega) rfl ?_
  refine jt_iload_n d_VA_init_57 rfl ?_
  refine jt_ldc2 (z := 65536) d_VA_init_58 VA_k33 ?_
  refine jt_callV (Y := Y_FO_set) (ci := 4) (b := b + 58) (As := [.int (jI 6), .long (jL 65536)]) (rest := []) (rm := iR (d + 2) 0 0) d_VA_init_61 VA_c35 yk_FO_set yv_FO_set rfl (fs := [.ref (b + 59)]) (by rw [blk_in b (aV 6 0) _ _ _ (by decide) (by decide)]; rfl) rfl rfl (Nat.le_of_ble_eq_true rfl) (show d + 2 + 1 ≤ d + 3 by omega) (show 8 + (5 + 11) + (d + 2) * 40 ≤ (d + 3) * 40 by omega) (show 30 + 0 ≤ 30 by omega) (show 220 + 0 ≤ 220 by omega) (i_set G _ b 58 _ 6 _ (by omega) (by omega) (by rw [blk_in b (aV 6 0) _ _ _ (by decide) (by decide)]; rfl) (by rw [blk_in b (aV 6 0) _ _ _ (by decide) (by decide), cc_9 (k := 59) (n := 13) rfl rfl, aV_0 (by decide) (by decide) (by decide)])) (fun rv f' sz' hq => ?_)
  obtain ⟨rfl, rfl, rfl⟩ := hq
  refine jt_fe (f' := blk b (aV 7 0) 44 74 (va_up g (b + 43) (some (jOb 3 [.ref (b + 44), .ref (b + 45), .ref (b + 70), .ref (b + 72)])))) (blk_u b (aV 6 0) (aV 7 0) (q := 59) _ (by decide) (by decide) (by rw [cc_9 (k := 59) (n := 13) rfl rfl]; exact congrArg (jAL 13) (aV_e1 6 0).symm) (fun p hp => aV_s1 6 0 p hp)) rfl ?_
  refine jt_iinc (L' := [(0, .ref (b + 43)), (1, .int (jI 7))]) d_VA_init_64 rfl (Nat.le_of_ble_eq_true rfl) rfl ?_
  refine jt_goto (t := 45) d_VA_init_67 rfl ?_
  show jt _ 45 [(0, .ref (b + 43)), (1, .int (jI 7))] [] (blk b (aV 7 0) 44 74 (va_up g (b + 43) (some (jOb 3 [.ref (b + 44), .ref (b + 45), .ref (b + 70), .ref (b + 72)])))) _ _ _
  refine jt_iload_n d_VA_init_45 rfl ?_
  refine jt_bipush d_VA_init_46 (by omega) ?_
  refine jt_icmp_ge (t := 70) d_VA_init_48 rfl (by unfold jRi; omega) (by unfold jRi; omega) (fun c => absurd c (by omega)) (fun c => ?_)
  refine jt_aload_n d_VA_init_51 rfl ?_
  refine jt_getf d_VA_init_52 VA_f21 (by rw [blk_out b (aV 7 0) _ _ _ (Or.inl (by decide)), va_up_self]) rfl ?_
  refine jt_iload_n d_VA_init_55 rfl ?_
  refine jt_aaload (n := 12) (t := 4) (v := .ref (b + 60)) d_VA_init_56 jTy_4 (by rw [blk_in b (aV 7 0) _ _ _ (by decide) (by decide), cc_12 (k := 45) (n := 12) rfl rfl]) (by omega) (by omega) (by omega) rfl ?_
  refine jt_iload_n d_VA_init_57 rfl ?_
  refine jt_ldc2 (z := 65536) d_VA_init_58 VA_k33 ?_
  refine jt_callV (Y := Y_FO_set) (ci := 4) (b := b + 60) (As := [.int (jI 7), .long (jL 65536)]) (rest := []) (rm := iR (d + 2) 0 0) d_VA_init_61 VA_c35 yk_FO_set yv_FO_set rfl (fs := [.ref (b + 61)]) (by rw [blk_in b (aV 7 0) _ _ _ (by decide) (by decide)]; rfl) rfl rfl (Nat.le_of_ble_eq_true rfl) (show d + 2 + 1 ≤ d + 3 by omega) (show 8 + (5 + 11) + (d + 2) * 40 ≤ (d + 3) * 40 by omega) (show 30 + 0 ≤ 30 by omega) (show 220 + 0 ≤ 220 by omega) (i_set G _ b 60 _ 7 _ (by omega) (by omega) (by rw [blk_in b (aV 7 0) _ _ _ (by decide) (by decide)]; rfl) (by rw [blk_in b (aV 7 0) _ _ _ (by decide) (by decide), cc_9 (k := 61) (n := 13) rfl rfl, aV_0 (by decide) (by decide) (by decide)])) (fun rv f' sz' hq => ?_)
  obtain ⟨rfl, rfl, rfl⟩ := hq
  refine jt_fe (f' := blk b (aV 8 0) 44 74 (va_up g (b + 43) (some (jOb 3 [.ref (b + 44), .ref (b + 45), .ref (b + 70), .ref (b + 72)])))) (blk_u b (aV 7 0) (aV 8 0) (q := 61) _ (by decide) (by decide) (by rw [cc_9 (k := 61) (n := 13) rfl rfl]; exact congrArg (jAL 13) (aV_e1 7 0).symm) (fun p hp => aV_s1 7 0 p hp)) rfl ?_
  refine jt_iinc (L' := [(0, .ref (b + 43)), (1, .int (jI 8))]) d_VA_init_64 rfl (Nat.le_of_ble_eq_true rfl) rfl ?_
  refine jt_goto (t := 45) d_VA_init_67 rfl ?_
  show jt _ 45 [(0, .ref (b + 43)), (1, .int (jI 8))] [] (blk b (aV 8 0) 44 74 (va_up g (b + 43) (some (jOb 3 [.ref (b + 44), .ref (b + 45), .ref (b + 70), .ref (b + 72)])))) _ _ _
  refine jt_iload_n d_VA_init_45 rfl ?_
  refine jt_bipush d_VA_init_46 (by omega) ?_
  refine jt_icmp_ge (t := 70) d_VA_init_48 rfl (by unfold jRi; omega) (by unfold jRi; omega) (fun c => absurd c (by omega)) (fun c => ?_)
  refine jt_aload_n d_VA_init_51 rfl ?_
  refine jt_getf d_VA_init_52 VA_f21 (by rw [blk_out b (aV 8 0) _ _ _ (Or.inl (by decide)), va_up_self]) rfl ?_
  refine jt_iload_n d_VA_init_55 rfl ?_
  refine jt_aaload (n := 12) (t := 4) (v := .ref (b + 62)) d_VA_init_56 jTy_4 (by rw [blk_in b (aV 8 0) _ _ _ (by decide) (by decide), cc_12 (k := 45) (n := 12) rfl rfl]) (by omega) (by omega) (by omega) rfl ?_
  refine jt_iload_n d_VA_init_57 rfl ?_
  refine jt_ldc2 (z := 65536) d_VA_init_58 VA_k33 ?_
  refine jt_callV (Y := Y_FO_set) (ci := 4) (b := b + 62) (As := [.int (jI 8), .long (jL 65536)]) (rest := []) (rm := iR (d + 2) 0 0) d_VA_init_61 VA_c35 yk_FO_set yv_FO_set rfl (fs := [.ref (b + 63)]) (by rw [blk_in b (aV 8 0) _ _ _ (by decide) (by decide)]; rfl) rfl rfl (Nat.le_of_ble_eq_true rfl) (show d + 2 + 1 ≤ d + 3 by omega) (show 8 + (5 + 11) + (d + 2) * 40 ≤ (d + 3) * 40 by omega) (show 30 + 0 ≤ 30 by omega) (show 220 + 0 ≤ 220 by omega) (i_set G _ b 62 _ 8 _ (by omega) (by omega) (by rw [blk_in b (aV 8 0) _ _ _ (by decide) (by decide)]; rfl) (by rw [blk_in b (aV 8 0) _ _ _ (by decide) (by decide), cc_9 (k := 63) (n := 13) rfl rfl, aV_0 (by decide) (by decide) (by decide)])) (fun rv f' sz' hq => ?_)
  obtain ⟨rfl, rfl, rfl⟩ := hq
  refine jt_fe (f' := blk b (aV 9 0) 44 74 (va_up g (b + 43) (some (jOb 3 [.ref (b + 44), .ref (b + 45), .ref (b + 70), .ref (b + 72)])))) (blk_u b (aV 8 0) (aV 9 0) (q := 63) _ (by decide) (by decide) (by rw [cc_9 (k := 63) (n := 13) rfl rfl]; exact congrArg (jAL 13) (aV_e1 8 0).symm) (fun p hp => aV_s1 8 0 p hp)) rfl ?_
  refine jt_iinc (L' := [(0, .ref (b + 43)), (1, .int (jI 9))]) d_VA_init_64 rfl (Nat.le_of_ble_eq_true rfl) rfl ?_
  refine jt_goto (t := 45) d_VA_init_67 rfl ?_
  show jt _ 45 [(0, .ref (b + 43)), (1, .int (jI 9))] [] (blk b (aV 9 0) 44 74 (va_up g (b + 43) (some (jOb 3 [.ref (b + 44), .ref (b + 45), .ref (b + 70), .ref (b + 72)])))) _ _ _
  refine jt_iload_n d_VA_init_45 rfl ?_
  refine jt_bipush d_VA_init_46 (by omega) ?_
  refine jt_icmp_ge (t := 70) d_VA_init_48 rfl (by unfold jRi; omega) (by unfold jRi; omega) (fun c => absurd c (by omega)) (fun c => ?_)
  refine jt_aload_n d_VA_init_51 rfl ?_
  refine jt_getf d_VA_init_52 VA_f21 (by rw [blk_out b (aV 9 0) _ _ _ (Or.inl (by decide)), va_up_self]) rfl ?_
  refine jt_iload_n d_VA_init_55 rfl ?_
  refine jt_aaload (n := 12) (t := 4) (v := .ref (b + 64)) d_VA_init_56 jTy_4 (by rw [blk_in b (aV 9 0) _ _ _ (by decide) (by decide), cc_12 (k := 45) (n := 12) rfl rfl]) (by omega) (by omega) (by omega) rfl ?_
  refine jt_iload_n d_VA_init_57 rfl ?_
  refine jt_ldc2 (z := 65536) d_VA_init_58 VA_k33 ?_
  refine jt_callV (Y := Y_FO_set) (ci := 4) (b := b + 64) (As := [.int (jI 9), .long (jL 65536)]) (rest := []) (rm := iR (d + 2) 0 0) d_VA_init_61 VA_c35 yk_FO_set yv_FO_set rfl (fs := [.ref (b + 65)]) (by rw [blk_in b (aV 9 0) _ _ _ (by decide) (by decide)]; rfl) rfl rfl (Nat.le_of_ble_eq_true rfl) (show d + 2 + 1 ≤ d + 3 by omega) (show 8 + (5 + 11) + (d + 2) * 40 ≤ (d + 3) * 40 by omega) (show 30 + 0 ≤ 30 by omega) (show 220 + 0 ≤ 220 by omega) (i_set G _ b 64 _ 9 _ (by omega) (by omega) (by rw [blk_in b (aV 9 0) _ _ _ (by decide) (by decide)]; rfl) (by rw [blk_in b (aV 9 0) _ _ _ (by decide) (by decide), cc_9 (k := 65) (n := 13) rfl rfl, aV_0 (by decide) (by decide) (by decide)])) (fun rv f' sz' hq => ?_)
  obtain ⟨rfl, rfl, rfl⟩ := hq
  refine jt_fe (f' := blk b (aV 10 0) 44 74 (va_up g (b + 43) (some (jOb 3 [.ref (b + 44), .ref (b + 45), .ref (b + 70), .ref (b + 72)])))) (blk_u b (aV 9 0) (aV 10 0) (q := 65) _ (by decide) (by decide) (by rw [cc_9 (k := 65) (n := 13) rfl rfl]; exact congrArg (jAL 13) (aV_e1 9 0).symm) (fun p hp => aV_s1 9 0 p hp)) rfl ?_
  refine jt_iinc (L' := [(0, .ref (b + 43)), (1, .int (jI 10))]) d_VA_init_64 rfl (Nat.le_of_ble_eq_true rfl) rfl ?_
  refine jt_goto (t := 45) d_VA_init_67 rfl ?_
  show jt _ 45 [(0, .ref (b + 43)), (1, .int (jI 10))] [] (blk b (aV 10 0) 44 74 (va_up g (b + 43) (some (jOb 3 [.ref (b + 44), .ref (b + 45), .ref (b + 70), .ref (b + 72)])))) _ _ _
  refine jt_iload_n d_VA_init_45 rfl ?_
  refine jt_bipush d_VA_init_46 (by omega) ?_
  refine jt_icmp_ge (t := 70) d_VA_init_48 rfl (by unfold jRi; omega) (by unfold jRi; omega) (fun c => absurd c (by omega)) (fun c => ?_)
  refine jt_aload_n d_VA_init_51 rfl ?_
  refine jt_getf d_VA_init_52 VA_f21 (by rw [blk_out b (aV 10 0) _ _ _ (Or.inl (by decide)), va_up_self]) rfl ?_
  refine jt_iload_n d_VA_init_55 rfl ?_
  refine jt_aaload (n := 12) (t := 4) (v := .ref (b + 66)) d_VA_init_56 jTy_4 (by rw [blk_in b (aV 10 0) _ _ _ (by decide) (by decide), cc_12 (k := 45) (n := 12) rfl rfl]) (by omega) (by omega) (by omega) rfl ?_
  refine jt_iload_n d_VA_init_57 rfl ?_
  refine jt_ldc2 (z := 65536) d_VA_init_58 VA_k33 ?_
  refine jt_callV (Y := Y_FO_set) (ci := 4) (b := b + 66) (As := [.int (jI 10), .long (jL 65536)]) (rest := []) (rm := iR (d + 2) 0 0) d_VA_init_61 VA_c35 yk_FO_set yv_FO_set rfl (fs := [.ref (b + 67)]) (by rw [blk_in b (aV 10 0) _ _ _ (by decide) (by decide)]; rfl) rfl rfl (Nat.le_of_ble_eq_true rfl) (show d + 2 + 1 ≤ d + 3 by omega) (show 8 + (5 + 11) + (d + 2) * 40 ≤ (d + 3) * 40 by omega) (show 30 + 0 ≤ 30 by omega) (show 220 + 0 ≤ 220 by omega) (i_set G _ b 66 _ 10 _ (by omega) (by omega) (by rw [blk_in b (aV 10 0) _ _ _ (by decide) (by decide)]; rfl) (by rw [blk_in b (aV 10 0) _ _ _ (by decide) (by decide), cc_9 (k := 67) (n := 13) rfl rfl, aV_0 (by decide) (by decide) (by decide)])) (fun rv f' sz' hq => ?_)
  obtain ⟨rfl, rfl, rfl⟩ := hq
  refine jt_fe (f' := blk b (aV 11 0) 44 74 (va_up g (b + 43) (some (jOb 3 [.ref (b + 44), .ref (b + 45), .ref (b + 70), .ref (b + 72)])))) (blk_u b (aV 10 0) (aV 11 0) (q := 67) _ (by decide) (by decide) (by rw [cc_9 (k := 67) (n := 13) rfl rfl]; exact congrArg (jAL 13) (aV_e1 10 0).symm) (fun p hp => aV_s1 10 0 p hp)) rfl ?_
  refine jt_iinc (L' := [(0, .ref (b + 43)), (1, .int (jI 11))]) d_VA_init_64 rfl (Nat.le_of_ble_eq_true rfl) rfl ?_
  refine jt_goto (t := 45) d_VA_init_67 rfl ?_
  show jt _ 45 [(0, .ref (b + 43)), (1, .int (jI 11))] [] (blk b (aV 11 0) 44 74 (va_up g (b + 43) (some (jOb 3 [.ref (b + 44), .ref (b + 45), .ref (b + 70), .ref (b + 72)])))) _ _ _
  refine jt_iload_n d_VA_init_45 rfl ?_
  refine jt_bipush d_VA_init_46 (by omega) ?_
  refine jt_icmp_ge (t := 70) d_VA_init_48 rfl (by unfold jRi; omega) (by unfold jRi; omega) (fun c => absurd c (by omega)) (fun c => ?_)
  refine jt_aload_n d_VA_init_51 rfl ?_
  refine jt_getf d_VA_init_52 VA_f21 (by rw [blk_out b (aV 11 0) _ _ _ (Or.inl (by decide)), va_up_self]) rfl ?_
  refine jt_iload_n d_VA_init_55 rfl ?_
  refine jt_aaload (n := 12) (t := 4) (v := .ref (b + 68)) d_VA_init_56 jTy_4 (by rw [blk_in b (aV 11 0) _ _ _ (by decide) (by decide), cc_12 (k := 45) (n := 12) rfl rfl]) (by omega) (by omega) (by omega) rfl ?_
  refine jt_iload_n d_VA_init_57 rfl ?_
  refine jt_ldc2 (z := 65536) d_VA_init_58 VA_k33 ?_
  refine jt_callV (Y := Y_FO_set) (ci := 4) (b := b + 68) (As := [.int (jI 11), .long (jL 65536)]) (rest := []) (rm := iR (d + 2) 0 0) d_VA_init_61 VA_c35 yk_FO_set yv_FO_set rfl (fs := [.ref (b + 69)]) (by rw [blk_in b (aV 11 0) _ _ _ (by decide) (by decide)]; rfl) rfl rfl (Nat.le_of_ble_eq_true rfl) (show d + 2 + 1 ≤ d + 3 by omega) (show 8 + (5 + 11) + (d + 2) * 40 ≤ (d + 3) * 40 by omega) (show 30 + 0 ≤ 30 by omega) (show 220 + 0 ≤ 220 by omega) (i_set G _ b 68 _ 11 _ (by omega) (by omega) (by rw [blk_in b (aV 11 0) _ _ _ (by decide) (by decide)]; rfl) (by rw [blk_in b (aV 11 0) _ _ _ (by decide) (by decide), cc_9 (k := 69) (n := 13) rfl rfl, aV_0 (by decide) (by decide) (by decide)])) (fun rv f' sz' hq => ?_)
  obtain ⟨rfl, rfl, rfl⟩ := hq
  refine jt_fe (f' := blk b (aV 12 0) 44 74 (va_up g (b + 43) (some (jOb 3 [.ref (b + 44), .ref (b + 45), .ref (b + 70), .ref (b + 72)])))) (blk_u b (aV 11 0) (aV 12 0) (q := 69) _ (by decide) (by decide) (by rw [cc_9 (k := 69) (n := 13) rfl rfl]; exact congrArg (jAL 13) (aV_e1 11 0).symm) (fun p hp => aV_s1 11 0 p hp)) rfl ?_
  refine jt_iinc (L' := [(0, .ref (b + 43)), (1, .int (jI 12))]) d_VA_init_64 rfl (Nat.le_of_ble_eq_true rfl) rfl ?_
  refine jt_goto (t := 45) d_VA_init_67 rfl ?_
  show jt _ 45 [(0, .ref (b + 43)), (1, .int (jI 12))] [] (blk b (aV 12 0) 44 74 (va_up g (b + 43) (some (jOb 3 [.ref (b + 44), .ref (b + 45), .ref (b + 70), .ref (b + 72)])))) _ _ _
  refine jt_iload_n d_VA_init_45 rfl ?_
  refine jt_bipush d_VA_init_46 (by omega) ?_
  refine jt_icmp_ge (t := 70) d_VA_init_48 rfl (by unfold jRi; omega) (by unfold jRi; omega) (fun c => ?_) (fun c => absurd c (by omega))
  exact jt_vret d_VA_init_70 rfl (show 30 ≤ 30 by omega) (show 220 ≤ 220 by omega) ⟨rfl, (blk_4 b (aV 12 0) g rfl (by decide)).trans (blk_A b (aV 12 0) (aV 12 12) g (fun q _ hq => aV_far 12 0 12 q (by omega))), rfl⟩
set_option maxRecDepth 100000 in
set_option maxHeartbeats 1000000 in
theorem i_VA_433 (G : jG) (d b : Nat) (g : jF) : jct G Y_VA_init (iR (d + 3) 30 220) [.ref (b + 433)] (va_up g (b + 433) (some (jOb 3 [.null, .null, .null, .null]))) (b + 434) (fun rv f' sz' => rv = none ∧ f' = blk b (aV 12 12) 433 464 g ∧ sz' = b + 464) := by
  refine jct_of (by decide) (Nat.le_of_ble_eq_true rfl) ?_
  show jt _ 0 [(0, .ref (b + 433))] [] _ _ _ _
  refine jt_fe (f' := blk b (aV 12 0) 434 434 (va_up g (b + 433) (some (jOb 3 [.null, .null, .null, .null])))) (blk_nil _ _ _ _).symm rfl ?_
  refine jt_aload_n d_VA_init_0 rfl ?_
  refine jt_objInit d_VA_init_1 VA_o3 (show 0 + 12 ≤ (d + 3) * 40 by omega) (show 1 ≤ d + 3 by omega) ?_
  refine jt_aload_n d_VA_init_4 rfl ?_
  refine jt_bipush d_VA_init_5 (by omega) ?_
  refine jt_newI (n := 12) d_VA_init_7 ac_int rfl (by omega) (show 0 + 1 ≤ 30 by omega) (show 0 + 12 ≤ 220 by omega) ?_
  refine jt_fe (sz' := b + 435) (f' := blk b (aV 12 0) 434 435 (va_up g (b + 433) (some (jOb 3 [.null, .null, .null, .null])))) (blk_1 b (aV 12 0) _ (Eq.symm (by rw [cc_8 (k := 434) (n := 12) rfl rfl, aV_0 (by decide) (by decide) (by decide)])) (by decide)) rfl ?_
  refine jt_putf d_VA_init_9 (VA_w9 _ rfl rfl) (by rw [blk_out b (aV 12 0) _ _ _ (Or.inl (by decide)), va_up_self]) rfl rfl (Nat.le_of_ble_eq_true rfl) ?_
  refine jt_fe (f' := blk b (aV 12 0) 434 435 (va_up g (b + 433) (some (jOb 3 [.ref (b + 434), .null, .null, .null])))) (blk_3 b (aV 12 0) g (by decide)) rfl ?_
  refine jt_aload_n d_VA_init_12 rfl ?_
  refine jt_bipush d_VA_init_13 (by omega) ?_
  refine jt_callS (Y := Y_FO_row) (As := [.int (jI 12)]) (rest := [.ref (b + 433)]) (rm := iR (d + 2) 25 180) d_VA_init_15 VA_c15 yk_FO_row ys_FO_row rfl rfl (Nat.le_of_ble_eq_true rfl) (show d + 2 + 1 ≤ d + 3 by omega) (show 8 + (3 + 11) + (d + 2) * 40 ≤ (d + 3) * 40 by omega) (show 1 + 25 ≤ 30 by omega) (show 12 + 180 ≤ 220 by omega) (i_row G _ b 435 12 (aV 12 0) _ (by decide) rfl (fun i hi => ⟨by rw [cc_5 (form_at 435 (by decide) rfl i hi).1], by have q1 := form_at 435 (by decide) rfl i hi; have q2 := form_parts _ q1.2 q1.1; rw [cc_9 q2.1 q2.2.1, aV_0 (by omega) (by omega) (by omega)]⟩)) (fun rv f' sz' hq => ?_)
  obtain ⟨rfl, rfl, rfl⟩ := hq
  refine jt_fe (sz' := b + 460) (f' := blk b (aV 12 0) 434 460 (va_up g (b + 433) (some (jOb 3 [.ref (b + 434), .null, .null, .null])))) (blk_5 b (aV 12 0) (k := 434) (m := 435) (m2 := 460) _ (by decide) (by decide)) rfl ?_
  refine jt_putf d_VA_init_18 (VA_w21 _ rfl rfl) (by rw [blk_out b (aV 12 0) _ _ _ (Or.inl (by decide)), va_up_self]) rfl rfl (Nat.le_of_ble_eq_true rfl) ?_
  refine jt_fe (f' := blk b (aV 12 0) 434 460 (va_up g (b + 433) (some (jOb 3 [.ref (b + 434), .ref (b + 435), .null, .null])))) (blk_3 b (aV 12 0) g (by decide)) rfl ?_
  refine jt_aload_n d_VA_init_21 rfl ?_
  refine jt_new (ci := 4) (fs := [.null]) d_VA_init_22 rfl nw_VA_16 pd_FO (show 26 + 1 ≤ 30 by omega) (show 192 + 1 ≤ 220 by omega) ?_
  refine jt_dup d_VA_init_25 rfl ?_
  refine jt_callI (Y := Y_FO_init) (b := b + 460) (As := []) (rest := [.ref (b + 460), .ref (b + 433)]) (rm := iR (d + 2) 1 13) d_VA_init_26 VA_c25 yk_FO_init yv_FO_init rfl rfl rfl rfl (Nat.le_of_ble_eq_true rfl) (show d + 2 + 1 ≤ d + 3 by omega) (show 8 + (1 + 11) + (d + 2) * 40 ≤ (d + 3) * 40 by omega) (show 27 + 1 ≤ 30 by omega) (show 193 + 13 ≤ 220 by omega) (i_FO G _ b 460 (aV 12 0) _ rfl (by rw [cc_9 (k := 461) (n := 13) rfl rfl, aV_0 (by decide) (by decide) (by decide)])) (fun rv f' sz' hq => ?_)
  obtain ⟨rfl, rfl, rfl⟩ := hq
  refine jt_fe (sz' := b + 462) (f' := blk b (aV 12 0) 434 462 (va_up g (b + 433) (some (jOb 3 [.ref (b + 434), .ref (b + 435), .null, .null])))) (blk_5 b (aV 12 0) (k := 434) (m := 460) (m2 := 462) _ (by decide) (by decide)) rfl ?_
  refine jt_putf d_VA_init_29 (VA_w26 _ rfl rfl) (by rw [blk_out b (aV 12 0) _ _ _ (Or.inl (by decide)), va_up_self]) rfl rfl (Nat.le_of_ble_eq_true rfl) ?_
  refine jt_fe (f' := blk b (aV 12 0) 434 462 (va_up g (b + 433) (some (jOb 3 [.ref (b + 434), .ref (b + 435), .ref (b + 460), .null])))) (blk_3 b (aV 12 0) g (by decide)) rfl ?_
  refine jt_aload_n d_VA_init_32 rfl ?_
  refine jt_new (ci := 4) (fs := [.null]) d_VA_init_33 rfl nw_VA_16 pd_FO (show 28 + 1 ≤ 30 by omega) (show 206 + 1 ≤ 220 by omega) ?_
  refine jt_dup d_VA_init_36 rfl ?_
  refine jt_callI (Y := Y_FO_init) (b := b + 462) (As := []) (rest := [.ref (b + 462), .ref (b + 433)]) (rm := iR (d + 2) 1 13) d_VA_init_37 VA_c25 yk_FO_init yv_FO_init rfl rfl rfl rfl (Nat.le_of_ble_eq_true rfl) (show d + 2 + 1 ≤ d + 3 by omega) (show 8 + (1 + 11) + (d + 2) * 40 ≤ (d + 3) * 40 by omega) (show 29 + 1 ≤ 30 by omega) (show 207 + 13 ≤ 220 by omega) (i_FO G _ b 462 (aV 12 0) _ rfl (by rw [cc_9 (k := 463) (n := 13) rfl rfl, aV_0 (by decide) (by decide) (by decide)])) (fun rv f' sz' hq => ?_)
  obtain ⟨rfl, rfl, rfl⟩ := hq
  refine jt_fe (sz' := b + 464) (f' := blk b (aV 12 0) 434 464 (va_up g (b + 433) (some (jOb 3 [.ref (b + 434), .ref (b + 435), .ref (b + 460), .null])))) (blk_5 b (aV 12 0) (k := 434) (m := 462) (m2 := 464) _ (by decide) (by decide)) rfl ?_
  refine jt_putf d_VA_init_40 (VA_w30 _ rfl rfl) (by rw [blk_out b (aV 12 0) _ _ _ (Or.inl (by decide)), va_up_self]) rfl rfl (Nat.le_of_ble_eq_true rfl) ?_
  refine jt_fe (f' := blk b (aV 12 0) 434 464 (va_up g (b + 433) (some (jOb 3 [.ref (b + 434), .ref (b + 435), .ref (b + 460), .ref (b + 462)])))) (blk_3 b (aV 12 0) g (by decide)) rfl ?_
  refine jt_iconst d_VA_init_43 ?_
  refine jt_istore_n (L' := [(0, .ref (b + 433)), (1, .int (jI 0))]) d_VA_init_44 (Nat.le_of_ble_eq_true rfl) rfl ?_
  show jt _ 45 [(0, .ref (b + 433)), (1, .int (jI 0))] [] (blk b (aV 12 0) 434 464 (va_up g (b + 433) (some (jOb 3 [.ref (b + 434), .ref (b + 435), .ref (b + 460), .ref (b + 462)])))) _ _ _
  refine jt_iload_n d_VA_init_45 rfl ?_
  refine jt_bipush d_VA_init_46 (by omega) ?_
  refine jt_icmp_ge (t := 70) d_VA_init_48 rfl (by unfold jRi; omega) (by unfold jRi; omega) (fun c => absurd c (by omega)) (fun c => ?_)
  refine jt_aload_n d_VA_init_51 rfl ?_
  refine jt_getf d_VA_init_52 VA_f21 (by rw [blk_out b (aV 12 0) _ _ _ (Or.inl (by decide)), va_up_self]) rfl ?_
  refine jt_iload_n d_VA_init_55 rfl ?_
  refine jt_aaload (n := 12) (t := 4) (v := .ref (b + 436)) d_VA_init_56 jTy_4 (by rw [blk_in b (aV 12 0) _ _ _ (by decide) (by decide), cc_12 (k := 435) (n := 12) rfl rfl]) (by omega) (by omega) (by omega) rfl ?_
  refine jt_iload_n d_VA_init_57 rfl ?_
  refine jt_ldc2 (z := 65536) d_VA_init_58 VA_k33 ?_
  refine jt_callV (Y := Y_FO_set) (ci := 4) (b := b + 436) (As := [.int (jI 0), .long (jL 65536)]) (rest := []) (rm := iR (d + 2) 0 0) d_VA_init_61 VA_c35 yk_FO_set yv_FO_set rfl (fs := [.ref (b + 437)]) (by rw [blk_in b (aV 12 0) _ _ _ (by decide) (by decide)]; rfl) rfl rfl (Nat.le_of_ble_eq_true rfl) (show d + 2 + 1 ≤ d + 3 by omega) (show 8 + (5 + 11) + (d + 2) * 40 ≤ (d + 3) * 40 by omega) (show 30 + 0 ≤ 30 by omega) (show 220 + 0 ≤ 220 by omega) (i_set G _ b 436 _ 0 _ (by omega) (by omega) (by rw [blk_in b (aV 12 0) _ _ _ (by decide) (by decide)]; rfl) (by rw [blk_in b (aV 12 0) _ _ _ (by decide) (by decide), cc_9 (k := 437) (n := 13) rfl rfl, aV_0 (by decide) (by decide) (by decide)])) (fun rv f' sz' hq => ?_)
  obtain ⟨rfl, rfl, rfl⟩ := hq
  refine jt_fe (f' := blk b (aV 12 1) 434 464 (va_up g (b + 433) (some (jOb 3 [.ref (b + 434), .ref (b + 435), .ref (b + 460), .ref (b + 462)])))) (blk_u b (aV 12 0) (aV 12 1) (q := 437) _ (by decide) (by decide) (by rw [cc_9 (k := 437) (n := 13) rfl rfl]; exact congrArg (jAL 13) (aV_e2 0).symm) (fun p hp => aV_s2 12 0 p hp)) rfl ?_
  refine jt_iinc (L' := [(0, .ref (b + 433)), (1, .int (jI 1))]) d_VA_init_64 rfl (Nat.le_of_ble_eq_true rfl) rfl ?_
  refine jt_goto (t := 45) d_VA_init_67 rfl ?_
  show jt _ 45 [(0, .ref (b + 433)), (1, .int (jI 1))] [] (blk b (aV 12 1) 434 464 (va_up g (b + 433) (some (jOb 3 [.ref (b + 434), .ref (b + 435), .ref (b + 460), .ref (b + 462)])))) _ _ _
  refine jt_iload_n d_VA_init_45 rfl ?_
  refine jt_bipush d_VA_init_46 (by omega) ?_
  refine jt_icmp_ge (t := 70) d_VA_init_48 rfl (by unfold jRi; omega) (by unfold jRi; omega) (fun c => absurd c (by omega)) (fun c => ?_)
  refine jt_aload_n d_VA_init_51 rfl ?_
  refine jt_getf d_VA_init_52 VA_f21 (by rw [blk_out b (aV 12 1) _ _ _ (Or.inl (by decide)), va_up_self]) rfl ?_
  refine jt_iload_n d_VA_init_55 rfl ?_
  refine jt_aaload (n := 12) (t := 4) (v := .ref (b + 438)) d_VA_init_56 jTy_4 (by rw [blk_in b (aV 12 1) _ _ _ (by decide) (by decide), cc_12 (k := 435) (n := 12) rfl rfl]) (by omega) (by omega) (by omega) rfl ?_
  refine jt_iload_n d_VA_init_57 rfl ?_
  refine jt_ldc2 (z := 65536) d_VA_init_58 VA_k33 ?_
  refine jt_callV (Y := Y_FO_set) (ci := 4) (b := b + 438) (As := [.int (jI 1), .long (jL 65536)]) (rest := []) (rm := iR (d + 2) 0 0) d_VA_init_61 VA_c35 yk_FO_set yv_FO_set rfl (fs := [.ref (b + 439)]) (by rw [blk_in b (aV 12 1) _ _ _ (by decide) (by decide)]; rfl) rfl rfl (Nat.le_of_ble_eq_true rfl) (show d + 2 + 1 ≤ d + 3 by omega) (show 8 + (5 + 11) + (d + 2) * 40 ≤ (d + 3) * 40 by omega) (show 30 + 0 ≤ 30 by omega) (show 220 + 0 ≤ 220 by omega) (i_set G _ b 438 _ 1 _ (by omega) (by omega) (by rw [blk_in b (aV 12 1) _ _ _ (by decide) (by decide)]; rfl) (by rw [blk_in b (aV 12 1) _ _ _ (by decide) (by decide), cc_9 (k := 439) (n := 13) rfl rfl, aV_0 (by decide) (by decide) (by decide)])) (fun rv f' sz' hq => ?_)
  obtain ⟨rfl, rfl, rfl⟩ := hq
  refine jt_fe (f' := blk b (aV 12 2) 434 464 (va_up g (b + 433) (some (jOb 3 [.ref (b + 434), .ref (b + 435), .ref (b + 460), .ref (b + 462)])))) (blk_u b (aV 12 1) (aV 12 2) (q := 439) _ (by decide) (by decide) (by rw [cc_9 (k := 439) (n := 13) rfl rfl]; exact congrArg (jAL 13) (aV_e2 1).symm) (fun p hp => aV_s2 12 1 p hp)) rfl ?_
  refine jt_iinc (L' := [(0, .ref (b + 433)), (1, .int (jI 2))]) d_VA_init_64 rfl (Nat.le_of_ble_eq_true rfl) rfl ?_
  refine jt_goto (t := 45) d_VA_init_67 rfl ?_
  show jt _ 45 [(0, .ref (b + 433)), (1, .int (jI 2))] [] (blk b (aV 12 2) 434 464 (va_up g (b + 433) (some (jOb 3 [.ref (b + 434), .ref (b + 435), .ref (b + 460), .ref (b + 462)])))) _ _ _
  refine jt_iload_n d_VA_init_45 rfl ?_
  refine jt_bipush d_VA_init_46 (by omega) ?_
  refine jt_icmp_ge (t := 70) d_VA_init_48 rfl (by unfold jRi; omega) (by unfold jRi; omega) (fun c => absurd c (by omega)) (fun c => ?_)
  refine jt_aload_n d_VA_init_51 rfl ?_
  refine jt_getf d_VA_init_52 VA_f21 (by rw [blk_out b (aV 12 2) _ _ _ (Or.inl (by decide)), va_up_self]) rfl ?_
  refine jt_iload_n d_VA_init_55 rfl ?_
  refine jt_aaload (n := 12) (t := 4) (v := .ref (b + 440)) d_VA_init_56 jTy_4 (by rw [blk_in b (aV 12 2) _ _ _ (by decide) (by decide), cc_12 (k := 435) (n := 12) rfl rfl]) (by omega) (by omega) (by omega) rfl ?_
  refine jt_iload_n d_VA_init_57 rfl ?_
  refine jt_ldc2 (z := 65536) d_VA_init_58 VA_k33 ?_
  refine jt_callV (Y := Y_FO_set) (ci := 4) (b := b + 440) (As := [.int (jI 2), .long (jL 65536)]) (rest := []) (rm := iR (d + 2) 0 0) d_VA_init_61 VA_c35 yk_FO_set yv_FO_set rfl (fs := [.ref (b + 441)]) (by rw [blk_in b (aV 12 2) _ _ _ (by decide) (by decide)]; rfl) rfl rfl (Nat.le_of_ble_eq_true rfl) (show d + 2 + 1 ≤ d + 3 by omega) (show 8 + (5 + 11) + (d + 2) * 40 ≤ (d + 3) * 40 by omega) (show 30 + 0 ≤ 30 by omega) (show 220 + 0 ≤ 220 by omega) (i_set G _ b 440 _ 2 _ (by omega) (by omega) (by rw [blk_in b (aV 12 2) _ _ _ (by decide) (by decide)]; rfl) (by rw [blk_in b (aV 12 2) _ _ _ (by decide) (by decide), cc_9 (k := 441) (n := 13) rfl rfl, aV_0 (by decide) (by decide) (by decide)])) (fun rv f' sz' hq => ?_)
  obtain ⟨rfl, rfl, rfl⟩ := hq
  refine jt_fe (f' := blk b (aV 12 3) 434 464 (va_up g (b + 433) (some (jOb 3 [.ref (b + 434), .ref (b + 435), .ref (b + 460), .ref (b + 462)])))) (blk_u b (aV 12 2) (aV 12 3) (q := 441) _ (by decide) (by decide) (by rw [cc_9 (k := 441) (n := 13) rfl rfl]; exact congrArg (jAL 13) (aV_e2 2).symm) (fun p hp => aV_s2 12 2 p hp)) rfl ?_
  refine jt_iinc (L' := [(0, .ref (b + 433)), (1, .int (jI 3))]) d_VA_init_64 rfl (Nat.le_of_ble_eq_true rfl) rfl ?_
  refine jt_goto (t := 45) d_VA_init_67 rfl ?_
  show jt _ 45 [(0, .ref (b + 433)), (1, .int (jI 3))] [] (blk b (aV 12 3) 434 464 (va_up g (b + 433) (some (jOb 3 [.ref (b + 434), .ref (b + 435), .ref (b + 460), .ref (b + 462)])))) _ _ _
  refine jt_iload_n d_VA_init_45 rfl ?_
  refine jt_bipush d_VA_init_46 (by omega) ?_
  refine jt_icmp_ge (t := 70) d_VA_init_48 rfl (by unfold jRi; omega) (by unfold jRi; omega) (fun c => absurd c (by omega)) (fun c => ?_)
  refine jt_aload_n d_VA_init_51 rfl ?_
  refine jt_getf d_VA_init_52 VA_f21 (by rw [blk_out b (aV 12 3) _ _ _ (Or.inl (by decide)), va_up_self]) rfl ?_
  refine jt_iload_n d_VA_init_55 rfl ?_
  refine jt_aaload (n := 12) (t := 4) (v := .ref (b + 442)) d_VA_init_56 jTy_4 (by rw [blk_in b (aV 12 3) _ _ _ (by decide) (by decide), cc_12 (k := 435) (n := 12) rfl rfl]) (by omega) (by omega) (by omega) rfl ?_
  refine jt_iload_n d_VA_init_57 rfl ?_
  refine jt_ldc2 (z := 65536) d_VA_init_58 VA_k33 ?_
  refine jt_callV (Y := Y_FO_set) (ci := 4) (b := b + 442) (As := [.int (jI 3), .long (jL 65536)]) (rest := []) (rm := iR (d + 2) 0 0) d_VA_init_61 VA_c35 yk_FO_set yv_FO_set rfl (fs := [.ref (b + 443)]) (by rw [blk_in b (aV 12 3) _ _ _ (by decide) (by decide)]; rfl) rfl rfl (Nat.le_of_ble_eq_true rfl) (show d + 2 + 1 ≤ d + 3 by omega) (show 8 + (5 + 11) + (d + 2) * 40 ≤ (d + 3) * 40 by omega) (show 30 + 0 ≤ 30 by omega) (show 220 + 0 ≤ 220 by omega) (i_set G _ b 442 _ 3 _ (by omega) (by omega) (by rw [blk_in b (aV 12 3) _ _ _ (by decide) (by decide)]; rfl) (by rw [blk_in b (aV 12 3) _ _ _ (by decide) (by decide), cc_9 (k := 443) (n := 13) rfl rfl, aV_0 (by decide) (by decide) (by decide)])) (fun rv f' sz' hq => ?_)
  obtain ⟨rfl, rfl, rfl⟩ := hq
  refine jt_fe (f' := blk b (aV 12 4) 434 464 (va_up g (b + 433) (some (jOb 3 [.ref (b + 434), .ref (b + 435), .ref (b + 460), .ref (b + 462)])))) (blk_u b (aV 12 3) (aV 12 4) (q := 443) _ (by decide) (by decide) (by rw [cc_9 (k := 443) (n := 13) rfl rfl]; exact congrArg (jAL 13) (aV_e2 3).symm) (fun p hp => aV_s2 12 3 p hp)) rfl ?_
  refine jt_iinc (L' := [(0, .ref (b + 433)), (1, .int (jI 4))]) d_VA_init_64 rfl (Nat.le_of_ble_eq_true rfl) rfl ?_
  refine jt_goto (t := 45) d_VA_init_67 rfl ?_
  show jt _ 45 [(0, .ref (b + 433)), (1, .int (jI 4))] [] (blk b (aV 12 4) 434 464 (va_up g (b + 433) (some (jOb 3 [.ref (b + 434), .ref (b + 435), .ref (b + 460), .ref (b + 462)])))) _ _ _
  refine jt_iload_n d_VA_init_45 rfl ?_
  refine jt_bipush d_VA_init_46 (by omega) ?_
  refine jt_icmp_ge (t := 70) d_VA_init_48 rfl (by unfold jRi; omega) (by unfold jRi; omega) (fun c => absurd c (by omega)) (fun c => ?_)
  refine jt_aload_n d_VA_init_51 rfl ?_
  refine jt_getf d_VA_init_52 VA_f21 (by rw [blk_out b (aV 12 4) _ _ _ (Or.inl (by decide)), va_up_self]) rfl ?_
  refine jt_iload_n d_VA_init_55 rfl ?_
  refine jt_aaload (n := 12) (t := 4) (v := .ref (b + 444)) d_VA_init_56 jTy_4 (by rw [blk_in b (aV 12 4) _ _ _ (by decide) (by decide), cc_12 (k := 435) (n := 12) rfl rfl]) (by omega) (by omega) (by omega) rfl ?_
  refine jt_iload_n d_VA_init_57 rfl ?_
  refine jt_ldc2 (z := 65536) d_VA_init_58 VA_k33 ?_
  refine jt_callV (Y := Y_FO_set) (ci := 4) (b := b + 444) (As := [.int (jI 4), .long (jL 65536)]) (rest := []) (rm := iR (d + 2) 0 0) d_VA_init_61 VA_c35 yk_FO_set yv_FO_set rfl (fs := [.ref (b + 445)]) (by rw [blk_in b (aV 12 4) _ _ _ (by decide) (by decide)]; rfl) rfl rfl (Nat.le_of_ble_eq_true rfl) (show d + 2 + 1 ≤ d + 3 by omega) (show 8 + (5 + 11) + (d + 2) * 40 ≤ (d + 3) * 40 by omega) (show 30 + 0 ≤ 30 by omega) (show 220 + 0 ≤ 220 by omega) (i_set G _ b 444 _ 4 _ (by omega) (by omega) (by rw [blk_in b (aV 12 4) _ _ _ (by decide) (by decide)]; rfl) (by rw [blk_in b (aV 12 4) _ _ _ (by decide) (by decide), cc_9 (k := 445) (n := 13) rfl rfl, aV_0 (by decide) (by decide) (by decide)])) (fun rv f' sz' hq => ?_)
  obtain ⟨rfl, rfl, rfl⟩ := hq
  refine jt_fe (f' := blk b (aV 12 5) 434 464 (va_up g (b + 433) (some (jOb 3 [.ref (b + 434), .ref (b + 435), .ref (b + 460), .ref (b + 462)])))) (blk_u b (aV 12 4) (aV 12 5) (q := 445) _ (by decide) (by decide) (by rw [cc_9 (k := 445) (n := 13) rfl rfl]; exact congrArg (jAL 13) (aV_e2 4).symm) (fun p hp => aV_s2 12 4 p hp)) rfl ?_
  refine jt_iinc (L' := [(0, .ref (b + 433)), (1, .int (jI 5))]) d_VA_init_64 rfl (Nat.le_of_ble_eq_true rfl) rfl ?_
  refine jt_goto (t := 45) d_VA_init_67 rfl ?_
  show jt _ 45 [(0, .ref (b + 433)), (1, .int (jI 5))] [] (blk b (aV 12 5) 434 464 (va_up g (b + 433) (some (jOb 3 [.ref (b + 434), .ref (b + 435), .ref (b + 460), .ref (b + 462)])))) _ _ _
  refine jt_iload_n d_VA_init_45 rfl ?_
  refine jt_bipush d_VA_init_46 (by omega) ?_
  refine jt_icmp_ge (t := 70) d_VA_init_48 rfl (by unfold jRi; omega) (by unfold jRi; omega) (fun c => absurd c (by omega)) (fun c => ?_)
  refine jt_aload_n d_VA_init_51 rfl ?_
  refine jt_getf d_VA_init_52 VA_f21 (by rw [blk_out b (aV 12 5) _ _ _ (Or.inl (by decide)), va_up_self]) rfl ?_
  refine jt_iload_n d_VA_init_55 rfl ?_
  refine jt_aaload (n := 12) (t := 4) (v := .ref (b + 446)) d_VA_init_56 jTy_4 (by rw [blk_in b (aV 12 5) _ _ _ (by decide) (by decide), cc_12 (k := 435) (n := 12) rfl rfl]) (by omega) (by omega) (by omega) rfl ?_
  refine jt_iload_n d_VA_init_57 rfl ?_
  refine jt_ldc2 (z := 65536) d_VA_init_58 VA_k33 ?_
  refine jt_callV (Y := Y_FO_set) (ci := 4) (b := b + 446) (As := [.int (jI 5), .long (jL 65536)]) (rest := []) (rm := iR (d + 2) 0 0) d_VA_init_61 VA_c35 yk_FO_set yv_FO_set rfl (fs := [.ref (b + 447)]) (by rw [blk_in b (aV 12 5) _ _ _ (by decide) (by decide)]; rfl) rfl rfl (Nat.le_of_ble_eq_true rfl) (show d + 2 + 1 ≤ d + 3 by omega) (show 8 + (5 + 11) + (d + 2) * 40 ≤ (d + 3) * 40 by omega) (show 30 + 0 ≤ 30 by omega) (show 220 + 0 ≤ 220 by omega) (i_set G _ b 446 _ 5 _ (by omega) (by omega) (by rw [blk_in b (aV 12 5) _ _ _ (by decide) (by decide)]; rfl) (by rw [blk_in b (aV 12 5) _ _ _ (by decide) (by decide), cc_9 (k := 447) (n := 13) rfl rfl, aV_0 (by decide) (by decide) (by decide)])) (fun rv f' sz' hq => ?_)
  obtain ⟨rfl, rfl, rfl⟩ := hq
  refine jt_fe (f' := blk b (aV 12 6) 434 464 (va_up g (b + 433) (some (jOb 3 [.ref (b + 434), .ref (b + 435), .ref (b + 460), .ref (b + 462)])))) (blk_u b (aV 12 5) (aV 12 6) (q := 447) _ (by decide) (by decide) (by rw [cc_9 (k := 447) (n := 13) rfl rfl]; exact congrArg (jAL 13) (aV_e2 5).symm) (fun p hp => aV_s2 12 5 p hp)) rfl ?_
  refine jt_iinc (L' := [(0, .ref (b + 433)), (1, .int (jI 6))]) d_VA_init_64 rfl (Nat.le_of_ble_eq_true rfl) rfl ?_
  refine jt_goto (t := 45) d_VA_init_67 rfl ?_
  show jt _ 45 [(0, .ref (b + 433)), (1, .int (jI 6))] [] (blk b (aV 12 6) 434 464 (va_up g (b + 433) (some (jOb 3 [.ref (b + 434), .ref (b + 435), .ref (b + 460), .ref (b + 462)])))) _ _ _
  refine jt_iload_n d_VA_init_45 rfl ?_
  refine jt_bipush d_VA_init_46 (by omega) ?_
  refine jt_icmp_ge (t := 70) d_VA_init_48 rfl (by unfold jRi; omega) (by unfold jRi; omega) (fun c => absurd c (by omega)) (fun c => ?_)
  refine jt_aload_n d_VA_init_51 rfl ?_
  refine jt_getf d_VA_init_52 VA_f21 (by rw [blk_out b (aV 12 6) _ _ _ (Or.inl (by decide)), va_up_self]) rfl ?_
  refine jt_iload_n d_VA_init_55 rfl ?_
  refine jt_aaload (n := 12) (t := 4) (v := .ref (b + 448)) d_VA_init_56 jTy_4 (by rw [blk_in b (aV 12 6) _ _ _ (by decide) (by decide), cc_12 (k := 435) (n := 12) rfl rfl]) (by omega) (by omega) (by omega) rfl ?_
  refine jt_iload_n d_VA_init_57 rfl ?_
  refine jt_ldc2 (z := 65536) d_VA_init_58 VA_k33 ?_
  refine jt_callV (Y := Y_FO_set) (ci := 4) (b := b + 448) (As := [.int (jI 6), .long (jL 65536)]) (rest := []) (rm := iR (d + 2) 0 0) d_VA_init_61 VA_c35 yk_FO_set yv_FO_set rfl (fs := [.ref (b + 449)]) (by rw [blk_in b (aV 12 6) _ _ _ (by decide) (by decide)]; rfl) rfl rfl (Nat.le_of_ble_eq_true rfl) (show d + 2 + 1 ≤ d + 3 by omega) (show 8 + (5 + 11) + (d + 2) * 40 ≤ (d + 3) * 40 by omega) (show 30 + 0 ≤ 30 by omega) (show 220 + 0 ≤ 220 by omega) (i_set G _ b 448 _ 6 _ (by omega) (by omega) (by rw [blk_in b (aV 12 6) _ _ _ (by decide) (by decide)]; rfl) (by rw [blk_in b (aV 12 6) _ _ _ (by decide) (by decide), cc_9 (k := 449) (n := 13) rfl rfl, aV_0 (by decide) (by decide) (by decide)])) (fun rv f' sz' hq => ?_)
  obtain ⟨rfl, rfl, rfl⟩ := hq
  refine jt_fe (f' := blk b (aV 12 7) 434 464 (va_up g (b + 433) (some (jOb 3 [.ref (b + 434), .ref (b + 435), .ref (b + 460), .ref (b + 462)])))) (blk_u b (aV 12 6) (aV 12 7) (q := 449) _ (by decide) (by decide) (by rw [cc_9 (k := 449) (n := 13) rfl rfl]; exact congrArg (jAL 13) (aV_e2 6).symm) (fun p hp => aV_s2 12 6 p hp)) rfl ?_
  refine jt_iinc (L' := [(0, .ref (b + 433)), (1, .int (jI 7))]) d_VA_init_64 rfl (Nat.le_of_ble_eq_true rfl) rfl ?_
  refine jt_goto (t := 45) d_VA_init_67 rfl ?_
  show jt _ 45 [(0, .ref (b + 433)), (1, .int (jI 7))] [] (blk b (aV 12 7) 434 464 (va_up g (b + 433) (some (jOb 3 [.ref (b + 434), .ref (b + 435), .ref (b + 460), .ref (b + 462)])))) _ _ _
  refine jt_iload_n d_VA_init_45 rfl ?_
  refine jt_bipush d_VA_init_46 (by omega) ?_
  refine jt_icmp_ge (t := 70) d_VA_init_48 rfl (by unfold jRi; omega) (by unfold jRi; omega) (fun c => absurd c (by omega)) (fun c => ?_)
  refine jt_aload_n d_VA_init_51 rfl ?_
  refine jt_getf d_VA_init_52 VA_f21 (by rw [blk_out b (aV 12 7) _ _ _ (Or.inl (by decide)), va_up_self]) rfl ?_
  refine jt_iload_n d_VA_init_55 rfl ?_
  refine jt_aaload (n := 12) (t := 4) (v := .ref (b + 450)) d_VA_init_56 jTy_4 (by rw [blk_in b (aV 12 7) _ _ _ (by decide) (by decide), cc_12 (k := 435) (n := 12) rfl rfl]) (by omega) (by omega) (by omega) rfl ?_
  refine jt_iload_n d_VA_init_57 rfl ?_
  refine jt_ldc2 (z := 65536) d_VA_init_58 VA_k33 ?_
  refine jt_callV (Y := Y_FO_set) (ci := 4) (b := b + 450) (As := [.int (jI 7), .long (jL 65536)]) (rest := []) (rm := iR (d + 2) 0 0) d_VA_init_61 VA_c35 yk_FO_set yv_FO_set rfl (fs := [.ref (b + 451)]) (by rw [blk_in b (aV 12 7) _ _ _ (by decide) (by decide)]; rfl) rfl rfl (Nat.le_of_ble_eq_true rfl) (show d + 2 + 1 ≤ d + 3 by omega) (show 8 + (5 + 11) + (d + 2) * 40 ≤ (d + 3) * 40 by omega) (show 30 + 0 ≤ 30 by omega) (show 220 + 0 ≤ 220 by omega) (i_set G _ b 450 _ 7 _ (by omega) (by omega) (by rw [blk_in b (aV 12 7) _ _ _ (by decide) (by decide)]; rfl) (by rw [blk_in b (aV 12 7) _ _ _ (by decide) (by decide), cc_9 (k := 451) (n := 13) rfl rfl, aV_0 (by decide) (by decide) (by decide)])) (fun rv f' sz' hq => ?_)
  obtain ⟨rfl, rfl, rfl⟩ := hq
  refine jt_fe (f' := blk b (aV 12 8) 434 464 (va_up g (b + 433) (some (jOb 3 [.ref (b + 434), .ref (b + 435), .ref (b + 460), .ref (b + 462)])))) (blk_u b (aV 12 7) (aV 12 8) (q := 451) _ (by decide) (by decide) (by rw [cc_9 (k := 451) (n := 13) rfl rfl]; exact congrArg (jAL 13) (aV_e2 7).symm) (fun p hp => aV_s2 12 7 p hp)) rfl ?_
  refine jt_iinc (L' := [(0, .ref (b + 433)), (1, .int (jI 8))]) d_VA_init_64 rfl (Nat.le_of_ble_eq_true rfl) rfl ?_
  refine jt_goto (t := 45) d_VA_init_67 rfl ?_
  show jt _ 45 [(0, .ref (b + 433)), (1, .int (jI 8))] [] (blk b (aV 12 8) 434 464 (va_up g (b + 433) (some (jOb 3 [.ref (b + 434), .ref (b + 435), .ref (b + 460), .ref (b + 462)])))) _ _ _
  refine jt_iload_n d_VA_init_45 rfl ?_
  refine jt_bipush d_VA_init_46 (by omega) ?_
  refine jt_icmp_ge (t := 70) d_VA_init_48 rfl (by unfold jRi; omega) (by unfold jRi; omega) (fun c => absurd c (by omega)) (fun c => ?_)
  refine jt_aload_n d_VA_init_51 rfl ?_
  refine jt_getf d_VA_init_52 VA_f21 (by rw [blk_out b (aV 12 8) _ _ _ (Or.inl (by decide)), va_up_self]) rfl ?_
  refine jt_iload_n d_VA_init_55 rfl ?_
  refine jt_aaload (n := 12) (t := 4) (v := .ref (b + 452)) d_VA_init_56 jTy_4 (by rw [blk_in b (aV 12 8) _ _ _ (by decide) (by decide), cc_12 (k := 435) (n := 12) rfl rfl]) (by omega) (by omega) (by omega) rfl ?_
  refine jt_iload_n d_VA_init_57 rfl ?_
  refine jt_ldc2 (z := 65536) d_VA_init_58 VA_k33 ?_
  refine jt_callV (Y := Y_FO_set) (ci := 4) (b := b + 452) (As := [.int (jI 8), .long (jL 65536)]) (rest := []) (rm := iR (d + 2) 0 0) d_VA_init_61 VA_c35 yk_FO_set yv_FO_set rfl (fs := [.ref (b + 453)]) (by rw [blk_in b (aV 12 8) _ _ _ (by decide) (by decide)]; rfl) rfl rfl (Nat.le_of_ble_eq_true rfl) (show d + 2 + 1 ≤ d + 3 by omega) (show 8 + (5 + 11) + (d + 2) * 40 ≤ (d + 3) * 40 by omega) (show 30 + 0 ≤ 30 by omega) (show 220 + 0 ≤ 220 by omega) (i_set G _ b 452 _ 8 _ (by omega) (by omega) (by rw [blk_in b (aV 12 8) _ _ _ (by decide) (by decide)]; rfl) (by rw [blk_in b (aV 12 8) _ _ _ (by decide) (by decide), cc_9 (k := 453) (n := 13) rfl rfl, aV_0 (by decide) (by decide) (by decide)])) (fun rv f' sz' hq => ?_)
  obtain ⟨rfl, rfl, rfl⟩ := hq
  refine jt_fe (f' := blk b (aV 12 9) 434 464 (va_up g (b + 433) (some (jOb 3 [.ref (b + 434), .ref (b + 435), .ref (b + 460), .ref (b + 462)])))) (blk_u b (aV 12 8) (aV 12 9) (q := 453) _ (by decide) (by decide) (by rw [cc_9 (k := 453) (n := 13) rfl rfl]; exact congrArg (jAL 13) (aV_e2 8).symm) (fun p hp => aV_s2 12 8 p hp)) rfl ?_
  refine jt_iinc (L' := [(0, .ref (b + 433)), (1, .int (jI 9))]) d_VA_init_64 rfl (Nat.le_of_ble_eq_true rfl) rfl ?_
  refine jt_goto (t := 45) d_VA_init_67 rfl ?_
  show jt _ 45 [(0, .ref (b + 433)), (1, .int (jI 9))] [] (blk b (aV 12 9) 434 464 (va_up g (b + 433) (some (jOb 3 [.ref (b + 434), .ref (b + 435), .ref (b + 460), .ref (b + 462)])))) _ _ _
  refine jt_iload_n d_VA_init_45 rfl ?_
  refine jt_bipush d_VA_init_46 (by omega) ?_
  refine jt_icmp_ge (t := 70) d_VA_init_48 rfl (by unfold jRi; omega) (by unfold jRi; omega) (fun c => absurd c (by omega)) (fun c => ?_)
  refine jt_aload_n d_VA_init_51 rfl ?_
  refine jt_getf d_VA_init_52 VA_f21 (by rw [blk_out b (aV 12 9) _ _ _ (Or.inl (by decide)), va_up_self]) rfl ?_
  refine jt_iload_n d_VA_init_55 rfl ?_
  refine jt_aaload (n := 12) (t := 4) (v := .ref (b + 454)) d_VA_init_56 jTy_4 (by rw [blk_in b (aV 12 9) _ _ _ (by decide) (by decide), cc_12 (k := 435) (n := 12) rfl rfl]) (by omega) (by omega) (by omega) rfl ?_
  refine jt_iload_n d_VA_init_57 rfl ?_
  refine jt_ldc2 (z := 65536) d_VA_init_58 VA_k33 ?_
  refine jt_callV (Y := Y_FO_set) (ci := 4) (b := b + 454) (As := [.int (jI 9), .long (jL 65536)]) (rest := []) (rm := iR (d + 2) 0 0) d_VA_init_61 VA_c35 yk_FO_set yv_FO_set rfl (fs := [.ref (b + 455)]) (by rw [blk_in b (aV 12 9) _ _ _ (by decide) (by decide)]; rfl) rfl rfl (Nat.le_of_ble_eq_true rfl) (show d + 2 + 1 ≤ d + 3 by omega) (show 8 + (5 + 11) + (d + 2) * 40 ≤ (d + 3) * 40 by omega) (show 30 + 0 ≤ 30 by omega) (show 220 + 0 ≤ 220 by omega) (i_set G _ b 454 _ 9 _ (by omega) (by omega) (by rw [blk_in b (aV 12 9) _ _ _ (by decide) (by decide)]; rfl) (by rw [blk_in b (aV 12 9) _ _ _ (by decide) (by decide), cc_9 (k := 455) (n := 13) rfl rfl, aV_0 (by decide) (by decide) (by decide)])) (fun rv f' sz' hq => ?_)
  obtain ⟨rfl, rfl, rfl⟩ := hq
  refine jt_fe (f' := blk b (aV 12 10) 434 464 (va_up g (b + 433) (some (jOb 3 [.ref (b + 434), .ref (b + 435), .ref (b + 460), .ref (b + 462)])))) (blk_u b (aV 12 9) (aV 12 10) (q := 455) _ (by decide) (by decide) (by rw [cc_9 (k := 455) (n := 13) rfl rfl]; exact congrArg (jAL 13) (aV_e2 9).symm) (fun p hp => aV_s2 12 9 p hp)) rfl ?_
  refine jt_iinc (L' := [(0, .ref (b + 433)), (1, .int (jI 10))]) d_VA_init_64 rfl (Nat.le_of_ble_eq_true rfl) rfl ?_
  refine jt_goto (t := 45) d_VA_init_67 rfl ?_
  show jt _ 45 [(0, .ref (b + 433)), (1, .int (jI 10))] [] (blk b (aV 12 10) 434 464 (va_up g (b + 433) (some (jOb 3 [.ref (b + 434), .ref (b + 435), .ref (b + 460), .ref (b + 462)])))) _ _ _
  refine jt_iload_n d_VA_init_45 rfl ?_
  refine jt_bipush d_VA_init_46 (by omega) ?_
  refine jt_icmp_ge (t := 70) d_VA_init_48 rfl (by unfold jRi; omega) (by unfold jRi; omega) (fun c => absurd c (by omega)) (fun c => ?_)
  refine jt_aload_n d_VA_init_51 rfl ?_
  refine jt_getf d_VA_init_52 VA_f21 (by rw [blk_out b (aV 12 10) _ _ _ (Or.inl (by decide)), va_up_self]) rfl ?_
  refine jt_iload_n d_VA_init_55 rfl ?_
  refine jt_aaload (n := 12) (t := 4) (v := .ref (b + 456)) d_VA_init_56 jTy_4 (by rw [blk_in b (aV 12 10) _ _ _ (by decide) (by decide), cc_12 (k := 435) (n := 12) rfl rfl]) (by omega) (by omega) (by omega) rfl ?_
  refine jt_iload_n d_VA_init_57 rfl ?_
  refine jt_ldc2 (z := 65536) d_VA_init_58 VA_k33 ?_
  refine jt_callV (Y := Y_FO_set) (ci := 4) (b := b + 456) (As := [.int (jI 10), .long (jL 65536)]) (rest := []) (rm := iR (d + 2) 0 0) d_VA_init_61 VA_c35 yk_FO_set yv_FO_set rfl (fs := [.ref (b + 457)]) (by rw [blk_in b (aV 12 10) _ _ _ (by decide) (by decide)]; rfl) rfl rfl (Nat.le_of_ble_eq_true rfl) (show d + 2 + 1 ≤ d + 3 by omega) (show 8 + (5 + 11) + (d + 2) * 40 ≤ (d + 3) * 40 by omega) (show 30 + 0 ≤ 30 by omega) (show 220 + 0 ≤ 220 by omega) (i_set G _ b 456 _ 10 _ (by omega) (by omega) (by rw [blk_in b (aV 12 10) _ _ _ (by decide) (by decide)]; rfl) (by rw [blk_in b (aV 12 10) _ _ _ (by decide) (by decide), cc_9 (k := 457) (n := 13) rfl rfl, aV_0 (by decide) (by decide) (by decide)])) (fun rv f' sz' hq => ?_)
  obtain ⟨rfl, rfl, rfl⟩ := hq
  refine jt_fe (f' := blk b (aV 12 11) 434 464 (va_up g (b + 433) (some (jOb 3 [.ref (b + 434), .ref (b + 435), .ref (b + 460), .ref (b + 462)])))) (blk_u b (aV 12 10) (aV 12 11) (q := 457) _ (by decide) (by decide) (by rw [cc_9 (k := 457) (n := 13) rfl rfl]; exact congrArg (jAL 13) (aV_e2 10).symm) (fun p hp => aV_s2 12 10 p hp)) rfl ?_
  refine jt_iinc (L' := [(0, .ref (b + 433)), (1, .int (jI 11))]) d_VA_init_64 rfl (Nat.le_of_ble_eq_true rfl) rfl ?_
  refine jt_goto (t := 45) d_VA_init_67 rfl ?_
  show jt _ 45 [(0, .ref (b + 433)), (1, .int (jI 11))] [] (blk b (aV 12 11) 434 464 (va_up g (b + 433) (some (jOb 3 [.ref (b + 434), .ref (b + 435), .ref (b + 460), .ref (b + 462)])))) _ _ _
  refine jt_iload_n d_VA_init_45 rfl ?_
  refine jt_bipush d_VA_init_46 (by omega) ?_
  refine jt_icmp_ge (t := 70) d_VA_init_48 rfl (by unfold jRi; omega) (by unfold jRi; omega) (fun c => absurd c (by omega)) (fun c => ?_)
  refine jt_aload_n d_VA_init_51 rfl ?_
  refine jt_getf d_VA_init_52 VA_f21 (by rw [blk_out b (aV 12 11) _ _ _ (Or.inl (by decide)), va_up_self]) rfl ?_
  refine jt_iload_n d_VA_init_55 rfl ?_
  refine jt_aaload (n := 12) (t := 4) (v := .ref (b + 458)) d_VA_init_56 jTy_4 (by rw [blk_in b (aV 12 11) _ _ _ (by decide) (by decide), cc_12 (k := 435) (n := 12) rfl rfl]) (by omega) (by omega) (by omega) rfl ?_
  refine jt_iload_n d_VA_init_57 rfl ?_
  refine jt_ldc2 (z := 65536) d_VA_init_58 VA_k33 ?_
  refine jt_callV (Y := Y_FO_set) (ci := 4) (b := b + 458) (As := [.int (jI 11), .long (jL 65536)]) (rest := []) (rm := iR (d + 2) 0 0) d_VA_init_61 VA_c35 yk_FO_set yv_FO_set rfl (fs := [.ref (b + 459)]) (by rw [blk_in b (aV 12 11) _ _ _ (by decide) (by decide)]; rfl) rfl rfl (Nat.le_of_ble_eq_true rfl) (show d + 2 + 1 ≤ d + 3 by omega) (show 8 + (5 + 11) + (d + 2) * 40 ≤ (d + 3) * 40 by omega) (show 30 + 0 ≤ 30 by omega) (show 220 + 0 ≤ 220 by omega) (i_set G _ b 458 _ 11 _ (by omega) (by omega) (by rw [blk_in b (aV 12 11) _ _ _ (by decide) (by decide)]; rfl) (by rw [blk_in b (aV 12 11) _ _ _ (by decide) (by decide), cc_9 (k := 459) (n := 13) rfl rfl, aV_0 (by decide) (by decide) (by decide)])) (fun rv f' sz' hq => ?_)
  obtain ⟨rfl, rfl, rfl⟩ := hq
  refine jt_fe (f' := blk b (aV 12 12) 434 464 (va_up g (b + 433) (some (jOb 3 [.ref (b + 434), .ref (b + 435), .ref (b + 460), .ref (b + 462)])))) (blk_u b (aV 12 11) (aV 12 12) (q := 459) _ (by decide) (by decide) (by rw [cc_9 (k := 459) (n := 13) rfl rfl]; exact congrArg (jAL 13) (aV_e2 11).symm) (fun p hp => aV_s2 12 11 p hp)) rfl ?_
  refine jt_iinc (L' := [(0, .ref (b + 433)), (1, .int (jI 12))]) d_VA_init_64 rfl (Nat.le_of_ble_eq_true rfl) rfl ?_
  refine jt_goto (t := 45) d_VA_init_67 rfl ?_
  show jt _ 45 [(0, .ref (b + 433)), (1, .int (jI 12))] [] (blk b (aV 12 12) 434 464 (va_up g (b + 433) (some (jOb 3 [.ref (b + 434), .ref (b + 435), .ref (b + 460), .ref (b + 462)])))) _ _ _
  refine jt_iload_n d_VA_init_45 rfl ?_
  refine jt_bipush d_VA_init_46 (by omega) ?_
  refine jt_icmp_ge (t := 70) d_VA_init_48 rfl (by unfold jRi; omega) (by unfold jRi; omega) (fun c => ?_) (fun c => absurd c (by omega))
  exact jt_vret d_VA_init_70 rfl (show 30 ≤ 30 by omega) (show 220 ≤ 220 by omega) ⟨rfl, blk_4 b (aV 12 12) g rfl (by decide), rfl⟩
set_option maxRecDepth 100000 in
set_option maxHeartbeats 1000000 in
theorem i_RD_38 (G : jG) (d b : Nat) (g : jF) : jct G Y_RD_init (iR (d + 4) 394 3795) [.ref (b + 38)] (va_up g (b + 38) (some (jOb 2 [.null, .null, .int (jI 0), .int (jI 0), .int (jI 0), .null, .int (jI 0), .int (jI 0), .null, .int (jI 0), .null, .null, .null]))) (b + 39) (fun rv f' sz' => rv = none ∧ f' = blk b (aV 12 12) 38 433 g ∧ sz' = b + 433) := by
  refine jct_of (by decide) (Nat.le_of_ble_eq_true rfl) ?_
  show jt _ 0 [(0, .ref (b + 38))] [] _ _ _ _
  refine jt_fe (f' := blk b (aV 12 12) 39 39 (va_up g (b + 38) (some (jOb 2 [.null, .null, .int (jI 0), .int (jI 0), .int (jI 0), .null, .int (jI 0), .int (jI 0), .null, .int (jI 0), .null, .null, .null])))) (blk_nil _ _ _ _).symm rfl ?_
  refine jt_aload_n d_RD_init_0 rfl ?_
  refine jt_objInit d_RD_init_1 RD_o3 (show 0 + 12 ≤ (d + 4) * 40 by omega) (show 1 ≤ d + 4 by omega) ?_
  refine jt_aload_n d_RD_init_4 rfl ?_
  refine jt_new (ci := 0) (fs := [.null, .null, .null, .int (jI 0)]) d_RD_init_5 rfl nw_RD_9 pd_TR (show 0 + 1 ≤ 394 by omega) (show 0 + 4 ≤ 3795 by omega) ?_
  refine jt_dup d_RD_init_8 rfl ?_
  refine jt_sipush d_RD_init_9 (by omega) ?_
  refine jt_callI (Y := Y_TR_init) (b := b + 39) (As := [.int (jI 300)]) (rest := [.ref (b + 39), .ref (b + 38)]) (rm := iR (d + 3) 3 900) d_RD_init_12 RD_c11 yk_TR_init yv_TR_init rfl rfl rfl rfl (Nat.le_of_ble_eq_true rfl) (show d + 3 + 1 ≤ d + 4 by omega) (show 8 + (2 + 11) + (d + 3) * 40 ≤ (d + 4) * 40 by omega) (show 1 + 3 ≤ 394 by omega) (show 4 + 900 ≤ 3795 by omega) (i_TR G _ b 39 300 (aV 12 12) _ (by decide) rfl (by rw [cc_8 (k := 40) (n := 300) rfl rfl, aV_0 (by decide) (by decide) (by decide)]) (by rw [cc_8 (k := 41) (n := 300) rfl rfl, aV_0 (by decide) (by decide) (by decide)]) (by rw [cc_8 (k := 42) (n := 300) rfl rfl, aV_0 (by decide) (by decide) (by decide)])) (fun rv f' sz' hq => ?_)
  obtain ⟨rfl, rfl, rfl⟩ := hq
  refine jt_fe (sz' := b + 43) (f' := blk b (aV 12 12) 39 43 (va_up g (b + 38) (some (jOb 2 [.null, .null, .int (jI 0), .int (jI 0), .int (jI 0), .null, .int (jI 0), .int (jI 0), .null, .int (jI 0), .null, .null, .null])))) (blk_5 b (aV 12 12) (k := 39) (m := 39) (m2 := 43) _ (by decide) (by decide)) rfl ?_
  refine jt_putf d_RD_init_15 (RD_w14 _ rfl rfl) (by rw [blk_out b (aV 12 12) _ _ _ (Or.inl (by decide)), va_up_self]) rfl rfl (Nat.le_of_ble_eq_true rfl) ?_
  refine jt_fe (f' := blk b (aV 12 12) 39 43 (va_up g (b + 38) (some (jOb 2 [.ref (b + 39), .null, .int (jI 0), .int (jI 0), .int (jI 0), .null, .int (jI 0), .int (jI 0), .null, .int (jI 0), .null, .null, .null])))) (blk_3 b (aV 12 12) g (by decide)) rfl ?_
  refine jt_aload_n d_RD_init_18 rfl ?_
  refine jt_new (ci := 3) (fs := [.null, .null, .null, .null]) d_RD_init_19 rfl nw_RD_20 pd_VA (show 4 + 1 ≤ 394 by omega) (show 904 + 4 ≤ 3795 by omega) ?_
  refine jt_dup d_RD_init_22 rfl ?_
  refine jt_callI (Y := Y_VA_init) (b := b + 43) (As := []) (rest := [.ref (b + 43), .ref (b + 38)]) (rm := iR (d + 3) 30 220) d_RD_init_23 RD_c22 yk_VA_init yv_VA_init rfl rfl rfl rfl (Nat.le_of_ble_eq_true rfl) (show d + 3 + 1 ≤ d + 4 by omega) (show 8 + (2 + 11) + (d + 3) * 40 ≤ (d + 4) * 40 by omega) (show 5 + 30 ≤ 394 by omega) (show 908 + 220 ≤ 3795 by omega) (i_VA_43 G _ b _) (fun rv f' sz' hq => ?_)
  obtain ⟨rfl, rfl, rfl⟩ := hq
  refine jt_fe (sz' := b + 74) (f' := blk b (aV 12 12) 39 74 (va_up g (b + 38) (some (jOb 2 [.ref (b + 39), .null, .int (jI 0), .int (jI 0), .int (jI 0), .null, .int (jI 0), .int (jI 0), .null, .int (jI 0), .null, .null, .null])))) (blk_5 b (aV 12 12) (k := 39) (m := 43) (m2 := 74) _ (by decide) (by decide)) rfl ?_
  refine jt_putf d_RD_init_26 (RD_w23 _ rfl rfl) (by rw [blk_out b (aV 12 12) _ _ _ (Or.inl (by decide)), va_up_self]) rfl rfl (Nat.le_of_ble_eq_true rfl) ?_
  refine jt_fe (f' := blk b (aV 12 12) 39 74 (va_up g (b + 38) (some (jOb 2 [.ref (b + 39), .ref (b + 43), .int (jI 0), .int (jI 0), .int (jI 0), .null, .int (jI 0), .int (jI 0), .null, .int (jI 0), .null, .null, .null])))) (blk_3 b (aV 12 12) g (by decide)) rfl ?_
  refine jt_aload_n d_RD_init_29 rfl ?_
  refine jt_sipush d_RD_init_30 (by omega) ?_
  refine jt_callS (Y := Y_FO_row) (As := [.int (jI 150)]) (rest := [.ref (b + 38)]) (rm := iR (d + 3) 301 2250) d_RD_init_33 RD_c27 yk_FO_row ys_FO_row rfl rfl (Nat.le_of_ble_eq_true rfl) (show d + 3 + 1 ≤ d + 4 by omega) (show 8 + (3 + 11) + (d + 3) * 40 ≤ (d + 4) * 40 by omega) (show 35 + 301 ≤ 394 by omega) (show 1128 + 2250 ≤ 3795 by omega) (i_row G _ b 74 150 (aV 12 12) _ (by decide) rfl (fun i hi => ⟨by rw [cc_5 (form_at 74 (by decide) rfl i hi).1], by have q1 := form_at 74 (by decide) rfl i hi; have q2 := form_parts _ q1.2 q1.1; rw [cc_9 q2.1 q2.2.1, aV_0 (by omega) (by omega) (by omega)]⟩)) (fun rv f' sz' hq => ?_)
  obtain ⟨rfl, rfl, rfl⟩ := hq
  refine jt_fe (sz' := b + 375) (f' := blk b (aV 12 12) 39 375 (va_up g (b + 38) (some (jOb 2 [.ref (b + 39), .ref (b + 43), .int (jI 0), .int (jI 0), .int (jI 0), .null, .int (jI 0), .int (jI 0), .null, .int (jI 0), .null, .null, .null])))) (blk_5 b (aV 12 12) (k := 39) (m := 74) (m2 := 375) _ (by decide) (by decide)) rfl ?_
  refine jt_putf d_RD_init_36 (RD_w32 _ rfl rfl) (by rw [blk_out b (aV 12 12) _ _ _ (Or.inl (by decide)), va_up_self]) rfl rfl (Nat.le_of_ble_eq_true rfl) ?_
  refine jt_fe (f' := blk b (aV 12 12) 39 375 (va_up g (b + 38) (some (jOb 2 [.ref (b + 39), .ref (b + 43), .int (jI 0), .int (jI 0), .int (jI 0), .ref (b + 74), .int (jI 0), .int (jI 0), .null, .int (jI 0), .null, .null, .null])))) (blk_3 b (aV 12 12) g (by decide)) rfl ?_
  refine jt_aload_n d_RD_init_39 rfl ?_
  refine jt_bipush d_RD_init_40 (by omega) ?_
  refine jt_newZ (n := 12) d_RD_init_42 ac_boolean rfl (by omega) (show 336 + 1 ≤ 394 by omega) (show 3378 + 12 ≤ 3795 by omega) ?_
  refine jt_fe (sz' := b + 376) (f' := blk b (aV 12 12) 39 376 (va_up g (b + 38) (some (jOb 2 [.ref (b + 39), .ref (b + 43), .int (jI 0), .int (jI 0), .int (jI 0), .ref (b + 74), .int (jI 0), .int (jI 0), .null, .int (jI 0), .null, .null, .null])))) (blk_1 b (aV 12 12) _ (Eq.symm (by rw [cc_10 (k := 375) (n := 12) rfl rfl, aV_0 (by decide) (by decide) (by decide)])) (by decide)) rfl ?_
  refine jt_putf d_RD_init_44 (RD_w36 _ rfl rfl) (by rw [blk_out b (aV 12 12) _ _ _ (Or.inl (by decide)), va_up_self]) rfl rfl (Nat.le_of_ble_eq_true rfl) ?_
  refine jt_fe (f' := blk b (aV 12 12) 39 376 (va_up g (b + 38) (some (jOb 2 [.ref (b + 39), .ref (b + 43), .int (jI 0), .int (jI 0), .int (jI 0), .ref (b + 74), .int (jI 0), .int (jI 0), .ref (b + 375), .int (jI 0), .null, .null, .null])))) (blk_3 b (aV 12 12) g (by decide)) rfl ?_
  refine jt_aload_n d_RD_init_47 rfl ?_
  refine jt_bipush d_RD_init_48 (by omega) ?_
  refine jt_callS (Y := Y_FO_row) (As := [.int (jI 9)]) (rest := [.ref (b + 38)]) (rm := iR (d + 3) 19 135) d_RD_init_50 RD_c27 yk_FO_row ys_FO_row rfl rfl (Nat.le_of_ble_eq_true rfl) (show d + 3 + 1 ≤ d + 4 by omega) (show 8 + (3 + 11) + (d + 3) * 40 ≤ (d + 4) * 40 by omega) (show 337 + 19 ≤ 394 by omega) (show 3390 + 135 ≤ 3795 by omega) (i_row G _ b 376 9 (aV 12 12) _ (by decide) rfl (fun i hi => ⟨by rw [cc_5 (form_at 376 (by decide) rfl i hi).1], by have q1 := form_at 376 (by decide) rfl i hi; have q2 := form_parts _ q1.2 q1.1; rw [cc_9 q2.1 q2.2.1, aV_0 (by omega) (by omega) (by omega)]⟩)) (fun rv f' sz' hq => ?_)
  obtain ⟨rfl, rfl, rfl⟩ := hq
  refine jt_fe (sz' := b + 395) (f' := blk b (aV 12 12) 39 395 (va_up g (b + 38) (some (jOb 2 [.ref (b + 39), .ref (b + 43), .int (jI 0), .int (jI 0), .int (jI 0), .ref (b + 74), .int (jI 0), .int (jI 0), .ref (b + 375), .int (jI 0), .null, .null, .null])))) (blk_5 b (aV 12 12) (k := 39) (m := 376) (m2 := 395) _ (by decide) (by decide)) rfl ?_
  refine jt_putf d_RD_init_53 (RD_w40 _ rfl rfl) (by rw [blk_out b (aV 12 12) _ _ _ (Or.inl (by decide)), va_up_self]) rfl rfl (Nat.le_of_ble_eq_true rfl) ?_
  refine jt_fe (f' := blk b (aV 12 12) 39 395 (va_up g (b + 38) (some (jOb 2 [.ref (b + 39), .ref (b + 43), .int (jI 0), .int (jI 0), .int (jI 0), .ref (b + 74), .int (jI 0), .int (jI 0), .ref (b + 375), .int (jI 0), .ref (b + 376), .null, .null])))) (blk_3 b (aV 12 12) g (by decide)) rfl ?_
  refine jt_aload_n d_RD_init_56 rfl ?_
  refine jt_bipush d_RD_init_57 (by omega) ?_
  refine jt_callS (Y := Y_FO_row) (As := [.int (jI 9)]) (rest := [.ref (b + 38)]) (rm := iR (d + 3) 19 135) d_RD_init_59 RD_c27 yk_FO_row ys_FO_row rfl rfl (Nat.le_of_ble_eq_true rfl) (show d + 3 + 1 ≤ d + 4 by omega) (show 8 + (3 + 11) + (d + 3) * 40 ≤ (d + 4) * 40 by omega) (show 356 + 19 ≤ 394 by omega) (show 3525 + 135 ≤ 3795 by omega) (i_row G _ b 395 9 (aV 12 12) _ (by decide) rfl (fun i hi => ⟨by rw [cc_5 (form_at 395 (by decide) rfl i hi).1], by have q1 := form_at 395 (by decide) rfl i hi; have q2 := form_parts _ q1.2 q1.1; rw [cc_9 q2.1 q2.2.1, aV_0 (by omega) (by omega) (by omega)]⟩)) (fun rv f' sz' hq => ?_)
  obtain ⟨rfl, rfl, rfl⟩ := hq
  refine jt_fe (sz' := b + 414) (f' := blk b (aV 12 12) 39 414 (va_up g (b + 38) (some (jOb 2 [.ref (b + 39), .ref (b + 43), .int (jI 0), .int (jI 0), .int (jI 0), .ref (b + 74), .int (jI 0), .int (jI 0), .ref (b + 375), .int (jI 0), .ref (b + 376), .null, .null])))) (blk_5 b (aV 12 12) (k := 39) (m := 395) (m2 := 414) _ (by decide) (by decide)) rfl ?_
  refine jt_putf d_RD_init_62 (RD_w43 _ rfl rfl) (by rw [blk_out b (aV 12 12) _ _ _ (Or.inl (by decide)), va_up_self]) rfl rfl (Nat.le_of_ble_eq_true rfl) ?_
  refine jt_fe (f' := blk b (aV 12 12) 39 414 (va_up g (b + 38) (some (jOb 2 [.ref (b + 39), .ref (b + 43), .int (jI 0), .int (jI 0), .int (jI 0), .ref (b + 74), .int (jI 0), .int (jI 0), .ref (b + 375), .int (jI 0), .ref (b + 376), .ref (b + 395), .null])))) (blk_3 b (aV 12 12) g (by decide)) rfl ?_
  refine jt_aload_n d_RD_init_65 rfl ?_
  refine jt_bipush d_RD_init_66 (by omega) ?_
  refine jt_callS (Y := Y_FO_row) (As := [.int (jI 9)]) (rest := [.ref (b + 38)]) (rm := iR (d + 3) 19 135) d_RD_init_68 RD_c27 yk_FO_row ys_FO_row rfl rfl (Nat.le_of_ble_eq_true rfl) (show d + 3 + 1 ≤ d + 4 by omega) (show 8 + (3 + 11) + (d + 3) * 40 ≤ (d + 4) * 40 by omega) (show 375 + 19 ≤ 394 by omega) (show 3660 + 135 ≤ 3795 by omega) (i_row G _ b 414 9 (aV 12 12) _ (by decide) rfl (fun i hi => ⟨by rw [cc_5 (form_at 414 (by decide) rfl i hi).1], by have q1 := form_at 414 (by decide) rfl i hi; have q2 := form_parts _ q1.2 q1.1; rw [cc_9 q2.1 q2.2.1, aV_0 (by omega) (by omega) (by omega)]⟩)) (fun rv f' sz' hq => ?_)
  obtain ⟨rfl, rfl, rfl⟩ := hq
  refine jt_fe (sz' := b + 433) (f' := blk b (aV 12 12) 39 433 (va_up g (b + 38) (some (jOb 2 [.ref (b + 39), .ref (b + 43), .int (jI 0), .int (jI 0), .int (jI 0), .ref (b + 74), .int (jI 0), .int (jI 0), .ref (b + 375), .int (jI 0), .ref (b + 376), .ref (b + 395), .null])))) (blk_5 b (aV 12 12) (k := 39) (m := 414) (m2 := 433) _ (by decide) (by decide)) rfl ?_
  refine jt_putf d_RD_init_71 (RD_w46 _ rfl rfl) (by rw [blk_out b (aV 12 12) _ _ _ (Or.inl (by decide)), va_up_self]) rfl rfl (Nat.le_of_ble_eq_true rfl) ?_
  refine jt_fe (f' := blk b (aV 12 12) 39 433 (va_up g (b + 38) (some (jOb 2 [.ref (b + 39), .ref (b + 43), .int (jI 0), .int (jI 0), .int (jI 0), .ref (b + 74), .int (jI 0), .int (jI 0), .ref (b + 375), .int (jI 0), .ref (b + 376), .ref (b + 395), .ref (b + 414)])))) (blk_3 b (aV 12 12) g (by decide)) rfl ?_
  exact jt_vret d_RD_init_74 rfl (show 394 ≤ 394 by omega) (show 3795 ≤ 3795 by omega) ⟨rfl, blk_4 b (aV 12 12) g rfl (by decide), rfl⟩
set_option maxRecDepth 100000 in
set_option maxHeartbeats 1000000 in
theorem i_EX_5 (G : jG) (d b : Nat) (g : jF) : jct G Y_EX_init (iR (d + 2) 32 1666) [.ref (b + 5)] (va_up g (b + 5) (some (jOb 1 [.null, .null, .null, .null, .null, .int (jI 0), .int (jI 0)]))) (b + 6) (fun rv f' sz' => rv = none ∧ f' = blk b (aV 12 12) 5 38 g ∧ sz' = b + 38) := by
  refine jct_of (by decide) (Nat.le_of_ble_eq_true rfl) ?_
  show jt _ 0 [(0, .ref (b + 5))] [] _ _ _ _
  have eP : (jAI 6 (ju (ju (ju (ju (ju (ju (fun _ => 0) 0 (-1)) 1 (-1)) 2 (-1)) 3 (-1)) 4 (-1)) 5 (-1))) = cc b I0 (aV 12 12) 7 := by
    show (jAI 6 (ju (ju (ju (ju (ju (ju (fun _ => 0) 0 (-1)) 1 (-1)) 2 (-1)) 3 (-1)) 4 (-1)) 5 (-1))) = jAI 6 (fun z => if 0 ≤ z ∧ z < 6 then -1 else 0)
    refine congrArg (jAI 6) ?_
    funext z
    by_cases h : 0 ≤ z ∧ z < 6
    · have h6 : z = 0 ∨ z = 1 ∨ z = 2 ∨ z = 3 ∨ z = 4 ∨ z = 5 := by omega
      rcases h6 with rfl | rfl | rfl | rfl | rfl | rfl <;> rfl
    · rw [ju_ne _ _ (by omega), ju_ne _ _ (by omega), ju_ne _ _ (by omega), ju_ne _ _ (by omega), ju_ne _ _ (by omega), ju_ne _ _ (by omega)]
      show _ = (if 0 ≤ z ∧ z < 6 then _ else _)
      rw [if_neg h]
  have eQ : (jAR 3 6 (ju (ju (ju (ju (ju (ju (fun _ => none) 0 (some (b + 14))) 1 (some (b + 18))) 2 (some (b + 22))) 3 (some (b + 26))) 4 (some (b + 30))) 5 (some (b + 34)))) = cc b I0 (aV 12 12) 6 := by
    show (jAR 3 6 (ju (ju (ju (ju (ju (ju (fun _ => none) 0 (some (b + 14))) 1 (some (b + 18))) 2 (some (b + 22))) 3 (some (b + 26))) 4 (some (b + 30))) 5 (some (b + 34)))) = jAR 3 6 (fun z => if 0 ≤ z ∧ z < 6 then some (b + (14 + 4 * z.toNat)) else none)
    refine congrArg (jAR 3 6) ?_
    funext z
    by_cases h : 0 ≤ z ∧ z < 6
    · have h6 : z = 0 ∨ z = 1 ∨ z = 2 ∨ z = 3 ∨ z = 4 ∨ z = 5 := by omega
      rcases h6 with rfl | rfl | rfl | rfl | rfl | rfl <;> rfl
    · rw [ju_ne _ _ (by omega), ju_ne _ _ (by omega), ju_ne _ _ (by omega), ju_ne _ _ (by omega), ju_ne _ _ (by omega), ju_ne _ _ (by omega)]
      show _ = (if 0 ≤ z ∧ z < 6 then _ else _)
      rw [if_neg h]
  refine jt_aload_n d_EX_init_0 rfl ?_
  refine jt_objInit d_EX_init_1 EX_o5 (show 0 + 12 ≤ (d + 2) * 40 by omega) (show 1 ≤ d + 2 by omega) ?_
  refine jt_aload_n d_EX_init_4 rfl ?_
  refine jt_bipush d_EX_init_5 (by omega) ?_
  refine jt_anew (n := 6) (t := 3) d_EX_init_7 jTy_3 nw_EX_11.1 (by decide) rfl (by omega) (show 0 + 1 ≤ 32 by omega) (show 0 + 6 ≤ 1666 by omega) ?_
  refine jt_putf d_EX_init_10 (EX_w13 _ rfl rfl) (by rw [va_up_ne _ _ (by omega), va_up_self]) rfl rfl (Nat.le_of_ble_eq_true rfl) ?_
  refine jt_fe (sz' := b + 7) (f' := va_up (va_up g (b + 5) (some (jOb 1 [.ref (b + 6), .null, .null, .null, .null, .int (jI 0), .int (jI 0)]))) (b + 6) (some (jAR 3 6 (fun _ => none)))) (gup3 _ _ _ _ (by omega)) rfl ?_
  refine jt_aload_n d_EX_init_13 rfl ?_
  refine jt_bipush d_EX_init_14 (by omega) ?_
  refine jt_newI (n := 6) d_EX_init_16 ac_int rfl (by omega) (show 1 + 1 ≤ 32 by omega) (show 6 + 6 ≤ 1666 by omega) ?_
  refine jt_putf d_EX_init_18 (EX_w17 _ rfl rfl) (by rw [va_up_ne _ _ (by omega), va_up_ne _ _ (by omega), va_up_self]) rfl rfl (Nat.le_of_ble_eq_true rfl) ?_
  refine jt_fe (sz' := b + 8) (f' := blk b (aV 12 12) 8 8 (va_up (va_up (va_up g (b + 5) (some (jOb 1 [.ref (b + 6), .ref (b + 7), .null, .null, .null, .int (jI 0), .int (jI 0)]))) (b + 6) (some (jAR 3 6 (fun _ => none)))) (b + 7) (some (jAI 6 (fun _ => 0))))) ((gup4 _ _ _ _ _ (by omega) (by omega)).trans (blk_nil _ _ _ _).symm) rfl ?_
  refine jt_aload_n d_EX_init_21 rfl ?_
  refine jt_new (ci := 0) (fs := [.null, .null, .null, .int (jI 0)]) d_EX_init_22 rfl nw_EX_11 pd_TR (show 2 + 1 ≤ 32 by omega) (show 12 + 4 ≤ 1666 by omega) ?_
  refine jt_dup d_EX_init_25 rfl ?_
  refine jt_sipush d_EX_init_26 (by omega) ?_
  refine jt_callI (Y := Y_TR_init) (b := b + 8) (As := [.int (jI 300)]) (rest := [.ref (b + 8), .ref (b + 5)]) (rm := iR (d + 1) 3 900) d_EX_init_29 EX_c21 yk_TR_init yv_TR_init rfl rfl rfl rfl (Nat.le_of_ble_eq_true rfl) (show d + 1 + 1 ≤ d + 2 by omega) (show 8 + (2 + 11) + (d + 1) * 40 ≤ (d + 2) * 40 by omega) (show 3 + 3 ≤ 32 by omega) (show 16 + 900 ≤ 1666 by omega) (i_TR G _ b 8 300 (aV 12 12) _ (by decide) rfl (by rw [cc_8 (k := 9) (n := 300) rfl rfl, aV_0 (by decide) (by decide) (by decide)]) (by rw [cc_8 (k := 10) (n := 300) rfl rfl, aV_0 (by decide) (by decide) (by decide)]) (by rw [cc_8 (k := 11) (n := 300) rfl rfl, aV_0 (by decide) (by decide) (by decide)])) (fun rv f' sz' hq => ?_)
  obtain ⟨rfl, rfl, rfl⟩ := hq
  refine jt_fe (sz' := b + 12) (f' := blk b (aV 12 12) 8 12 (va_up (va_up (va_up g (b + 5) (some (jOb 1 [.ref (b + 6), .ref (b + 7), .null, .null, .null, .int (jI 0), .int (jI 0)]))) (b + 6) (some (jAR 3 6 (fun _ => none)))) (b + 7) (some (jAI 6 (fun _ => 0))))) (blk_5 b (aV 12 12) (k := 8) (m := 8) (m2 := 12) _ (by decide) (by decide)) rfl ?_
  refine jt_putf d_EX_init_32 (EX_w24 _ rfl rfl) (by rw [blk_out b (aV 12 12) _ _ _ (Or.inl (by decide)), va_up_ne _ _ (by omega), va_up_ne _ _ (by omega), va_up_self]) rfl rfl (Nat.le_of_ble_eq_true rfl) ?_
  refine jt_fe (f' := blk b (aV 12 12) 8 12 (va_up (va_up (va_up g (b + 5) (some (jOb 1 [.ref (b + 6), .ref (b + 7), .ref (b + 8), .null, .null, .int (jI 0), .int (jI 0)]))) (b + 6) (some (jAR 3 6 (fun _ => none)))) (b + 7) (some (jAI 6 (fun _ => 0))))) ((blk_w b (aV 12 12) _ (by decide)).trans (congrArg (blk b (aV 12 12) 8 12) (gup4 _ _ _ _ _ (by omega) (by omega)))) rfl ?_
  refine jt_aload_n d_EX_init_35 rfl ?_
  refine jt_iconst d_EX_init_36 ?_
  refine jt_newI (n := 3) d_EX_init_37 ac_int rfl (by omega) (show 6 + 1 ≤ 32 by omega) (show 916 + 3 ≤ 1666 by omega) ?_
  refine jt_fe (sz' := b + 13) (f' := blk b (aV 12 12) 8 13 (va_up (va_up (va_up g (b + 5) (some (jOb 1 [.ref (b + 6), .ref (b + 7), .ref (b + 8), .null, .null, .int (jI 0), .int (jI 0)]))) (b + 6) (some (jAR 3 6 (fun _ => none)))) (b + 7) (some (jAI 6 (fun _ => 0))))) (blk_1 b (aV 12 12) _ (Eq.symm (by rw [cc_8 (k := 12) (n := 3) rfl rfl, aV_0 (by decide) (by decide) (by decide)])) (by decide)) rfl ?_
  refine jt_putf d_EX_init_39 (EX_w28 _ rfl rfl) (by rw [blk_out b (aV 12 12) _ _ _ (Or.inl (by decide)), va_up_ne _ _ (by omega), va_up_ne _ _ (by omega), va_up_self]) rfl rfl (Nat.le_of_ble_eq_true rfl) ?_
  refine jt_fe (f' := blk b (aV 12 12) 8 13 (va_up (va_up (va_up g (b + 5) (some (jOb 1 [.ref (b + 6), .ref (b + 7), .ref (b + 8), .ref (b + 12), .null, .int (jI 0), .int (jI 0)]))) (b + 6) (some (jAR 3 6 (fun _ => none)))) (b + 7) (some (jAI 6 (fun _ => 0))))) ((blk_w b (aV 12 12) _ (by decide)).trans (congrArg (blk b (aV 12 12) 8 13) (gup4 _ _ _ _ _ (by omega) (by omega)))) rfl ?_
  refine jt_aload_n d_EX_init_42 rfl ?_
  refine jt_iconst d_EX_init_43 ?_
  refine jt_newI (n := 3) d_EX_init_44 ac_int rfl (by omega) (show 7 + 1 ≤ 32 by omega) (show 919 + 3 ≤ 1666 by omega) ?_
  refine jt_fe (sz' := b + 14) (f' := blk b (aV 12 12) 8 14 (va_up (va_up (va_up g (b + 5) (some (jOb 1 [.ref (b + 6), .ref (b + 7), .ref (b + 8), .ref (b + 12), .null, .int (jI 0), .int (jI 0)]))) (b + 6) (some (jAR 3 6 (fun _ => none)))) (b + 7) (some (jAI 6 (fun _ => 0))))) (blk_1 b (aV 12 12) _ (Eq.symm (by rw [cc_8 (k := 13) (n := 3) rfl rfl, aV_0 (by decide) (by decide) (by decide)])) (by decide)) rfl ?_
  refine jt_putf d_EX_init_46 (EX_w31 _ rfl rfl) (by rw [blk_out b (aV 12 12) _ _ _ (Or.inl (by decide)), va_up_ne _ _ (by omega), va_up_ne _ _ (by omega), va_up_self]) rfl rfl (Nat.le_of_ble_eq_true rfl) ?_
  refine jt_fe (f' := blk b (aV 12 12) 8 14 (va_up (va_up (va_up g (b + 5) (some (jOb 1 [.ref (b + 6), .ref (b + 7), .ref (b + 8), .ref (b + 12), .ref (b + 13), .int (jI 0), .int (jI 0)]))) (b + 6) (some (jAR 3 6 (fun _ => none)))) (b + 7) (some (jAI 6 (fun _ => 0))))) ((blk_w b (aV 12 12) _ (by decide)).trans (congrArg (blk b (aV 12 12) 8 14) (gup4 _ _ _ _ _ (by omega) (by omega)))) rfl ?_
  refine jt_iconst d_EX_init_49 ?_
  refine jt_istore_n (L' := [(0, .ref (b + 5)), (1, .int (jI 0))]) d_EX_init_50 (Nat.le_of_ble_eq_true rfl) rfl ?_
  show jt _ 51 [(0, .ref (b + 5)), (1, .int (jI 0))] [] (blk b (aV 12 12) 8 14 (va_up (va_up (va_up g (b + 5) (some (jOb 1 [.ref (b + 6), .ref (b + 7), .ref (b + 8), .ref (b + 12), .ref (b + 13), .int (jI 0), .int (jI 0)]))) (b + 6) (some (jAR 3 6 (fun _ => none)))) (b + 7) (some (jAI 6 (fun _ => 0))))) _ _ _
  refine jt_iload_n d_EX_init_51 rfl ?_
  refine jt_bipush d_EX_init_52 (by omega) ?_
  refine jt_icmp_ge (t := 85) d_EX_init_54 rfl (by unfold jRi; omega) (by unfold jRi; omega) (fun c => absurd c (by omega)) (fun c => ?_)
  refine jt_aload_n d_EX_init_57 rfl ?_
  refine jt_getf d_EX_init_58 EX_f13 (by rw [blk_out b (aV 12 12) _ _ _ (Or.inl (by decide)), va_up_ne _ _ (by omega), va_up_ne _ _ (by omega), va_up_self]) rfl ?_
  refine jt_iload_n d_EX_init_61 rfl ?_
  refine jt_new (ci := 0) (fs := [.null, .null, .null, .int (jI 0)]) d_EX_init_62 rfl nw_EX_11 pd_TR (show 8 + 1 ≤ 32 by omega) (show 922 + 4 ≤ 1666 by omega) ?_
  refine jt_dup d_EX_init_65 rfl ?_
  refine jt_bipush d_EX_init_66 (by omega) ?_
  refine jt_callI (Y := Y_TR_init) (b := b + 14) (As := [.int (jI 40)]) (rest := [.ref (b + 14), .int (jI 0), .ref (b + 6)]) (rm := iR (d + 1) 3 120) d_EX_init_68 EX_c21 yk_TR_init yv_TR_init rfl rfl rfl rfl (Nat.le_of_ble_eq_true rfl) (show d + 1 + 1 ≤ d + 2 by omega) (show 8 + (2 + 11) + (d + 1) * 40 ≤ (d + 2) * 40 by omega) (show 9 + 3 ≤ 32 by omega) (show 926 + 120 ≤ 1666 by omega) (i_TR G _ b 14 40 (aV 12 12) _ (by decide) rfl (by rw [cc_8 (k := 15) (n := 40) rfl rfl, aV_0 (by decide) (by decide) (by decide)]) (by rw [cc_8 (k := 16) (n := 40) rfl rfl, aV_0 (by decide) (by decide) (by decide)]) (by rw [cc_8 (k := 17) (n := 40) rfl rfl, aV_0 (by decide) (by decide) (by decide)])) (fun rv f' sz' hq => ?_)
  obtain ⟨rfl, rfl, rfl⟩ := hq
  refine jt_fe (sz' := b + 18) (f' := blk b (aV 12 12) 8 18 (va_up (va_up (va_up g (b + 5) (some (jOb 1 [.ref (b + 6), .ref (b + 7), .ref (b + 8), .ref (b + 12), .ref (b + 13), .int (jI 0), .int (jI 0)]))) (b + 6) (some (jAR 3 6 (fun _ => none)))) (b + 7) (some (jAI 6 (fun _ => 0))))) (blk_5 b (aV 12 12) (k := 8) (m := 14) (m2 := 18) _ (by decide) (by decide)) rfl ?_
  refine jt_aastore (ci := 0) (n := 6) (t := 3) (v := b + 14) d_EX_init_71 jTy_3 rfl (by rw [blk_out b (aV 12 12) _ _ _ (Or.inl (by decide)), va_up_ne _ _ (by omega), va_up_self]) (by rw [blk_in b (aV 12 12) _ _ _ (by decide) (by decide), cc_1 (k := 14) rfl]) (by omega) (by omega) (by omega) ?_
  refine jt_fe (f' := blk b (aV 12 12) 8 18 (va_up (va_up (va_up g (b + 5) (some (jOb 1 [.ref (b + 6), .ref (b + 7), .ref (b + 8), .ref (b + 12), .ref (b + 13), .int (jI 0), .int (jI 0)]))) (b + 6) (some (jAR 3 6 (ju (fun _ => none) 0 (some (b + 14)))))) (b + 7) (some (jAI 6 (fun _ => 0))))) ((blk_w b (aV 12 12) _ (by decide)).trans (congrArg (blk b (aV 12 12) 8 18) (gup3 _ _ _ _ (by omega)))) rfl ?_
  refine jt_aload_n d_EX_init_72 rfl ?_
  refine jt_getf d_EX_init_73 EX_f17 (by rw [blk_out b (aV 12 12) _ _ _ (Or.inl (by decide)), va_up_ne _ _ (by omega), va_up_ne _ _ (by omega), va_up_self]) rfl ?_
  refine jt_iload_n d_EX_init_76 rfl ?_
  refine jt_iconst d_EX_init_77 ?_
  refine jt_iastore (n := 6) d_EX_init_78 (by rw [blk_out b (aV 12 12) _ _ _ (Or.inl (by decide)), va_up_self]) (by omega) (by omega) (by omega) ?_
  refine jt_fe (f' := blk b (aV 12 12) 8 18 (va_up (va_up (va_up g (b + 5) (some (jOb 1 [.ref (b + 6), .ref (b + 7), .ref (b + 8), .ref (b + 12), .ref (b + 13), .int (jI 0), .int (jI 0)]))) (b + 6) (some (jAR 3 6 (ju (fun _ => none) 0 (some (b + 14)))))) (b + 7) (some (jAI 6 (ju (fun _ => 0) 0 (-1)))))) ((blk_w b (aV 12 12) _ (by decide)).trans (congrArg (blk b (aV 12 12) 8 18) (bx_uu _ _ _ _))) rfl ?_
  refine jt_iinc (L' := [(0, .ref (b + 5)), (1, .int (jI 1))]) d_EX_init_79 rfl (Nat.le_of_ble_eq_true rfl) rfl ?_
  refine jt_goto (t := 51) d_EX_init_82 rfl ?_
  show jt _ 51 [(0, .ref (b + 5)), (1, .int (jI 1))] [] (blk b (aV 12 12) 8 18 (va_up (va_up (va_up g (b + 5) (some (jOb 1 [.ref (b + 6), .ref (b + 7), .ref (b + 8), .ref (b + 12), .ref (b + 13), .int (jI 0), .int (jI 0)]))) (b + 6) (some (jAR 3 6 (ju (fun _ => none) 0 (some (b + 14)))))) (b + 7) (some (jAI 6 (ju (fun _ => 0) 0 (-1)))))) _ _ _
  refine jt_iload_n d_EX_init_51 rfl ?_
  refine jt_bipush d_EX_init_52 (by omega) ?_
  refine jt_icmp_ge (t := 85) d_EX_init_54 rfl (by unfold jRi; omega) (by unfold jRi; omega) (fun c => absurd c (by omega)) (fun c => ?_)
  refine jt_aload_n d_EX_init_57 rfl ?_
  refine jt_getf d_EX_init_58 EX_f13 (by rw [blk_out b (aV 12 12) _ _ _ (Or.inl (by decide)), va_up_ne _ _ (by omega), va_up_ne _ _ (by omega), va_up_self]) rfl ?_
  refine jt_iload_n d_EX_init_61 rfl ?_
  refine jt_new (ci := 0) (fs := [.null, .null, .null, .int (jI 0)]) d_EX_init_62 rfl nw_EX_11 pd_TR (show 12 + 1 ≤ 32 by omega) (show 1046 + 4 ≤ 1666 by omega) ?_
  refine jt_dup d_EX_init_65 rfl ?_
  refine jt_bipush d_EX_init_66 (by omega) ?_
  refine jt_callI (Y := Y_TR_init) (b := b + 18) (As := [.int (jI 40)]) (rest := [.ref (b + 18), .int (jI 1), .ref (b + 6)]) (rm := iR (d + 1) 3 120) d_EX_init_68 EX_c21 yk_TR_init yv_TR_init rfl rfl rfl rfl (Nat.le_of_ble_eq_true rfl) (show d + 1 + 1 ≤ d + 2 by omega) (show 8 + (2 + 11) + (d + 1) * 40 ≤ (d + 2) * 40 by omega) (show 13 + 3 ≤ 32 by omega) (show 1050 + 120 ≤ 1666 by omega) (i_TR G _ b 18 40 (aV 12 12) _ (by decide) rfl (by rw [cc_8 (k := 19) (n := 40) rfl rfl, aV_0 (by decide) (by decide) (by decide)]) (by rw [cc_8 (k := 20) (n := 40) rfl rfl, aV_0 (by decide) (by decide) (by decide)]) (by rw [cc_8 (k := 21) (n := 40) rfl rfl, aV_0 (by decide) (by decide) (by decide)])) (fun rv f' sz' hq => ?_)
  obtain ⟨rfl, rfl, rfl⟩ := hq
  refine jt_fe (sz' := b + 22) (f' := blk b (aV 12 12) 8 22 (va_up (va_up (va_up g (b + 5) (some (jOb 1 [.ref (b + 6), .ref (b + 7), .ref (b + 8), .ref (b + 12), .ref (b + 13), .int (jI 0), .int (jI 0)]))) (b + 6) (some (jAR 3 6 (ju (fun _ => none) 0 (some (b + 14)))))) (b + 7) (some (jAI 6 (ju (fun _ => 0) 0 (-1)))))) (blk_5 b (aV 12 12) (k := 8) (m := 18) (m2 := 22) _ (by decide) (by decide)) rfl ?_
  refine jt_aastore (ci := 0) (n := 6) (t := 3) (v := b + 18) d_EX_init_71 jTy_3 rfl (by rw [blk_out b (aV 12 12) _ _ _ (Or.inl (by decide)), va_up_ne _ _ (by omega), va_up_self]) (by rw [blk_in b (aV 12 12) _ _ _ (by decide) (by decide), cc_1 (k := 18) rfl]) (by omega) (by omega) (by omega) ?_
  refine jt_fe (f' := blk b (aV 12 12) 8 22 (va_up (va_up (va_up g (b + 5) (some (jOb 1 [.ref (b + 6), .ref (b + 7), .ref (b + 8), .ref (b + 12), .ref (b + 13), .int (jI 0), .int (jI 0)]))) (b + 6) (some (jAR 3 6 (ju (ju (fun _ => none) 0 (some (b + 14))) 1 (some (b + 18)))))) (b + 7) (some (jAI 6 (ju (fun _ => 0) 0 (-1)))))) ((blk_w b (aV 12 12) _ (by decide)).trans (congrArg (blk b (aV 12 12) 8 22) (gup3 _ _ _ _ (by omega)))) rfl ?_
  refine jt_aload_n d_EX_init_72 rfl ?_
  refine jt_getf d_EX_init_73 EX_f17 (by rw [blk_out b (aV 12 12) _ _ _ (Or.inl (by decide)), va_up_ne _ _ (by omega), va_up_ne _ _ (by omega), va_up_self]) rfl ?_
  refine jt_iload_n d_EX_init_76 rfl ?_
  refine jt_iconst d_EX_init_77 ?_
  refine jt_iastore (n := 6) d_EX_init_78 (by rw [blk_out b (aV 12 12) _ _ _ (Or.inl (by decide)), va_up_self]) (by omega) (by omega) (by omega) ?_
  refine jt_fe (f' := blk b (aV 12 12) 8 22 (va_up (va_up (va_up g (b + 5) (some (jOb 1 [.ref (b + 6), .ref (b + 7), .ref (b + 8), .ref (b + 12), .ref (b + 13), .int (jI 0), .int (jI 0)]))) (b + 6) (some (jAR 3 6 (ju (ju (fun _ => none) 0 (some (b + 14))) 1 (some (b + 18)))))) (b + 7) (some (jAI 6 (ju (ju (fun _ => 0) 0 (-1)) 1 (-1)))))) ((blk_w b (aV 12 12) _ (by decide)).trans (congrArg (blk b (aV 12 12) 8 22) (bx_uu _ _ _ _))) rfl ?_
  refine jt_iinc (L' := [(0, .ref (b + 5)), (1, .int (jI 2))]) d_EX_init_79 rfl (Nat.le_of_ble_eq_true rfl) rfl ?_
  refine jt_goto (t := 51) d_EX_init_82 rfl ?_
  show jt _ 51 [(0, .ref (b + 5)), (1, .int (jI 2))] [] (blk b (aV 12 12) 8 22 (va_up (va_up (va_up g (b + 5) (some (jOb 1 [.ref (b + 6), .ref (b + 7), .ref (b + 8), .ref (b + 12), .ref (b + 13), .int (jI 0), .int (jI 0)]))) (b + 6) (some (jAR 3 6 (ju (ju (fun _ => none) 0 (some (b + 14))) 1 (some (b + 18)))))) (b + 7) (some (jAI 6 (ju (ju (fun _ => 0) 0 (-1)) 1 (-1)))))) _ _ _
  refine jt_iload_n d_EX_init_51 rfl ?_
  refine jt_bipush d_EX_init_52 (by omega) ?_
  refine jt_icmp_ge (t := 85) d_EX_init_54 rfl (by unfold jRi; omega) (by unfold jRi; omega) (fun c => absurd c (by omega)) (fun c => ?_)
  refine jt_aload_n d_EX_init_57 rfl ?_
  refine jt_getf d_EX_init_58 EX_f13 (by rw [blk_out b (aV 12 12) _ _ _ (Or.inl (by decide)), va_up_ne _ _ (by omega), va_up_ne _ _ (by omega), va_up_self]) rfl ?_
  refine jt_iload_n d_EX_init_61 rfl ?_
  refine jt_new (ci := 0) (fs := [.null, .null, .null, .int (jI 0)]) d_EX_init_62 rfl nw_EX_11 pd_TR (show 16 + 1 ≤ 32 by omega) (show 1170 + 4 ≤ 1666 by omega) ?_
  refine jt_dup d_EX_init_65 rfl ?_
  refine jt_bipush d_EX_init_66 (by omega) ?_
  refine jt_callI (Y := Y_TR_init) (b := b + 22) (As := [.int (jI 40)]) (rest := [.ref (b + 22), .int (jI 2), .ref (b + 6)]) (rm := iR (d + 1) 3 120) d_EX_init_68 EX_c21 yk_TR_init yv_TR_init rfl rfl rfl rfl (Nat.le_of_ble_eq_true rfl) (show d + 1 + 1 ≤ d + 2 by omega) (show 8 + (2 + 11) + (d + 1) * 40 ≤ (d + 2) * 40 by omega) (show 17 + 3 ≤ 32 by omega) (show 1174 + 120 ≤ 1666 by omega) (i_TR G _ b 22 40 (aV 12 12) _ (by decide) rfl (by rw [cc_8 (k := 23) (n := 40) rfl rfl, aV_0 (by decide) (by decide) (by decide)]) (by rw [cc_8 (k := 24) (n := 40) rfl rfl, aV_0 (by decide) (by decide) (by decide)]) (by rw [cc_8 (k := 25) (n := 40) rfl rfl, aV_0 (by decide) (by decide) (by decide)])) (fun rv f' sz' hq => ?_)
  obtain ⟨rfl, rfl, rfl⟩ := hq
  refine jt_fe (sz' := b + 26) (f' := blk b (aV 12 12) 8 26 (va_up (va_up (va_up g (b + 5) (some (jOb 1 [.ref (b + 6), .ref (b + 7), .ref (b + 8), .ref (b + 12), .ref (b + 13), .int (jI 0), .int (jI 0)]))) (b + 6) (some (jAR 3 6 (ju (ju (fun _ => none) 0 (some (b + 14))) 1 (some (b + 18)))))) (b + 7) (some (jAI 6 (ju (ju (fun _ => 0) 0 (-1)) 1 (-1)))))) (blk_5 b (aV 12 12) (k := 8) (m := 22) (m2 := 26) _ (by decide) (by decide)) rfl ?_
  refine jt_aastore (ci := 0) (n := 6) (t := 3) (v := b + 22) d_EX_init_71 jTy_3 rfl (by rw [blk_out b (aV 12 12) _ _ _ (Or.inl (by decide)), va_up_ne _ _ (by omega), va_up_self]) (by rw [blk_in b (aV 12 12) _ _ _ (by decide) (by decide), cc_1 (k := 22) rfl]) (by omega) (by omega) (by omega) ?_
  refine jt_fe (f' := blk b (aV 12 12) 8 26 (va_up (va_up (va_up g (b + 5) (some (jOb 1 [.ref (b + 6), .ref (b + 7), .ref (b + 8), .ref (b + 12), .ref (b + 13), .int (jI 0), .int (jI 0)]))) (b + 6) (some (jAR 3 6 (ju (ju (ju (fun _ => none) 0 (some (b + 14))) 1 (some (b + 18))) 2 (some (b + 22)))))) (b + 7) (some (jAI 6 (ju (ju (fun _ => 0) 0 (-1)) 1 (-1)))))) ((blk_w b (aV 12 12) _ (by decide)).trans (congrArg (blk b (aV 12 12) 8 26) (gup3 _ _ _ _ (by omega)))) rfl ?_
  refine jt_aload_n d_EX_init_72 rfl ?_
  refine jt_getf d_EX_init_73 EX_f17 (by rw [blk_out b (aV 12 12) _ _ _ (Or.inl (by decide)), va_up_ne _ _ (by omega), va_up_ne _ _ (by omega), va_up_self]) rfl ?_
  refine jt_iload_n d_EX_init_76 rfl ?_
  refine jt_iconst d_EX_init_77 ?_
  refine jt_iastore (n := 6) d_EX_init_78 (by rw [blk_out b (aV 12 12) _ _ _ (Or.inl (by decide)), va_up_self]) (by omega) (by omega) (by omega) ?_
  refine jt_fe (f' := blk b (aV 12 12) 8 26 (va_up (va_up (va_up g (b + 5) (some (jOb 1 [.ref (b + 6), .ref (b + 7), .ref (b + 8), .ref (b + 12), .ref (b + 13), .int (jI 0), .int (jI 0)]))) (b + 6) (some (jAR 3 6 (ju (ju (ju (fun _ => none) 0 (some (b + 14))) 1 (some (b + 18))) 2 (some (b + 22)))))) (b + 7) (some (jAI 6 (ju (ju (ju (fun _ => 0) 0 (-1)) 1 (-1)) 2 (-1)))))) ((blk_w b (aV 12 12) _ (by decide)).trans (congrArg (blk b (aV 12 12) 8 26) (bx_uu _ _ _ _))) rfl ?_
  refine jt_iinc (L' := [(0, .ref (b + 5)), (1, .int (jI 3))]) d_EX_init_79 rfl (Nat.le_of_ble_eq_true rfl) rfl ?_
  refine jt_goto (t := 51) d_EX_init_82 rfl ?_
  show jt _ 51 [(0, .ref (b + 5)), (1, .int (jI 3))] [] (blk b (aV 12 12) 8 26 (va_up (va_up (va_up g (b + 5) (some (jOb 1 [.ref (b + 6), .ref (b + 7), .ref (b + 8), .ref (b + 12), .ref (b + 13), .int (jI 0), .int (jI 0)]))) (b + 6) (some (jAR 3 6 (ju (ju (ju (fun _ => none) 0 (some (b + 14))) 1 (some (b + 18))) 2 (some (b + 22)))))) (b + 7) (some (jAI 6 (ju (ju (ju (fun _ => 0) 0 (-1)) 1 (-1)) 2 (-1)))))) _ _ _
  refine jt_iload_n d_EX_init_51 rfl ?_
  refine jt_bipush d_EX_init_52 (by omega) ?_
  refine jt_icmp_ge (t := 85) d_EX_init_54 rfl (by unfold jRi; omega) (by unfold jRi; omega) (fun c => absurd c (by omega)) (fun c => ?_)
  refine jt_aload_n d_EX_init_57 rfl ?_
  refine jt_getf d_EX_init_58 EX_f13 (by rw [blk_out b (aV 12 12) _ _ _ (Or.inl (by decide)), va_up_ne _ _ (by omega), va_up_ne _ _ (by omega), va_up_self]) rfl ?_
  refine jt_iload_n d_EX_init_61 rfl ?_
  refine jt_new (ci := 0) (fs := [.null, .null, .null, .int (jI 0)]) d_EX_init_62 rfl nw_EX_11 pd_TR (show 20 + 1 ≤ 32 by omega) (show 1294 + 4 ≤ 1666 by omega) ?_
  refine jt_dup d_EX_init_65 rfl ?_
  refine jt_bipush d_EX_init_66 (by omega) ?_
  refine jt_callI (Y := Y_TR_init) (b := b + 26) (As := [.int (jI 40)]) (rest := [.ref (b + 26), .int (jI 3), .ref (b + 6)]) (rm := iR (d + 1) 3 120) d_EX_init_68 EX_c21 yk_TR_init yv_TR_init rfl rfl rfl rfl (Nat.le_of_ble_eq_true rfl) (show d + 1 + 1 ≤ d + 2 by omega) (show 8 + (2 + 11) + (d + 1) * 40 ≤ (d + 2) * 40 by omega) (show 21 + 3 ≤ 32 by omega) (show 1298 + 120 ≤ 1666 by omega) (i_TR G _ b 26 40 (aV 12 12) _ (by decide) rfl (by rw [cc_8 (k := 27) (n := 40) rfl rfl, aV_0 (by decide) (by decide) (by decide)]) (by rw [cc_8 (k := 28) (n := 40) rfl rfl, aV_0 (by decide) (by decide) (by decide)]) (by rw [cc_8 (k := 29) (n := 40) rfl rfl, aV_0 (by decide) (by decide) (by decide)])) (fun rv f' sz' hq => ?_)
  obtain ⟨rfl, rfl, rfl⟩ := hq
  refine jt_fe (sz' := b + 30) (f' := blk b (aV 12 12) 8 30 (va_up (va_up (va_up g (b + 5) (some (jOb 1 [.ref (b + 6), .ref (b + 7), .ref (b + 8), .ref (b + 12), .ref (b + 13), .int (jI 0), .int (jI 0)]))) (b + 6) (some (jAR 3 6 (ju (ju (ju (fun _ => none) 0 (some (b + 14))) 1 (some (b + 18))) 2 (some (b + 22)))))) (b + 7) (some (jAI 6 (ju (ju (ju (fun _ => 0) 0 (-1)) 1 (-1)) 2 (-1)))))) (blk_5 b (aV 12 12) (k := 8) (m := 26) (m2 := 30) _ (by decide) (by decide)) rfl ?_
  refine jt_aastore (ci := 0) (n := 6) (t := 3) (v := b + 26) d_EX_init_71 jTy_3 rfl (by rw [blk_out b (aV 12 12) _ _ _ (Or.inl (by decide)), va_up_ne _ _ (by omega), va_up_self]) (by rw [blk_in b (aV 12 12) _ _ _ (by decide) (by decide), cc_1 (k := 26) rfl]) (by omega) (by omega) (by omega) ?_
  refine jt_fe (f' := blk b (aV 12 12) 8 30 (va_up (va_up (va_up g (b + 5) (some (jOb 1 [.ref (b + 6), .ref (b + 7), .ref (b + 8), .ref (b + 12), .ref (b + 13), .int (jI 0), .int (jI 0)]))) (b + 6) (some (jAR 3 6 (ju (ju (ju (ju (fun _ => none) 0 (some (b + 14))) 1 (some (b + 18))) 2 (some (b + 22))) 3 (some (b + 26)))))) (b + 7) (some (jAI 6 (ju (ju (ju (fun _ => 0) 0 (-1)) 1 (-1)) 2 (-1)))))) ((blk_w b (aV 12 12) _ (by decide)).trans (congrArg (blk b (aV 12 12) 8 30) (gup3 _ _ _ _ (by omega)))) rfl ?_
  refine jt_aload_n d_EX_init_72 rfl ?_
  refine jt_getf d_EX_init_73 EX_f17 (by rw [blk_out b (aV 12 12) _ _ _ (Or.inl (by decide)), va_up_ne _ _ (by omega), va_up_ne _ _ (by omega), va_up_self]) rfl ?_
  refine jt_iload_n d_EX_init_76 rfl ?_
  refine jt_iconst d_EX_init_77 ?_
  refine jt_iastore (n := 6) d_EX_init_78 (by rw [blk_out b (aV 12 12) _ _ _ (Or.inl (by decide)), va_up_self]) (by omega) (by omega) (by omega) ?_
  refine jt_fe (f' := blk b (aV 12 12) 8 30 (va_up (va_up (va_up g (b + 5) (some (jOb 1 [.ref (b + 6), .ref (b + 7), .ref (b + 8), .ref (b + 12), .ref (b + 13), .int (jI 0), .int (jI 0)]))) (b + 6) (some (jAR 3 6 (ju (ju (ju (ju (fun _ => none) 0 (some (b + 14))) 1 (some (b + 18))) 2 (some (b + 22))) 3 (some (b + 26)))))) (b + 7) (some (jAI 6 (ju (ju (ju (ju (fun _ => 0) 0 (-1)) 1 (-1)) 2 (-1)) 3 (-1)))))) ((blk_w b (aV 12 12) _ (by decide)).trans (congrArg (blk b (aV 12 12) 8 30) (bx_uu _ _ _ _))) rfl ?_
  refine jt_iinc (L' := [(0, .ref (b + 5)), (1, .int (jI 4))]) d_EX_init_79 rfl (Nat.le_of_ble_eq_true rfl) rfl ?_
  refine jt_goto (t := 51) d_EX_init_82 rfl ?_
  show jt _ 51 [(0, .ref (b + 5)), (1, .int (jI 4))] [] (blk b (aV 12 12) 8 30 (va_up (va_up (va_up g (b + 5) (some (jOb 1 [.ref (b + 6), .ref (b + 7), .ref (b + 8), .ref (b + 12), .ref (b + 13), .int (jI 0), .int (jI 0)]))) (b + 6) (some (jAR 3 6 (ju (ju (ju (ju (fun _ => none) 0 (some (b + 14))) 1 (some (b + 18))) 2 (some (b + 22))) 3 (some (b + 26)))))) (b + 7) (some (jAI 6 (ju (ju (ju (ju (fun _ => 0) 0 (-1)) 1 (-1)) 2 (-1)) 3 (-1)))))) _ _ _
  refine jt_iload_n d_EX_init_51 rfl ?_
  refine jt_bipush d_EX_init_52 (by omega) ?_
  refine jt_icmp_ge (t := 85) d_EX_init_54 rfl (by unfold jRi; omega) (by unfold jRi; omega) (fun c => absurd c (by omega)) (fun c => ?_)
  refine jt_aload_n d_EX_init_57 rfl ?_
  refine jt_getf d_EX_init_58 EX_f13 (by rw [blk_out b (aV 12 12) _ _ _ (Or.inl (by decide)), va_up_ne _ _ (by omega), va_up_ne _ _ (by omega), va_up_self]) rfl ?_
  refine jt_iload_n d_EX_init_61 rfl ?_
  refine jt_new (ci := 0) (fs := [.null, .null, .null, .int (jI 0)]) d_EX_init_62 rfl nw_EX_11 pd_TR (show 24 + 1 ≤ 32 by omega) (show 1418 + 4 ≤ 1666 by omega) ?_
  refine jt_dup d_EX_init_65 rfl ?_
  refine jt_bipush d_EX_init_66 (by omega) ?_
  refine jt_callI (Y := Y_TR_init) (b := b + 30) (As := [.int (jI 40)]) (rest := [.ref (b + 30), .int (jI 4), .ref (b + 6)]) (rm := iR (d + 1) 3 120) d_EX_init_68 EX_c21 yk_TR_init yv_TR_init rfl rfl rfl rfl (Nat.le_of_ble_eq_true rfl) (show d + 1 + 1 ≤ d + 2 by omega) (show 8 + (2 + 11) + (d + 1) * 40 ≤ (d + 2) * 40 by omega) (show 25 + 3 ≤ 32 by omega) (show 1422 + 120 ≤ 1666 by omega) (i_TR G _ b 30 40 (aV 12 12) _ (by decide) rfl (by rw [cc_8 (k := 31) (n := 40) rfl rfl, aV_0 (by decide) (by decide) (by decide)]) (by rw [cc_8 (k := 32) (n := 40) rfl rfl, aV_0 (by decide) (by decide) (by decide)]) (by rw [cc_8 (k := 33) (n := 40) rfl rfl, aV_0 (by decide) (by decide) (by decide)])) (fun rv f' sz' hq => ?_)
  obtain ⟨rfl, rfl, rfl⟩ := hq
  refine jt_fe (sz' := b + 34) (f' := blk b (aV 12 12) 8 34 (va_up (va_up (va_up g (b + 5) (some (jOb 1 [.ref (b + 6), .ref (b + 7), .ref (b + 8), .ref (b + 12), .ref (b + 13), .int (jI 0), .int (jI 0)]))) (b + 6) (some (jAR 3 6 (ju (ju (ju (ju (fun _ => none) 0 (some (b + 14))) 1 (some (b + 18))) 2 (some (b + 22))) 3 (some (b + 26)))))) (b + 7) (some (jAI 6 (ju (ju (ju (ju (fun _ => 0) 0 (-1)) 1 (-1)) 2 (-1)) 3 (-1)))))) (blk_5 b (aV 12 12) (k := 8) (m := 30) (m2 := 34) _ (by decide) (by decide)) rfl ?_
  refine jt_aastore (ci := 0) (n := 6) (t := 3) (v := b + 30) d_EX_init_71 jTy_3 rfl (by rw [blk_out b (aV 12 12) _ _ _ (Or.inl (by decide)), va_up_ne _ _ (by omega), va_up_self]) (by rw [blk_in b (aV 12 12) _ _ _ (by decide) (by decide), cc_1 (k := 30) rfl]) (by omega) (by omega) (by omega) ?_
  refine jt_fe (f' := blk b (aV 12 12) 8 34 (va_up (va_up (va_up g (b + 5) (some (jOb 1 [.ref (b + 6), .ref (b + 7), .ref (b + 8), .ref (b + 12), .ref (b + 13), .int (jI 0), .int (jI 0)]))) (b + 6) (some (jAR 3 6 (ju (ju (ju (ju (ju (fun _ => none) 0 (some (b + 14))) 1 (some (b + 18))) 2 (some (b + 22))) 3 (some (b + 26))) 4 (some (b + 30)))))) (b + 7) (some (jAI 6 (ju (ju (ju (ju (fun _ => 0) 0 (-1)) 1 (-1)) 2 (-1)) 3 (-1)))))) ((blk_w b (aV 12 12) _ (by decide)).trans (congrArg (blk b (aV 12 12) 8 34) (gup3 _ _ _ _ (by omega)))) rfl ?_
  refine jt_aload_n d_EX_init_72 rfl ?_
  refine jt_getf d_EX_init_73 EX_f17 (by rw [blk_out b (aV 12 12) _ _ _ (Or.inl (by decide)), va_up_ne _ _ (by omega), va_up_ne _ _ (by omega), va_up_self]) rfl ?_
  refine jt_iload_n d_EX_init_76 rfl ?_
  refine jt_iconst d_EX_init_77 ?_
  refine jt_iastore (n := 6) d_EX_init_78 (by rw [blk_out b (aV 12 12) _ _ _ (Or.inl (by decide)), va_up_self]) (by omega) (by omega) (by omega) ?_
  refine jt_fe (f' := blk b (aV 12 12) 8 34 (va_up (va_up (va_up g (b + 5) (some (jOb 1 [.ref (b + 6), .ref (b + 7), .ref (b + 8), .ref (b + 12), .ref (b + 13), .int (jI 0), .int (jI 0)]))) (b + 6) (some (jAR 3 6 (ju (ju (ju (ju (ju (fun _ => none) 0 (some (b + 14))) 1 (some (b + 18))) 2 (some (b + 22))) 3 (some (b + 26))) 4 (some (b + 30)))))) (b + 7) (some (jAI 6 (ju (ju (ju (ju (ju (fun _ => 0) 0 (-1)) 1 (-1)) 2 (-1)) 3 (-1)) 4 (-1)))))) ((blk_w b (aV 12 12) _ (by decide)).trans (congrArg (blk b (aV 12 12) 8 34) (bx_uu _ _ _ _))) rfl ?_
  refine jt_iinc (L' := [(0, .ref (b + 5)), (1, .int (jI 5))]) d_EX_init_79 rfl (Nat.le_of_ble_eq_true rfl) rfl ?_
  refine jt_goto (t := 51) d_EX_init_82 rfl ?_
  show jt _ 51 [(0, .ref (b + 5)), (1, .int (jI 5))] [] (blk b (aV 12 12) 8 34 (va_up (va_up (va_up g (b + 5) (some (jOb 1 [.ref (b + 6), .ref (b + 7), .ref (b + 8), .ref (b + 12), .ref (b + 13), .int (jI 0), .int (jI 0)]))) (b + 6) (some (jAR 3 6 (ju (ju (ju (ju (ju (fun _ => none) 0 (some (b + 14))) 1 (some (b + 18))) 2 (some (b + 22))) 3 (some (b + 26))) 4 (some (b + 30)))))) (b + 7) (some (jAI 6 (ju (ju (ju (ju (ju (fun _ => 0) 0 (-1)) 1 (-1)) 2 (-1)) 3 (-1)) 4 (-1)))))) _ _ _
  refine jt_iload_n d_EX_init_51 rfl ?_
  refine jt_bipush d_EX_init_52 (by omega) ?_
  refine jt_icmp_ge (t := 85) d_EX_init_54 rfl (by unfold jRi; omega) (by unfold jRi; omega) (fun c => absurd c (by omega)) (fun c => ?_)
  refine jt_aload_n d_EX_init_57 rfl ?_
  refine jt_getf d_EX_init_58 EX_f13 (by rw [blk_out b (aV 12 12) _ _ _ (Or.inl (by decide)), va_up_ne _ _ (by omega), va_up_ne _ _ (by omega), va_up_self]) rfl ?_
  refine jt_iload_n d_EX_init_61 rfl ?_
  refine jt_new (ci := 0) (fs := [.null, .null, .null, .int (jI 0)]) d_EX_init_62 rfl nw_EX_11 pd_TR (show 28 + 1 ≤ 32 by omega) (show 1542 + 4 ≤ 1666 by omega) ?_
  refine jt_dup d_EX_init_65 rfl ?_
  refine jt_bipush d_EX_init_66 (by omega) ?_
  refine jt_callI (Y := Y_TR_init) (b := b + 34) (As := [.int (jI 40)]) (rest := [.ref (b + 34), .int (jI 5), .ref (b + 6)]) (rm := iR (d + 1) 3 120) d_EX_init_68 EX_c21 yk_TR_init yv_TR_init rfl rfl rfl rfl (Nat.le_of_ble_eq_true rfl) (show d + 1 + 1 ≤ d + 2 by omega) (show 8 + (2 + 11) + (d + 1) * 40 ≤ (d + 2) * 40 by omega) (show 29 + 3 ≤ 32 by omega) (show 1546 + 120 ≤ 1666 by omega) (i_TR G _ b 34 40 (aV 12 12) _ (by decide) rfl (by rw [cc_8 (k := 35) (n := 40) rfl rfl, aV_0 (by decide) (by decide) (by decide)]) (by rw [cc_8 (k := 36) (n := 40) rfl rfl, aV_0 (by decide) (by decide) (by decide)]) (by rw [cc_8 (k := 37) (n := 40) rfl rfl, aV_0 (by decide) (by decide) (by decide)])) (fun rv f' sz' hq => ?_)
  obtain ⟨rfl, rfl, rfl⟩ := hq
  refine jt_fe (sz' := b + 38) (f' := blk b (aV 12 12) 8 38 (va_up (va_up (va_up g (b + 5) (some (jOb 1 [.ref (b + 6), .ref (b + 7), .ref (b + 8), .ref (b + 12), .ref (b + 13), .int (jI 0), .int (jI 0)]))) (b + 6) (some (jAR 3 6 (ju (ju (ju (ju (ju (fun _ => none) 0 (some (b + 14))) 1 (some (b + 18))) 2 (some (b + 22))) 3 (some (b + 26))) 4 (some (b + 30)))))) (b + 7) (some (jAI 6 (ju (ju (ju (ju (ju (fun _ => 0) 0 (-1)) 1 (-1)) 2 (-1)) 3 (-1)) 4 (-1)))))) (blk_5 b (aV 12 12) (k := 8) (m := 34) (m2 := 38) _ (by decide) (by decide)) rfl ?_
  refine jt_aastore (ci := 0) (n := 6) (t := 3) (v := b + 34) d_EX_init_71 jTy_3 rfl (by rw [blk_out b (aV 12 12) _ _ _ (Or.inl (by decide)), va_up_ne _ _ (by omega), va_up_self]) (by rw [blk_in b (aV 12 12) _ _ _ (by decide) (by decide), cc_1 (k := 34) rfl]) (by omega) (by omega) (by omega) ?_
  refine jt_fe (f' := blk b (aV 12 12) 8 38 (va_up (va_up (va_up g (b + 5) (some (jOb 1 [.ref (b + 6), .ref (b + 7), .ref (b + 8), .ref (b + 12), .ref (b + 13), .int (jI 0), .int (jI 0)]))) (b + 6) (some (jAR 3 6 (ju (ju (ju (ju (ju (ju (fun _ => none) 0 (some (b + 14))) 1 (some (b + 18))) 2 (some (b + 22))) 3 (some (b + 26))) 4 (some (b + 30))) 5 (some (b + 34)))))) (b + 7) (some (jAI 6 (ju (ju (ju (ju (ju (fun _ => 0) 0 (-1)) 1 (-1)) 2 (-1)) 3 (-1)) 4 (-1)))))) ((blk_w b (aV 12 12) _ (by decide)).trans (congrArg (blk b (aV 12 12) 8 38) (gup3 _ _ _ _ (by omega)))) rfl ?_
  refine jt_aload_n d_EX_init_72 rfl ?_
  refine jt_getf d_EX_init_73 EX_f17 (by rw [blk_out b (aV 12 12) _ _ _ (Or.inl (by decide)), va_up_ne _ _ (by omega), va_up_ne _ _ (by omega), va_up_self]) rfl ?_
  refine jt_iload_n d_EX_init_76 rfl ?_
  refine jt_iconst d_EX_init_77 ?_
  refine jt_iastore (n := 6) d_EX_init_78 (by rw [blk_out b (aV 12 12) _ _ _ (Or.inl (by decide)), va_up_self]) (by omega) (by omega) (by omega) ?_
  refine jt_fe (f' := blk b (aV 12 12) 8 38 (va_up (va_up (va_up g (b + 5) (some (jOb 1 [.ref (b + 6), .ref (b + 7), .ref (b + 8), .ref (b + 12), .ref (b + 13), .int (jI 0), .int (jI 0)]))) (b + 6) (some (jAR 3 6 (ju (ju (ju (ju (ju (ju (fun _ => none) 0 (some (b + 14))) 1 (some (b + 18))) 2 (some (b + 22))) 3 (some (b + 26))) 4 (some (b + 30))) 5 (some (b + 34)))))) (b + 7) (some (jAI 6 (ju (ju (ju (ju (ju (ju (fun _ => 0) 0 (-1)) 1 (-1)) 2 (-1)) 3 (-1)) 4 (-1)) 5 (-1)))))) ((blk_w b (aV 12 12) _ (by decide)).trans (congrArg (blk b (aV 12 12) 8 38) (bx_uu _ _ _ _))) rfl ?_
  refine jt_iinc (L' := [(0, .ref (b + 5)), (1, .int (jI 6))]) d_EX_init_79 rfl (Nat.le_of_ble_eq_true rfl) rfl ?_
  refine jt_goto (t := 51) d_EX_init_82 rfl ?_
  show jt _ 51 [(0, .ref (b + 5)), (1, .int (jI 6))] [] (blk b (aV 12 12) 8 38 (va_up (va_up (va_up g (b + 5) (some (jOb 1 [.ref (b + 6), .ref (b + 7), .ref (b + 8), .ref (b + 12), .ref (b + 13), .int (jI 0), .int (jI 0)]))) (b + 6) (some (jAR 3 6 (ju (ju (ju (ju (ju (ju (fun _ => none) 0 (some (b + 14))) 1 (some (b + 18))) 2 (some (b + 22))) 3 (some (b + 26))) 4 (some (b + 30))) 5 (some (b + 34)))))) (b + 7) (some (jAI 6 (ju (ju (ju (ju (ju (ju (fun _ => 0) 0 (-1)) 1 (-1)) 2 (-1)) 3 (-1)) 4 (-1)) 5 (-1)))))) _ _ _
  refine jt_iload_n d_EX_init_51 rfl ?_
  refine jt_bipush d_EX_init_52 (by omega) ?_
  refine jt_icmp_ge (t := 85) d_EX_init_54 rfl (by unfold jRi; omega) (by unfold jRi; omega) (fun c => ?_) (fun c => absurd c (by omega))
  exact jt_vret d_EX_init_85 rfl (show 32 ≤ 32 by omega) (show 1666 ≤ 1666 by omega) ⟨rfl, (blk_4 b (aV 12 12) (k := 7) _ eP (by decide)).trans ((blk_4 b (aV 12 12) (k := 6) _ eQ (by decide)).trans (blk_4 b (aV 12 12) (k := 5) g rfl (by decide))), rfl⟩
set_option maxRecDepth 100000 in
set_option maxHeartbeats 1000000 in
theorem i_GC_0 (G : jG) (d b : Nat) (g : jF) : jct G Y_GC_init (iR (d + 5) 471 7153) [.ref (b + 0)] (va_up g (b + 0) (some (jOb 7 [.null, .null, .null, .null, .null, .null, .null, .int (jI 0), .int (jI 0), .int (jI 0)]))) (b + 1) (fun rv f' sz' => rv = none ∧ f' = blk b (aV 12 12) 0 472 g ∧ sz' = b + 472) := by
  refine jct_of (by decide) (Nat.le_of_ble_eq_true rfl) ?_
  show jt _ 0 [(0, .ref (b + 0))] [] _ _ _ _
  refine jt_fe (f' := blk b (aV 12 12) 1 1 (va_up g (b + 0) (some (jOb 7 [.null, .null, .null, .null, .null, .null, .null, .int (jI 0), .int (jI 0), .int (jI 0)])))) (blk_nil _ _ _ _).symm rfl ?_
  refine jt_aload_n d_GC_init_0 rfl ?_
  refine jt_objInit d_GC_init_1 GC_o1 (show 0 + 12 ≤ (d + 5) * 40 by omega) (show 1 ≤ d + 5 by omega) ?_
  refine jt_aload_n d_GC_init_4 rfl ?_
  refine jt_new (ci := 0) (fs := [.null, .null, .null, .int (jI 0)]) d_GC_init_5 rfl nw_GC_7 pd_TR (show 0 + 1 ≤ 471 by omega) (show 0 + 4 ≤ 7153 by omega) ?_
  refine jt_dup d_GC_init_8 rfl ?_
  refine jt_bipush d_GC_init_9 (by omega) ?_
  refine jt_callI (Y := Y_TR_init) (b := b + 1) (As := [.int (jI 120)]) (rest := [.ref (b + 1), .ref (b + 0)]) (rm := iR (d + 4) 3 360) d_GC_init_11 GC_c11 yk_TR_init yv_TR_init rfl rfl rfl rfl (Nat.le_of_ble_eq_true rfl) (show d + 4 + 1 ≤ d + 5 by omega) (show 8 + (2 + 11) + (d + 4) * 40 ≤ (d + 5) * 40 by omega) (show 1 + 3 ≤ 471 by omega) (show 4 + 360 ≤ 7153 by omega) (i_TR G _ b 1 120 (aV 12 12) _ (by decide) rfl (by rw [cc_8 (k := 2) (n := 120) rfl rfl, aV_0 (by decide) (by decide) (by decide)]) (by rw [cc_8 (k := 3) (n := 120) rfl rfl, aV_0 (by decide) (by decide) (by decide)]) (by rw [cc_8 (k := 4) (n := 120) rfl rfl, aV_0 (by decide) (by decide) (by decide)])) (fun rv f' sz' hq => ?_)
  obtain ⟨rfl, rfl, rfl⟩ := hq
  refine jt_fe (sz' := b + 5) (f' := blk b (aV 12 12) 1 5 (va_up g (b + 0) (some (jOb 7 [.null, .null, .null, .null, .null, .null, .null, .int (jI 0), .int (jI 0), .int (jI 0)])))) (blk_5 b (aV 12 12) (k := 1) (m := 1) (m2 := 5) _ (by decide) (by decide)) rfl ?_
  refine jt_putf d_GC_init_14 (GC_w14 _ rfl rfl) (by rw [blk_out b (aV 12 12) _ _ _ (Or.inl (by decide)), va_up_self]) rfl rfl (Nat.le_of_ble_eq_true rfl) ?_
  refine jt_fe (f' := blk b (aV 12 12) 1 5 (va_up g (b + 0) (some (jOb 7 [.ref (b + 1), .null, .null, .null, .null, .null, .null, .int (jI 0), .int (jI 0), .int (jI 0)])))) (blk_3 b (aV 12 12) g (by decide)) rfl ?_
  refine jt_aload_n d_GC_init_17 rfl ?_
  refine jt_new (ci := 1) (fs := [.null, .null, .null, .null, .null, .int (jI 0), .int (jI 0)]) d_GC_init_18 rfl nw_GC_18 pd_EX (show 4 + 1 ≤ 471 by omega) (show 364 + 7 ≤ 7153 by omega) ?_
  refine jt_dup d_GC_init_21 rfl ?_
  refine jt_callI (Y := Y_EX_init) (b := b + 5) (As := []) (rest := [.ref (b + 5), .ref (b + 0)]) (rm := iR (d + 4) 32 1666) d_GC_init_22 GC_c20 yk_EX_init yv_EX_init rfl rfl rfl rfl (Nat.le_of_ble_eq_true rfl) (show d + 4 + 1 ≤ d + 5 by omega) (show 8 + (2 + 11) + (d + 4) * 40 ≤ (d + 5) * 40 by omega) (show 5 + 32 ≤ 471 by omega) (show 371 + 1666 ≤ 7153 by omega) (i_EX_5 G _ b _) (fun rv f' sz' hq => ?_)
  obtain ⟨rfl, rfl, rfl⟩ := hq
  refine jt_fe (sz' := b + 38) (f' := blk b (aV 12 12) 1 38 (va_up g (b + 0) (some (jOb 7 [.ref (b + 1), .null, .null, .null, .null, .null, .null, .int (jI 0), .int (jI 0), .int (jI 0)])))) (blk_5 b (aV 12 12) (k := 1) (m := 5) (m2 := 38) _ (by decide) (by decide)) rfl ?_
  refine jt_putf d_GC_init_25 (GC_w21 _ rfl rfl) (by rw [blk_out b (aV 12 12) _ _ _ (Or.inl (by decide)), va_up_self]) rfl rfl (Nat.le_of_ble_eq_true rfl) ?_
  refine jt_fe (f' := blk b (aV 12 12) 1 38 (va_up g (b + 0) (some (jOb 7 [.ref (b + 1), .ref (b + 5), .null, .null, .null, .null, .null, .int (jI 0), .int (jI 0), .int (jI 0)])))) (blk_3 b (aV 12 12) g (by decide)) rfl ?_
  refine jt_aload_n d_GC_init_28 rfl ?_
  refine jt_new (ci := 2) (fs := [.null, .null, .int (jI 0), .int (jI 0), .int (jI 0), .null, .int (jI 0), .int (jI 0), .null, .int (jI 0), .null, .null, .null]) d_GC_init_29 rfl nw_GC_25 pd_RD (show 37 + 1 ≤ 471 by omega) (show 2037 + 13 ≤ 7153 by omega) ?_
  refine jt_dup d_GC_init_32 rfl ?_
  refine jt_callI (Y := Y_RD_init) (b := b + 38) (As := []) (rest := [.ref (b + 38), .ref (b + 0)]) (rm := iR (d + 4) 394 3795) d_GC_init_33 GC_c27 yk_RD_init yv_RD_init rfl rfl rfl rfl (Nat.le_of_ble_eq_true rfl) (show d + 4 + 1 ≤ d + 5 by omega) (show 8 + (1 + 11) + (d + 4) * 40 ≤ (d + 5) * 40 by omega) (show 38 + 394 ≤ 471 by omega) (show 2050 + 3795 ≤ 7153 by omega) (i_RD_38 G _ b _) (fun rv f' sz' hq => ?_)
  obtain ⟨rfl, rfl, rfl⟩ := hq
  refine jt_fe (sz' := b + 433) (f' := blk b (aV 12 12) 1 433 (va_up g (b + 0) (some (jOb 7 [.ref (b + 1), .ref (b + 5), .null, .null, .null, .null, .null, .int (jI 0), .int (jI 0), .int (jI 0)])))) (blk_5 b (aV 12 12) (k := 1) (m := 38) (m2 := 433) _ (by decide) (by decide)) rfl ?_
  refine jt_putf d_GC_init_36 (GC_w28 _ rfl rfl) (by rw [blk_out b (aV 12 12) _ _ _ (Or.inl (by decide)), va_up_self]) rfl rfl (Nat.le_of_ble_eq_true rfl) ?_
  refine jt_fe (f' := blk b (aV 12 12) 1 433 (va_up g (b + 0) (some (jOb 7 [.ref (b + 1), .ref (b + 5), .ref (b + 38), .null, .null, .null, .null, .int (jI 0), .int (jI 0), .int (jI 0)])))) (blk_3 b (aV 12 12) g (by decide)) rfl ?_
  refine jt_aload_n d_GC_init_39 rfl ?_
  refine jt_new (ci := 3) (fs := [.null, .null, .null, .null]) d_GC_init_40 rfl nw_GC_32 pd_VA (show 432 + 1 ≤ 471 by omega) (show 5845 + 4 ≤ 7153 by omega) ?_
  refine jt_dup d_GC_init_43 rfl ?_
  refine jt_callI (Y := Y_VA_init) (b := b + 433) (As := []) (rest := [.ref (b + 433), .ref (b + 0)]) (rm := iR (d + 4) 30 220) d_GC_init_44 GC_c34 yk_VA_init yv_VA_init rfl rfl rfl rfl (Nat.le_of_ble_eq_true rfl) (show d + 4 + 1 ≤ d + 5 by omega) (show 8 + (2 + 11) + (d + 4) * 40 ≤ (d + 5) * 40 by omega) (show 433 + 30 ≤ 471 by omega) (show 5849 + 220 ≤ 7153 by omega) (i_VA_433 G _ b _) (fun rv f' sz' hq => ?_)
  obtain ⟨rfl, rfl, rfl⟩ := hq
  refine jt_fe (sz' := b + 464) (f' := blk b (aV 12 12) 1 464 (va_up g (b + 0) (some (jOb 7 [.ref (b + 1), .ref (b + 5), .ref (b + 38), .null, .null, .null, .null, .int (jI 0), .int (jI 0), .int (jI 0)])))) (blk_5 b (aV 12 12) (k := 1) (m := 433) (m2 := 464) _ (by decide) (by decide)) rfl ?_
  refine jt_putf d_GC_init_47 (GC_w35 _ rfl rfl) (by rw [blk_out b (aV 12 12) _ _ _ (Or.inl (by decide)), va_up_self]) rfl rfl (Nat.le_of_ble_eq_true rfl) ?_
  refine jt_fe (f' := blk b (aV 12 12) 1 464 (va_up g (b + 0) (some (jOb 7 [.ref (b + 1), .ref (b + 5), .ref (b + 38), .ref (b + 433), .null, .null, .null, .int (jI 0), .int (jI 0), .int (jI 0)])))) (blk_3 b (aV 12 12) g (by decide)) rfl ?_
  refine jt_aload_n d_GC_init_50 rfl ?_
  refine jt_new (ci := 5) (fs := [.null, .null, .null, .int (jI 0)]) d_GC_init_51 rfl nw_GC_39 pd_OU (show 463 + 1 ≤ 471 by omega) (show 6069 + 4 ≤ 7153 by omega) ?_
  refine jt_dup d_GC_init_54 rfl ?_
  refine jt_callI (Y := Y_OU_init) (b := b + 464) (As := []) (rest := [.ref (b + 464), .ref (b + 0)]) (rm := iR (d + 4) 3 270) d_GC_init_55 GC_c41 yk_OU_init yv_OU_init rfl rfl rfl rfl (Nat.le_of_ble_eq_true rfl) (show d + 4 + 1 ≤ d + 5 by omega) (show 8 + (1 + 11) + (d + 4) * 40 ≤ (d + 5) * 40 by omega) (show 464 + 3 ≤ 471 by omega) (show 6073 + 270 ≤ 7153 by omega) (i_OU_464 G _ b _) (fun rv f' sz' hq => ?_)
  obtain ⟨rfl, rfl, rfl⟩ := hq
  refine jt_fe (sz' := b + 468) (f' := blk b (aV 12 12) 1 468 (va_up g (b + 0) (some (jOb 7 [.ref (b + 1), .ref (b + 5), .ref (b + 38), .ref (b + 433), .null, .null, .null, .int (jI 0), .int (jI 0), .int (jI 0)])))) (blk_5 b (aV 12 12) (k := 1) (m := 464) (m2 := 468) _ (by decide) (by decide)) rfl ?_
  refine jt_putf d_GC_init_58 (GC_w42 _ rfl rfl) (by rw [blk_out b (aV 12 12) _ _ _ (Or.inl (by decide)), va_up_self]) rfl rfl (Nat.le_of_ble_eq_true rfl) ?_
  refine jt_fe (f' := blk b (aV 12 12) 1 468 (va_up g (b + 0) (some (jOb 7 [.ref (b + 1), .ref (b + 5), .ref (b + 38), .ref (b + 433), .ref (b + 464), .null, .null, .int (jI 0), .int (jI 0), .int (jI 0)])))) (blk_3 b (aV 12 12) g (by decide)) rfl ?_
  refine jt_aload_n d_GC_init_61 rfl ?_
  refine jt_new (ci := 6) (fs := [.null, .null]) d_GC_init_62 rfl nw_GC_46 pd_PI (show 467 + 1 ≤ 471 by omega) (show 6343 + 2 ≤ 7153 by omega) ?_
  refine jt_dup d_GC_init_65 rfl ?_
  refine jt_callI (Y := Y_PI_init) (b := b + 468) (As := []) (rest := [.ref (b + 468), .ref (b + 0)]) (rm := iR (d + 4) 2 800) d_GC_init_66 GC_c48 yk_PI_init yv_PI_init rfl rfl rfl rfl (Nat.le_of_ble_eq_true rfl) (show d + 4 + 1 ≤ d + 5 by omega) (show 8 + (1 + 11) + (d + 4) * 40 ≤ (d + 5) * 40 by omega) (show 468 + 2 ≤ 471 by omega) (show 6345 + 800 ≤ 7153 by omega) (i_PI_468 G _ b _) (fun rv f' sz' hq => ?_)
  obtain ⟨rfl, rfl, rfl⟩ := hq
  refine jt_fe (sz' := b + 471) (f' := blk b (aV 12 12) 1 471 (va_up g (b + 0) (some (jOb 7 [.ref (b + 1), .ref (b + 5), .ref (b + 38), .ref (b + 433), .ref (b + 464), .null, .null, .int (jI 0), .int (jI 0), .int (jI 0)])))) (blk_5 b (aV 12 12) (k := 1) (m := 468) (m2 := 471) _ (by decide) (by decide)) rfl ?_
  refine jt_putf d_GC_init_69 (GC_w49 _ rfl rfl) (by rw [blk_out b (aV 12 12) _ _ _ (Or.inl (by decide)), va_up_self]) rfl rfl (Nat.le_of_ble_eq_true rfl) ?_
  refine jt_fe (f' := blk b (aV 12 12) 1 471 (va_up g (b + 0) (some (jOb 7 [.ref (b + 1), .ref (b + 5), .ref (b + 38), .ref (b + 433), .ref (b + 464), .ref (b + 468), .null, .int (jI 0), .int (jI 0), .int (jI 0)])))) (blk_3 b (aV 12 12) g (by decide)) rfl ?_
  refine jt_aload_n d_GC_init_72 rfl ?_
  refine jt_bipush d_GC_init_73 (by omega) ?_
  refine jt_newL (n := 8) d_GC_init_75 ac_long rfl (by omega) (show 470 + 1 ≤ 471 by omega) (show 7145 + 8 ≤ 7153 by omega) ?_
  refine jt_fe (sz' := b + 472) (f' := blk b (aV 12 12) 1 472 (va_up g (b + 0) (some (jOb 7 [.ref (b + 1), .ref (b + 5), .ref (b + 38), .ref (b + 433), .ref (b + 464), .ref (b + 468), .null, .int (jI 0), .int (jI 0), .int (jI 0)])))) (blk_1 b (aV 12 12) _ (Eq.symm (by rw [cc_9 (k := 471) (n := 8) rfl rfl, aV_0 (by decide) (by decide) (by decide)])) (by decide)) rfl ?_
  refine jt_putf d_GC_init_77 (GC_w53 _ rfl rfl) (by rw [blk_out b (aV 12 12) _ _ _ (Or.inl (by decide)), va_up_self]) rfl rfl (Nat.le_of_ble_eq_true rfl) ?_
  refine jt_fe (f' := blk b (aV 12 12) 1 472 (va_up g (b + 0) (some (jOb 7 [.ref (b + 1), .ref (b + 5), .ref (b + 38), .ref (b + 433), .ref (b + 464), .ref (b + 468), .ref (b + 471), .int (jI 0), .int (jI 0), .int (jI 0)])))) (blk_3 b (aV 12 12) g (by decide)) rfl ?_
  refine jt_aload_n d_GC_init_80 rfl ?_
  refine jt_iconst d_GC_init_81 ?_
  refine jt_putf d_GC_init_82 (GC_w57 _ rfl) (by rw [blk_out b (aV 12 12) _ _ _ (Or.inl (by decide)), va_up_self]) rfl rfl (Nat.le_of_ble_eq_true rfl) ?_
  refine jt_fe (f' := blk b (aV 12 12) 1 472 (va_up g (b + 0) (some (jOb 7 [.ref (b + 1), .ref (b + 5), .ref (b + 38), .ref (b + 433), .ref (b + 464), .ref (b + 468), .ref (b + 471), .int (jI 0), .int (jI 0), .int (jI (-1))])))) (blk_3 b (aV 12 12) g (by decide)) rfl ?_
  exact jt_vret d_GC_init_85 rfl (show 471 ≤ 471 by omega) (show 7153 ≤ 7153 by omega) ⟨rfl, blk_4 b (aV 12 12) g rfl (by decide), rfl⟩

set_option maxRecDepth 100000 in
set_option maxHeartbeats 1000000 in
theorem i_OU_464 (G : jG) (d b : Nat) (g : jF) : jct G Y_OU_init (iR (d + 1) 3 270) [.ref (b + 464)] (va_up g (b + 464) (some (jOb 5 [.null, .null, .null, .int (jI 0)]))) (b + 465) (fun rv f' sz' => rv = none ∧ f' = blk b (aV 12 12) 464 468 g ∧ sz' = b + 468) := by
  refine jct_of (by decide) (Nat.le_of_ble_eq_true rfl) ?_
  show jt _ 0 [(0, .ref (b + 464))] [] _ _ _ _
  refine jt_fe (f' := blk b (aV 12 12) 465 465 (va_up g (b + 464) (some (jOb 5 [.null, .null, .null, .int (jI 0)])))) (blk_nil _ _ _ _).symm rfl ?_
  refine jt_aload_n d_OU_init_0 rfl ?_
  refine jt_objInit d_OU_init_1 OU_o5 (show 0 + 12 ≤ (d + 1) * 40 by omega) (show 1 ≤ d + 1 by omega) ?_
  refine jt_aload_n d_OU_init_4 rfl ?_
  refine jt_bipush d_OU_init_5 (by omega) ?_
  refine jt_newI (n := 74) d_OU_init_7 ac_int rfl (by omega) (show 0 + 1 ≤ 3 by omega) (show 0 + 74 ≤ 270 by omega) ?_
  refine jt_fe (sz' := b + 466) (f' := blk b (aV 12 12) 465 466 (va_up g (b + 464) (some (jOb 5 [.null, .null, .null, .int (jI 0)])))) (blk_1 b (aV 12 12) _ (Eq.symm (by rw [cc_8 (k := 465) rfl rfl, aV_0 (by decide) (by decide) (by decide)])) (by decide)) rfl ?_
  refine jt_putf d_OU_init_9 (OU_w11 _ rfl rfl) (by rw [blk_out b (aV 12 12) _ _ _ (Or.inl (by decide)), va_up_self]) rfl rfl (Nat.le_of_ble_eq_true rfl) ?_
  refine jt_fe (f' := blk b (aV 12 12) 465 466 (va_up g (b + 464) (some (jOb 5 [.ref (b + 465), .null, .null, .int (jI 0)])))) (blk_3 b (aV 12 12) g (by decide)) rfl ?_
  refine jt_aload_n d_OU_init_12 rfl ?_
  refine jt_bipush d_OU_init_13 (by omega) ?_
  refine jt_newI (n := 98) d_OU_init_15 ac_int rfl (by omega) (show 1 + 1 ≤ 3 by omega) (show 74 + 98 ≤ 270 by omega) ?_
  refine jt_fe (sz' := b + 467) (f' := blk b (aV 12 12) 465 467 (va_up g (b + 464) (some (jOb 5 [.ref (b + 465), .null, .null, .int (jI 0)])))) (blk_1 b (aV 12 12) _ (Eq.symm (by rw [cc_8 (k := 466) rfl rfl, aV_0 (by decide) (by decide) (by decide)])) (by decide)) rfl ?_
  refine jt_putf d_OU_init_17 (OU_w15 _ rfl rfl) (by rw [blk_out b (aV 12 12) _ _ _ (Or.inl (by decide)), va_up_self]) rfl rfl (Nat.le_of_ble_eq_true rfl) ?_
  refine jt_fe (f' := blk b (aV 12 12) 465 467 (va_up g (b + 464) (some (jOb 5 [.ref (b + 465), .ref (b + 466), .null, .int (jI 0)])))) (blk_3 b (aV 12 12) g (by decide)) rfl ?_
  refine jt_aload_n d_OU_init_20 rfl ?_
  refine jt_bipush d_OU_init_21 (by omega) ?_
  refine jt_newI (n := 98) d_OU_init_23 ac_int rfl (by omega) (show 2 + 1 ≤ 3 by omega) (show 172 + 98 ≤ 270 by omega) ?_
  refine jt_fe (sz' := b + 468) (f' := blk b (aV 12 12) 465 468 (va_up g (b + 464) (some (jOb 5 [.ref (b + 465), .ref (b + 466), .null, .int (jI 0)])))) (blk_1 b (aV 12 12) _ (Eq.symm (by rw [cc_8 (k := 467) rfl rfl, aV_0 (by decide) (by decide) (by decide)])) (by decide)) rfl ?_
  refine jt_putf d_OU_init_25 (OU_w18 _ rfl rfl) (by rw [blk_out b (aV 12 12) _ _ _ (Or.inl (by decide)), va_up_self]) rfl rfl (Nat.le_of_ble_eq_true rfl) ?_
  refine jt_fe (f' := blk b (aV 12 12) 465 468 (va_up g (b + 464) (some (jOb 5 [.ref (b + 465), .ref (b + 466), .ref (b + 467), .int (jI 0)])))) (blk_3 b (aV 12 12) g (by decide)) rfl ?_
  exact jt_vret d_OU_init_28 rfl (show 3 ≤ 3 by omega) (show 270 ≤ 270 by omega) ⟨rfl, blk_4 b (aV 12 12) g rfl (by decide), rfl⟩
set_option maxRecDepth 100000 in
set_option maxHeartbeats 1000000 in
theorem i_PI_468 (G : jG) (d b : Nat) (g : jF) : jct G Y_PI_init (iR (d + 1) 2 800) [.ref (b + 468)] (va_up g (b + 468) (some (jOb 6 [.null, .null]))) (b + 469) (fun rv f' sz' => rv = none ∧ f' = blk b (aV 12 12) 468 471 g ∧ sz' = b + 471) := by
  refine jct_of (by decide) (Nat.le_of_ble_eq_true rfl) ?_
  show jt _ 0 [(0, .ref (b + 468))] [] _ _ _ _
  refine jt_fe (f' := blk b (aV 12 12) 469 469 (va_up g (b + 468) (some (jOb 6 [.null, .null])))) (blk_nil _ _ _ _).symm rfl ?_
  refine jt_aload_n d_PI_init_0 rfl ?_
  refine jt_objInit d_PI_init_1 PI_o3 (show 0 + 12 ≤ (d + 1) * 40 by omega) (show 1 ≤ d + 1 by omega) ?_
  refine jt_aload_n d_PI_init_4 rfl ?_
  refine jt_sipush d_PI_init_5 (by omega) ?_
  refine jt_newZ (n := 768) d_PI_init_8 ac_boolean rfl (by omega) (show 0 + 1 ≤ 2 by omega) (show 0 + 768 ≤ 800 by omega) ?_
  refine jt_fe (sz' := b + 470) (f' := blk b (aV 12 12) 469 470 (va_up g (b + 468) (some (jOb 6 [.null, .null])))) (blk_1 b (aV 12 12) _ (Eq.symm (by rw [cc_10 (k := 469) rfl rfl, aV_0 (by decide) (by decide) (by decide)])) (by decide)) rfl ?_
  refine jt_putf d_PI_init_10 (PI_w9 _ rfl rfl) (by rw [blk_out b (aV 12 12) _ _ _ (Or.inl (by decide)), va_up_self]) rfl rfl (Nat.le_of_ble_eq_true rfl) ?_
  refine jt_fe (f' := blk b (aV 12 12) 469 470 (va_up g (b + 468) (some (jOb 6 [.ref (b + 469), .null])))) (blk_3 b (aV 12 12) g (by decide)) rfl ?_
  refine jt_aload_n d_PI_init_13 rfl ?_
  refine jt_bipush d_PI_init_14 (by omega) ?_
  refine jt_newI (n := 32) d_PI_init_16 ac_int rfl (by omega) (show 1 + 1 ≤ 2 by omega) (show 768 + 32 ≤ 800 by omega) ?_
  refine jt_fe (sz' := b + 471) (f' := blk b (aV 12 12) 469 471 (va_up g (b + 468) (some (jOb 6 [.ref (b + 469), .null])))) (blk_1 b (aV 12 12) _ (Eq.symm (by rw [cc_8 (k := 470) rfl rfl, aV_0 (by decide) (by decide) (by decide)])) (by decide)) rfl ?_
  refine jt_putf d_PI_init_18 (PI_w15 _ rfl rfl) (by rw [blk_out b (aV 12 12) _ _ _ (Or.inl (by decide)), va_up_self]) rfl rfl (Nat.le_of_ble_eq_true rfl) ?_
  refine jt_fe (f' := blk b (aV 12 12) 469 471 (va_up g (b + 468) (some (jOb 6 [.ref (b + 469), .ref (b + 470)])))) (blk_3 b (aV 12 12) g (by decide)) rfl ?_
  exact jt_vret d_PI_init_21 rfl (show 2 ≤ 2 by omega) (show 800 ≤ 800 by omega) ⟨rfl, blk_4 b (aV 12 12) g rfl (by decide), rfl⟩

set_option maxRecDepth 100000 in
set_option maxHeartbeats 4000000 in
theorem v_PI_isBlack_x (G : jG) (d b : Nat) (i : Int) (j : Int) (I : Nat → Nat → Int) (A : Nat → Int → Int) (hI : cSI I) (hA : cSA A) (hi : 0 ≤ i ∧ i ≤ 31) (hj : 0 ≤ j ∧ j ≤ 23) : cct G Y_PI_isBlack d b [.ref (b + 468), .int (jI i), .int (jI j)] I A (fun (rv : Option Value) (I2 : Nat → Nat → Int) (A2 : Nat → Int → Int) => ∃ y : Int, rv = some (.int (jI y)) ∧ (0 ≤ y ∧ y ≤ 1) ∧ I2 = I ∧ A2 = A ∧ y = A 469 (j * 32 + i)) := by
  refine cct_of (by decide) (Nat.le_of_ble_eq_true rfl) (fun f0 sz => ?_)
  show jt _ 0 [(0, .ref (b + 468)), (1, .int (jI i)), (2, .int (jI j))] [] _ _ _ _
  have hz0 : cPx [] [] I A I A := cPx.refl hI hA
  refine jt_aload_n d_PI_isBlack_0 rfl ?_
  refine cm_get (k := 468) (v := .ref (b + 469)) d_PI_isBlack_1 PI_f9 (by decide) cc_7 rfl ?_
  refine jt_iload_n d_PI_isBlack_4 rfl ?_
  refine jt_bipush d_PI_isBlack_5 (by omega) ?_
  refine jt_imul d_PI_isBlack_7 ?_
  refine jt_iload_n d_PI_isBlack_8 rfl ?_
  refine jt_iadd d_PI_isBlack_9 ?_
  refine cm_ld2 (k := 469) (n := 768) (v := (A 469) ((j * 32) + i)) d_PI_isBlack_10 (by decide) rfl rfl (by omega) (by omega) (by omega) rfl ?_
  refine jt_topi (fun v1 ev1 => ?_)
  have bv1 : 0 ≤ v1 ∧ v1 ≤ 1 := by rw [ev1]; exact hz0.2.1 469 ((j * 32) + i)
  exact cm_ret d_PI_isBlack_11 rfl (jnz (by omega)) (⟨v1, rfl, by omega, rfl, rfl, by omega⟩)
set_option maxRecDepth 100000 in
set_option maxHeartbeats 4000000 in
theorem v_GC_black_x (G : jG) (d b : Nat) (i : Int) (j : Int) (I : Nat → Nat → Int) (A : Nat → Int → Int) (hI : cSI I) (hA : cSA A) (hi : -2147483648 ≤ i ∧ i ≤ 2147483647) (hj : -2147483648 ≤ j ∧ j ≤ 2147483647) : cct G Y_GC_black (d + 1) b [.ref (b + 0), .int (jI i), .int (jI j)] I A (fun (rv : Option Value) (I2 : Nat → Nat → Int) (A2 : Nat → Int → Int) => ∃ y : Int, rv = some (.int (jI y)) ∧ (0 ≤ y ∧ y ≤ 1) ∧ I2 = I ∧ A2 = A ∧ y = if i < 0 ∨ 31 < i ∨ j < 0 ∨ 23 < j then 0 else A 469 (j * 32 + i)) := by
  refine cct_of (by decide) (Nat.le_of_ble_eq_true rfl) (fun f0 sz => ?_)
  show jt _ 0 [(0, .ref (b + 0)), (1, .int (jI i)), (2, .int (jI j))] [] _ _ _ _
  have hz0 : cPx [] [] I A I A := cPx.refl hI hA
  refine jt_iload_n d_GC_black_0 rfl ?_
  refine jt_bipush d_GC_black_1 (by omega) ?_
  refine cct_callS (Y := Y_GC_isBelow) (As := [.int (jI i), .int (jI 32)]) (rest := []) d_GC_black_3 GC_c72 yk_GC_isBelow ys_GC_isBelow (Nat.le_of_ble_eq_true rfl) rfl rfl (Nat.le_of_ble_eq_true rfl) (v_GC_isBelow_x G _ b i 32 I A hz0.1 hz0.2.1 (by omega) (by omega)) (fun rvq1 Iq1 Aq1 hq1 => ?_)
  obtain ⟨yq1, rfl, ryq1, hIq1, hAq1, hxq1⟩ := hq1
  rw [hIq1, hAq1]
  by_cases gbq1 : yq1 = 1
  · skip
    obtain rfl : yq1 = 1 := by omega
    have hwq1 := hxq1.1 rfl
    show jt _ 6 [(0, .ref (b + 0)), (1, .int (jI i)), (2, .int (jI j))] [.int (jI 1)] (cmf b f0 I A) _ _ _
    refine jt_if_eq (t := 34) d_GC_black_6 rfl (by unfold jRi; omega) (fun c2 => ?_) (fun c2 => ?_)
    · skip
      exfalso
      omega
    · skip
      refine jt_iload_n d_GC_black_9 rfl ?_
      refine jt_bipush d_GC_black_10 (by omega) ?_
      refine cct_callS (Y := Y_GC_isBelow) (As := [.int (jI j), .int (jI 24)]) (rest := []) d_GC_black_12 GC_c72 yk_GC_isBelow ys_GC_isBelow (Nat.le_of_ble_eq_true rfl) rfl rfl (Nat.le_of_ble_eq_true rfl) (v_GC_isBelow_x G _ b j 24 I A hz0.1 hz0.2.1 (by omega) (by omega)) (fun rvq3 Iq3 Aq3 hq3 => ?_)
      obtain ⟨yq3, rfl, ryq3, hIq3, hAq3, hxq3⟩ := hq3
      rw [hIq3, hAq3]
      by_cases gbq3 : yq3 = 1
      · skip
        obtain rfl : yq3 = 1 := by omega
        have hwq3 := hxq3.1 rfl
        show jt _ 15 [(0, .ref (b + 0)), (1, .int (jI i)), (2, .int (jI j))] [.int (jI 1)] (cmf b f0 I A) _ _ _
        refine jt_if_eq (t := 34) d_GC_black_15 rfl (by unfold jRi; omega) (fun c4 => ?_) (fun c4 => ?_)
        · skip
          exfalso
          omega
        · skip
          refine jt_aload_n d_GC_black_18 rfl ?_
          refine cm_get (k := 0) (v := .ref (b + 468)) d_GC_black_19 GC_f49 (by decide) cc_0 rfl ?_
          refine jt_iload_n d_GC_black_22 rfl ?_
          refine jt_iload_n d_GC_black_23 rfl ?_
          refine cct_callV (Y := Y_PI_isBlack) (ci := 6) (k := 468) (As := [.int (jI i), .int (jI j)]) (rest := []) d_GC_black_24 GC_c187 yk_PI_isBlack yv_PI_isBlack rfl (Nat.le_of_ble_eq_true rfl) (by decide) cc_7 rfl rfl (Nat.le_of_ble_eq_true rfl) (v_PI_isBlack_x G _ b i j I A hz0.1 hz0.2.1 (by omega) (by omega)) (fun rvq5 Iq5 Aq5 hq5 => ?_)
          obtain ⟨yq5, rfl, ryq5, hIq5, hAq5, hxq5⟩ := hq5
          rw [hIq5, hAq5]
          show jt _ 27 [(0, .ref (b + 0)), (1, .int (jI i)), (2, .int (jI j))] [.int (jI yq5)] (cmf b f0 I A) _ _ _
          refine jt_if_eq (t := 34) d_GC_black_27 rfl (by unfold jRi; omega) (fun c6 => ?_) (fun c6 => ?_)
          · skip
            refine jt_iconst d_GC_black_34 ?_
            exact cm_ret d_GC_black_35 rfl (jnz (by omega)) (⟨0, rfl, by omega, rfl, rfl, by rw [if_neg (by omega)]; omega⟩)
          · skip
            refine jt_iconst d_GC_black_30 ?_
            refine jt_goto (t := 35) d_GC_black_31 rfl ?_
            exact cm_ret d_GC_black_35 rfl (jnz (by omega)) (⟨1, rfl, by omega, rfl, rfl, by rw [if_neg (by omega)]; omega⟩)
      · skip
        obtain rfl : yq3 = 0 := by omega
        have hwq3 := hxq3.2 rfl
        show jt _ 15 [(0, .ref (b + 0)), (1, .int (jI i)), (2, .int (jI j))] [.int (jI 0)] (cmf b f0 I A) _ _ _
        refine jt_if_eq (t := 34) d_GC_black_15 rfl (by unfold jRi; omega) (fun c7 => ?_) (fun c7 => ?_)
        · skip
          refine jt_iconst d_GC_black_34 ?_
          exact cm_ret d_GC_black_35 rfl (jnz (by omega)) (⟨0, rfl, by omega, rfl, rfl, by rw [if_pos (by omega)]⟩)
        · skip
          exfalso
          omega
  · skip
    obtain rfl : yq1 = 0 := by omega
    have hwq1 := hxq1.2 rfl
    show jt _ 6 [(0, .ref (b + 0)), (1, .int (jI i)), (2, .int (jI j))] [.int (jI 0)] (cmf b f0 I A) _ _ _
    refine jt_if_eq (t := 34) d_GC_black_6 rfl (by unfold jRi; omega) (fun c8 => ?_) (fun c8 => ?_)
    · skip
      refine jt_iconst d_GC_black_34 ?_
      exact cm_ret d_GC_black_35 rfl (jnz (by omega)) (⟨0, rfl, by omega, rfl, rfl, by rw [if_pos (by omega)]⟩)
    · skip
      exfalso
      omega

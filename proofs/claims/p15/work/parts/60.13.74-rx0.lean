set_option maxRecDepth 100000 in
set_option maxHeartbeats 4000000 in
theorem v_RD_take_x (G : jG) (d b : Nat) (u : Int) (I : Nat → Nat → Int) (A : Nat → Int → Int) (hI : cSI I) (hA : cSA A) (X9 : Int → Int) (hX : A 40 = X9) (Y9 : Int → Int) (hY : A 41 = Y9) (N9 : Int) (hN : I 39 3 = N9) (hu : -2147483648 ≤ u ∧ u ≤ 2147483647) : cct G Y_RD_take d b [.ref (b + 38), .int (jI u)] I A (fun (rv : Option Value) (I2 : Nat → Nat → Int) (A2 : Nat → Int → Int) => ∃ y : Int, rv = some (.int (jI y)) ∧ (0 ≤ y ∧ y ≤ 1) ∧ cPx [610, 611] [] I A I2 A2 ∧ (y = 1 → xW N9 X9 Y9 (I 38 2) u ∧ I2 38 2 = I 38 2 + 1) ∧ (y = 0 → ¬ xV N9 X9 Y9 (I 38 2) u ∧ I2 38 2 = I 38 2 ∧ I2 38 3 = -8)) := by
  refine cct_of (by decide) (Nat.le_of_ble_eq_true rfl) (fun f0 sz => ?_)
  show jt _ 0 [(0, .ref (b + 38)), (1, .int (jI u))] [] _ _ _ _
  have r39 : 0 ≤ I 39 3 ∧ I 39 3 ≤ 300 := hI 39 3
  have hz0 : cPx [610, 611] [] I A I A := cPx.refl hI hA
  refine jt_aload_n d_RD_take_0 rfl ?_
  refine cm_get (k := 38) (v := .int (jI (I 38 2))) d_RD_take_1 RD_f60 (by decide) cc_3 rfl ?_
  have rb1 : 0 ≤ I 38 2 ∧ I 38 2 ≤ 300 := hz0.1 38 2
  refine jt_aload_n d_RD_take_4 rfl ?_
  refine cm_get (k := 38) (v := .ref (b + 39)) d_RD_take_5 RD_f14 (by decide) cc_3 rfl ?_
  refine cm_get (k := 39) (v := .int (jI (I 39 3))) d_RD_take_8 RD_f105 (by decide) (cc_1 rfl) rfl ?_
  have rb2 : 0 ≤ I 39 3 ∧ I 39 3 ≤ 300 := hz0.1 39 3
  refine jt_icmp_ge (t := 50) d_RD_take_11 rfl (by unfold jRi; omega) (by unfold jRi; omega) (fun c3 => ?_) (fun c3 => ?_)
  · skip
    refine jt_iconst d_RD_take_50 ?_
    refine jt_istore_n (L' := [(0, .ref (b + 38)), (1, .int (jI u)), (2, .int (jI 0))]) d_RD_take_51 (Nat.le_of_ble_eq_true rfl) rfl ?_
    refine jt_iload_n d_RD_take_52 rfl ?_
    refine jt_if_eq (t := 69) d_RD_take_53 rfl (by unfold jRi; omega) (fun c4 => ?_) (fun c4 => ?_)
    · skip
      refine jt_aload_n d_RD_take_69 rfl ?_
      refine jt_bipush d_RD_take_70 (by omega) ?_
      refine cm_put (k := 38) (j := 3) (v := (-8)) d_RD_take_72 (RD_w111 _ rfl) (by decide) cc_3 rfl rfl (Nat.le_of_ble_eq_true rfl) rfl ?_
      have p5 := cPx.I 38 3 (-8) hz0 rfl (show -2147483648 ≤ -8 ∧ -8 ≤ 2147483647 by omega)
      refine jt_iload_n d_RD_take_75 rfl ?_
      exact cm_ret d_RD_take_76 rfl (jnz (by omega)) (⟨0, rfl, by omega, p5, fun z => absurd z (by omega), fun _ => ⟨fun z => by unfold xV at z; omega, rfl, rfl⟩⟩)
    · skip
      exfalso
      omega
  · skip
    refine jt_aload_n d_RD_take_14 rfl ?_
    refine cm_get (k := 38) (v := .ref (b + 39)) d_RD_take_15 RD_f14 (by decide) cc_3 rfl ?_
    refine cm_get (k := 39) (v := .ref (b + 40)) d_RD_take_18 RD_f108 (by decide) (cc_1 rfl) rfl ?_
    refine jt_aload_n d_RD_take_21 rfl ?_
    refine cm_get (k := 38) (v := .int (jI (I 38 2))) d_RD_take_22 RD_f60 (by decide) cc_3 rfl ?_
    refine cm_ld0 (k := 40) (n := 300) (v := (A 40) (I 38 2)) d_RD_take_25 (by decide) rfl rfl (by omega) (by omega) (by omega) rfl ?_
    refine jt_topi (fun v6 ev6 => ?_)
    have bv6 : -2147483648 ≤ v6 ∧ v6 ≤ 2147483647 := by rw [ev6]; exact hz0.2.1 40 (I 38 2)
    rw [hX] at ev6
    refine jt_iconst d_RD_take_26 ?_
    refine jt_icmp_ne (t := 50) d_RD_take_27 rfl (by unfold jRi; omega) (by unfold jRi; omega) (fun c7 => ?_) (fun c7 => ?_)
    · skip
      refine jt_iconst d_RD_take_50 ?_
      refine jt_istore_n (L' := [(0, .ref (b + 38)), (1, .int (jI u)), (2, .int (jI 0))]) d_RD_take_51 (Nat.le_of_ble_eq_true rfl) rfl ?_
      refine jt_iload_n d_RD_take_52 rfl ?_
      refine jt_if_eq (t := 69) d_RD_take_53 rfl (by unfold jRi; omega) (fun c8 => ?_) (fun c8 => ?_)
      · skip
        refine jt_aload_n d_RD_take_69 rfl ?_
        refine jt_bipush d_RD_take_70 (by omega) ?_
        refine cm_put (k := 38) (j := 3) (v := (-8)) d_RD_take_72 (RD_w111 _ rfl) (by decide) cc_3 rfl rfl (Nat.le_of_ble_eq_true rfl) rfl ?_
        have p9 := cPx.I 38 3 (-8) hz0 rfl (show -2147483648 ≤ -8 ∧ -8 ≤ 2147483647 by omega)
        refine jt_iload_n d_RD_take_75 rfl ?_
        exact cm_ret d_RD_take_76 rfl (jnz (by omega)) (⟨0, rfl, by omega, p9, fun z => absurd z (by omega), fun _ => ⟨fun z => by unfold xV at z; omega, rfl, rfl⟩⟩)
      · skip
        exfalso
        omega
    · skip
      refine jt_aload_n d_RD_take_30 rfl ?_
      refine cm_get (k := 38) (v := .ref (b + 39)) d_RD_take_31 RD_f14 (by decide) cc_3 rfl ?_
      refine cm_get (k := 39) (v := .ref (b + 41)) d_RD_take_34 RD_f67 (by decide) (cc_1 rfl) rfl ?_
      refine jt_aload_n d_RD_take_37 rfl ?_
      refine cm_get (k := 38) (v := .int (jI (I 38 2))) d_RD_take_38 RD_f60 (by decide) cc_3 rfl ?_
      refine cm_ld0 (k := 41) (n := 300) (v := (A 41) (I 38 2)) d_RD_take_41 (by decide) rfl rfl (by omega) (by omega) (by omega) rfl ?_
      refine jt_topi (fun v10 ev10 => ?_)
      have bv10 : -2147483648 ≤ v10 ∧ v10 ≤ 2147483647 := by rw [ev10]; exact hz0.2.1 41 (I 38 2)
      rw [hY] at ev10
      refine jt_iload_n d_RD_take_42 rfl ?_
      refine jt_icmp_ne (t := 50) d_RD_take_43 rfl (by unfold jRi; omega) (by unfold jRi; omega) (fun c11 => ?_) (fun c11 => ?_)
      · skip
        refine jt_iconst d_RD_take_50 ?_
        refine jt_istore_n (L' := [(0, .ref (b + 38)), (1, .int (jI u)), (2, .int (jI 0))]) d_RD_take_51 (Nat.le_of_ble_eq_true rfl) rfl ?_
        refine jt_iload_n d_RD_take_52 rfl ?_
        refine jt_if_eq (t := 69) d_RD_take_53 rfl (by unfold jRi; omega) (fun c12 => ?_) (fun c12 => ?_)
        · skip
          refine jt_aload_n d_RD_take_69 rfl ?_
          refine jt_bipush d_RD_take_70 (by omega) ?_
          refine cm_put (k := 38) (j := 3) (v := (-8)) d_RD_take_72 (RD_w111 _ rfl) (by decide) cc_3 rfl rfl (Nat.le_of_ble_eq_true rfl) rfl ?_
          have p13 := cPx.I 38 3 (-8) hz0 rfl (show -2147483648 ≤ -8 ∧ -8 ≤ 2147483647 by omega)
          refine jt_iload_n d_RD_take_75 rfl ?_
          exact cm_ret d_RD_take_76 rfl (jnz (by omega)) (⟨0, rfl, by omega, p13, fun z => absurd z (by omega), fun _ => ⟨fun z => by unfold xV at z; omega, rfl, rfl⟩⟩)
        · skip
          exfalso
          omega
      · skip
        refine jt_iconst d_RD_take_46 ?_
        refine jt_goto (t := 51) d_RD_take_47 rfl ?_
        refine jt_istore_n (L' := [(0, .ref (b + 38)), (1, .int (jI u)), (2, .int (jI 1))]) d_RD_take_51 (Nat.le_of_ble_eq_true rfl) rfl ?_
        refine jt_iload_n d_RD_take_52 rfl ?_
        refine jt_if_eq (t := 69) d_RD_take_53 rfl (by unfold jRi; omega) (fun c14 => ?_) (fun c14 => ?_)
        · skip
          exfalso
          omega
        · skip
          refine jt_aload_n d_RD_take_56 rfl ?_
          refine jt_dup d_RD_take_57 rfl ?_
          refine cm_get (k := 38) (v := .int (jI (I 38 2))) d_RD_take_58 RD_f60 (by decide) cc_3 rfl ?_
          refine jt_iconst d_RD_take_61 ?_
          refine jt_iadd d_RD_take_62 ?_
          refine jt_topi (fun v15 ev15 => ?_)
          refine cm_put (k := 38) (j := 2) (v := v15) d_RD_take_63 (RD_w60 _ rfl) (by decide) cc_3 rfl rfl (Nat.le_of_ble_eq_true rfl) rfl ?_
          have p16 := cPx.I 38 2 v15 hz0 rfl (show 0 ≤ v15 ∧ v15 ≤ 300 by omega)
          refine jt_goto (t := 75) d_RD_take_66 rfl ?_
          refine jt_iload_n d_RD_take_75 rfl ?_
          exact cm_ret d_RD_take_76 rfl (jnz (by omega)) (⟨1, rfl, by omega, p16, fun _ => ⟨by omega, show v15 = I 38 2 + 1 by omega⟩, fun z => absurd z (by omega)⟩)
set_option maxRecDepth 100000 in
set_option maxHeartbeats 4000000 in
theorem v_RD_check_x (G : jG) (d b : Nat) (n : Int) (I : Nat → Nat → Int) (A : Nat → Int → Int) (hI : cSI I) (hA : cSA A) (hn : 0 ≤ n ∧ n ≤ 1) : cct G Y_RD_check d b [.ref (b + 38), .int (jI n)] I A (fun (rv : Option Value) (I2 : Nat → Nat → Int) (A2 : Nat → Int → Int) => ∃ y : Int, rv = some (.int (jI y)) ∧ (y = 1) ∧ cPx [615] [] I A I2 A2 ∧ cK (I2 38 7) (I 38 7) n) := by
  refine cct_of (by decide) (Nat.le_of_ble_eq_true rfl) (fun f0 sz => ?_)
  show jt _ 0 [(0, .ref (b + 38)), (1, .int (jI n))] [] _ _ _ _
  have hz0 : cPx [615] [] I A I A := cPx.refl hI hA
  refine jt_aload_n d_RD_check_0 rfl ?_
  refine jt_aload_n d_RD_check_1 rfl ?_
  refine cm_get (k := 38) (v := .int (jI (I 38 7))) d_RD_check_2 RD_f56 (by decide) cc_3 rfl ?_
  have rb1 : 0 ≤ I 38 7 ∧ I 38 7 ≤ 1 := hz0.1 38 7
  refine jt_if_eq (t := 16) d_RD_check_5 rfl (by unfold jRi; omega) (fun c2 => ?_) (fun c2 => ?_)
  · skip
    refine jt_iconst d_RD_check_16 ?_
    refine cm_put (k := 38) (j := 7) (v := 0) d_RD_check_17 (RD_w56 _ rfl) (by decide) cc_3 (jnz (by omega)) rfl (Nat.le_of_ble_eq_true rfl) rfl ?_
    have p3 := cPx.I 38 7 0 hz0 rfl (show 0 ≤ 0 ∧ 0 ≤ 1 by omega)
    refine jt_iconst d_RD_check_20 ?_
    exact cm_ret d_RD_check_21 rfl (jnz (by omega)) (⟨1, rfl, rfl, p3, show 0 = 1 ↔ (I 38 7 = 1 ∧ n = 1) by omega⟩)
  · skip
    refine jt_iload_n d_RD_check_8 rfl ?_
    refine jt_if_eq (t := 16) d_RD_check_9 rfl (by unfold jRi; omega) (fun c4 => ?_) (fun c4 => ?_)
    · skip
      refine jt_iconst d_RD_check_16 ?_
      refine cm_put (k := 38) (j := 7) (v := 0) d_RD_check_17 (RD_w56 _ rfl) (by decide) cc_3 (jnz (by omega)) rfl (Nat.le_of_ble_eq_true rfl) rfl ?_
      have p5 := cPx.I 38 7 0 hz0 rfl (show 0 ≤ 0 ∧ 0 ≤ 1 by omega)
      refine jt_iconst d_RD_check_20 ?_
      exact cm_ret d_RD_check_21 rfl (jnz (by omega)) (⟨1, rfl, rfl, p5, show 0 = 1 ↔ (I 38 7 = 1 ∧ n = 1) by omega⟩)
    · skip
      refine jt_iconst d_RD_check_12 ?_
      refine jt_goto (t := 17) d_RD_check_13 rfl ?_
      refine cm_put (k := 38) (j := 7) (v := 1) d_RD_check_17 (RD_w56 _ rfl) (by decide) cc_3 (jnz (by omega)) rfl (Nat.le_of_ble_eq_true rfl) rfl ?_
      have p6 := cPx.I 38 7 1 hz0 rfl (show 0 ≤ 1 ∧ 1 ≤ 1 by omega)
      refine jt_iconst d_RD_check_20 ?_
      exact cm_ret d_RD_check_21 rfl (jnz (by omega)) (⟨1, rfl, rfl, p6, show 1 = 1 ↔ (I 38 7 = 1 ∧ n = 1) by omega⟩)

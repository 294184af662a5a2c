set_option maxRecDepth 100000 in
set_option maxHeartbeats 4000000 in
theorem v_RD_countLeg (G : jG) (d b : Nat) (c : Int) (I : Nat → Nat → Int) (A : Nat → Int → Int) (hI : cSI I) (hA : cSA A) (hc : 0 ≤ c ∧ c ≤ 1) (hl : I 38 9 < 2000) : cct G Y_RD_countLeg d b [.ref (b + 38), .int (jI c)] I A (fun (rv : Option Value) (I2 : Nat → Nat → Int) (A2 : Nat → Int → Int) => rv = none ∧ cPo [617] [375] I A I2 A2 ∧ I2 38 9 = I 38 9 + 1) := by
  refine cct_of (by decide) (Nat.le_of_ble_eq_true rfl) (fun f0 sz => ?_)
  show jt _ 0 [(0, .ref (b + 38)), (1, .int (jI c))] [] _ _ _ _
  have hz0 : cPo [617] [375] I A I A := cPo.refl hI hA
  refine jt_aload_n d_RD_countLeg_0 rfl ?_
  refine cm_get (k := 38) (v := .int (jI (I 38 9))) d_RD_countLeg_1 RD_f53 (by decide) cc_3 rfl ?_
  have rb1 : 0 ≤ I 38 9 ∧ I 38 9 ≤ 2000 := hz0.1 38 9
  refine jt_bipush d_RD_countLeg_4 (by omega) ?_
  refine jt_icmp_ge (t := 19) d_RD_countLeg_6 rfl (by unfold jRi; omega) (by unfold jRi; omega) (fun c2 => ?_) (fun c2 => ?_)
  · skip
    refine jt_aload_n d_RD_countLeg_19 rfl ?_
    refine jt_dup d_RD_countLeg_20 rfl ?_
    refine cm_get (k := 38) (v := .int (jI (I 38 9))) d_RD_countLeg_21 RD_f53 (by decide) cc_3 rfl ?_
    refine jt_iconst d_RD_countLeg_24 ?_
    refine jt_iadd d_RD_countLeg_25 ?_
    refine jt_topi (fun v3 ev3 => ?_)
    refine cm_put (k := 38) (j := 9) (v := v3) d_RD_countLeg_26 (RD_w53 _ rfl) (by decide) cc_3 rfl rfl (Nat.le_of_ble_eq_true rfl) rfl ?_
    have p4 := cPo.I 38 9 v3 hz0 rfl (show 0 ≤ v3 ∧ v3 ≤ 2000 by omega)
    exact cm_vret d_RD_countLeg_29 rfl (⟨rfl, p4, show v3 = I 38 9 + 1 by omega⟩)
  · skip
    refine jt_aload_n d_RD_countLeg_9 rfl ?_
    refine cm_get (k := 38) (v := .ref (b + 375)) d_RD_countLeg_10 RD_f36 (by decide) cc_3 rfl ?_
    refine jt_aload_n d_RD_countLeg_13 rfl ?_
    refine cm_get (k := 38) (v := .int (jI (I 38 9))) d_RD_countLeg_14 RD_f53 (by decide) cc_3 rfl ?_
    refine jt_iload_n d_RD_countLeg_17 rfl ?_
    refine cm_st2 (k := 375) (n := 12) (v := c) d_RD_countLeg_18 (by decide) rfl rfl (by omega) (by omega) (by omega) (by omega) ?_
    have p5 := cPo.A 375 (ju (A 375) (I 38 9) c) hz0 (Or.inl rfl) (gju (hz0.2.1 375) (show 0 ≤ c ∧ c ≤ 1 by omega))
    refine jt_aload_n d_RD_countLeg_19 rfl ?_
    refine jt_dup d_RD_countLeg_20 rfl ?_
    refine cm_get (k := 38) (v := .int (jI (I 38 9))) d_RD_countLeg_21 RD_f53 (by decide) cc_3 rfl ?_
    refine jt_iconst d_RD_countLeg_24 ?_
    refine jt_iadd d_RD_countLeg_25 ?_
    refine jt_topi (fun v6 ev6 => ?_)
    refine cm_put (k := 38) (j := 9) (v := v6) d_RD_countLeg_26 (RD_w53 _ rfl) (by decide) cc_3 rfl rfl (Nat.le_of_ble_eq_true rfl) rfl ?_
    have p7 := cPo.I 38 9 v6 p5 rfl (show 0 ≤ v6 ∧ v6 ≤ 2000 by omega)
    exact cm_vret d_RD_countLeg_29 rfl (⟨rfl, p7, show v6 = I 38 9 + 1 by omega⟩)
set_option maxRecDepth 100000 in
set_option maxHeartbeats 4000000 in
theorem v_RD_keep (G : jG) (d b : Nat)  (I : Nat → Nat → Int) (A : Nat → Int → Int) (hI : cSI I) (hA : cSA A) : cct G Y_RD_keep (d + 1) b [.ref (b + 38)] I A (fun (rv : Option Value) (I2 : Nat → Nat → Int) (A2 : Nat → Int → Int) => ∃ y : Int, rv = some (.int (jI y)) ∧ (0 ≤ y ∧ y ≤ 1) ∧ cPo [614] [] I A I2 A2) := by
  refine cct_of (by decide) (Nat.le_of_ble_eq_true rfl) (fun f0 sz => ?_)
  show jt _ 0 [(0, .ref (b + 38))] [] _ _ _ _
  have hz0 : cPo [614] [] I A I A := cPo.refl hI hA
  refine jt_aload_n d_RD_keep_0 rfl ?_
  refine cm_get (k := 38) (v := .int (jI (I 38 6))) d_RD_keep_1 RD_f49 (by decide) cc_3 rfl ?_
  have rb1 : 0 ≤ I 38 6 ∧ I 38 6 ≤ 150 := hz0.1 38 6
  refine jt_sipush d_RD_keep_4 (by omega) ?_
  refine jt_icmp_ge (t := 38) d_RD_keep_7 rfl (by unfold jRi; omega) (by unfold jRi; omega) (fun c2 => ?_) (fun c2 => ?_)
  · skip
    refine jt_iconst d_RD_keep_38 ?_
    exact cm_ret d_RD_keep_39 rfl (jnz (by omega)) (⟨1, rfl, by omega, hz0⟩)
  · skip
    refine jt_aload_n d_RD_keep_10 rfl ?_
    refine cm_get (k := 38) (v := .ref (b + 74)) d_RD_keep_11 RD_f32 (by decide) cc_3 rfl ?_
    refine jt_aload_n d_RD_keep_14 rfl ?_
    refine cm_get (k := 38) (v := .int (jI (I 38 6))) d_RD_keep_15 RD_f49 (by decide) cc_3 rfl ?_
    refine cm_ldF (k := 74) (n := 150) (z := (I 38 6)) d_RD_keep_18 (by decide) rfl rfl (by omega) (by omega) (by omega) ?_
    have hfq3 := form_at 74 (by decide) rfl ((I 38 6) : Int).toNat (show ((I 38 6) : Int).toNat < 150 by omega)
    generalize 74 + 1 + 2 * ((I 38 6) : Int).toNat = q3 at hfq3 ⊢
    have fpq3 := form_parts q3 hfq3.2 hfq3.1
    have glq3 := eLong hfq3.2 hfq3.1
    refine jt_aload_n d_RD_keep_19 rfl ?_
    refine cm_get (k := 38) (v := .ref (b + 376)) d_RD_keep_20 RD_f40 (by decide) cc_3 rfl ?_
    refine jt_iconst d_RD_keep_23 ?_
    refine cm_ldF (k := 376) (n := 9) (z := 0) d_RD_keep_24 (by decide) rfl rfl (by omega) (by omega) (by omega) ?_
    have hfq4 := form_at 376 (by decide) rfl (0 : Int).toNat (show (0 : Int).toNat < 9 by omega)
    generalize 376 + 1 + 2 * (0 : Int).toNat = q4 at hfq4 ⊢
    have fpq4 := form_parts q4 hfq4.2 hfq4.1
    have glq4 := eLong hfq4.2 hfq4.1
    refine cct_callV (Y := Y_FO_copy) (ci := 4) (k := q3) (As := [.ref (b + q4)]) (rest := []) d_RD_keep_25 RD_c101 yk_FO_copy yv_FO_copy rfl (Nat.le_of_ble_eq_true rfl) hfq3.2 (cc_5 hfq3.1) rfl rfl (Nat.le_of_ble_eq_true rfl) (v_FO_copy G _ b q3 q4 I A hz0.1 hz0.2.1 hfq3.2 hfq3.1 hfq4.2 hfq4.1 ) (fun rvq5 Iq5 Aq5 hq5 => ?_)
    obtain ⟨rfl, hqq5⟩ := hq5
    have hpq5 := cPo.trans hz0 hqq5 rfl rfl
    have m38_6q5 : Iq5 38 6 = I 38 6 := hqq5.2.2.1 38 6 rfl
    show jt _ 28 [(0, .ref (b + 38))] [] (cmf b f0 Iq5 Aq5) _ _ _
    refine jt_aload_n d_RD_keep_28 rfl ?_
    refine jt_dup d_RD_keep_29 rfl ?_
    refine cm_get (k := 38) (v := .int (jI (Iq5 38 6))) d_RD_keep_30 RD_f49 (by decide) cc_3 rfl ?_
    have rb6 : 0 ≤ Iq5 38 6 ∧ Iq5 38 6 ≤ 150 := hpq5.1 38 6
    refine jt_iconst d_RD_keep_33 ?_
    refine jt_iadd d_RD_keep_34 ?_
    refine jt_topi (fun v7 ev7 => ?_)
    refine cm_put (k := 38) (j := 6) (v := v7) d_RD_keep_35 (RD_w49 _ rfl) (by decide) cc_3 rfl rfl (Nat.le_of_ble_eq_true rfl) rfl ?_
    have p8 := cPo.I 38 6 v7 hpq5 rfl (show 0 ≤ v7 ∧ v7 ≤ 150 by omega)
    refine jt_iconst d_RD_keep_38 ?_
    exact cm_ret d_RD_keep_39 rfl (jnz (by omega)) (⟨1, rfl, by omega, p8⟩)
set_option maxRecDepth 100000 in
set_option maxHeartbeats 4000000 in
theorem v_RD_take (G : jG) (d b : Nat) (u : Int) (I : Nat → Nat → Int) (A : Nat → Int → Int) (hI : cSI I) (hA : cSA A) (hu : -2147483648 ≤ u ∧ u ≤ 2147483647) : cct G Y_RD_take d b [.ref (b + 38), .int (jI u)] I A (fun (rv : Option Value) (I2 : Nat → Nat → Int) (A2 : Nat → Int → Int) => ∃ y : Int, rv = some (.int (jI y)) ∧ (0 ≤ y ∧ y ≤ 1) ∧ cPo [610, 611] [] I A I2 A2 ∧ (y = 1 → I2 38 2 = I 38 2 + 1)) := by
  refine cct_of (by decide) (Nat.le_of_ble_eq_true rfl) (fun f0 sz => ?_)
  show jt _ 0 [(0, .ref (b + 38)), (1, .int (jI u))] [] _ _ _ _
  have r39 : 0 ≤ I 39 3 ∧ I 39 3 ≤ 300 := hI 39 3
  have hz0 : cPo [610, 611] [] I A I A := cPo.refl hI hA
  refine jt_aload_n d_RD_take_0 rfl ?_
  refine cm_get (k := 38) (v := .int (jI (I 38 2))) d_RD_take_1 RD_f60 (by decide) cc_3 rfl ?_
  have rb1 : 0 ≤ I 38 2 ∧ I 38 2 ≤ 300 := hz0.1 38 2
  refine jt_aload_n d_RD_take_4 rfl ?_
  refine cm_get (k := 38) (v := .ref (b + 39)) d_RD_take_5 RD_f14 (by decide) cc_3 rfl ?_
  refine cm_get (k := 39) (v := .int (jI (I 39 3))) d_RD_take_8 RD_f105 (by decide) (cc_1 rfl) rfl ?_
  have rb2 : 0 ≤ I 39 3 ∧ I 39 3 ≤ 300 := hz0.1 39 3
  refine jt_icmp_ge (t := 50) d_RD_take_11 rfl (by unfold jRi; omega) (by unfold jRi; omega) (fun c3 => ?_) (fun c3 => ?_)
  · skip
    refine jt_iconst d_RD_take_50 ?_
    refine jt_istore_n (L' := [(0, .ref (b + 38)), (1, .int (jI u)), (2, .int (jI 0))]) d_RD_take_51 (Nat.le_of_ble_eq_true rfl) rfl ?_
    refine jt_iload_n d_RD_take_52 rfl ?_
    refine jt_if_eq (t := 69) d_RD_take_53 rfl (by unfold jRi; omega) (fun c4 => ?_) (fun c4 => ?_)
    · skip
      refine jt_aload_n d_RD_take_69 rfl ?_
      refine jt_bipush d_RD_take_70 (by omega) ?_
      refine cm_put (k := 38) (j := 3) (v := (-8)) d_RD_take_72 (RD_w111 _ rfl) (by decide) cc_3 rfl rfl (Nat.le_of_ble_eq_true rfl) rfl ?_
      have p5 := cPo.I 38 3 (-8) hz0 rfl (show -2147483648 ≤ -8 ∧ -8 ≤ 2147483647 by omega)
      refine jt_iload_n d_RD_take_75 rfl ?_
      exact cm_ret d_RD_take_76 rfl (jnz (by omega)) (⟨0, rfl, by omega, p5, show 0 = 1 → I 38 2 = I 38 2 + 1 by omega⟩)
    · skip
      exfalso
      omega
  · skip
    refine jt_aload_n d_RD_take_14 rfl ?_
    refine cm_get (k := 38) (v := .ref (b + 39)) d_RD_take_15 RD_f14 (by decide) cc_3 rfl ?_
    refine cm_get (k := 39) (v := .ref (b + 40)) d_RD_take_18 RD_f108 (by decide) (cc_1 rfl) rfl ?_
    refine jt_aload_n d_RD_take_21 rfl ?_
    refine cm_get (k := 38) (v := .int (jI (I 38 2))) d_RD_take_22 RD_f60 (by decide) cc_3 rfl ?_
    refine cm_ld0 (k := 40) (n := 300) (v := (A 40) (I 38 2)) d_RD_take_25 (by decide) rfl rfl (by omega) (by omega) (by omega) rfl ?_
    refine jt_topi (fun v6 ev6 => ?_)
    have bv6 : -2147483648 ≤ v6 ∧ v6 ≤ 2147483647 := by rw [ev6]; exact hz0.2.1 40 (I 38 2)
    refine jt_iconst d_RD_take_26 ?_
    refine jt_icmp_ne (t := 50) d_RD_take_27 rfl (by unfold jRi; omega) (by unfold jRi; omega) (fun c7 => ?_) (fun c7 => ?_)
    · skip
      refine jt_iconst d_RD_take_50 ?_
      refine jt_istore_n (L' := [(0, .ref (b + 38)), (1, .int (jI u)), (2, .int (jI 0))]) d_RD_take_51 (Nat.le_of_ble_eq_true rfl) rfl ?_
      refine jt_iload_n d_RD_take_52 rfl ?_
      refine jt_if_eq (t := 69) d_RD_take_53 rfl (by unfold jRi; omega) (fun c8 => ?_) (fun c8 => ?_)
      · skip
        refine jt_aload_n d_RD_take_69 rfl ?_
        refine jt_bipush d_RD_take_70 (by omega) ?_
        refine cm_put (k := 38) (j := 3) (v := (-8)) d_RD_take_72 (RD_w111 _ rfl) (by decide) cc_3 rfl rfl (Nat.le_of_ble_eq_true rfl) rfl ?_
        have p9 := cPo.I 38 3 (-8) hz0 rfl (show -2147483648 ≤ -8 ∧ -8 ≤ 2147483647 by omega)
        refine jt_iload_n d_RD_take_75 rfl ?_
        exact cm_ret d_RD_take_76 rfl (jnz (by omega)) (⟨0, rfl, by omega, p9, show 0 = 1 → I 38 2 = I 38 2 + 1 by omega⟩)
      · skip
        exfalso
        omega
    · skip
      refine jt_aload_n d_RD_take_30 rfl ?_
      refine cm_get (k := 38) (v := .ref (b + 39)) d_RD_take_31 RD_f14 (by decide) cc_3 rfl ?_
      refine cm_get (k := 39) (v := .ref (b + 41)) d_RD_take_34 RD_f67 (by decide) (cc_1 rfl) rfl ?_
      refine jt_aload_n d_RD_take_37 rfl ?_
      refine cm_get (k := 38) (v := .int (jI (I 38 2))) d_RD_take_38 RD_f60 (by decide) cc_3 rfl ?_
      refine cm_ld0 (k := 41) (n := 300) (v := (A 41) (I 38 2)) d_RD_take_41 (by decide) rfl rfl (by omega) (by omega) (by omega) rfl ?_
      refine jt_topi (fun v10 ev10 => ?_)
      have bv10 : -2147483648 ≤ v10 ∧ v10 ≤ 2147483647 := by rw [ev10]; exact hz0.2.1 41 (I 38 2)
      refine jt_iload_n d_RD_take_42 rfl ?_
      refine jt_icmp_ne (t := 50) d_RD_take_43 rfl (by unfold jRi; omega) (by unfold jRi; omega) (fun c11 => ?_) (fun c11 => ?_)
      · skip
        refine jt_iconst d_RD_take_50 ?_
        refine jt_istore_n (L' := [(0, .ref (b + 38)), (1, .int (jI u)), (2, .int (jI 0))]) d_RD_take_51 (Nat.le_of_ble_eq_true rfl) rfl ?_
        refine jt_iload_n d_RD_take_52 rfl ?_
        refine jt_if_eq (t := 69) d_RD_take_53 rfl (by unfold jRi; omega) (fun c12 => ?_) (fun c12 => ?_)
        · skip
          refine jt_aload_n d_RD_take_69 rfl ?_
          refine jt_bipush d_RD_take_70 (by omega) ?_
          refine cm_put (k := 38) (j := 3) (v := (-8)) d_RD_take_72 (RD_w111 _ rfl) (by decide) cc_3 rfl rfl (Nat.le_of_ble_eq_true rfl) rfl ?_
          have p13 := cPo.I 38 3 (-8) hz0 rfl (show -2147483648 ≤ -8 ∧ -8 ≤ 2147483647 by omega)
          refine jt_iload_n d_RD_take_75 rfl ?_
          exact cm_ret d_RD_take_76 rfl (jnz (by omega)) (⟨0, rfl, by omega, p13, show 0 = 1 → I 38 2 = I 38 2 + 1 by omega⟩)
        · skip
          exfalso
          omega
      · skip
        refine jt_iconst d_RD_take_46 ?_
        refine jt_goto (t := 51) d_RD_take_47 rfl ?_
        refine jt_istore_n (L' := [(0, .ref (b + 38)), (1, .int (jI u)), (2, .int (jI 1))]) d_RD_take_51 (Nat.le_of_ble_eq_true rfl) rfl ?_
        refine jt_iload_n d_RD_take_52 rfl ?_
        refine jt_if_eq (t := 69) d_RD_take_53 rfl (by unfold jRi; omega) (fun c14 => ?_) (fun c14 => ?_)
        · skip
          exfalso
          omega
        · skip
          refine jt_aload_n d_RD_take_56 rfl ?_
          refine jt_dup d_RD_take_57 rfl ?_
          refine cm_get (k := 38) (v := .int (jI (I 38 2))) d_RD_take_58 RD_f60 (by decide) cc_3 rfl ?_
          refine jt_iconst d_RD_take_61 ?_
          refine jt_iadd d_RD_take_62 ?_
          refine jt_topi (fun v15 ev15 => ?_)
          refine cm_put (k := 38) (j := 2) (v := v15) d_RD_take_63 (RD_w60 _ rfl) (by decide) cc_3 rfl rfl (Nat.le_of_ble_eq_true rfl) rfl ?_
          have p16 := cPo.I 38 2 v15 hz0 rfl (show 0 ≤ v15 ∧ v15 ≤ 300 by omega)
          refine jt_goto (t := 75) d_RD_take_66 rfl ?_
          refine jt_iload_n d_RD_take_75 rfl ?_
          exact cm_ret d_RD_take_76 rfl (jnz (by omega)) (⟨1, rfl, by omega, p16, show 1 = 1 → v15 = I 38 2 + 1 by omega⟩)
set_option maxRecDepth 100000 in
set_option maxHeartbeats 4000000 in
theorem v_RD_check (G : jG) (d b : Nat) (n : Int) (I : Nat → Nat → Int) (A : Nat → Int → Int) (hI : cSI I) (hA : cSA A) (hn : 0 ≤ n ∧ n ≤ 1) : cct G Y_RD_check d b [.ref (b + 38), .int (jI n)] I A (fun (rv : Option Value) (I2 : Nat → Nat → Int) (A2 : Nat → Int → Int) => ∃ y : Int, rv = some (.int (jI y)) ∧ (0 ≤ y ∧ y ≤ 1) ∧ cPo [615] [] I A I2 A2) := by
  refine cct_of (by decide) (Nat.le_of_ble_eq_true rfl) (fun f0 sz => ?_)
  show jt _ 0 [(0, .ref (b + 38)), (1, .int (jI n))] [] _ _ _ _
  have hz0 : cPo [615] [] I A I A := cPo.refl hI hA
  refine jt_aload_n d_RD_check_0 rfl ?_
  refine jt_aload_n d_RD_check_1 rfl ?_
  refine cm_get (k := 38) (v := .int (jI (I 38 7))) d_RD_check_2 RD_f56 (by decide) cc_3 rfl ?_
  have rb1 : 0 ≤ I 38 7 ∧ I 38 7 ≤ 1 := hz0.1 38 7
  refine jt_if_eq (t := 16) d_RD_check_5 rfl (by unfold jRi; omega) (fun c2 => ?_) (fun c2 => ?_)
  · skip
    refine jt_iconst d_RD_check_16 ?_
    refine cm_put (k := 38) (j := 7) (v := 0) d_RD_check_17 (RD_w56 _ rfl) (by decide) cc_3 (jnz (by omega)) rfl (Nat.le_of_ble_eq_true rfl) rfl ?_
    have p3 := cPo.I 38 7 0 hz0 rfl (show 0 ≤ 0 ∧ 0 ≤ 1 by omega)
    refine jt_iconst d_RD_check_20 ?_
    exact cm_ret d_RD_check_21 rfl (jnz (by omega)) (⟨1, rfl, by omega, p3⟩)
  · skip
    refine jt_iload_n d_RD_check_8 rfl ?_
    refine jt_if_eq (t := 16) d_RD_check_9 rfl (by unfold jRi; omega) (fun c4 => ?_) (fun c4 => ?_)
    · skip
      refine jt_iconst d_RD_check_16 ?_
      refine cm_put (k := 38) (j := 7) (v := 0) d_RD_check_17 (RD_w56 _ rfl) (by decide) cc_3 (jnz (by omega)) rfl (Nat.le_of_ble_eq_true rfl) rfl ?_
      have p5 := cPo.I 38 7 0 hz0 rfl (show 0 ≤ 0 ∧ 0 ≤ 1 by omega)
      refine jt_iconst d_RD_check_20 ?_
      exact cm_ret d_RD_check_21 rfl (jnz (by omega)) (⟨1, rfl, by omega, p5⟩)
    · skip
      refine jt_iconst d_RD_check_12 ?_
      refine jt_goto (t := 17) d_RD_check_13 rfl ?_
      refine cm_put (k := 38) (j := 7) (v := 1) d_RD_check_17 (RD_w56 _ rfl) (by decide) cc_3 (jnz (by omega)) rfl (Nat.le_of_ble_eq_true rfl) rfl ?_
      have p6 := cPo.I 38 7 1 hz0 rfl (show 0 ≤ 1 ∧ 1 ≤ 1 by omega)
      refine jt_iconst d_RD_check_20 ?_
      exact cm_ret d_RD_check_21 rfl (jnz (by omega)) (⟨1, rfl, by omega, p6⟩)
set_option maxRecDepth 100000 in
set_option maxHeartbeats 4000000 in
theorem v_RD_readPrimary (G : jG) (d b : Nat) (e : Int) (I : Nat → Nat → Int) (A : Nat → Int → Int) (hI : cSI I) (hA : cSA A) (hK : cTok A) (he : 0 ≤ e ∧ e ≤ 8) (hE : ∀ (I : Nat → Nat → Int) (A : Nat → Int → Int), cSI I → cSA A → cTok A → (e + 1 = 9 → 1 ≤ I 38 2) → cct G Y_RD_readExpression d b [.ref (b + 38), .int (jI (e + 1))] I A (fun (rv : Option Value) (I2 : Nat → Nat → Int) (A2 : Nat → Int → Int) => ∃ y : Int, rv = some (.int (jI y)) ∧ (0 ≤ y ∧ y ≤ 1) ∧ cPo [610, 611, 615] [] I A I2 A2 ∧ (y = 1 → e + 1 ≤ 8))) : cct G Y_RD_readPrimary (d + 1) b [.ref (b + 38), .int (jI e)] I A (fun (rv : Option Value) (I2 : Nat → Nat → Int) (A2 : Nat → Int → Int) => ∃ y : Int, rv = some (.int (jI y)) ∧ (0 ≤ y ∧ y ≤ 1) ∧ cPo [610, 611, 615] [] I A I2 A2) := by
  refine cct_of (by decide) (Nat.le_of_ble_eq_true rfl) (fun f0 sz => ?_)
  show jt _ 0 [(0, .ref (b + 38)), (1, .int (jI e))] [] _ _ _ _
  have r39 : 0 ≤ I 39 3 ∧ I 39 3 ≤ 300 := hI 39 3
  have r38 : 0 ≤ I 38 2 ∧ I 38 2 ≤ 300 := hI 38 2
  have hz0 : cPo [610, 611, 615] [] I A I A := cPo.refl hI hA
  refine jt_aload_n d_RD_readPrimary_0 rfl ?_
  refine cm_get (k := 38) (v := .ref (b + 39)) d_RD_readPrimary_1 RD_f14 (by decide) cc_3 rfl ?_
  refine jt_aload_n d_RD_readPrimary_4 rfl ?_
  refine cm_get (k := 38) (v := .int (jI (I 38 2))) d_RD_readPrimary_5 RD_f60 (by decide) cc_3 rfl ?_
  have rb1 : 0 ≤ I 38 2 ∧ I 38 2 ≤ 300 := hz0.1 38 2
  refine jt_iconst d_RD_readPrimary_8 ?_
  refine cct_callV (Y := Y_TR_isKind) (ci := 0) (k := 39) (As := [.int (jI (I 38 2)), .int (jI 1)]) (rest := []) d_RD_readPrimary_9 RD_c63 yk_TR_isKind yv_TR_isKind rfl (Nat.le_of_ble_eq_true rfl) (by decide) (cc_1 rfl) rfl rfl (Nat.le_of_ble_eq_true rfl) (v_TR_isKind G _ b (I 38 2) 1 I A hz0.1 hz0.2.1 (by omega) (by omega)) (fun rvq2 Iq2 Aq2 hq2 => ?_)
  obtain ⟨yq2, rfl, ryq2, hqq2, hxq2⟩ := hq2
  have hpq2 := cPo.trans hz0 hqq2 rfl rfl
  have m38_2q2 : Iq2 38 2 = I 38 2 := hqq2.2.2.1 38 2 rfl
  have m39_3q2 : Iq2 39 3 = I 39 3 := hqq2.2.2.1 39 3 rfl
  have a41q2 : Aq2 41 = A 41 := hqq2.2.2.2 41 rfl (by decide)
  show jt _ 12 [(0, .ref (b + 38)), (1, .int (jI e))] [.int (jI yq2)] (cmf b f0 Iq2 Aq2) _ _ _
  refine jt_if_eq (t := 56) d_RD_readPrimary_12 rfl (by unfold jRi; omega) (fun c3 => ?_) (fun c3 => ?_)
  · skip
    refine jt_aload_n d_RD_readPrimary_56 rfl ?_
    refine jt_iconst d_RD_readPrimary_57 ?_
    refine cct_callV (Y := Y_RD_take) (ci := 2) (k := 38) (As := [.int (jI 3)]) (rest := []) d_RD_readPrimary_58 RD_c88 yk_RD_take yv_RD_take rfl (Nat.le_of_ble_eq_true rfl) (by decide) cc_3 rfl rfl (Nat.le_of_ble_eq_true rfl) (v_RD_take G _ b 3 Iq2 Aq2 hpq2.1 hpq2.2.1 (by omega)) (fun rvq4 Iq4 Aq4 hq4 => ?_)
    obtain ⟨yq4, rfl, ryq4, hqq4, hxq4⟩ := hq4
    have hpq4 := cPo.trans hpq2 hqq4 rfl rfl
    have m39_3q4 : Iq4 39 3 = Iq2 39 3 := hqq4.2.2.1 39 3 rfl
    have a41q4 : Aq4 41 = Aq2 41 := hqq4.2.2.2 41 rfl (by decide)
    show jt _ 61 [(0, .ref (b + 38)), (1, .int (jI e))] [.int (jI yq4)] (cmf b f0 Iq4 Aq4) _ _ _
    refine jt_if_eq (t := 82) d_RD_readPrimary_61 rfl (by unfold jRi; omega) (fun c5 => ?_) (fun c5 => ?_)
    · skip
      refine jt_iconst d_RD_readPrimary_82 ?_
      exact cm_ret d_RD_readPrimary_83 rfl (jnz (by omega)) (⟨0, rfl, by omega, hpq4⟩)
    · skip
      refine jt_aload_n d_RD_readPrimary_64 rfl ?_
      refine jt_iload_n d_RD_readPrimary_65 rfl ?_
      refine jt_iconst d_RD_readPrimary_66 ?_
      refine jt_iadd d_RD_readPrimary_67 ?_
      refine cct_callV (Y := Y_RD_readExpression) (ci := 2) (k := 38) (As := [.int (jI (e + 1))]) (rest := []) d_RD_readPrimary_68 RD_c74 yk_RD_readExpression yv_RD_readExpression rfl (Nat.le_of_ble_eq_true rfl) (by decide) cc_3 rfl rfl (Nat.le_of_ble_eq_true rfl) (hE Iq4 Aq4 hpq4.1 hpq4.2.1 (cTok_of hpq4 hK rfl) (show e + 1 = 9 → 1 ≤ Iq4 38 2 by omega)) (fun rvq6 Iq6 Aq6 hq6 => ?_)
      obtain ⟨yq6, rfl, ryq6, hqq6, hxq6⟩ := hq6
      have hpq6 := cPo.trans hpq4 hqq6 rfl rfl
      have m39_3q6 : Iq6 39 3 = Iq4 39 3 := hqq6.2.2.1 39 3 rfl
      have a41q6 : Aq6 41 = Aq4 41 := hqq6.2.2.2 41 rfl (by decide)
      show jt _ 71 [(0, .ref (b + 38)), (1, .int (jI e))] [.int (jI yq6)] (cmf b f0 Iq6 Aq6) _ _ _
      refine jt_if_eq (t := 82) d_RD_readPrimary_71 rfl (by unfold jRi; omega) (fun c7 => ?_) (fun c7 => ?_)
      · skip
        refine jt_iconst d_RD_readPrimary_82 ?_
        exact cm_ret d_RD_readPrimary_83 rfl (jnz (by omega)) (⟨0, rfl, by omega, hpq6⟩)
      · skip
        refine jt_aload_n d_RD_readPrimary_74 rfl ?_
        refine jt_iconst d_RD_readPrimary_75 ?_
        refine cct_callV (Y := Y_RD_take) (ci := 2) (k := 38) (As := [.int (jI 4)]) (rest := []) d_RD_readPrimary_76 RD_c88 yk_RD_take yv_RD_take rfl (Nat.le_of_ble_eq_true rfl) (by decide) cc_3 rfl rfl (Nat.le_of_ble_eq_true rfl) (v_RD_take G _ b 4 Iq6 Aq6 hpq6.1 hpq6.2.1 (by omega)) (fun rvq8 Iq8 Aq8 hq8 => ?_)
        obtain ⟨yq8, rfl, ryq8, hqq8, hxq8⟩ := hq8
        have hpq8 := cPo.trans hpq6 hqq8 rfl rfl
        have m39_3q8 : Iq8 39 3 = Iq6 39 3 := hqq8.2.2.1 39 3 rfl
        have a41q8 : Aq8 41 = Aq6 41 := hqq8.2.2.2 41 rfl (by decide)
        show jt _ 79 [(0, .ref (b + 38)), (1, .int (jI e))] [.int (jI yq8)] (cmf b f0 Iq8 Aq8) _ _ _
        refine jt_if_ne (t := 84) d_RD_readPrimary_79 rfl (by unfold jRi; omega) (fun c9 => ?_) (fun c9 => ?_)
        · skip
          refine jt_aload_n d_RD_readPrimary_84 rfl ?_
          refine cm_get (k := 38) (v := .ref (b + 395)) d_RD_readPrimary_85 RD_f43 (by decide) cc_3 rfl ?_
          refine jt_iload_n d_RD_readPrimary_88 rfl ?_
          refine cm_ldF (k := 395) (n := 9) (z := e) d_RD_readPrimary_89 (by decide) rfl rfl (by omega) (by omega) (by omega) ?_
          have hfq10 := form_at 395 (by decide) rfl (e : Int).toNat (show (e : Int).toNat < 9 by omega)
          generalize 395 + 1 + 2 * (e : Int).toNat = q10 at hfq10 ⊢
          have fpq10 := form_parts q10 hfq10.2 hfq10.1
          have glq10 := eLong hfq10.2 hfq10.1
          refine jt_aload_n d_RD_readPrimary_90 rfl ?_
          refine cm_get (k := 38) (v := .ref (b + 376)) d_RD_readPrimary_91 RD_f40 (by decide) cc_3 rfl ?_
          refine jt_iload_n d_RD_readPrimary_94 rfl ?_
          refine jt_iconst d_RD_readPrimary_95 ?_
          refine jt_iadd d_RD_readPrimary_96 ?_
          refine cm_ldF (k := 376) (n := 9) (z := (e + 1)) d_RD_readPrimary_97 (by decide) rfl rfl (by omega) (by omega) (by omega) ?_
          have hfq11 := form_at 376 (by decide) rfl ((e + 1) : Int).toNat (show ((e + 1) : Int).toNat < 9 by omega)
          generalize 376 + 1 + 2 * ((e + 1) : Int).toNat = q11 at hfq11 ⊢
          have fpq11 := form_parts q11 hfq11.2 hfq11.1
          have glq11 := eLong hfq11.2 hfq11.1
          refine cct_callV (Y := Y_FO_copy) (ci := 4) (k := q10) (As := [.ref (b + q11)]) (rest := []) d_RD_readPrimary_98 RD_c101 yk_FO_copy yv_FO_copy rfl (Nat.le_of_ble_eq_true rfl) hfq10.2 (cc_5 hfq10.1) rfl rfl (Nat.le_of_ble_eq_true rfl) (v_FO_copy G _ b q10 q11 Iq8 Aq8 hpq8.1 hpq8.2.1 hfq10.2 hfq10.1 hfq11.2 hfq11.1 ) (fun rvq12 Iq12 Aq12 hq12 => ?_)
          obtain ⟨rfl, hqq12⟩ := hq12
          have hpq12 := cPo.trans hpq8 hqq12 rfl rfl
          have m38_2q12 : Iq12 38 2 = Iq8 38 2 := hqq12.2.2.1 38 2 rfl
          have m39_3q12 : Iq12 39 3 = Iq8 39 3 := hqq12.2.2.1 39 3 rfl
          have a41q12 : Aq12 41 = Aq8 41 := hqq12.2.2.2 41 rfl (by decide)
          show jt _ 101 [(0, .ref (b + 38)), (1, .int (jI e))] [] (cmf b f0 Iq12 Aq12) _ _ _
          refine jt_iconst d_RD_readPrimary_101 ?_
          exact cm_ret d_RD_readPrimary_102 rfl (jnz (by omega)) (⟨1, rfl, by omega, hpq12⟩)
        · skip
          refine jt_iconst d_RD_readPrimary_82 ?_
          exact cm_ret d_RD_readPrimary_83 rfl (jnz (by omega)) (⟨0, rfl, by omega, hpq8⟩)
  · skip
    refine jt_aload_n d_RD_readPrimary_15 rfl ?_
    refine cm_get (k := 38) (v := .ref (b + 395)) d_RD_readPrimary_16 RD_f43 (by decide) cc_3 rfl ?_
    refine jt_iload_n d_RD_readPrimary_19 rfl ?_
    refine cm_ldF (k := 395) (n := 9) (z := e) d_RD_readPrimary_20 (by decide) rfl rfl (by omega) (by omega) (by omega) ?_
    have hfq13 := form_at 395 (by decide) rfl (e : Int).toNat (show (e : Int).toNat < 9 by omega)
    generalize 395 + 1 + 2 * (e : Int).toNat = q13 at hfq13 ⊢
    have fpq13 := form_parts q13 hfq13.2 hfq13.1
    have glq13 := eLong hfq13.2 hfq13.1
    refine jt_aload_n d_RD_readPrimary_21 rfl ?_
    refine cm_get (k := 38) (v := .ref (b + 43)) d_RD_readPrimary_22 RD_f23 (by decide) cc_3 rfl ?_
    refine cm_get (k := 43) (v := .ref (b + 45)) d_RD_readPrimary_25 RD_f149 (by decide) (cc_4 rfl) rfl ?_
    refine jt_aload_n d_RD_readPrimary_28 rfl ?_
    refine cm_get (k := 38) (v := .ref (b + 39)) d_RD_readPrimary_29 RD_f14 (by decide) cc_3 rfl ?_
    refine cm_get (k := 39) (v := .ref (b + 41)) d_RD_readPrimary_32 RD_f67 (by decide) (cc_1 rfl) rfl ?_
    refine jt_aload_n d_RD_readPrimary_35 rfl ?_
    refine cm_get (k := 38) (v := .int (jI (Iq2 38 2))) d_RD_readPrimary_36 RD_f60 (by decide) cc_3 rfl ?_
    have rb14 : 0 ≤ Iq2 38 2 ∧ Iq2 38 2 ≤ 300 := hpq2.1 38 2
    refine cm_ld0 (k := 41) (n := 300) (v := (Aq2 41) (Iq2 38 2)) d_RD_readPrimary_39 (by decide) rfl rfl (by omega) (by omega) (by omega) rfl ?_
    refine jt_topi (fun v15 ev15 => ?_)
    have bv15 : -2147483648 ≤ v15 ∧ v15 ≤ 2147483647 := by rw [ev15]; exact hpq2.2.1 41 (Iq2 38 2)
    rw [a41q2, m38_2q2] at ev15
    have tk : gtok (A 40 (I 38 2)) (A 41 (I 38 2)) := hK 39 rfl (I 38 2)
    unfold gtok at tk
    refine cm_ldF (k := 45) (n := 12) (z := v15) d_RD_readPrimary_40 (by decide) rfl rfl (by omega) (by omega) (by omega) ?_
    have hfq16 := form_at 45 (by decide) rfl (v15 : Int).toNat (show (v15 : Int).toNat < 12 by omega)
    generalize 45 + 1 + 2 * (v15 : Int).toNat = q16 at hfq16 ⊢
    have fpq16 := form_parts q16 hfq16.2 hfq16.1
    have glq16 := eLong hfq16.2 hfq16.1
    refine cct_callV (Y := Y_FO_copy) (ci := 4) (k := q13) (As := [.ref (b + q16)]) (rest := []) d_RD_readPrimary_41 RD_c101 yk_FO_copy yv_FO_copy rfl (Nat.le_of_ble_eq_true rfl) hfq13.2 (cc_5 hfq13.1) rfl rfl (Nat.le_of_ble_eq_true rfl) (v_FO_copy G _ b q13 q16 Iq2 Aq2 hpq2.1 hpq2.2.1 hfq13.2 hfq13.1 hfq16.2 hfq16.1 ) (fun rvq17 Iq17 Aq17 hq17 => ?_)
    obtain ⟨rfl, hqq17⟩ := hq17
    have hpq17 := cPo.trans hpq2 hqq17 rfl rfl
    have m38_2q17 : Iq17 38 2 = Iq2 38 2 := hqq17.2.2.1 38 2 rfl
    have m39_3q17 : Iq17 39 3 = Iq2 39 3 := hqq17.2.2.1 39 3 rfl
    have a41q17 : Aq17 41 = Aq2 41 := hqq17.2.2.2 41 rfl (by decide)
    show jt _ 44 [(0, .ref (b + 38)), (1, .int (jI e))] [] (cmf b f0 Iq17 Aq17) _ _ _
    refine jt_aload_n d_RD_readPrimary_44 rfl ?_
    refine jt_dup d_RD_readPrimary_45 rfl ?_
    refine cm_get (k := 38) (v := .int (jI (Iq17 38 2))) d_RD_readPrimary_46 RD_f60 (by decide) cc_3 rfl ?_
    have rb18 : 0 ≤ Iq17 38 2 ∧ Iq17 38 2 ≤ 300 := hpq17.1 38 2
    refine jt_iconst d_RD_readPrimary_49 ?_
    refine jt_iadd d_RD_readPrimary_50 ?_
    refine jt_topi (fun v19 ev19 => ?_)
    refine cm_put (k := 38) (j := 2) (v := v19) d_RD_readPrimary_51 (RD_w60 _ rfl) (by decide) cc_3 rfl rfl (Nat.le_of_ble_eq_true rfl) rfl ?_
    have p20 := cPo.I 38 2 v19 hpq17 rfl (show 0 ≤ v19 ∧ v19 ≤ 300 by omega)
    refine jt_iconst d_RD_readPrimary_54 ?_
    exact cm_ret d_RD_readPrimary_55 rfl (jnz (by omega)) (⟨1, rfl, by omega, p20⟩)
set_option maxRecDepth 100000 in
set_option maxHeartbeats 4000000 in
theorem v_RD_readEnds (G : jG) (d b : Nat) (e : Int) (I : Nat → Nat → Int) (A : Nat → Int → Int) (hI : cSI I) (hA : cSA A) (hK : cTok A) (he : 0 ≤ e ∧ e ≤ 8) (hE : ∀ (I : Nat → Nat → Int) (A : Nat → Int → Int), cSI I → cSA A → cTok A → (e + 1 = 9 → 1 ≤ I 38 2) → cct G Y_RD_readExpression d b [.ref (b + 38), .int (jI (e + 1))] I A (fun (rv : Option Value) (I2 : Nat → Nat → Int) (A2 : Nat → Int → Int) => ∃ y : Int, rv = some (.int (jI y)) ∧ (0 ≤ y ∧ y ≤ 1) ∧ cPo [610, 611, 615] [] I A I2 A2 ∧ (y = 1 → e + 1 ≤ 8))) : cct G Y_RD_readEnds (d + 1) b [.ref (b + 38), .int (jI e)] I A (fun (rv : Option Value) (I2 : Nat → Nat → Int) (A2 : Nat → Int → Int) => ∃ y : Int, rv = some (.int (jI y)) ∧ (0 ≤ y ∧ y ≤ 1) ∧ cPo [610, 611, 615] [] I A I2 A2 ∧ (y = 1 → e + 1 ≤ 8)) := by
  refine cct_of (by decide) (Nat.le_of_ble_eq_true rfl) (fun f0 sz => ?_)
  show jt _ 0 [(0, .ref (b + 38)), (1, .int (jI e))] [] _ _ _ _
  have r39 : 0 ≤ I 39 3 ∧ I 39 3 ≤ 300 := hI 39 3
  have r38 : 0 ≤ I 38 2 ∧ I 38 2 ≤ 300 := hI 38 2
  have hz0 : cPo [610, 611, 615] [] I A I A := cPo.refl hI hA
  refine jt_aload_n d_RD_readEnds_0 rfl ?_
  refine jt_iconst d_RD_readEnds_1 ?_
  refine cct_callV (Y := Y_RD_take) (ci := 2) (k := 38) (As := [.int (jI 3)]) (rest := []) d_RD_readEnds_2 RD_c88 yk_RD_take yv_RD_take rfl (Nat.le_of_ble_eq_true rfl) (by decide) cc_3 rfl rfl (Nat.le_of_ble_eq_true rfl) (v_RD_take G _ b 3 I A hz0.1 hz0.2.1 (by omega)) (fun rvq1 Iq1 Aq1 hq1 => ?_)
  obtain ⟨yq1, rfl, ryq1, hqq1, hxq1⟩ := hq1
  have hpq1 := cPo.trans hz0 hqq1 rfl rfl
  have m39_3q1 : Iq1 39 3 = I 39 3 := hqq1.2.2.1 39 3 rfl
  show jt _ 5 [(0, .ref (b + 38)), (1, .int (jI e))] [.int (jI yq1)] (cmf b f0 Iq1 Aq1) _ _ _
  refine jt_if_eq (t := 26) d_RD_readEnds_5 rfl (by unfold jRi; omega) (fun c2 => ?_) (fun c2 => ?_)
  · skip
    refine jt_iconst d_RD_readEnds_26 ?_
    exact cm_ret d_RD_readEnds_27 rfl (jnz (by omega)) (⟨0, rfl, by omega, hpq1, show 0 = 1 → e + 1 ≤ 8 by omega⟩)
  · skip
    refine jt_aload_n d_RD_readEnds_8 rfl ?_
    refine jt_iload_n d_RD_readEnds_9 rfl ?_
    refine jt_iconst d_RD_readEnds_10 ?_
    refine jt_iadd d_RD_readEnds_11 ?_
    refine cct_callV (Y := Y_RD_readExpression) (ci := 2) (k := 38) (As := [.int (jI (e + 1))]) (rest := []) d_RD_readEnds_12 RD_c74 yk_RD_readExpression yv_RD_readExpression rfl (Nat.le_of_ble_eq_true rfl) (by decide) cc_3 rfl rfl (Nat.le_of_ble_eq_true rfl) (hE Iq1 Aq1 hpq1.1 hpq1.2.1 (cTok_of hpq1 hK rfl) (show e + 1 = 9 → 1 ≤ Iq1 38 2 by omega)) (fun rvq3 Iq3 Aq3 hq3 => ?_)
    obtain ⟨yq3, rfl, ryq3, hqq3, hxq3⟩ := hq3
    have hpq3 := cPo.trans hpq1 hqq3 rfl rfl
    have m39_3q3 : Iq3 39 3 = Iq1 39 3 := hqq3.2.2.1 39 3 rfl
    show jt _ 15 [(0, .ref (b + 38)), (1, .int (jI e))] [.int (jI yq3)] (cmf b f0 Iq3 Aq3) _ _ _
    refine jt_if_eq (t := 26) d_RD_readEnds_15 rfl (by unfold jRi; omega) (fun c4 => ?_) (fun c4 => ?_)
    · skip
      refine jt_iconst d_RD_readEnds_26 ?_
      exact cm_ret d_RD_readEnds_27 rfl (jnz (by omega)) (⟨0, rfl, by omega, hpq3, show 0 = 1 → e + 1 ≤ 8 by omega⟩)
    · skip
      refine jt_aload_n d_RD_readEnds_18 rfl ?_
      refine jt_iconst d_RD_readEnds_19 ?_
      refine cct_callV (Y := Y_RD_take) (ci := 2) (k := 38) (As := [.int (jI 5)]) (rest := []) d_RD_readEnds_20 RD_c88 yk_RD_take yv_RD_take rfl (Nat.le_of_ble_eq_true rfl) (by decide) cc_3 rfl rfl (Nat.le_of_ble_eq_true rfl) (v_RD_take G _ b 5 Iq3 Aq3 hpq3.1 hpq3.2.1 (by omega)) (fun rvq5 Iq5 Aq5 hq5 => ?_)
      obtain ⟨yq5, rfl, ryq5, hqq5, hxq5⟩ := hq5
      have hpq5 := cPo.trans hpq3 hqq5 rfl rfl
      have m39_3q5 : Iq5 39 3 = Iq3 39 3 := hqq5.2.2.1 39 3 rfl
      show jt _ 23 [(0, .ref (b + 38)), (1, .int (jI e))] [.int (jI yq5)] (cmf b f0 Iq5 Aq5) _ _ _
      refine jt_if_ne (t := 28) d_RD_readEnds_23 rfl (by unfold jRi; omega) (fun c6 => ?_) (fun c6 => ?_)
      · skip
        refine jt_aload_n d_RD_readEnds_28 rfl ?_
        refine cm_get (k := 38) (v := .ref (b + 414)) d_RD_readEnds_29 RD_f46 (by decide) cc_3 rfl ?_
        refine jt_iload_n d_RD_readEnds_32 rfl ?_
        refine cm_ldF (k := 414) (n := 9) (z := e) d_RD_readEnds_33 (by decide) rfl rfl (by omega) (by omega) (by omega) ?_
        have hfq7 := form_at 414 (by decide) rfl (e : Int).toNat (show (e : Int).toNat < 9 by omega)
        generalize 414 + 1 + 2 * (e : Int).toNat = q7 at hfq7 ⊢
        have fpq7 := form_parts q7 hfq7.2 hfq7.1
        have glq7 := eLong hfq7.2 hfq7.1
        refine jt_aload_n d_RD_readEnds_34 rfl ?_
        refine cm_get (k := 38) (v := .ref (b + 376)) d_RD_readEnds_35 RD_f40 (by decide) cc_3 rfl ?_
        refine jt_iload_n d_RD_readEnds_38 rfl ?_
        refine jt_iconst d_RD_readEnds_39 ?_
        refine jt_iadd d_RD_readEnds_40 ?_
        refine cm_ldF (k := 376) (n := 9) (z := (e + 1)) d_RD_readEnds_41 (by decide) rfl rfl (by omega) (by omega) (by omega) ?_
        have hfq8 := form_at 376 (by decide) rfl ((e + 1) : Int).toNat (show ((e + 1) : Int).toNat < 9 by omega)
        generalize 376 + 1 + 2 * ((e + 1) : Int).toNat = q8 at hfq8 ⊢
        have fpq8 := form_parts q8 hfq8.2 hfq8.1
        have glq8 := eLong hfq8.2 hfq8.1
        refine cct_callV (Y := Y_FO_copy) (ci := 4) (k := q7) (As := [.ref (b + q8)]) (rest := []) d_RD_readEnds_42 RD_c101 yk_FO_copy yv_FO_copy rfl (Nat.le_of_ble_eq_true rfl) hfq7.2 (cc_5 hfq7.1) rfl rfl (Nat.le_of_ble_eq_true rfl) (v_FO_copy G _ b q7 q8 Iq5 Aq5 hpq5.1 hpq5.2.1 hfq7.2 hfq7.1 hfq8.2 hfq8.1 ) (fun rvq9 Iq9 Aq9 hq9 => ?_)
        obtain ⟨rfl, hqq9⟩ := hq9
        have hpq9 := cPo.trans hpq5 hqq9 rfl rfl
        have m38_2q9 : Iq9 38 2 = Iq5 38 2 := hqq9.2.2.1 38 2 rfl
        have m39_3q9 : Iq9 39 3 = Iq5 39 3 := hqq9.2.2.1 39 3 rfl
        show jt _ 45 [(0, .ref (b + 38)), (1, .int (jI e))] [] (cmf b f0 Iq9 Aq9) _ _ _
        refine jt_aload_n d_RD_readEnds_45 rfl ?_
        refine jt_iload_n d_RD_readEnds_46 rfl ?_
        refine jt_iconst d_RD_readEnds_47 ?_
        refine jt_iadd d_RD_readEnds_48 ?_
        refine cct_callV (Y := Y_RD_readExpression) (ci := 2) (k := 38) (As := [.int (jI (e + 1))]) (rest := []) d_RD_readEnds_49 RD_c74 yk_RD_readExpression yv_RD_readExpression rfl (Nat.le_of_ble_eq_true rfl) (by decide) cc_3 rfl rfl (Nat.le_of_ble_eq_true rfl) (hE Iq9 Aq9 hpq9.1 hpq9.2.1 (cTok_of hpq9 hK rfl) (show e + 1 = 9 → 1 ≤ Iq9 38 2 by omega)) (fun rvq10 Iq10 Aq10 hq10 => ?_)
        obtain ⟨yq10, rfl, ryq10, hqq10, hxq10⟩ := hq10
        have hpq10 := cPo.trans hpq9 hqq10 rfl rfl
        have m39_3q10 : Iq10 39 3 = Iq9 39 3 := hqq10.2.2.1 39 3 rfl
        show jt _ 52 [(0, .ref (b + 38)), (1, .int (jI e))] [.int (jI yq10)] (cmf b f0 Iq10 Aq10) _ _ _
        refine jt_if_eq (t := 67) d_RD_readEnds_52 rfl (by unfold jRi; omega) (fun c11 => ?_) (fun c11 => ?_)
        · skip
          refine jt_iconst d_RD_readEnds_67 ?_
          exact cm_ret d_RD_readEnds_68 rfl (jnz (by omega)) (⟨0, rfl, by omega, hpq10, show 0 = 1 → e + 1 ≤ 8 by omega⟩)
        · skip
          refine jt_aload_n d_RD_readEnds_55 rfl ?_
          refine jt_iconst d_RD_readEnds_56 ?_
          refine cct_callV (Y := Y_RD_take) (ci := 2) (k := 38) (As := [.int (jI 4)]) (rest := []) d_RD_readEnds_57 RD_c88 yk_RD_take yv_RD_take rfl (Nat.le_of_ble_eq_true rfl) (by decide) cc_3 rfl rfl (Nat.le_of_ble_eq_true rfl) (v_RD_take G _ b 4 Iq10 Aq10 hpq10.1 hpq10.2.1 (by omega)) (fun rvq12 Iq12 Aq12 hq12 => ?_)
          obtain ⟨yq12, rfl, ryq12, hqq12, hxq12⟩ := hq12
          have hpq12 := cPo.trans hpq10 hqq12 rfl rfl
          have m39_3q12 : Iq12 39 3 = Iq10 39 3 := hqq12.2.2.1 39 3 rfl
          show jt _ 60 [(0, .ref (b + 38)), (1, .int (jI e))] [.int (jI yq12)] (cmf b f0 Iq12 Aq12) _ _ _
          refine jt_if_eq (t := 67) d_RD_readEnds_60 rfl (by unfold jRi; omega) (fun c13 => ?_) (fun c13 => ?_)
          · skip
            refine jt_iconst d_RD_readEnds_67 ?_
            exact cm_ret d_RD_readEnds_68 rfl (jnz (by omega)) (⟨0, rfl, by omega, hpq12, show 0 = 1 → e + 1 ≤ 8 by omega⟩)
          · skip
            refine jt_iconst d_RD_readEnds_63 ?_
            refine jt_goto (t := 68) d_RD_readEnds_64 rfl ?_
            exact cm_ret d_RD_readEnds_68 rfl (jnz (by omega)) (⟨1, rfl, by omega, hpq12, show 1 = 1 → e + 1 ≤ 8 by omega⟩)
      · skip
        refine jt_iconst d_RD_readEnds_26 ?_
        exact cm_ret d_RD_readEnds_27 rfl (jnz (by omega)) (⟨0, rfl, by omega, hpq5, show 0 = 1 → e + 1 ≤ 8 by omega⟩)
set_option maxRecDepth 100000 in
set_option maxHeartbeats 4000000 in
theorem l9_RD_readTermv (G : jG) (d b : Nat) (e : Int) (I : Nat → Nat → Int) (A : Nat → Int → Int) (hI : cSI I) (hA : cSA A) (hK : cTok A) (he : 0 ≤ e ∧ e ≤ 8) (hE : ∀ (I : Nat → Nat → Int) (A : Nat → Int → Int), cSI I → cSA A → cTok A → (e + 1 = 9 → 1 ≤ I 38 2) → cct G Y_RD_readExpression d b [.ref (b + 38), .int (jI (e + 1))] I A (fun (rv : Option Value) (I2 : Nat → Nat → Int) (A2 : Nat → Int → Int) => ∃ y : Int, rv = some (.int (jI y)) ∧ (0 ≤ y ∧ y ≤ 1) ∧ cPo [610, 611, 615] [] I A I2 A2 ∧ (y = 1 → e + 1 ≤ 8))) (f0 : jF) (sz : Nat) (q : Nat) (k_q : q < 472) (k5q : ck q = 5)  : ∀ (n9 : Nat) (s : Int) (J : Nat → Nat → Int) (B : Nat → Int → Int), cPo [610, 611, 615] [] I A J B → (s = 1 ∨ s = -1) → 300 - J 38 2 < (n9 : Int) → jt (jm G Y_RD_readTerm (gR (d + 2)) (cQ b f0 sz (fun (rv : Option Value) (I2 : Nat → Nat → Int) (A2 : Nat → Int → Int) => ∃ y : Int, rv = some (.int (jI y)) ∧ (0 ≤ y ∧ y ≤ 1) ∧ cPo [610, 611, 615] [] I A I2 A2))) 9 [(0, .ref (b + 38)), (1, .int (jI e)), (2, .ref (b + q)), (3, .int (jI s))] [] (cmf b f0 J B) sz 0 0 := by
  have r39 : 0 ≤ I 39 3 ∧ I 39 3 ≤ 300 := hI 39 3
  have r38 : 0 ≤ I 38 2 ∧ I 38 2 ≤ 300 := hI 38 2
  have fpq := form_parts q k_q k5q
  have glq := eLong k_q k5q
  intro n9
  induction n9 with
  | zero =>
    intro s J B hJ s0 hmeas
    have f39 : J 39 3 = I 39 3 := hJ.2.2.1 39 3 rfl
    have q38 : 0 ≤ J 38 2 ∧ J 38 2 ≤ 300 := hJ.1 38 2
    exfalso
    omega
  | succ n9 ih =>
    intro s J B hJ s0 hmeas
    have f39 : J 39 3 = I 39 3 := hJ.2.2.1 39 3 rfl
    have q38 : 0 ≤ J 38 2 ∧ J 38 2 ≤ 300 := hJ.1 38 2
    refine jt_aload_n d_RD_readTerm_9 rfl ?_
    refine cm_get (k := 38) (v := .int (jI (J 38 2))) d_RD_readTerm_10 RD_f60 (by decide) cc_3 rfl ?_
    have rb101 : 0 ≤ J 38 2 ∧ J 38 2 ≤ 300 := hJ.1 38 2
    refine jt_aload_n d_RD_readTerm_13 rfl ?_
    refine cm_get (k := 38) (v := .ref (b + 39)) d_RD_readTerm_14 RD_f14 (by decide) cc_3 rfl ?_
    refine cm_get (k := 39) (v := .int (jI (J 39 3))) d_RD_readTerm_17 RD_f105 (by decide) (cc_1 rfl) rfl ?_
    have rb102 : 0 ≤ J 39 3 ∧ J 39 3 ≤ 300 := hJ.1 39 3
    refine jt_icmp_ge (t := 54) d_RD_readTerm_20 rfl (by unfold jRi; omega) (by unfold jRi; omega) (fun c103 => ?_) (fun c103 => ?_)
    · skip
      refine jt_aload_n d_RD_readTerm_54 rfl ?_
      refine cm_get (k := 38) (v := .ref (b + 39)) d_RD_readTerm_55 RD_f14 (by decide) cc_3 rfl ?_
      refine jt_aload_n d_RD_readTerm_58 rfl ?_
      refine cm_get (k := 38) (v := .int (jI (J 38 2))) d_RD_readTerm_59 RD_f60 (by decide) cc_3 rfl ?_
      refine jt_iconst d_RD_readTerm_62 ?_
      refine cct_callV (Y := Y_TR_isKind) (ci := 0) (k := 39) (As := [.int (jI (J 38 2)), .int (jI 0)]) (rest := []) d_RD_readTerm_63 RD_c63 yk_TR_isKind yv_TR_isKind rfl (Nat.le_of_ble_eq_true rfl) (by decide) (cc_1 rfl) rfl rfl (Nat.le_of_ble_eq_true rfl) (v_TR_isKind G _ b (J 38 2) 0 J B hJ.1 hJ.2.1 (by omega) (by omega)) (fun rvq104 Iq104 Aq104 hq104 => ?_)
      obtain ⟨yq104, rfl, ryq104, hqq104, hxq104⟩ := hq104
      have hpq104 := cPo.trans hJ hqq104 rfl rfl
      have m38_2q104 : Iq104 38 2 = J 38 2 := hqq104.2.2.1 38 2 rfl
      have m39_3q104 : Iq104 39 3 = J 39 3 := hqq104.2.2.1 39 3 rfl
      show jt _ 66 [(0, .ref (b + 38)), (1, .int (jI e)), (2, .ref (b + q)), (3, .int (jI s))] [.int (jI yq104)] (cmf b f0 Iq104 Aq104) _ _ _
      refine jt_if_ne (t := 98) d_RD_readTerm_66 rfl (by unfold jRi; omega) (fun c105 => ?_) (fun c105 => ?_)
      · skip
        refine jt_aload_n d_RD_readTerm_98 rfl ?_
        refine cm_get (k := 38) (v := .ref (b + 39)) d_RD_readTerm_99 RD_f14 (by decide) cc_3 rfl ?_
        refine cm_get (k := 39) (v := .ref (b + 41)) d_RD_readTerm_102 RD_f67 (by decide) (cc_1 rfl) rfl ?_
        refine jt_aload_n d_RD_readTerm_105 rfl ?_
        refine cm_get (k := 38) (v := .int (jI (Iq104 38 2))) d_RD_readTerm_106 RD_f60 (by decide) cc_3 rfl ?_
        have rb106 : 0 ≤ Iq104 38 2 ∧ Iq104 38 2 ≤ 300 := hpq104.1 38 2
        refine cm_ld0 (k := 41) (n := 300) (v := (Aq104 41) (Iq104 38 2)) d_RD_readTerm_109 (by decide) rfl rfl (by omega) (by omega) (by omega) rfl ?_
        refine jt_topi (fun v107 ev107 => ?_)
        have bv107 : -2147483648 ≤ v107 ∧ v107 ≤ 2147483647 := by rw [ev107]; exact hpq104.2.1 41 (Iq104 38 2)
        refine jt_istore (L' := [(0, .ref (b + 38)), (1, .int (jI e)), (2, .ref (b + q)), (3, .int (jI s)), (4, .int (jI v107))]) d_RD_readTerm_110 (Nat.le_of_ble_eq_true rfl) rfl ?_
        refine jt_aload_n d_RD_readTerm_112 rfl ?_
        refine jt_dup d_RD_readTerm_113 rfl ?_
        refine cm_get (k := 38) (v := .int (jI (Iq104 38 2))) d_RD_readTerm_114 RD_f60 (by decide) cc_3 rfl ?_
        refine jt_iconst d_RD_readTerm_117 ?_
        refine jt_iadd d_RD_readTerm_118 ?_
        refine jt_topi (fun v108 ev108 => ?_)
        refine cm_put (k := 38) (j := 2) (v := v108) d_RD_readTerm_119 (RD_w60 _ rfl) (by decide) cc_3 rfl rfl (Nat.le_of_ble_eq_true rfl) rfl ?_
        have p109 := cPo.I 38 2 v108 hpq104 rfl (show 0 ≤ v108 ∧ v108 ≤ 300 by omega)
        refine jt_aload_n d_RD_readTerm_122 rfl ?_
        refine cm_get (k := 38) (v := .ref (b + 39)) d_RD_readTerm_123 RD_f14 (by decide) cc_3 rfl ?_
        refine jt_aload_n d_RD_readTerm_126 rfl ?_
        refine cm_get (k := 38) (v := .int (jI v108)) d_RD_readTerm_127 RD_f60 (by decide) cc_3 rfl ?_
        refine jt_bipush d_RD_readTerm_130 (by omega) ?_
        refine cct_callV (Y := Y_TR_isWord) (ci := 0) (k := 39) (As := [.int (jI v108), .int (jI 13)]) (rest := []) d_RD_readTerm_132 RD_c91 yk_TR_isWord yv_TR_isWord rfl (Nat.le_of_ble_eq_true rfl) (by decide) (cc_1 rfl) rfl rfl (Nat.le_of_ble_eq_true rfl) (v_TR_isWord G _ b v108 13 (cu Iq104 38 2 v108) Aq104 p109.1 p109.2.1 (by omega) (by omega)) (fun rvq110 Iq110 Aq110 hq110 => ?_)
        obtain ⟨yq110, rfl, ryq110, hqq110, hxq110⟩ := hq110
        have hpq110 := cPo.trans p109 hqq110 rfl rfl
        have s38_2q110 : (cu Iq104 38 2 v108) 38 2 = v108 := rfl
        have s39_3q110 : (cu Iq104 38 2 v108) 39 3 = Iq104 39 3 := rfl
        have m38_2q110 : Iq110 38 2 = v108 := hqq110.2.2.1 38 2 rfl
        have m39_3q110 : Iq110 39 3 = Iq104 39 3 := hqq110.2.2.1 39 3 rfl
        show jt _ 135 [(0, .ref (b + 38)), (1, .int (jI e)), (2, .ref (b + q)), (3, .int (jI s)), (4, .int (jI v107))] [.int (jI yq110)] (cmf b f0 Iq110 Aq110) _ _ _
        refine jt_if_eq (t := 204) d_RD_readTerm_135 rfl (by unfold jRi; omega) (fun c111 => ?_) (fun c111 => ?_)
        · skip
          refine jt_aload_n d_RD_readTerm_204 rfl ?_
          refine cm_get (k := 38) (v := .ref (b + 39)) d_RD_readTerm_205 RD_f14 (by decide) cc_3 rfl ?_
          refine jt_aload_n d_RD_readTerm_208 rfl ?_
          refine cm_get (k := 38) (v := .int (jI (Iq110 38 2))) d_RD_readTerm_209 RD_f60 (by decide) cc_3 rfl ?_
          have rb112 : 0 ≤ Iq110 38 2 ∧ Iq110 38 2 ≤ 300 := hpq110.1 38 2
          refine jt_iconst d_RD_readTerm_212 ?_
          refine cct_callV (Y := Y_TR_isKind) (ci := 0) (k := 39) (As := [.int (jI (Iq110 38 2)), .int (jI 1)]) (rest := []) d_RD_readTerm_213 RD_c63 yk_TR_isKind yv_TR_isKind rfl (Nat.le_of_ble_eq_true rfl) (by decide) (cc_1 rfl) rfl rfl (Nat.le_of_ble_eq_true rfl) (v_TR_isKind G _ b (Iq110 38 2) 1 Iq110 Aq110 hpq110.1 hpq110.2.1 (by omega) (by omega)) (fun rvq113 Iq113 Aq113 hq113 => ?_)
          obtain ⟨yq113, rfl, ryq113, hqq113, hxq113⟩ := hq113
          have hpq113 := cPo.trans hpq110 hqq113 rfl rfl
          have m38_2q113 : Iq113 38 2 = Iq110 38 2 := hqq113.2.2.1 38 2 rfl
          have m39_3q113 : Iq113 39 3 = Iq110 39 3 := hqq113.2.2.1 39 3 rfl
          show jt _ 216 [(0, .ref (b + 38)), (1, .int (jI e)), (2, .ref (b + q)), (3, .int (jI s)), (4, .int (jI v107))] [.int (jI yq113)] (cmf b f0 Iq113 Aq113) _ _ _
          refine jt_if_ne (t := 234) d_RD_readTerm_216 rfl (by unfold jRi; omega) (fun c114 => ?_) (fun c114 => ?_)
          · skip
            refine jt_aload_n d_RD_readTerm_234 rfl ?_
            refine jt_iload_n d_RD_readTerm_235 rfl ?_
            refine cct_callV (Y := Y_RD_readPrimary) (ci := 2) (k := 38) (As := [.int (jI e)]) (rest := []) d_RD_readTerm_236 RD_c130 yk_RD_readPrimary yv_RD_readPrimary rfl (Nat.le_of_ble_eq_true rfl) (by decide) cc_3 rfl rfl (Nat.le_of_ble_eq_true rfl) (v_RD_readPrimary G _ b e Iq113 Aq113 hpq113.1 hpq113.2.1 (cTok_of hpq113 hK rfl) (by omega) hE) (fun rvq115 Iq115 Aq115 hq115 => ?_)
            obtain ⟨yq115, rfl, ryq115, hqq115⟩ := hq115
            have hpq115 := cPo.trans hpq113 hqq115 rfl rfl
            have m39_3q115 : Iq115 39 3 = Iq113 39 3 := hqq115.2.2.1 39 3 rfl
            show jt _ 239 [(0, .ref (b + 38)), (1, .int (jI e)), (2, .ref (b + q)), (3, .int (jI s)), (4, .int (jI v107))] [.int (jI yq115)] (cmf b f0 Iq115 Aq115) _ _ _
            refine jt_if_eq (t := 261) d_RD_readTerm_239 rfl (by unfold jRi; omega) (fun c116 => ?_) (fun c116 => ?_)
            · skip
              refine jt_iconst d_RD_readTerm_261 ?_
              exact cm_ret d_RD_readTerm_262 rfl (jnz (by omega)) (⟨0, rfl, by omega, hpq115⟩)
            · skip
              refine jt_aload_n d_RD_readTerm_242 rfl ?_
              refine jt_aload_n d_RD_readTerm_243 rfl ?_
              refine jt_iload d_RD_readTerm_244 rfl ?_
              refine jt_iload_n d_RD_readTerm_246 rfl ?_
              refine jt_imul d_RD_readTerm_247 ?_
              refine jt_topie (fun v117 bv117 ev117 => ?_)
              refine cct_callV (Y := Y_FO_multiply) (ci := 4) (k := q) (As := [.int (jI v117)]) (rest := [.ref (b + 38)]) d_RD_readTerm_248 RD_c133 yk_FO_multiply yv_FO_multiply rfl (Nat.le_of_ble_eq_true rfl) k_q (cc_5 k5q) rfl rfl (Nat.le_of_ble_eq_true rfl) (v_FO_multiply G _ b q v117 Iq115 Aq115 hpq115.1 hpq115.2.1 k_q k5q (by omega)) (fun rvq118 Iq118 Aq118 hq118 => ?_)
              obtain ⟨yq118, rfl, ryq118, hqq118⟩ := hq118
              have hpq118 := cPo.trans hpq115 hqq118 rfl rfl
              have m38_2q118 : Iq118 38 2 = Iq115 38 2 := hqq118.2.2.1 38 2 rfl
              have m39_3q118 : Iq118 39 3 = Iq115 39 3 := hqq118.2.2.1 39 3 rfl
              show jt _ 251 [(0, .ref (b + 38)), (1, .int (jI e)), (2, .ref (b + q)), (3, .int (jI s)), (4, .int (jI v107))] [.int (jI yq118), .ref (b + 38)] (cmf b f0 Iq118 Aq118) _ _ _
              refine cct_callV (Y := Y_RD_check) (ci := 2) (k := 38) (As := [.int (jI yq118)]) (rest := []) d_RD_readTerm_251 RD_c136 yk_RD_check yv_RD_check rfl (Nat.le_of_ble_eq_true rfl) (by decide) cc_3 rfl rfl (Nat.le_of_ble_eq_true rfl) (v_RD_check G _ b yq118 Iq118 Aq118 hpq118.1 hpq118.2.1 (by omega)) (fun rvq119 Iq119 Aq119 hq119 => ?_)
              obtain ⟨yq119, rfl, ryq119, hqq119⟩ := hq119
              have hpq119 := cPo.trans hpq118 hqq119 rfl rfl
              have m38_2q119 : Iq119 38 2 = Iq118 38 2 := hqq119.2.2.1 38 2 rfl
              have m39_3q119 : Iq119 39 3 = Iq118 39 3 := hqq119.2.2.1 39 3 rfl
              show jt _ 254 [(0, .ref (b + 38)), (1, .int (jI e)), (2, .ref (b + q)), (3, .int (jI s)), (4, .int (jI v107))] [.int (jI yq119)] (cmf b f0 Iq119 Aq119) _ _ _
              refine jt_if_eq (t := 261) d_RD_readTerm_254 rfl (by unfold jRi; omega) (fun c120 => ?_) (fun c120 => ?_)
              · skip
                refine jt_iconst d_RD_readTerm_261 ?_
                exact cm_ret d_RD_readTerm_262 rfl (jnz (by omega)) (⟨0, rfl, by omega, hpq119⟩)
              · skip
                refine jt_iconst d_RD_readTerm_257 ?_
                refine jt_goto (t := 262) d_RD_readTerm_258 rfl ?_
                exact cm_ret d_RD_readTerm_262 rfl (jnz (by omega)) (⟨1, rfl, by omega, hpq119⟩)
          · skip
            refine jt_aload_n d_RD_readTerm_219 rfl ?_
            refine cm_get (k := 38) (v := .ref (b + 39)) d_RD_readTerm_220 RD_f14 (by decide) cc_3 rfl ?_
            refine jt_aload_n d_RD_readTerm_223 rfl ?_
            refine cm_get (k := 38) (v := .int (jI (Iq113 38 2))) d_RD_readTerm_224 RD_f60 (by decide) cc_3 rfl ?_
            have rb121 : 0 ≤ Iq113 38 2 ∧ Iq113 38 2 ≤ 300 := hpq113.1 38 2
            refine jt_iconst d_RD_readTerm_227 ?_
            refine cct_callV (Y := Y_TR_isWord) (ci := 0) (k := 39) (As := [.int (jI (Iq113 38 2)), .int (jI 3)]) (rest := []) d_RD_readTerm_228 RD_c91 yk_TR_isWord yv_TR_isWord rfl (Nat.le_of_ble_eq_true rfl) (by decide) (cc_1 rfl) rfl rfl (Nat.le_of_ble_eq_true rfl) (v_TR_isWord G _ b (Iq113 38 2) 3 Iq113 Aq113 hpq113.1 hpq113.2.1 (by omega) (by omega)) (fun rvq122 Iq122 Aq122 hq122 => ?_)
            obtain ⟨yq122, rfl, ryq122, hqq122, hxq122⟩ := hq122
            have hpq122 := cPo.trans hpq113 hqq122 rfl rfl
            have m38_2q122 : Iq122 38 2 = Iq113 38 2 := hqq122.2.2.1 38 2 rfl
            have m39_3q122 : Iq122 39 3 = Iq113 39 3 := hqq122.2.2.1 39 3 rfl
            show jt _ 231 [(0, .ref (b + 38)), (1, .int (jI e)), (2, .ref (b + q)), (3, .int (jI s)), (4, .int (jI v107))] [.int (jI yq122)] (cmf b f0 Iq122 Aq122) _ _ _
            refine jt_if_eq (t := 263) d_RD_readTerm_231 rfl (by unfold jRi; omega) (fun c123 => ?_) (fun c123 => ?_)
            · skip
              refine jt_aload_n d_RD_readTerm_263 rfl ?_
              refine jt_bipush d_RD_readTerm_264 (by omega) ?_
              refine jt_iload d_RD_readTerm_266 rfl ?_
              refine jt_iload_n d_RD_readTerm_268 rfl ?_
              refine jt_imul d_RD_readTerm_269 ?_
              refine jt_topie (fun v124 bv124 ev124 => ?_)
              refine jt_i2l d_RD_readTerm_270 (by unfold jRi; omega) ?_
              refine jt_ldc2 (z := 4096) d_RD_readTerm_271 RD_k147 ?_
              refine jt_lmul d_RD_readTerm_274 ?_
              refine jt_toplw (fun v125 bv125 => ?_)
              refine cct_callV (Y := Y_FO_set) (ci := 4) (k := q) (As := [.int (jI 12), .long (jL v125)]) (rest := []) d_RD_readTerm_275 RD_c114 yk_FO_set yv_FO_set rfl (Nat.le_of_ble_eq_true rfl) k_q (cc_5 k5q) rfl rfl (Nat.le_of_ble_eq_true rfl) (v_FO_set G _ b q 12 v125 Iq122 Aq122 hpq122.1 hpq122.2.1 k_q k5q (by omega) (by omega)) (fun rvq126 Iq126 Aq126 hq126 => ?_)
              obtain ⟨rfl, hqq126⟩ := hq126
              have hpq126 := cPo.trans hpq122 hqq126 rfl rfl
              have m38_2q126 : Iq126 38 2 = Iq122 38 2 := hqq126.2.2.1 38 2 rfl
              have m39_3q126 : Iq126 39 3 = Iq122 39 3 := hqq126.2.2.1 39 3 rfl
              show jt _ 278 [(0, .ref (b + 38)), (1, .int (jI e)), (2, .ref (b + q)), (3, .int (jI s)), (4, .int (jI v107))] [] (cmf b f0 Iq126 Aq126) _ _ _
              refine jt_iconst d_RD_readTerm_278 ?_
              exact cm_ret d_RD_readTerm_279 rfl (jnz (by omega)) (⟨1, rfl, by omega, hpq126⟩)
            · skip
              refine jt_aload_n d_RD_readTerm_234 rfl ?_
              refine jt_iload_n d_RD_readTerm_235 rfl ?_
              refine cct_callV (Y := Y_RD_readPrimary) (ci := 2) (k := 38) (As := [.int (jI e)]) (rest := []) d_RD_readTerm_236 RD_c130 yk_RD_readPrimary yv_RD_readPrimary rfl (Nat.le_of_ble_eq_true rfl) (by decide) cc_3 rfl rfl (Nat.le_of_ble_eq_true rfl) (v_RD_readPrimary G _ b e Iq122 Aq122 hpq122.1 hpq122.2.1 (cTok_of hpq122 hK rfl) (by omega) hE) (fun rvq127 Iq127 Aq127 hq127 => ?_)
              obtain ⟨yq127, rfl, ryq127, hqq127⟩ := hq127
              have hpq127 := cPo.trans hpq122 hqq127 rfl rfl
              have m39_3q127 : Iq127 39 3 = Iq122 39 3 := hqq127.2.2.1 39 3 rfl
              show jt _ 239 [(0, .ref (b + 38)), (1, .int (jI e)), (2, .ref (b + q)), (3, .int (jI s)), (4, .int (jI v107))] [.int (jI yq127)] (cmf b f0 Iq127 Aq127) _ _ _
              refine jt_if_eq (t := 261) d_RD_readTerm_239 rfl (by unfold jRi; omega) (fun c128 => ?_) (fun c128 => ?_)
              · skip
                refine jt_iconst d_RD_readTerm_261 ?_
                exact cm_ret d_RD_readTerm_262 rfl (jnz (by omega)) (⟨0, rfl, by omega, hpq127⟩)
              · skip
                refine jt_aload_n d_RD_readTerm_242 rfl ?_
                refine jt_aload_n d_RD_readTerm_243 rfl ?_
                refine jt_iload d_RD_readTerm_244 rfl ?_
                refine jt_iload_n d_RD_readTerm_246 rfl ?_
                refine jt_imul d_RD_readTerm_247 ?_
                refine jt_topie (fun v129 bv129 ev129 => ?_)
                refine cct_callV (Y := Y_FO_multiply) (ci := 4) (k := q) (As := [.int (jI v129)]) (rest := [.ref (b + 38)]) d_RD_readTerm_248 RD_c133 yk_FO_multiply yv_FO_multiply rfl (Nat.le_of_ble_eq_true rfl) k_q (cc_5 k5q) rfl rfl (Nat.le_of_ble_eq_true rfl) (v_FO_multiply G _ b q v129 Iq127 Aq127 hpq127.1 hpq127.2.1 k_q k5q (by omega)) (fun rvq130 Iq130 Aq130 hq130 => ?_)
                obtain ⟨yq130, rfl, ryq130, hqq130⟩ := hq130
                have hpq130 := cPo.trans hpq127 hqq130 rfl rfl
                have m38_2q130 : Iq130 38 2 = Iq127 38 2 := hqq130.2.2.1 38 2 rfl
                have m39_3q130 : Iq130 39 3 = Iq127 39 3 := hqq130.2.2.1 39 3 rfl
                show jt _ 251 [(0, .ref (b + 38)), (1, .int (jI e)), (2, .ref (b + q)), (3, .int (jI s)), (4, .int (jI v107))] [.int (jI yq130), .ref (b + 38)] (cmf b f0 Iq130 Aq130) _ _ _
                refine cct_callV (Y := Y_RD_check) (ci := 2) (k := 38) (As := [.int (jI yq130)]) (rest := []) d_RD_readTerm_251 RD_c136 yk_RD_check yv_RD_check rfl (Nat.le_of_ble_eq_true rfl) (by decide) cc_3 rfl rfl (Nat.le_of_ble_eq_true rfl) (v_RD_check G _ b yq130 Iq130 Aq130 hpq130.1 hpq130.2.1 (by omega)) (fun rvq131 Iq131 Aq131 hq131 => ?_)
                obtain ⟨yq131, rfl, ryq131, hqq131⟩ := hq131
                have hpq131 := cPo.trans hpq130 hqq131 rfl rfl
                have m38_2q131 : Iq131 38 2 = Iq130 38 2 := hqq131.2.2.1 38 2 rfl
                have m39_3q131 : Iq131 39 3 = Iq130 39 3 := hqq131.2.2.1 39 3 rfl
                show jt _ 254 [(0, .ref (b + 38)), (1, .int (jI e)), (2, .ref (b + q)), (3, .int (jI s)), (4, .int (jI v107))] [.int (jI yq131)] (cmf b f0 Iq131 Aq131) _ _ _
                refine jt_if_eq (t := 261) d_RD_readTerm_254 rfl (by unfold jRi; omega) (fun c132 => ?_) (fun c132 => ?_)
                · skip
                  refine jt_iconst d_RD_readTerm_261 ?_
                  exact cm_ret d_RD_readTerm_262 rfl (jnz (by omega)) (⟨0, rfl, by omega, hpq131⟩)
                · skip
                  refine jt_iconst d_RD_readTerm_257 ?_
                  refine jt_goto (t := 262) d_RD_readTerm_258 rfl ?_
                  exact cm_ret d_RD_readTerm_262 rfl (jnz (by omega)) (⟨1, rfl, by omega, hpq131⟩)
        · skip
          refine jt_aload_n d_RD_readTerm_138 rfl ?_
          refine jt_dup d_RD_readTerm_139 rfl ?_
          refine cm_get (k := 38) (v := .int (jI (Iq110 38 2))) d_RD_readTerm_140 RD_f60 (by decide) cc_3 rfl ?_
          have rb133 : 0 ≤ Iq110 38 2 ∧ Iq110 38 2 ≤ 300 := hpq110.1 38 2
          refine jt_iconst d_RD_readTerm_143 ?_
          refine jt_iadd d_RD_readTerm_144 ?_
          refine jt_topi (fun v134 ev134 => ?_)
          refine cm_put (k := 38) (j := 2) (v := v134) d_RD_readTerm_145 (RD_w60 _ rfl) (by decide) cc_3 rfl rfl (Nat.le_of_ble_eq_true rfl) rfl ?_
          have p135 := cPo.I 38 2 v134 hpq110 rfl (show 0 ≤ v134 ∧ v134 ≤ 300 by omega)
          refine jt_aload_n d_RD_readTerm_148 rfl ?_
          refine jt_iload_n d_RD_readTerm_149 rfl ?_
          refine cct_callV (Y := Y_RD_readEnds) (ci := 2) (k := 38) (As := [.int (jI e)]) (rest := []) d_RD_readTerm_150 RD_c140 yk_RD_readEnds yv_RD_readEnds rfl (Nat.le_of_ble_eq_true rfl) (by decide) cc_3 rfl rfl (Nat.le_of_ble_eq_true rfl) (v_RD_readEnds G _ b e (cu Iq110 38 2 v134) Aq110 p135.1 p135.2.1 (cTok_of p135 hK rfl) (by omega) hE) (fun rvq136 Iq136 Aq136 hq136 => ?_)
          obtain ⟨yq136, rfl, ryq136, hqq136, hxq136⟩ := hq136
          have hpq136 := cPo.trans p135 hqq136 rfl rfl
          have s38_2q136 : (cu Iq110 38 2 v134) 38 2 = v134 := rfl
          have s39_3q136 : (cu Iq110 38 2 v134) 39 3 = Iq110 39 3 := rfl
          have m39_3q136 : Iq136 39 3 = Iq110 39 3 := hqq136.2.2.1 39 3 rfl
          show jt _ 153 [(0, .ref (b + 38)), (1, .int (jI e)), (2, .ref (b + q)), (3, .int (jI s)), (4, .int (jI v107))] [.int (jI yq136)] (cmf b f0 Iq136 Aq136) _ _ _
          refine jt_if_eq (t := 202) d_RD_readTerm_153 rfl (by unfold jRi; omega) (fun c137 => ?_) (fun c137 => ?_)
          · skip
            refine jt_iconst d_RD_readTerm_202 ?_
            exact cm_ret d_RD_readTerm_203 rfl (jnz (by omega)) (⟨0, rfl, by omega, hpq136⟩)
          · skip
            refine jt_aload_n d_RD_readTerm_156 rfl ?_
            refine jt_aload_n d_RD_readTerm_157 rfl ?_
            refine jt_iload d_RD_readTerm_158 rfl ?_
            refine jt_aload_n d_RD_readTerm_160 rfl ?_
            refine cm_get (k := 38) (v := .ref (b + 414)) d_RD_readTerm_161 RD_f46 (by decide) cc_3 rfl ?_
            refine jt_iload_n d_RD_readTerm_164 rfl ?_
            refine cm_ldF (k := 414) (n := 9) (z := e) d_RD_readTerm_165 (by decide) rfl rfl (by omega) (by omega) (by omega) ?_
            have hfq138 := form_at 414 (by decide) rfl (e : Int).toNat (show (e : Int).toNat < 9 by omega)
            generalize 414 + 1 + 2 * (e : Int).toNat = q138 at hfq138 ⊢
            have fpq138 := form_parts q138 hfq138.2 hfq138.1
            have glq138 := eLong hfq138.2 hfq138.1
            refine jt_aload_n d_RD_readTerm_166 rfl ?_
            refine cm_get (k := 38) (v := .ref (b + 376)) d_RD_readTerm_167 RD_f40 (by decide) cc_3 rfl ?_
            refine jt_iload_n d_RD_readTerm_170 rfl ?_
            refine jt_iconst d_RD_readTerm_171 ?_
            refine jt_iadd d_RD_readTerm_172 ?_
            refine cm_ldF (k := 376) (n := 9) (z := (e + 1)) d_RD_readTerm_173 (by decide) rfl rfl (by omega) (by omega) (by omega) ?_
            have hfq139 := form_at 376 (by decide) rfl ((e + 1) : Int).toNat (show ((e + 1) : Int).toNat < 9 by omega)
            generalize 376 + 1 + 2 * ((e + 1) : Int).toNat = q139 at hfq139 ⊢
            have fpq139 := form_parts q139 hfq139.2 hfq139.1
            have glq139 := eLong hfq139.2 hfq139.1
            refine cct_callV (Y := Y_FO_setBetween) (ci := 4) (k := q) (As := [.int (jI v107), .ref (b + q138), .ref (b + q139)]) (rest := [.ref (b + 38)]) d_RD_readTerm_174 RD_c143 yk_FO_setBetween yv_FO_setBetween rfl (Nat.le_of_ble_eq_true rfl) k_q (cc_5 k5q) rfl rfl (Nat.le_of_ble_eq_true rfl) (v_FO_setBetween G _ b q v107 q138 q139 Iq136 Aq136 hpq136.1 hpq136.2.1 k_q k5q hfq138.2 hfq138.1 hfq139.2 hfq139.1 (by omega)) (fun rvq140 Iq140 Aq140 hq140 => ?_)
            obtain ⟨yq140, rfl, ryq140, hqq140⟩ := hq140
            have hpq140 := cPo.trans hpq136 hqq140 rfl rfl
            have m38_2q140 : Iq140 38 2 = Iq136 38 2 := hqq140.2.2.1 38 2 rfl
            have m39_3q140 : Iq140 39 3 = Iq136 39 3 := hqq140.2.2.1 39 3 rfl
            show jt _ 177 [(0, .ref (b + 38)), (1, .int (jI e)), (2, .ref (b + q)), (3, .int (jI s)), (4, .int (jI v107))] [.int (jI yq140), .ref (b + 38)] (cmf b f0 Iq140 Aq140) _ _ _
            refine cct_callV (Y := Y_RD_check) (ci := 2) (k := 38) (As := [.int (jI yq140)]) (rest := []) d_RD_readTerm_177 RD_c136 yk_RD_check yv_RD_check rfl (Nat.le_of_ble_eq_true rfl) (by decide) cc_3 rfl rfl (Nat.le_of_ble_eq_true rfl) (v_RD_check G _ b yq140 Iq140 Aq140 hpq140.1 hpq140.2.1 (by omega)) (fun rvq141 Iq141 Aq141 hq141 => ?_)
            obtain ⟨yq141, rfl, ryq141, hqq141⟩ := hq141
            have hpq141 := cPo.trans hpq140 hqq141 rfl rfl
            have m38_2q141 : Iq141 38 2 = Iq140 38 2 := hqq141.2.2.1 38 2 rfl
            have m39_3q141 : Iq141 39 3 = Iq140 39 3 := hqq141.2.2.1 39 3 rfl
            show jt _ 180 [(0, .ref (b + 38)), (1, .int (jI e)), (2, .ref (b + q)), (3, .int (jI s)), (4, .int (jI v107))] [.int (jI yq141)] (cmf b f0 Iq141 Aq141) _ _ _
            refine jt_if_eq (t := 202) d_RD_readTerm_180 rfl (by unfold jRi; omega) (fun c142 => ?_) (fun c142 => ?_)
            · skip
              refine jt_iconst d_RD_readTerm_202 ?_
              exact cm_ret d_RD_readTerm_203 rfl (jnz (by omega)) (⟨0, rfl, by omega, hpq141⟩)
            · skip
              refine jt_aload_n d_RD_readTerm_183 rfl ?_
              refine jt_aload_n d_RD_readTerm_184 rfl ?_
              refine jt_bipush d_RD_readTerm_185 (by omega) ?_
              refine jt_iload_n d_RD_readTerm_187 rfl ?_
              refine jt_imul d_RD_readTerm_188 ?_
              refine jt_topie (fun v143 bv143 ev143 => ?_)
              refine cct_callV (Y := Y_FO_multiply) (ci := 4) (k := q) (As := [.int (jI v143)]) (rest := [.ref (b + 38)]) d_RD_readTerm_189 RD_c133 yk_FO_multiply yv_FO_multiply rfl (Nat.le_of_ble_eq_true rfl) k_q (cc_5 k5q) rfl rfl (Nat.le_of_ble_eq_true rfl) (v_FO_multiply G _ b q v143 Iq141 Aq141 hpq141.1 hpq141.2.1 k_q k5q (by omega)) (fun rvq144 Iq144 Aq144 hq144 => ?_)
              obtain ⟨yq144, rfl, ryq144, hqq144⟩ := hq144
              have hpq144 := cPo.trans hpq141 hqq144 rfl rfl
              have m38_2q144 : Iq144 38 2 = Iq141 38 2 := hqq144.2.2.1 38 2 rfl
              have m39_3q144 : Iq144 39 3 = Iq141 39 3 := hqq144.2.2.1 39 3 rfl
              show jt _ 192 [(0, .ref (b + 38)), (1, .int (jI e)), (2, .ref (b + q)), (3, .int (jI s)), (4, .int (jI v107))] [.int (jI yq144), .ref (b + 38)] (cmf b f0 Iq144 Aq144) _ _ _
              refine cct_callV (Y := Y_RD_check) (ci := 2) (k := 38) (As := [.int (jI yq144)]) (rest := []) d_RD_readTerm_192 RD_c136 yk_RD_check yv_RD_check rfl (Nat.le_of_ble_eq_true rfl) (by decide) cc_3 rfl rfl (Nat.le_of_ble_eq_true rfl) (v_RD_check G _ b yq144 Iq144 Aq144 hpq144.1 hpq144.2.1 (by omega)) (fun rvq145 Iq145 Aq145 hq145 => ?_)
              obtain ⟨yq145, rfl, ryq145, hqq145⟩ := hq145
              have hpq145 := cPo.trans hpq144 hqq145 rfl rfl
              have m38_2q145 : Iq145 38 2 = Iq144 38 2 := hqq145.2.2.1 38 2 rfl
              have m39_3q145 : Iq145 39 3 = Iq144 39 3 := hqq145.2.2.1 39 3 rfl
              show jt _ 195 [(0, .ref (b + 38)), (1, .int (jI e)), (2, .ref (b + q)), (3, .int (jI s)), (4, .int (jI v107))] [.int (jI yq145)] (cmf b f0 Iq145 Aq145) _ _ _
              refine jt_if_eq (t := 202) d_RD_readTerm_195 rfl (by unfold jRi; omega) (fun c146 => ?_) (fun c146 => ?_)
              · skip
                refine jt_iconst d_RD_readTerm_202 ?_
                exact cm_ret d_RD_readTerm_203 rfl (jnz (by omega)) (⟨0, rfl, by omega, hpq145⟩)
              · skip
                refine jt_iconst d_RD_readTerm_198 ?_
                refine jt_goto (t := 203) d_RD_readTerm_199 rfl ?_
                exact cm_ret d_RD_readTerm_203 rfl (jnz (by omega)) (⟨1, rfl, by omega, hpq145⟩)
      · skip
        refine jt_aload_n d_RD_readTerm_69 rfl ?_
        refine jt_iload_n d_RD_readTerm_70 rfl ?_
        refine cct_callV (Y := Y_RD_readPrimary) (ci := 2) (k := 38) (As := [.int (jI e)]) (rest := []) d_RD_readTerm_71 RD_c130 yk_RD_readPrimary yv_RD_readPrimary rfl (Nat.le_of_ble_eq_true rfl) (by decide) cc_3 rfl rfl (Nat.le_of_ble_eq_true rfl) (v_RD_readPrimary G _ b e Iq104 Aq104 hpq104.1 hpq104.2.1 (cTok_of hpq104 hK rfl) (by omega) hE) (fun rvq147 Iq147 Aq147 hq147 => ?_)
        obtain ⟨yq147, rfl, ryq147, hqq147⟩ := hq147
        have hpq147 := cPo.trans hpq104 hqq147 rfl rfl
        have m39_3q147 : Iq147 39 3 = Iq104 39 3 := hqq147.2.2.1 39 3 rfl
        show jt _ 74 [(0, .ref (b + 38)), (1, .int (jI e)), (2, .ref (b + q)), (3, .int (jI s))] [.int (jI yq147)] (cmf b f0 Iq147 Aq147) _ _ _
        refine jt_if_eq (t := 96) d_RD_readTerm_74 rfl (by unfold jRi; omega) (fun c148 => ?_) (fun c148 => ?_)
        · skip
          refine jt_iconst d_RD_readTerm_96 ?_
          exact cm_ret d_RD_readTerm_97 rfl (jnz (by omega)) (⟨0, rfl, by omega, hpq147⟩)
        · skip
          refine jt_aload_n d_RD_readTerm_77 rfl ?_
          refine jt_aload_n d_RD_readTerm_78 rfl ?_
          refine jt_bipush d_RD_readTerm_79 (by omega) ?_
          refine jt_iload_n d_RD_readTerm_81 rfl ?_
          refine jt_imul d_RD_readTerm_82 ?_
          refine jt_topie (fun v149 bv149 ev149 => ?_)
          refine cct_callV (Y := Y_FO_multiply) (ci := 4) (k := q) (As := [.int (jI v149)]) (rest := [.ref (b + 38)]) d_RD_readTerm_83 RD_c133 yk_FO_multiply yv_FO_multiply rfl (Nat.le_of_ble_eq_true rfl) k_q (cc_5 k5q) rfl rfl (Nat.le_of_ble_eq_true rfl) (v_FO_multiply G _ b q v149 Iq147 Aq147 hpq147.1 hpq147.2.1 k_q k5q (by omega)) (fun rvq150 Iq150 Aq150 hq150 => ?_)
          obtain ⟨yq150, rfl, ryq150, hqq150⟩ := hq150
          have hpq150 := cPo.trans hpq147 hqq150 rfl rfl
          have m38_2q150 : Iq150 38 2 = Iq147 38 2 := hqq150.2.2.1 38 2 rfl
          have m39_3q150 : Iq150 39 3 = Iq147 39 3 := hqq150.2.2.1 39 3 rfl
          show jt _ 86 [(0, .ref (b + 38)), (1, .int (jI e)), (2, .ref (b + q)), (3, .int (jI s))] [.int (jI yq150), .ref (b + 38)] (cmf b f0 Iq150 Aq150) _ _ _
          refine cct_callV (Y := Y_RD_check) (ci := 2) (k := 38) (As := [.int (jI yq150)]) (rest := []) d_RD_readTerm_86 RD_c136 yk_RD_check yv_RD_check rfl (Nat.le_of_ble_eq_true rfl) (by decide) cc_3 rfl rfl (Nat.le_of_ble_eq_true rfl) (v_RD_check G _ b yq150 Iq150 Aq150 hpq150.1 hpq150.2.1 (by omega)) (fun rvq151 Iq151 Aq151 hq151 => ?_)
          obtain ⟨yq151, rfl, ryq151, hqq151⟩ := hq151
          have hpq151 := cPo.trans hpq150 hqq151 rfl rfl
          have m38_2q151 : Iq151 38 2 = Iq150 38 2 := hqq151.2.2.1 38 2 rfl
          have m39_3q151 : Iq151 39 3 = Iq150 39 3 := hqq151.2.2.1 39 3 rfl
          show jt _ 89 [(0, .ref (b + 38)), (1, .int (jI e)), (2, .ref (b + q)), (3, .int (jI s))] [.int (jI yq151)] (cmf b f0 Iq151 Aq151) _ _ _
          refine jt_if_eq (t := 96) d_RD_readTerm_89 rfl (by unfold jRi; omega) (fun c152 => ?_) (fun c152 => ?_)
          · skip
            refine jt_iconst d_RD_readTerm_96 ?_
            exact cm_ret d_RD_readTerm_97 rfl (jnz (by omega)) (⟨0, rfl, by omega, hpq151⟩)
          · skip
            refine jt_iconst d_RD_readTerm_92 ?_
            refine jt_goto (t := 97) d_RD_readTerm_93 rfl ?_
            exact cm_ret d_RD_readTerm_97 rfl (jnz (by omega)) (⟨1, rfl, by omega, hpq151⟩)
    · skip
      refine jt_aload_n d_RD_readTerm_23 rfl ?_
      refine cm_get (k := 38) (v := .ref (b + 39)) d_RD_readTerm_24 RD_f14 (by decide) cc_3 rfl ?_
      refine jt_aload_n d_RD_readTerm_27 rfl ?_
      refine cm_get (k := 38) (v := .int (jI (J 38 2))) d_RD_readTerm_28 RD_f60 (by decide) cc_3 rfl ?_
      refine jt_iconst d_RD_readTerm_31 ?_
      refine cct_callV (Y := Y_TR_isWord) (ci := 0) (k := 39) (As := [.int (jI (J 38 2)), .int (jI 1)]) (rest := []) d_RD_readTerm_32 RD_c91 yk_TR_isWord yv_TR_isWord rfl (Nat.le_of_ble_eq_true rfl) (by decide) (cc_1 rfl) rfl rfl (Nat.le_of_ble_eq_true rfl) (v_TR_isWord G _ b (J 38 2) 1 J B hJ.1 hJ.2.1 (by omega) (by omega)) (fun rvq153 Iq153 Aq153 hq153 => ?_)
      obtain ⟨yq153, rfl, ryq153, hqq153, hxq153⟩ := hq153
      have hpq153 := cPo.trans hJ hqq153 rfl rfl
      have m38_2q153 : Iq153 38 2 = J 38 2 := hqq153.2.2.1 38 2 rfl
      have m39_3q153 : Iq153 39 3 = J 39 3 := hqq153.2.2.1 39 3 rfl
      show jt _ 35 [(0, .ref (b + 38)), (1, .int (jI e)), (2, .ref (b + q)), (3, .int (jI s))] [.int (jI yq153)] (cmf b f0 Iq153 Aq153) _ _ _
      refine jt_if_eq (t := 54) d_RD_readTerm_35 rfl (by unfold jRi; omega) (fun c154 => ?_) (fun c154 => ?_)
      · skip
        refine jt_aload_n d_RD_readTerm_54 rfl ?_
        refine cm_get (k := 38) (v := .ref (b + 39)) d_RD_readTerm_55 RD_f14 (by decide) cc_3 rfl ?_
        refine jt_aload_n d_RD_readTerm_58 rfl ?_
        refine cm_get (k := 38) (v := .int (jI (Iq153 38 2))) d_RD_readTerm_59 RD_f60 (by decide) cc_3 rfl ?_
        have rb155 : 0 ≤ Iq153 38 2 ∧ Iq153 38 2 ≤ 300 := hpq153.1 38 2
        refine jt_iconst d_RD_readTerm_62 ?_
        refine cct_callV (Y := Y_TR_isKind) (ci := 0) (k := 39) (As := [.int (jI (Iq153 38 2)), .int (jI 0)]) (rest := []) d_RD_readTerm_63 RD_c63 yk_TR_isKind yv_TR_isKind rfl (Nat.le_of_ble_eq_true rfl) (by decide) (cc_1 rfl) rfl rfl (Nat.le_of_ble_eq_true rfl) (v_TR_isKind G _ b (Iq153 38 2) 0 Iq153 Aq153 hpq153.1 hpq153.2.1 (by omega) (by omega)) (fun rvq156 Iq156 Aq156 hq156 => ?_)
        obtain ⟨yq156, rfl, ryq156, hqq156, hxq156⟩ := hq156
        have hpq156 := cPo.trans hpq153 hqq156 rfl rfl
        have m38_2q156 : Iq156 38 2 = Iq153 38 2 := hqq156.2.2.1 38 2 rfl
        have m39_3q156 : Iq156 39 3 = Iq153 39 3 := hqq156.2.2.1 39 3 rfl
        show jt _ 66 [(0, .ref (b + 38)), (1, .int (jI e)), (2, .ref (b + q)), (3, .int (jI s))] [.int (jI yq156)] (cmf b f0 Iq156 Aq156) _ _ _
        refine jt_if_ne (t := 98) d_RD_readTerm_66 rfl (by unfold jRi; omega) (fun c157 => ?_) (fun c157 => ?_)
        · skip
          refine jt_aload_n d_RD_readTerm_98 rfl ?_
          refine cm_get (k := 38) (v := .ref (b + 39)) d_RD_readTerm_99 RD_f14 (by decide) cc_3 rfl ?_
          refine cm_get (k := 39) (v := .ref (b + 41)) d_RD_readTerm_102 RD_f67 (by decide) (cc_1 rfl) rfl ?_
          refine jt_aload_n d_RD_readTerm_105 rfl ?_
          refine cm_get (k := 38) (v := .int (jI (Iq156 38 2))) d_RD_readTerm_106 RD_f60 (by decide) cc_3 rfl ?_
          have rb158 : 0 ≤ Iq156 38 2 ∧ Iq156 38 2 ≤ 300 := hpq156.1 38 2
          refine cm_ld0 (k := 41) (n := 300) (v := (Aq156 41) (Iq156 38 2)) d_RD_readTerm_109 (by decide) rfl rfl (by omega) (by omega) (by omega) rfl ?_
          refine jt_topi (fun v159 ev159 => ?_)
          have bv159 : -2147483648 ≤ v159 ∧ v159 ≤ 2147483647 := by rw [ev159]; exact hpq156.2.1 41 (Iq156 38 2)
          refine jt_istore (L' := [(0, .ref (b + 38)), (1, .int (jI e)), (2, .ref (b + q)), (3, .int (jI s)), (4, .int (jI v159))]) d_RD_readTerm_110 (Nat.le_of_ble_eq_true rfl) rfl ?_
          refine jt_aload_n d_RD_readTerm_112 rfl ?_
          refine jt_dup d_RD_readTerm_113 rfl ?_
          refine cm_get (k := 38) (v := .int (jI (Iq156 38 2))) d_RD_readTerm_114 RD_f60 (by decide) cc_3 rfl ?_
          refine jt_iconst d_RD_readTerm_117 ?_
          refine jt_iadd d_RD_readTerm_118 ?_
          refine jt_topi (fun v160 ev160 => ?_)
          refine cm_put (k := 38) (j := 2) (v := v160) d_RD_readTerm_119 (RD_w60 _ rfl) (by decide) cc_3 rfl rfl (Nat.le_of_ble_eq_true rfl) rfl ?_
          have p161 := cPo.I 38 2 v160 hpq156 rfl (show 0 ≤ v160 ∧ v160 ≤ 300 by omega)
          refine jt_aload_n d_RD_readTerm_122 rfl ?_
          refine cm_get (k := 38) (v := .ref (b + 39)) d_RD_readTerm_123 RD_f14 (by decide) cc_3 rfl ?_
          refine jt_aload_n d_RD_readTerm_126 rfl ?_
          refine cm_get (k := 38) (v := .int (jI v160)) d_RD_readTerm_127 RD_f60 (by decide) cc_3 rfl ?_
          refine jt_bipush d_RD_readTerm_130 (by omega) ?_
          refine cct_callV (Y := Y_TR_isWord) (ci := 0) (k := 39) (As := [.int (jI v160), .int (jI 13)]) (rest := []) d_RD_readTerm_132 RD_c91 yk_TR_isWord yv_TR_isWord rfl (Nat.le_of_ble_eq_true rfl) (by decide) (cc_1 rfl) rfl rfl (Nat.le_of_ble_eq_true rfl) (v_TR_isWord G _ b v160 13 (cu Iq156 38 2 v160) Aq156 p161.1 p161.2.1 (by omega) (by omega)) (fun rvq162 Iq162 Aq162 hq162 => ?_)
          obtain ⟨yq162, rfl, ryq162, hqq162, hxq162⟩ := hq162
          have hpq162 := cPo.trans p161 hqq162 rfl rfl
          have s38_2q162 : (cu Iq156 38 2 v160) 38 2 = v160 := rfl
          have s39_3q162 : (cu Iq156 38 2 v160) 39 3 = Iq156 39 3 := rfl
          have m38_2q162 : Iq162 38 2 = v160 := hqq162.2.2.1 38 2 rfl
          have m39_3q162 : Iq162 39 3 = Iq156 39 3 := hqq162.2.2.1 39 3 rfl
          show jt _ 135 [(0, .ref (b + 38)), (1, .int (jI e)), (2, .ref (b + q)), (3, .int (jI s)), (4, .int (jI v159))] [.int (jI yq162)] (cmf b f0 Iq162 Aq162) _ _ _
          refine jt_if_eq (t := 204) d_RD_readTerm_135 rfl (by unfold jRi; omega) (fun c163 => ?_) (fun c163 => ?_)
          · skip
            refine jt_aload_n d_RD_readTerm_204 rfl ?_
            refine cm_get (k := 38) (v := .ref (b + 39)) d_RD_readTerm_205 RD_f14 (by decide) cc_3 rfl ?_
            refine jt_aload_n d_RD_readTerm_208 rfl ?_
            refine cm_get (k := 38) (v := .int (jI (Iq162 38 2))) d_RD_readTerm_209 RD_f60 (by decide) cc_3 rfl ?_
            have rb164 : 0 ≤ Iq162 38 2 ∧ Iq162 38 2 ≤ 300 := hpq162.1 38 2
            refine jt_iconst d_RD_readTerm_212 ?_
            refine cct_callV (Y := Y_TR_isKind) (ci := 0) (k := 39) (As := [.int (jI (Iq162 38 2)), .int (jI 1)]) (rest := []) d_RD_readTerm_213 RD_c63 yk_TR_isKind yv_TR_isKind rfl (Nat.le_of_ble_eq_true rfl) (by decide) (cc_1 rfl) rfl rfl (Nat.le_of_ble_eq_true rfl) (v_TR_isKind G _ b (Iq162 38 2) 1 Iq162 Aq162 hpq162.1 hpq162.2.1 (by omega) (by omega)) (fun rvq165 Iq165 Aq165 hq165 => ?_)
            obtain ⟨yq165, rfl, ryq165, hqq165, hxq165⟩ := hq165
            have hpq165 := cPo.trans hpq162 hqq165 rfl rfl
            have m38_2q165 : Iq165 38 2 = Iq162 38 2 := hqq165.2.2.1 38 2 rfl
            have m39_3q165 : Iq165 39 3 = Iq162 39 3 := hqq165.2.2.1 39 3 rfl
            show jt _ 216 [(0, .ref (b + 38)), (1, .int (jI e)), (2, .ref (b + q)), (3, .int (jI s)), (4, .int (jI v159))] [.int (jI yq165)] (cmf b f0 Iq165 Aq165) _ _ _
            refine jt_if_ne (t := 234) d_RD_readTerm_216 rfl (by unfold jRi; omega) (fun c166 => ?_) (fun c166 => ?_)
            · skip
              refine jt_aload_n d_RD_readTerm_234 rfl ?_
              refine jt_iload_n d_RD_readTerm_235 rfl ?_
              refine cct_callV (Y := Y_RD_readPrimary) (ci := 2) (k := 38) (As := [.int (jI e)]) (rest := []) d_RD_readTerm_236 RD_c130 yk_RD_readPrimary yv_RD_readPrimary rfl (Nat.le_of_ble_eq_true rfl) (by decide) cc_3 rfl rfl (Nat.le_of_ble_eq_true rfl) (v_RD_readPrimary G _ b e Iq165 Aq165 hpq165.1 hpq165.2.1 (cTok_of hpq165 hK rfl) (by omega) hE) (fun rvq167 Iq167 Aq167 hq167 => ?_)
              obtain ⟨yq167, rfl, ryq167, hqq167⟩ := hq167
              have hpq167 := cPo.trans hpq165 hqq167 rfl rfl
              have m39_3q167 : Iq167 39 3 = Iq165 39 3 := hqq167.2.2.1 39 3 rfl
              show jt _ 239 [(0, .ref (b + 38)), (1, .int (jI e)), (2, .ref (b + q)), (3, .int (jI s)), (4, .int (jI v159))] [.int (jI yq167)] (cmf b f0 Iq167 Aq167) _ _ _
              refine jt_if_eq (t := 261) d_RD_readTerm_239 rfl (by unfold jRi; omega) (fun c168 => ?_) (fun c168 => ?_)
              · skip
                refine jt_iconst d_RD_readTerm_261 ?_
                exact cm_ret d_RD_readTerm_262 rfl (jnz (by omega)) (⟨0, rfl, by omega, hpq167⟩)
              · skip
                refine jt_aload_n d_RD_readTerm_242 rfl ?_
                refine jt_aload_n d_RD_readTerm_243 rfl ?_
                refine jt_iload d_RD_readTerm_244 rfl ?_
                refine jt_iload_n d_RD_readTerm_246 rfl ?_
                refine jt_imul d_RD_readTerm_247 ?_
                refine jt_topie (fun v169 bv169 ev169 => ?_)
                refine cct_callV (Y := Y_FO_multiply) (ci := 4) (k := q) (As := [.int (jI v169)]) (rest := [.ref (b + 38)]) d_RD_readTerm_248 RD_c133 yk_FO_multiply yv_FO_multiply rfl (Nat.le_of_ble_eq_true rfl) k_q (cc_5 k5q) rfl rfl (Nat.le_of_ble_eq_true rfl) (v_FO_multiply G _ b q v169 Iq167 Aq167 hpq167.1 hpq167.2.1 k_q k5q (by omega)) (fun rvq170 Iq170 Aq170 hq170 => ?_)
                obtain ⟨yq170, rfl, ryq170, hqq170⟩ := hq170
                have hpq170 := cPo.trans hpq167 hqq170 rfl rfl
                have m38_2q170 : Iq170 38 2 = Iq167 38 2 := hqq170.2.2.1 38 2 rfl
                have m39_3q170 : Iq170 39 3 = Iq167 39 3 := hqq170.2.2.1 39 3 rfl
                show jt _ 251 [(0, .ref (b + 38)), (1, .int (jI e)), (2, .ref (b + q)), (3, .int (jI s)), (4, .int (jI v159))] [.int (jI yq170), .ref (b + 38)] (cmf b f0 Iq170 Aq170) _ _ _
                refine cct_callV (Y := Y_RD_check) (ci := 2) (k := 38) (As := [.int (jI yq170)]) (rest := []) d_RD_readTerm_251 RD_c136 yk_RD_check yv_RD_check rfl (Nat.le_of_ble_eq_true rfl) (by decide) cc_3 rfl rfl (Nat.le_of_ble_eq_true rfl) (v_RD_check G _ b yq170 Iq170 Aq170 hpq170.1 hpq170.2.1 (by omega)) (fun rvq171 Iq171 Aq171 hq171 => ?_)
                obtain ⟨yq171, rfl, ryq171, hqq171⟩ := hq171
                have hpq171 := cPo.trans hpq170 hqq171 rfl rfl
                have m38_2q171 : Iq171 38 2 = Iq170 38 2 := hqq171.2.2.1 38 2 rfl
                have m39_3q171 : Iq171 39 3 = Iq170 39 3 := hqq171.2.2.1 39 3 rfl
                show jt _ 254 [(0, .ref (b + 38)), (1, .int (jI e)), (2, .ref (b + q)), (3, .int (jI s)), (4, .int (jI v159))] [.int (jI yq171)] (cmf b f0 Iq171 Aq171) _ _ _
                refine jt_if_eq (t := 261) d_RD_readTerm_254 rfl (by unfold jRi; omega) (fun c172 => ?_) (fun c172 => ?_)
                · skip
                  refine jt_iconst d_RD_readTerm_261 ?_
                  exact cm_ret d_RD_readTerm_262 rfl (jnz (by omega)) (⟨0, rfl, by omega, hpq171⟩)
                · skip
                  refine jt_iconst d_RD_readTerm_257 ?_
                  refine jt_goto (t := 262) d_RD_readTerm_258 rfl ?_
                  exact cm_ret d_RD_readTerm_262 rfl (jnz (by omega)) (⟨1, rfl, by omega, hpq171⟩)
            · skip
              refine jt_aload_n d_RD_readTerm_219 rfl ?_
              refine cm_get (k := 38) (v := .ref (b + 39)) d_RD_readTerm_220 RD_f14 (by decide) cc_3 rfl ?_
              refine jt_aload_n d_RD_readTerm_223 rfl ?_
              refine cm_get (k := 38) (v := .int (jI (Iq165 38 2))) d_RD_readTerm_224 RD_f60 (by decide) cc_3 rfl ?_
              have rb173 : 0 ≤ Iq165 38 2 ∧ Iq165 38 2 ≤ 300 := hpq165.1 38 2
              refine jt_iconst d_RD_readTerm_227 ?_
              refine cct_callV (Y := Y_TR_isWord) (ci := 0) (k := 39) (As := [.int (jI (Iq165 38 2)), .int (jI 3)]) (rest := []) d_RD_readTerm_228 RD_c91 yk_TR_isWord yv_TR_isWord rfl (Nat.le_of_ble_eq_true rfl) (by decide) (cc_1 rfl) rfl rfl (Nat.le_of_ble_eq_true rfl) (v_TR_isWord G _ b (Iq165 38 2) 3 Iq165 Aq165 hpq165.1 hpq165.2.1 (by omega) (by omega)) (fun rvq174 Iq174 Aq174 hq174 => ?_)
              obtain ⟨yq174, rfl, ryq174, hqq174, hxq174⟩ := hq174
              have hpq174 := cPo.trans hpq165 hqq174 rfl rfl
              have m38_2q174 : Iq174 38 2 = Iq165 38 2 := hqq174.2.2.1 38 2 rfl
              have m39_3q174 : Iq174 39 3 = Iq165 39 3 := hqq174.2.2.1 39 3 rfl
              show jt _ 231 [(0, .ref (b + 38)), (1, .int (jI e)), (2, .ref (b + q)), (3, .int (jI s)), (4, .int (jI v159))] [.int (jI yq174)] (cmf b f0 Iq174 Aq174) _ _ _
              refine jt_if_eq (t := 263) d_RD_readTerm_231 rfl (by unfold jRi; omega) (fun c175 => ?_) (fun c175 => ?_)
              · skip
                refine jt_aload_n d_RD_readTerm_263 rfl ?_
                refine jt_bipush d_RD_readTerm_264 (by omega) ?_
                refine jt_iload d_RD_readTerm_266 rfl ?_
                refine jt_iload_n d_RD_readTerm_268 rfl ?_
                refine jt_imul d_RD_readTerm_269 ?_
                refine jt_topie (fun v176 bv176 ev176 => ?_)
                refine jt_i2l d_RD_readTerm_270 (by unfold jRi; omega) ?_
                refine jt_ldc2 (z := 4096) d_RD_readTerm_271 RD_k147 ?_
                refine jt_lmul d_RD_readTerm_274 ?_
                refine jt_toplw (fun v177 bv177 => ?_)
                refine cct_callV (Y := Y_FO_set) (ci := 4) (k := q) (As := [.int (jI 12), .long (jL v177)]) (rest := []) d_RD_readTerm_275 RD_c114 yk_FO_set yv_FO_set rfl (Nat.le_of_ble_eq_true rfl) k_q (cc_5 k5q) rfl rfl (Nat.le_of_ble_eq_true rfl) (v_FO_set G _ b q 12 v177 Iq174 Aq174 hpq174.1 hpq174.2.1 k_q k5q (by omega) (by omega)) (fun rvq178 Iq178 Aq178 hq178 => ?_)
                obtain ⟨rfl, hqq178⟩ := hq178
                have hpq178 := cPo.trans hpq174 hqq178 rfl rfl
                have m38_2q178 : Iq178 38 2 = Iq174 38 2 := hqq178.2.2.1 38 2 rfl
                have m39_3q178 : Iq178 39 3 = Iq174 39 3 := hqq178.2.2.1 39 3 rfl
                show jt _ 278 [(0, .ref (b + 38)), (1, .int (jI e)), (2, .ref (b + q)), (3, .int (jI s)), (4, .int (jI v159))] [] (cmf b f0 Iq178 Aq178) _ _ _
                refine jt_iconst d_RD_readTerm_278 ?_
                exact cm_ret d_RD_readTerm_279 rfl (jnz (by omega)) (⟨1, rfl, by omega, hpq178⟩)
              · skip
                refine jt_aload_n d_RD_readTerm_234 rfl ?_
                refine jt_iload_n d_RD_readTerm_235 rfl ?_
                refine cct_callV (Y := Y_RD_readPrimary) (ci := 2) (k := 38) (As := [.int (jI e)]) (rest := []) d_RD_readTerm_236 RD_c130 yk_RD_readPrimary yv_RD_readPrimary rfl (Nat.le_of_ble_eq_true rfl) (by decide) cc_3 rfl rfl (Nat.le_of_ble_eq_true rfl) (v_RD_readPrimary G _ b e Iq174 Aq174 hpq174.1 hpq174.2.1 (cTok_of hpq174 hK rfl) (by omega) hE) (fun rvq179 Iq179 Aq179 hq179 => ?_)
                obtain ⟨yq179, rfl, ryq179, hqq179⟩ := hq179
                have hpq179 := cPo.trans hpq174 hqq179 rfl rfl
                have m39_3q179 : Iq179 39 3 = Iq174 39 3 := hqq179.2.2.1 39 3 rfl
                show jt _ 239 [(0, .ref (b + 38)), (1, .int (jI e)), (2, .ref (b + q)), (3, .int (jI s)), (4, .int (jI v159))] [.int (jI yq179)] (cmf b f0 Iq179 Aq179) _ _ _
                refine jt_if_eq (t := 261) d_RD_readTerm_239 rfl (by unfold jRi; omega) (fun c180 => ?_) (fun c180 => ?_)
                · skip
                  refine jt_iconst d_RD_readTerm_261 ?_
                  exact cm_ret d_RD_readTerm_262 rfl (jnz (by omega)) (⟨0, rfl, by omega, hpq179⟩)
                · skip
                  refine jt_aload_n d_RD_readTerm_242 rfl ?_
                  refine jt_aload_n d_RD_readTerm_243 rfl ?_
                  refine jt_iload d_RD_readTerm_244 rfl ?_
                  refine jt_iload_n d_RD_readTerm_246 rfl ?_
                  refine jt_imul d_RD_readTerm_247 ?_
                  refine jt_topie (fun v181 bv181 ev181 => ?_)
                  refine cct_callV (Y := Y_FO_multiply) (ci := 4) (k := q) (As := [.int (jI v181)]) (rest := [.ref (b + 38)]) d_RD_readTerm_248 RD_c133 yk_FO_multiply yv_FO_multiply rfl (Nat.le_of_ble_eq_true rfl) k_q (cc_5 k5q) rfl rfl (Nat.le_of_ble_eq_true rfl) (v_FO_multiply G _ b q v181 Iq179 Aq179 hpq179.1 hpq179.2.1 k_q k5q (by omega)) (fun rvq182 Iq182 Aq182 hq182 => ?_)
                  obtain ⟨yq182, rfl, ryq182, hqq182⟩ := hq182
                  have hpq182 := cPo.trans hpq179 hqq182 rfl rfl
                  have m38_2q182 : Iq182 38 2 = Iq179 38 2 := hqq182.2.2.1 38 2 rfl
                  have m39_3q182 : Iq182 39 3 = Iq179 39 3 := hqq182.2.2.1 39 3 rfl
                  show jt _ 251 [(0, .ref (b + 38)), (1, .int (jI e)), (2, .ref (b + q)), (3, .int (jI s)), (4, .int (jI v159))] [.int (jI yq182), .ref (b + 38)] (cmf b f0 Iq182 Aq182) _ _ _
                  refine cct_callV (Y := Y_RD_check) (ci := 2) (k := 38) (As := [.int (jI yq182)]) (rest := []) d_RD_readTerm_251 RD_c136 yk_RD_check yv_RD_check rfl (Nat.le_of_ble_eq_true rfl) (by decide) cc_3 rfl rfl (Nat.le_of_ble_eq_true rfl) (v_RD_check G _ b yq182 Iq182 Aq182 hpq182.1 hpq182.2.1 (by omega)) (fun rvq183 Iq183 Aq183 hq183 => ?_)
                  obtain ⟨yq183, rfl, ryq183, hqq183⟩ := hq183
                  have hpq183 := cPo.trans hpq182 hqq183 rfl rfl
                  have m38_2q183 : Iq183 38 2 = Iq182 38 2 := hqq183.2.2.1 38 2 rfl
                  have m39_3q183 : Iq183 39 3 = Iq182 39 3 := hqq183.2.2.1 39 3 rfl
                  show jt _ 254 [(0, .ref (b + 38)), (1, .int (jI e)), (2, .ref (b + q)), (3, .int (jI s)), (4, .int (jI v159))] [.int (jI yq183)] (cmf b f0 Iq183 Aq183) _ _ _
                  refine jt_if_eq (t := 261) d_RD_readTerm_254 rfl (by unfold jRi; omega) (fun c184 => ?_) (fun c184 => ?_)
                  · skip
                    refine jt_iconst d_RD_readTerm_261 ?_
                    exact cm_ret d_RD_readTerm_262 rfl (jnz (by omega)) (⟨0, rfl, by omega, hpq183⟩)
                  · skip
                    refine jt_iconst d_RD_readTerm_257 ?_
                    refine jt_goto (t := 262) d_RD_readTerm_258 rfl ?_
                    exact cm_ret d_RD_readTerm_262 rfl (jnz (by omega)) (⟨1, rfl, by omega, hpq183⟩)
          · skip
            refine jt_aload_n d_RD_readTerm_138 rfl ?_
            refine jt_dup d_RD_readTerm_139 rfl ?_
            refine cm_get (k := 38) (v := .int (jI (Iq162 38 2))) d_RD_readTerm_140 RD_f60 (by decide) cc_3 rfl ?_
            have rb185 : 0 ≤ Iq162 38 2 ∧ Iq162 38 2 ≤ 300 := hpq162.1 38 2
            refine jt_iconst d_RD_readTerm_143 ?_
            refine jt_iadd d_RD_readTerm_144 ?_
            refine jt_topi (fun v186 ev186 => ?_)
            refine cm_put (k := 38) (j := 2) (v := v186) d_RD_readTerm_145 (RD_w60 _ rfl) (by decide) cc_3 rfl rfl (Nat.le_of_ble_eq_true rfl) rfl ?_
            have p187 := cPo.I 38 2 v186 hpq162 rfl (show 0 ≤ v186 ∧ v186 ≤ 300 by omega)
            refine jt_aload_n d_RD_readTerm_148 rfl ?_
            refine jt_iload_n d_RD_readTerm_149 rfl ?_
            refine cct_callV (Y := Y_RD_readEnds) (ci := 2) (k := 38) (As := [.int (jI e)]) (rest := []) d_RD_readTerm_150 RD_c140 yk_RD_readEnds yv_RD_readEnds rfl (Nat.le_of_ble_eq_true rfl) (by decide) cc_3 rfl rfl (Nat.le_of_ble_eq_true rfl) (v_RD_readEnds G _ b e (cu Iq162 38 2 v186) Aq162 p187.1 p187.2.1 (cTok_of p187 hK rfl) (by omega) hE) (fun rvq188 Iq188 Aq188 hq188 => ?_)
            obtain ⟨yq188, rfl, ryq188, hqq188, hxq188⟩ := hq188
            have hpq188 := cPo.trans p187 hqq188 rfl rfl
            have s38_2q188 : (cu Iq162 38 2 v186) 38 2 = v186 := rfl
            have s39_3q188 : (cu Iq162 38 2 v186) 39 3 = Iq162 39 3 := rfl
            have m39_3q188 : Iq188 39 3 = Iq162 39 3 := hqq188.2.2.1 39 3 rfl
            show jt _ 153 [(0, .ref (b + 38)), (1, .int (jI e)), (2, .ref (b + q)), (3, .int (jI s)), (4, .int (jI v159))] [.int (jI yq188)] (cmf b f0 Iq188 Aq188) _ _ _
            refine jt_if_eq (t := 202) d_RD_readTerm_153 rfl (by unfold jRi; omega) (fun c189 => ?_) (fun c189 => ?_)
            · skip
              refine jt_iconst d_RD_readTerm_202 ?_
              exact cm_ret d_RD_readTerm_203 rfl (jnz (by omega)) (⟨0, rfl, by omega, hpq188⟩)
            · skip
              refine jt_aload_n d_RD_readTerm_156 rfl ?_
              refine jt_aload_n d_RD_readTerm_157 rfl ?_
              refine jt_iload d_RD_readTerm_158 rfl ?_
              refine jt_aload_n d_RD_readTerm_160 rfl ?_
              refine cm_get (k := 38) (v := .ref (b + 414)) d_RD_readTerm_161 RD_f46 (by decide) cc_3 rfl ?_
              refine jt_iload_n d_RD_readTerm_164 rfl ?_
              refine cm_ldF (k := 414) (n := 9) (z := e) d_RD_readTerm_165 (by decide) rfl rfl (by omega) (by omega) (by omega) ?_
              have hfq190 := form_at 414 (by decide) rfl (e : Int).toNat (show (e : Int).toNat < 9 by omega)
              generalize 414 + 1 + 2 * (e : Int).toNat = q190 at hfq190 ⊢
              have fpq190 := form_parts q190 hfq190.2 hfq190.1
              have glq190 := eLong hfq190.2 hfq190.1
              refine jt_aload_n d_RD_readTerm_166 rfl ?_
              refine cm_get (k := 38) (v := .ref (b + 376)) d_RD_readTerm_167 RD_f40 (by decide) cc_3 rfl ?_
              refine jt_iload_n d_RD_readTerm_170 rfl ?_
              refine jt_iconst d_RD_readTerm_171 ?_
              refine jt_iadd d_RD_readTerm_172 ?_
              refine cm_ldF (k := 376) (n := 9) (z := (e + 1)) d_RD_readTerm_173 (by decide) rfl rfl (by omega) (by omega) (by omega) ?_
              have hfq191 := form_at 376 (by decide) rfl ((e + 1) : Int).toNat (show ((e + 1) : Int).toNat < 9 by omega)
              generalize 376 + 1 + 2 * ((e + 1) : Int).toNat = q191 at hfq191 ⊢
              have fpq191 := form_parts q191 hfq191.2 hfq191.1
              have glq191 := eLong hfq191.2 hfq191.1
              refine cct_callV (Y := Y_FO_setBetween) (ci := 4) (k := q) (As := [.int (jI v159), .ref (b + q190), .ref (b + q191)]) (rest := [.ref (b + 38)]) d_RD_readTerm_174 RD_c143 yk_FO_setBetween yv_FO_setBetween rfl (Nat.le_of_ble_eq_true rfl) k_q (cc_5 k5q) rfl rfl (Nat.le_of_ble_eq_true rfl) (v_FO_setBetween G _ b q v159 q190 q191 Iq188 Aq188 hpq188.1 hpq188.2.1 k_q k5q hfq190.2 hfq190.1 hfq191.2 hfq191.1 (by omega)) (fun rvq192 Iq192 Aq192 hq192 => ?_)
              obtain ⟨yq192, rfl, ryq192, hqq192⟩ := hq192
              have hpq192 := cPo.trans hpq188 hqq192 rfl rfl
              have m38_2q192 : Iq192 38 2 = Iq188 38 2 := hqq192.2.2.1 38 2 rfl
              have m39_3q192 : Iq192 39 3 = Iq188 39 3 := hqq192.2.2.1 39 3 rfl
              show jt _ 177 [(0, .ref (b + 38)), (1, .int (jI e)), (2, .ref (b + q)), (3, .int (jI s)), (4, .int (jI v159))] [.int (jI yq192), .ref (b + 38)] (cmf b f0 Iq192 Aq192) _ _ _
              refine cct_callV (Y := Y_RD_check) (ci := 2) (k := 38) (As := [.int (jI yq192)]) (rest := []) d_RD_readTerm_177 RD_c136 yk_RD_check yv_RD_check rfl (Nat.le_of_ble_eq_true rfl) (by decide) cc_3 rfl rfl (Nat.le_of_ble_eq_true rfl) (v_RD_check G _ b yq192 Iq192 Aq192 hpq192.1 hpq192.2.1 (by omega)) (fun rvq193 Iq193 Aq193 hq193 => ?_)
              obtain ⟨yq193, rfl, ryq193, hqq193⟩ := hq193
              have hpq193 := cPo.trans hpq192 hqq193 rfl rfl
              have m38_2q193 : Iq193 38 2 = Iq192 38 2 := hqq193.2.2.1 38 2 rfl
              have m39_3q193 : Iq193 39 3 = Iq192 39 3 := hqq193.2.2.1 39 3 rfl
              show jt _ 180 [(0, .ref (b + 38)), (1, .int (jI e)), (2, .ref (b + q)), (3, .int (jI s)), (4, .int (jI v159))] [.int (jI yq193)] (cmf b f0 Iq193 Aq193) _ _ _
              refine jt_if_eq (t := 202) d_RD_readTerm_180 rfl (by unfold jRi; omega) (fun c194 => ?_) (fun c194 => ?_)
              · skip
                refine jt_iconst d_RD_readTerm_202 ?_
                exact cm_ret d_RD_readTerm_203 rfl (jnz (by omega)) (⟨0, rfl, by omega, hpq193⟩)
              · skip
                refine jt_aload_n d_RD_readTerm_183 rfl ?_
                refine jt_aload_n d_RD_readTerm_184 rfl ?_
                refine jt_bipush d_RD_readTerm_185 (by omega) ?_
                refine jt_iload_n d_RD_readTerm_187 rfl ?_
                refine jt_imul d_RD_readTerm_188 ?_
                refine jt_topie (fun v195 bv195 ev195 => ?_)
                refine cct_callV (Y := Y_FO_multiply) (ci := 4) (k := q) (As := [.int (jI v195)]) (rest := [.ref (b + 38)]) d_RD_readTerm_189 RD_c133 yk_FO_multiply yv_FO_multiply rfl (Nat.le_of_ble_eq_true rfl) k_q (cc_5 k5q) rfl rfl (Nat.le_of_ble_eq_true rfl) (v_FO_multiply G _ b q v195 Iq193 Aq193 hpq193.1 hpq193.2.1 k_q k5q (by omega)) (fun rvq196 Iq196 Aq196 hq196 => ?_)
                obtain ⟨yq196, rfl, ryq196, hqq196⟩ := hq196
                have hpq196 := cPo.trans hpq193 hqq196 rfl rfl
                have m38_2q196 : Iq196 38 2 = Iq193 38 2 := hqq196.2.2.1 38 2 rfl
                have m39_3q196 : Iq196 39 3 = Iq193 39 3 := hqq196.2.2.1 39 3 rfl
                show jt _ 192 [(0, .ref (b + 38)), (1, .int (jI e)), (2, .ref (b + q)), (3, .int (jI s)), (4, .int (jI v159))] [.int (jI yq196), .ref (b + 38)] (cmf b f0 Iq196 Aq196) _ _ _
                refine cct_callV (Y := Y_RD_check) (ci := 2) (k := 38) (As := [.int (jI yq196)]) (rest := []) d_RD_readTerm_192 RD_c136 yk_RD_check yv_RD_check rfl (Nat.le_of_ble_eq_true rfl) (by decide) cc_3 rfl rfl (Nat.le_of_ble_eq_true rfl) (v_RD_check G _ b yq196 Iq196 Aq196 hpq196.1 hpq196.2.1 (by omega)) (fun rvq197 Iq197 Aq197 hq197 => ?_)
                obtain ⟨yq197, rfl, ryq197, hqq197⟩ := hq197
                have hpq197 := cPo.trans hpq196 hqq197 rfl rfl
                have m38_2q197 : Iq197 38 2 = Iq196 38 2 := hqq197.2.2.1 38 2 rfl
                have m39_3q197 : Iq197 39 3 = Iq196 39 3 := hqq197.2.2.1 39 3 rfl
                show jt _ 195 [(0, .ref (b + 38)), (1, .int (jI e)), (2, .ref (b + q)), (3, .int (jI s)), (4, .int (jI v159))] [.int (jI yq197)] (cmf b f0 Iq197 Aq197) _ _ _
                refine jt_if_eq (t := 202) d_RD_readTerm_195 rfl (by unfold jRi; omega) (fun c198 => ?_) (fun c198 => ?_)
                · skip
                  refine jt_iconst d_RD_readTerm_202 ?_
                  exact cm_ret d_RD_readTerm_203 rfl (jnz (by omega)) (⟨0, rfl, by omega, hpq197⟩)
                · skip
                  refine jt_iconst d_RD_readTerm_198 ?_
                  refine jt_goto (t := 203) d_RD_readTerm_199 rfl ?_
                  exact cm_ret d_RD_readTerm_203 rfl (jnz (by omega)) (⟨1, rfl, by omega, hpq197⟩)
        · skip
          refine jt_aload_n d_RD_readTerm_69 rfl ?_
          refine jt_iload_n d_RD_readTerm_70 rfl ?_
          refine cct_callV (Y := Y_RD_readPrimary) (ci := 2) (k := 38) (As := [.int (jI e)]) (rest := []) d_RD_readTerm_71 RD_c130 yk_RD_readPrimary yv_RD_readPrimary rfl (Nat.le_of_ble_eq_true rfl) (by decide) cc_3 rfl rfl (Nat.le_of_ble_eq_true rfl) (v_RD_readPrimary G _ b e Iq156 Aq156 hpq156.1 hpq156.2.1 (cTok_of hpq156 hK rfl) (by omega) hE) (fun rvq199 Iq199 Aq199 hq199 => ?_)
          obtain ⟨yq199, rfl, ryq199, hqq199⟩ := hq199
          have hpq199 := cPo.trans hpq156 hqq199 rfl rfl
          have m39_3q199 : Iq199 39 3 = Iq156 39 3 := hqq199.2.2.1 39 3 rfl
          show jt _ 74 [(0, .ref (b + 38)), (1, .int (jI e)), (2, .ref (b + q)), (3, .int (jI s))] [.int (jI yq199)] (cmf b f0 Iq199 Aq199) _ _ _
          refine jt_if_eq (t := 96) d_RD_readTerm_74 rfl (by unfold jRi; omega) (fun c200 => ?_) (fun c200 => ?_)
          · skip
            refine jt_iconst d_RD_readTerm_96 ?_
            exact cm_ret d_RD_readTerm_97 rfl (jnz (by omega)) (⟨0, rfl, by omega, hpq199⟩)
          · skip
            refine jt_aload_n d_RD_readTerm_77 rfl ?_
            refine jt_aload_n d_RD_readTerm_78 rfl ?_
            refine jt_bipush d_RD_readTerm_79 (by omega) ?_
            refine jt_iload_n d_RD_readTerm_81 rfl ?_
            refine jt_imul d_RD_readTerm_82 ?_
            refine jt_topie (fun v201 bv201 ev201 => ?_)
            refine cct_callV (Y := Y_FO_multiply) (ci := 4) (k := q) (As := [.int (jI v201)]) (rest := [.ref (b + 38)]) d_RD_readTerm_83 RD_c133 yk_FO_multiply yv_FO_multiply rfl (Nat.le_of_ble_eq_true rfl) k_q (cc_5 k5q) rfl rfl (Nat.le_of_ble_eq_true rfl) (v_FO_multiply G _ b q v201 Iq199 Aq199 hpq199.1 hpq199.2.1 k_q k5q (by omega)) (fun rvq202 Iq202 Aq202 hq202 => ?_)
            obtain ⟨yq202, rfl, ryq202, hqq202⟩ := hq202
            have hpq202 := cPo.trans hpq199 hqq202 rfl rfl
            have m38_2q202 : Iq202 38 2 = Iq199 38 2 := hqq202.2.2.1 38 2 rfl
            have m39_3q202 : Iq202 39 3 = Iq199 39 3 := hqq202.2.2.1 39 3 rfl
            show jt _ 86 [(0, .ref (b + 38)), (1, .int (jI e)), (2, .ref (b + q)), (3, .int (jI s))] [.int (jI yq202), .ref (b + 38)] (cmf b f0 Iq202 Aq202) _ _ _
            refine cct_callV (Y := Y_RD_check) (ci := 2) (k := 38) (As := [.int (jI yq202)]) (rest := []) d_RD_readTerm_86 RD_c136 yk_RD_check yv_RD_check rfl (Nat.le_of_ble_eq_true rfl) (by decide) cc_3 rfl rfl (Nat.le_of_ble_eq_true rfl) (v_RD_check G _ b yq202 Iq202 Aq202 hpq202.1 hpq202.2.1 (by omega)) (fun rvq203 Iq203 Aq203 hq203 => ?_)
            obtain ⟨yq203, rfl, ryq203, hqq203⟩ := hq203
            have hpq203 := cPo.trans hpq202 hqq203 rfl rfl
            have m38_2q203 : Iq203 38 2 = Iq202 38 2 := hqq203.2.2.1 38 2 rfl
            have m39_3q203 : Iq203 39 3 = Iq202 39 3 := hqq203.2.2.1 39 3 rfl
            show jt _ 89 [(0, .ref (b + 38)), (1, .int (jI e)), (2, .ref (b + q)), (3, .int (jI s))] [.int (jI yq203)] (cmf b f0 Iq203 Aq203) _ _ _
            refine jt_if_eq (t := 96) d_RD_readTerm_89 rfl (by unfold jRi; omega) (fun c204 => ?_) (fun c204 => ?_)
            · skip
              refine jt_iconst d_RD_readTerm_96 ?_
              exact cm_ret d_RD_readTerm_97 rfl (jnz (by omega)) (⟨0, rfl, by omega, hpq203⟩)
            · skip
              refine jt_iconst d_RD_readTerm_92 ?_
              refine jt_goto (t := 97) d_RD_readTerm_93 rfl ?_
              exact cm_ret d_RD_readTerm_97 rfl (jnz (by omega)) (⟨1, rfl, by omega, hpq203⟩)
      · skip
        refine jt_iload_n d_RD_readTerm_38 rfl ?_
        refine jt_ineg d_RD_readTerm_39 ?_
        refine jt_topi (fun v205 ev205 => ?_)
        refine jt_istore_n (L' := [(0, .ref (b + 38)), (1, .int (jI e)), (2, .ref (b + q)), (3, .int (jI v205))]) d_RD_readTerm_40 (Nat.le_of_ble_eq_true rfl) rfl ?_
        refine jt_aload_n d_RD_readTerm_41 rfl ?_
        refine jt_dup d_RD_readTerm_42 rfl ?_
        refine cm_get (k := 38) (v := .int (jI (Iq153 38 2))) d_RD_readTerm_43 RD_f60 (by decide) cc_3 rfl ?_
        have rb206 : 0 ≤ Iq153 38 2 ∧ Iq153 38 2 ≤ 300 := hpq153.1 38 2
        refine jt_iconst d_RD_readTerm_46 ?_
        refine jt_iadd d_RD_readTerm_47 ?_
        refine jt_topi (fun v207 ev207 => ?_)
        refine cm_put (k := 38) (j := 2) (v := v207) d_RD_readTerm_48 (RD_w60 _ rfl) (by decide) cc_3 rfl rfl (Nat.le_of_ble_eq_true rfl) rfl ?_
        have p208 := cPo.I 38 2 v207 hpq153 rfl (show 0 ≤ v207 ∧ v207 ≤ 300 by omega)
        refine jt_goto (t := 9) d_RD_readTerm_51 rfl ?_
        exact ih v205 (cu Iq153 38 2 v207) Aq153 p208 (by omega) (show 300 - v207 < (n9 : Int) by omega)
set_option maxRecDepth 100000 in
set_option maxHeartbeats 4000000 in
theorem v_RD_readTerm (G : jG) (d b : Nat) (e : Int) (I : Nat → Nat → Int) (A : Nat → Int → Int) (hI : cSI I) (hA : cSA A) (hK : cTok A) (he : 0 ≤ e ∧ e ≤ 8) (hE : ∀ (I : Nat → Nat → Int) (A : Nat → Int → Int), cSI I → cSA A → cTok A → (e + 1 = 9 → 1 ≤ I 38 2) → cct G Y_RD_readExpression d b [.ref (b + 38), .int (jI (e + 1))] I A (fun (rv : Option Value) (I2 : Nat → Nat → Int) (A2 : Nat → Int → Int) => ∃ y : Int, rv = some (.int (jI y)) ∧ (0 ≤ y ∧ y ≤ 1) ∧ cPo [610, 611, 615] [] I A I2 A2 ∧ (y = 1 → e + 1 ≤ 8))) : cct G Y_RD_readTerm (d + 2) b [.ref (b + 38), .int (jI e)] I A (fun (rv : Option Value) (I2 : Nat → Nat → Int) (A2 : Nat → Int → Int) => ∃ y : Int, rv = some (.int (jI y)) ∧ (0 ≤ y ∧ y ≤ 1) ∧ cPo [610, 611, 615] [] I A I2 A2) := by
  refine cct_of (by decide) (Nat.le_of_ble_eq_true rfl) (fun f0 sz => ?_)
  show jt _ 0 [(0, .ref (b + 38)), (1, .int (jI e))] [] _ _ _ _
  have r39 : 0 ≤ I 39 3 ∧ I 39 3 ≤ 300 := hI 39 3
  have r38 : 0 ≤ I 38 2 ∧ I 38 2 ≤ 300 := hI 38 2
  have hz0 : cPo [610, 611, 615] [] I A I A := cPo.refl hI hA
  refine jt_aload_n d_RD_readTerm_0 rfl ?_
  refine cm_get (k := 38) (v := .ref (b + 395)) d_RD_readTerm_1 RD_f43 (by decide) cc_3 rfl ?_
  refine jt_iload_n d_RD_readTerm_4 rfl ?_
  refine cm_ldF (k := 395) (n := 9) (z := e) d_RD_readTerm_5 (by decide) rfl rfl (by omega) (by omega) (by omega) ?_
  have hfq1 := form_at 395 (by decide) rfl (e : Int).toNat (show (e : Int).toNat < 9 by omega)
  generalize 395 + 1 + 2 * (e : Int).toNat = q1 at hfq1 ⊢
  have fpq1 := form_parts q1 hfq1.2 hfq1.1
  have glq1 := eLong hfq1.2 hfq1.1
  refine jt_astore_n (L' := [(0, .ref (b + 38)), (1, .int (jI e)), (2, .ref (b + q1))]) d_RD_readTerm_6 (Nat.le_of_ble_eq_true rfl) rfl ?_
  refine jt_iconst d_RD_readTerm_7 ?_
  refine jt_istore_n (L' := [(0, .ref (b + 38)), (1, .int (jI e)), (2, .ref (b + q1)), (3, .int (jI 1))]) d_RD_readTerm_8 (Nat.le_of_ble_eq_true rfl) rfl ?_
  exact l9_RD_readTermv G d b e I A hI hA hK he hE f0 sz q1 hfq1.2 hfq1.1 301 1 I A hz0 (Or.inl rfl) (by omega)
set_option maxRecDepth 100000 in
set_option maxHeartbeats 4000000 in
theorem l46_RD_readExpression_sv (G : jG) (d b : Nat) (e : Int) (I : Nat → Nat → Int) (A : Nat → Int → Int) (hI : cSI I) (hA : cSA A) (hK : cTok A) (he : 0 ≤ e ∧ e ≤ 9) (ha : e = 9 → 1 ≤ I 38 2) (hE : e ≤ 8 → ∀ (I : Nat → Nat → Int) (A : Nat → Int → Int), cSI I → cSA A → cTok A → (e + 1 = 9 → 1 ≤ I 38 2) → cct G Y_RD_readExpression d b [.ref (b + 38), .int (jI (e + 1))] I A (fun (rv : Option Value) (I2 : Nat → Nat → Int) (A2 : Nat → Int → Int) => ∃ y : Int, rv = some (.int (jI y)) ∧ (0 ≤ y ∧ y ≤ 1) ∧ cPo [610, 611, 615] [] I A I2 A2 ∧ (y = 1 → e + 1 ≤ 8))) (f0 : jF) (sz : Nat) (q : Nat) (k_q : q < 472) (k5q : ck q = 5) (e8 : e ≤ 8) : ∀ (n9 : Nat) (u : Int) (v : Int) (k : Int) (J : Nat → Nat → Int) (B : Nat → Int → Int), cPo [610, 611, 615] [] I A J B → (0 ≤ u ∧ u ≤ 1) → (0 ≤ v ∧ v ≤ 1) → (0 ≤ k ∧ k ≤ 300) → 300 - k < (n9 : Int) → jt (jm G Y_RD_readExpression (gR (d + 3)) (cQ b f0 sz (fun (rv : Option Value) (I2 : Nat → Nat → Int) (A2 : Nat → Int → Int) => ∃ y : Int, rv = some (.int (jI y)) ∧ (0 ≤ y ∧ y ≤ 1) ∧ cPo [610, 611, 615] [] I A I2 A2 ∧ (y = 1 → e ≤ 8)))) 46 [(0, .ref (b + 38)), (1, .int (jI e)), (2, .ref (b + q)), (3, .int (jI u)), (4, .int (jI v)), (5, .int (jI k))] [] (cmf b f0 J B) sz 0 0 := by
  have r39 : 0 ≤ I 39 3 ∧ I 39 3 ≤ 300 := hI 39 3
  have r38 : 0 ≤ I 38 2 ∧ I 38 2 ≤ 300 := hI 38 2
  have fpq := form_parts q k_q k5q
  have glq := eLong k_q k5q
  intro n9
  induction n9 with
  | zero =>
    intro u v k J B hJ u0 v0 k0 hmeas
    have f39 : J 39 3 = I 39 3 := hJ.2.2.1 39 3 rfl
    have q38 : 0 ≤ J 38 2 ∧ J 38 2 ≤ 300 := hJ.1 38 2
    exfalso
    omega
  | succ n9 ih =>
    intro u v k J B hJ u0 v0 k0 hmeas
    have f39 : J 39 3 = I 39 3 := hJ.2.2.1 39 3 rfl
    have q38 : 0 ≤ J 38 2 ∧ J 38 2 ≤ 300 := hJ.1 38 2
    refine jt_iload d_RD_readExpression_46 rfl ?_
    refine jt_sipush d_RD_readExpression_48 (by omega) ?_
    refine jt_icmp_ge (t := 156) d_RD_readExpression_51 rfl (by unfold jRi; omega) (by unfold jRi; omega) (fun c101 => ?_) (fun c101 => ?_)
    · skip
      refine jt_aload_n d_RD_readExpression_156 rfl ?_
      refine jt_aload_n d_RD_readExpression_157 rfl ?_
      refine cct_callV (Y := Y_FO_hasNumbers) (ci := 4) (k := q) (As := []) (rest := [.ref (b + 38)]) d_RD_readExpression_158 RD_c127 yk_FO_hasNumbers yv_FO_hasNumbers rfl (Nat.le_of_ble_eq_true rfl) k_q (cc_5 k5q) rfl rfl (Nat.le_of_ble_eq_true rfl) (v_FO_hasNumbers G _ b q J B hJ.1 hJ.2.1 k_q k5q ) (fun rvq102 Iq102 Aq102 hq102 => ?_)
      obtain ⟨yq102, rfl, ryq102, hqq102⟩ := hq102
      have hpq102 := cPo.trans hJ hqq102 rfl rfl
      have m38_2q102 : Iq102 38 2 = J 38 2 := hqq102.2.2.1 38 2 rfl
      have m39_3q102 : Iq102 39 3 = J 39 3 := hqq102.2.2.1 39 3 rfl
      show jt _ 161 [(0, .ref (b + 38)), (1, .int (jI e)), (2, .ref (b + q)), (3, .int (jI u)), (4, .int (jI v)), (5, .int (jI k))] [.int (jI yq102), .ref (b + 38)] (cmf b f0 Iq102 Aq102) _ _ _
      refine jt_if_eq (t := 175) d_RD_readExpression_161 rfl (by unfold jRi; omega) (fun c103 => ?_) (fun c103 => ?_)
      · skip
        refine jt_iconst d_RD_readExpression_175 ?_
        refine cm_put (k := 38) (j := 7) (v := 0) d_RD_readExpression_176 (RD_w56 _ rfl) (by decide) cc_3 (jnz (by omega)) rfl (Nat.le_of_ble_eq_true rfl) rfl ?_
        have p104 := cPo.I 38 7 0 hpq102 rfl (show 0 ≤ 0 ∧ 0 ≤ 1 by omega)
        refine jt_iconst d_RD_readExpression_179 ?_
        exact cm_ret d_RD_readExpression_180 rfl (jnz (by omega)) (⟨1, rfl, by omega, p104, show 1 = 1 → e ≤ 8 by omega⟩)
      · skip
        refine jt_aload_n d_RD_readExpression_164 rfl ?_
        refine cm_get (k := 38) (v := .int (jI (Iq102 38 7))) d_RD_readExpression_165 RD_f56 (by decide) cc_3 rfl ?_
        have rb105 : 0 ≤ Iq102 38 7 ∧ Iq102 38 7 ≤ 1 := hpq102.1 38 7
        refine jt_if_eq (t := 175) d_RD_readExpression_168 rfl (by unfold jRi; omega) (fun c106 => ?_) (fun c106 => ?_)
        · skip
          refine jt_iconst d_RD_readExpression_175 ?_
          refine cm_put (k := 38) (j := 7) (v := 0) d_RD_readExpression_176 (RD_w56 _ rfl) (by decide) cc_3 (jnz (by omega)) rfl (Nat.le_of_ble_eq_true rfl) rfl ?_
          have p107 := cPo.I 38 7 0 hpq102 rfl (show 0 ≤ 0 ∧ 0 ≤ 1 by omega)
          refine jt_iconst d_RD_readExpression_179 ?_
          exact cm_ret d_RD_readExpression_180 rfl (jnz (by omega)) (⟨1, rfl, by omega, p107, show 1 = 1 → e ≤ 8 by omega⟩)
        · skip
          refine jt_iconst d_RD_readExpression_171 ?_
          refine jt_goto (t := 176) d_RD_readExpression_172 rfl ?_
          refine cm_put (k := 38) (j := 7) (v := 1) d_RD_readExpression_176 (RD_w56 _ rfl) (by decide) cc_3 (jnz (by omega)) rfl (Nat.le_of_ble_eq_true rfl) rfl ?_
          have p108 := cPo.I 38 7 1 hpq102 rfl (show 0 ≤ 1 ∧ 1 ≤ 1 by omega)
          refine jt_iconst d_RD_readExpression_179 ?_
          exact cm_ret d_RD_readExpression_180 rfl (jnz (by omega)) (⟨1, rfl, by omega, p108, show 1 = 1 → e ≤ 8 by omega⟩)
    · skip
      refine jt_iload d_RD_readExpression_54 rfl ?_
      refine jt_if_eq (t := 156) d_RD_readExpression_56 rfl (by unfold jRi; omega) (fun c109 => ?_) (fun c109 => ?_)
      · skip
        refine jt_aload_n d_RD_readExpression_156 rfl ?_
        refine jt_aload_n d_RD_readExpression_157 rfl ?_
        refine cct_callV (Y := Y_FO_hasNumbers) (ci := 4) (k := q) (As := []) (rest := [.ref (b + 38)]) d_RD_readExpression_158 RD_c127 yk_FO_hasNumbers yv_FO_hasNumbers rfl (Nat.le_of_ble_eq_true rfl) k_q (cc_5 k5q) rfl rfl (Nat.le_of_ble_eq_true rfl) (v_FO_hasNumbers G _ b q J B hJ.1 hJ.2.1 k_q k5q ) (fun rvq110 Iq110 Aq110 hq110 => ?_)
        obtain ⟨yq110, rfl, ryq110, hqq110⟩ := hq110
        have hpq110 := cPo.trans hJ hqq110 rfl rfl
        have m38_2q110 : Iq110 38 2 = J 38 2 := hqq110.2.2.1 38 2 rfl
        have m39_3q110 : Iq110 39 3 = J 39 3 := hqq110.2.2.1 39 3 rfl
        show jt _ 161 [(0, .ref (b + 38)), (1, .int (jI e)), (2, .ref (b + q)), (3, .int (jI u)), (4, .int (jI v)), (5, .int (jI k))] [.int (jI yq110), .ref (b + 38)] (cmf b f0 Iq110 Aq110) _ _ _
        refine jt_if_eq (t := 175) d_RD_readExpression_161 rfl (by unfold jRi; omega) (fun c111 => ?_) (fun c111 => ?_)
        · skip
          refine jt_iconst d_RD_readExpression_175 ?_
          refine cm_put (k := 38) (j := 7) (v := 0) d_RD_readExpression_176 (RD_w56 _ rfl) (by decide) cc_3 (jnz (by omega)) rfl (Nat.le_of_ble_eq_true rfl) rfl ?_
          have p112 := cPo.I 38 7 0 hpq110 rfl (show 0 ≤ 0 ∧ 0 ≤ 1 by omega)
          refine jt_iconst d_RD_readExpression_179 ?_
          exact cm_ret d_RD_readExpression_180 rfl (jnz (by omega)) (⟨1, rfl, by omega, p112, show 1 = 1 → e ≤ 8 by omega⟩)
        · skip
          refine jt_aload_n d_RD_readExpression_164 rfl ?_
          refine cm_get (k := 38) (v := .int (jI (Iq110 38 7))) d_RD_readExpression_165 RD_f56 (by decide) cc_3 rfl ?_
          have rb113 : 0 ≤ Iq110 38 7 ∧ Iq110 38 7 ≤ 1 := hpq110.1 38 7
          refine jt_if_eq (t := 175) d_RD_readExpression_168 rfl (by unfold jRi; omega) (fun c114 => ?_) (fun c114 => ?_)
          · skip
            refine jt_iconst d_RD_readExpression_175 ?_
            refine cm_put (k := 38) (j := 7) (v := 0) d_RD_readExpression_176 (RD_w56 _ rfl) (by decide) cc_3 (jnz (by omega)) rfl (Nat.le_of_ble_eq_true rfl) rfl ?_
            have p115 := cPo.I 38 7 0 hpq110 rfl (show 0 ≤ 0 ∧ 0 ≤ 1 by omega)
            refine jt_iconst d_RD_readExpression_179 ?_
            exact cm_ret d_RD_readExpression_180 rfl (jnz (by omega)) (⟨1, rfl, by omega, p115, show 1 = 1 → e ≤ 8 by omega⟩)
          · skip
            refine jt_iconst d_RD_readExpression_171 ?_
            refine jt_goto (t := 176) d_RD_readExpression_172 rfl ?_
            refine cm_put (k := 38) (j := 7) (v := 1) d_RD_readExpression_176 (RD_w56 _ rfl) (by decide) cc_3 (jnz (by omega)) rfl (Nat.le_of_ble_eq_true rfl) rfl ?_
            have p116 := cPo.I 38 7 1 hpq110 rfl (show 0 ≤ 1 ∧ 1 ≤ 1 by omega)
            refine jt_iconst d_RD_readExpression_179 ?_
            exact cm_ret d_RD_readExpression_180 rfl (jnz (by omega)) (⟨1, rfl, by omega, p116, show 1 = 1 → e ≤ 8 by omega⟩)
      · skip
        refine jt_aload_n d_RD_readExpression_59 rfl ?_
        refine jt_iload_n d_RD_readExpression_60 rfl ?_
        refine cct_callV (Y := Y_RD_readTerm) (ci := 2) (k := 38) (As := [.int (jI e)]) (rest := []) d_RD_readExpression_61 RD_c118 yk_RD_readTerm yv_RD_readTerm rfl (Nat.le_of_ble_eq_true rfl) (by decide) cc_3 rfl rfl (Nat.le_of_ble_eq_true rfl) (v_RD_readTerm G _ b e J B hJ.1 hJ.2.1 (cTok_of hJ hK rfl) (by omega) (hE (by omega))) (fun rvq117 Iq117 Aq117 hq117 => ?_)
        obtain ⟨yq117, rfl, ryq117, hqq117⟩ := hq117
        have hpq117 := cPo.trans hJ hqq117 rfl rfl
        have m39_3q117 : Iq117 39 3 = J 39 3 := hqq117.2.2.1 39 3 rfl
        show jt _ 64 [(0, .ref (b + 38)), (1, .int (jI e)), (2, .ref (b + q)), (3, .int (jI u)), (4, .int (jI v)), (5, .int (jI k))] [.int (jI yq117)] (cmf b f0 Iq117 Aq117) _ _ _
        refine jt_if_ne (t := 69) d_RD_readExpression_64 rfl (by unfold jRi; omega) (fun c118 => ?_) (fun c118 => ?_)
        · skip
          refine jt_iload_n d_RD_readExpression_69 rfl ?_
          refine jt_if_eq (t := 86) d_RD_readExpression_70 rfl (by unfold jRi; omega) (fun c119 => ?_) (fun c119 => ?_)
          · skip
            refine jt_aload_n d_RD_readExpression_86 rfl ?_
            refine jt_aload_n d_RD_readExpression_87 rfl ?_
            refine cm_get (k := 38) (v := .ref (b + 395)) d_RD_readExpression_88 RD_f43 (by decide) cc_3 rfl ?_
            refine jt_iload_n d_RD_readExpression_91 rfl ?_
            refine cm_ldF (k := 395) (n := 9) (z := e) d_RD_readExpression_92 (by decide) rfl rfl (by omega) (by omega) (by omega) ?_
            have hfq120 := form_at 395 (by decide) rfl (e : Int).toNat (show (e : Int).toNat < 9 by omega)
            generalize 395 + 1 + 2 * (e : Int).toNat = q120 at hfq120 ⊢
            have fpq120 := form_parts q120 hfq120.2 hfq120.1
            have glq120 := eLong hfq120.2 hfq120.1
            refine cct_callV (Y := Y_FO_add) (ci := 4) (k := q) (As := [.ref (b + q120)]) (rest := []) d_RD_readExpression_93 RD_c124 yk_FO_add yv_FO_add rfl (Nat.le_of_ble_eq_true rfl) k_q (cc_5 k5q) rfl rfl (Nat.le_of_ble_eq_true rfl) (v_FO_add G _ b q q120 Iq117 Aq117 hpq117.1 hpq117.2.1 k_q k5q hfq120.2 hfq120.1 ) (fun rvq121 Iq121 Aq121 hq121 => ?_)
            obtain ⟨rfl, hqq121⟩ := hq121
            have hpq121 := cPo.trans hpq117 hqq121 rfl rfl
            have m38_2q121 : Iq121 38 2 = Iq117 38 2 := hqq121.2.2.1 38 2 rfl
            have m39_3q121 : Iq121 39 3 = Iq117 39 3 := hqq121.2.2.1 39 3 rfl
            show jt _ 96 [(0, .ref (b + 38)), (1, .int (jI e)), (2, .ref (b + q)), (3, .int (jI u)), (4, .int (jI v)), (5, .int (jI k))] [] (cmf b f0 Iq121 Aq121) _ _ _
            refine jt_aload_n d_RD_readExpression_96 rfl ?_
            refine cm_get (k := 38) (v := .ref (b + 39)) d_RD_readExpression_97 RD_f14 (by decide) cc_3 rfl ?_
            refine jt_aload_n d_RD_readExpression_100 rfl ?_
            refine cm_get (k := 38) (v := .int (jI (Iq121 38 2))) d_RD_readExpression_101 RD_f60 (by decide) cc_3 rfl ?_
            have rb122 : 0 ≤ Iq121 38 2 ∧ Iq121 38 2 ≤ 300 := hpq121.1 38 2
            refine jt_iconst d_RD_readExpression_104 ?_
            refine cct_callV (Y := Y_TR_isWord) (ci := 0) (k := 39) (As := [.int (jI (Iq121 38 2)), .int (jI 1)]) (rest := []) d_RD_readExpression_105 RD_c91 yk_TR_isWord yv_TR_isWord rfl (Nat.le_of_ble_eq_true rfl) (by decide) (cc_1 rfl) rfl rfl (Nat.le_of_ble_eq_true rfl) (v_TR_isWord G _ b (Iq121 38 2) 1 Iq121 Aq121 hpq121.1 hpq121.2.1 (by omega) (by omega)) (fun rvq123 Iq123 Aq123 hq123 => ?_)
            obtain ⟨yq123, rfl, ryq123, hqq123, hxq123⟩ := hq123
            have hpq123 := cPo.trans hpq121 hqq123 rfl rfl
            have m38_2q123 : Iq123 38 2 = Iq121 38 2 := hqq123.2.2.1 38 2 rfl
            have m39_3q123 : Iq123 39 3 = Iq121 39 3 := hqq123.2.2.1 39 3 rfl
            show jt _ 108 [(0, .ref (b + 38)), (1, .int (jI e)), (2, .ref (b + q)), (3, .int (jI u)), (4, .int (jI v)), (5, .int (jI k))] [.int (jI yq123)] (cmf b f0 Iq123 Aq123) _ _ _
            refine jt_istore_n (L' := [(0, .ref (b + 38)), (1, .int (jI e)), (2, .ref (b + q)), (3, .int (jI yq123)), (4, .int (jI v)), (5, .int (jI k))]) d_RD_readExpression_108 (Nat.le_of_ble_eq_true rfl) rfl ?_
            refine jt_iload_n d_RD_readExpression_109 rfl ?_
            refine jt_if_ne (t := 128) d_RD_readExpression_110 rfl (by unfold jRi; omega) (fun c124 => ?_) (fun c124 => ?_)
            · skip
              refine jt_iconst d_RD_readExpression_128 ?_
              refine jt_goto (t := 133) d_RD_readExpression_129 rfl ?_
              refine jt_istore (L' := [(0, .ref (b + 38)), (1, .int (jI e)), (2, .ref (b + q)), (3, .int (jI yq123)), (4, .int (jI 1)), (5, .int (jI k))]) d_RD_readExpression_133 (Nat.le_of_ble_eq_true rfl) rfl ?_
              refine jt_iload d_RD_readExpression_135 rfl ?_
              refine jt_if_eq (t := 150) d_RD_readExpression_137 rfl (by unfold jRi; omega) (fun c125 => ?_) (fun c125 => ?_)
              · skip
                exfalso
                omega
              · skip
                refine jt_aload_n d_RD_readExpression_140 rfl ?_
                refine jt_dup d_RD_readExpression_141 rfl ?_
                refine cm_get (k := 38) (v := .int (jI (Iq123 38 2))) d_RD_readExpression_142 RD_f60 (by decide) cc_3 rfl ?_
                have rb126 : 0 ≤ Iq123 38 2 ∧ Iq123 38 2 ≤ 300 := hpq123.1 38 2
                refine jt_iconst d_RD_readExpression_145 ?_
                refine jt_iadd d_RD_readExpression_146 ?_
                refine jt_topi (fun v127 ev127 => ?_)
                refine cm_put (k := 38) (j := 2) (v := v127) d_RD_readExpression_147 (RD_w60 _ rfl) (by decide) cc_3 rfl rfl (Nat.le_of_ble_eq_true rfl) rfl ?_
                have p128 := cPo.I 38 2 v127 hpq123 rfl (show 0 ≤ v127 ∧ v127 ≤ 300 by omega)
                refine jt_iinc (L' := [(0, .ref (b + 38)), (1, .int (jI e)), (2, .ref (b + q)), (3, .int (jI yq123)), (4, .int (jI 1)), (5, .int (jI (k + 1)))]) d_RD_readExpression_150 rfl (Nat.le_of_ble_eq_true rfl) rfl ?_
                refine jt_goto (t := 46) d_RD_readExpression_153 rfl ?_
                exact ih yq123 1 (k + 1) (cu Iq123 38 2 v127) Aq123 p128 (by omega) (by omega) (by omega) (by omega)
            · skip
              refine jt_aload_n d_RD_readExpression_113 rfl ?_
              refine cm_get (k := 38) (v := .ref (b + 39)) d_RD_readExpression_114 RD_f14 (by decide) cc_3 rfl ?_
              refine jt_aload_n d_RD_readExpression_117 rfl ?_
              refine cm_get (k := 38) (v := .int (jI (Iq123 38 2))) d_RD_readExpression_118 RD_f60 (by decide) cc_3 rfl ?_
              have rb129 : 0 ≤ Iq123 38 2 ∧ Iq123 38 2 ≤ 300 := hpq123.1 38 2
              refine jt_iconst d_RD_readExpression_121 ?_
              refine cct_callV (Y := Y_TR_isWord) (ci := 0) (k := 39) (As := [.int (jI (Iq123 38 2)), .int (jI 0)]) (rest := []) d_RD_readExpression_122 RD_c91 yk_TR_isWord yv_TR_isWord rfl (Nat.le_of_ble_eq_true rfl) (by decide) (cc_1 rfl) rfl rfl (Nat.le_of_ble_eq_true rfl) (v_TR_isWord G _ b (Iq123 38 2) 0 Iq123 Aq123 hpq123.1 hpq123.2.1 (by omega) (by omega)) (fun rvq130 Iq130 Aq130 hq130 => ?_)
              obtain ⟨yq130, rfl, ryq130, hqq130, hxq130⟩ := hq130
              have hpq130 := cPo.trans hpq123 hqq130 rfl rfl
              have m38_2q130 : Iq130 38 2 = Iq123 38 2 := hqq130.2.2.1 38 2 rfl
              have m39_3q130 : Iq130 39 3 = Iq123 39 3 := hqq130.2.2.1 39 3 rfl
              show jt _ 125 [(0, .ref (b + 38)), (1, .int (jI e)), (2, .ref (b + q)), (3, .int (jI yq123)), (4, .int (jI v)), (5, .int (jI k))] [.int (jI yq130)] (cmf b f0 Iq130 Aq130) _ _ _
              refine jt_if_eq (t := 132) d_RD_readExpression_125 rfl (by unfold jRi; omega) (fun c131 => ?_) (fun c131 => ?_)
              · skip
                refine jt_iconst d_RD_readExpression_132 ?_
                refine jt_istore (L' := [(0, .ref (b + 38)), (1, .int (jI e)), (2, .ref (b + q)), (3, .int (jI yq123)), (4, .int (jI 0)), (5, .int (jI k))]) d_RD_readExpression_133 (Nat.le_of_ble_eq_true rfl) rfl ?_
                refine jt_iload d_RD_readExpression_135 rfl ?_
                refine jt_if_eq (t := 150) d_RD_readExpression_137 rfl (by unfold jRi; omega) (fun c132 => ?_) (fun c132 => ?_)
                · skip
                  refine jt_iinc (L' := [(0, .ref (b + 38)), (1, .int (jI e)), (2, .ref (b + q)), (3, .int (jI yq123)), (4, .int (jI 0)), (5, .int (jI (k + 1)))]) d_RD_readExpression_150 rfl (Nat.le_of_ble_eq_true rfl) rfl ?_
                  refine jt_goto (t := 46) d_RD_readExpression_153 rfl ?_
                  exact ih yq123 0 (k + 1) Iq130 Aq130 hpq130 (by omega) (by omega) (by omega) (by omega)
                · skip
                  exfalso
                  omega
              · skip
                refine jt_iconst d_RD_readExpression_128 ?_
                refine jt_goto (t := 133) d_RD_readExpression_129 rfl ?_
                refine jt_istore (L' := [(0, .ref (b + 38)), (1, .int (jI e)), (2, .ref (b + q)), (3, .int (jI yq123)), (4, .int (jI 1)), (5, .int (jI k))]) d_RD_readExpression_133 (Nat.le_of_ble_eq_true rfl) rfl ?_
                refine jt_iload d_RD_readExpression_135 rfl ?_
                refine jt_if_eq (t := 150) d_RD_readExpression_137 rfl (by unfold jRi; omega) (fun c133 => ?_) (fun c133 => ?_)
                · skip
                  exfalso
                  omega
                · skip
                  refine jt_aload_n d_RD_readExpression_140 rfl ?_
                  refine jt_dup d_RD_readExpression_141 rfl ?_
                  refine cm_get (k := 38) (v := .int (jI (Iq130 38 2))) d_RD_readExpression_142 RD_f60 (by decide) cc_3 rfl ?_
                  have rb134 : 0 ≤ Iq130 38 2 ∧ Iq130 38 2 ≤ 300 := hpq130.1 38 2
                  refine jt_iconst d_RD_readExpression_145 ?_
                  refine jt_iadd d_RD_readExpression_146 ?_
                  refine jt_topi (fun v135 ev135 => ?_)
                  refine cm_put (k := 38) (j := 2) (v := v135) d_RD_readExpression_147 (RD_w60 _ rfl) (by decide) cc_3 rfl rfl (Nat.le_of_ble_eq_true rfl) rfl ?_
                  have p136 := cPo.I 38 2 v135 hpq130 rfl (show 0 ≤ v135 ∧ v135 ≤ 300 by omega)
                  refine jt_iinc (L' := [(0, .ref (b + 38)), (1, .int (jI e)), (2, .ref (b + q)), (3, .int (jI yq123)), (4, .int (jI 1)), (5, .int (jI (k + 1)))]) d_RD_readExpression_150 rfl (Nat.le_of_ble_eq_true rfl) rfl ?_
                  refine jt_goto (t := 46) d_RD_readExpression_153 rfl ?_
                  exact ih yq123 1 (k + 1) (cu Iq130 38 2 v135) Aq130 p136 (by omega) (by omega) (by omega) (by omega)
          · skip
            refine jt_aload_n d_RD_readExpression_73 rfl ?_
            refine jt_aload_n d_RD_readExpression_74 rfl ?_
            refine cm_get (k := 38) (v := .ref (b + 395)) d_RD_readExpression_75 RD_f43 (by decide) cc_3 rfl ?_
            refine jt_iload_n d_RD_readExpression_78 rfl ?_
            refine cm_ldF (k := 395) (n := 9) (z := e) d_RD_readExpression_79 (by decide) rfl rfl (by omega) (by omega) (by omega) ?_
            have hfq137 := form_at 395 (by decide) rfl (e : Int).toNat (show (e : Int).toNat < 9 by omega)
            generalize 395 + 1 + 2 * (e : Int).toNat = q137 at hfq137 ⊢
            have fpq137 := form_parts q137 hfq137.2 hfq137.1
            have glq137 := eLong hfq137.2 hfq137.1
            refine cct_callV (Y := Y_FO_subtract) (ci := 4) (k := q) (As := [.ref (b + q137)]) (rest := []) d_RD_readExpression_80 RD_c121 yk_FO_subtract yv_FO_subtract rfl (Nat.le_of_ble_eq_true rfl) k_q (cc_5 k5q) rfl rfl (Nat.le_of_ble_eq_true rfl) (v_FO_subtract G _ b q q137 Iq117 Aq117 hpq117.1 hpq117.2.1 k_q k5q hfq137.2 hfq137.1 ) (fun rvq138 Iq138 Aq138 hq138 => ?_)
            obtain ⟨rfl, hqq138⟩ := hq138
            have hpq138 := cPo.trans hpq117 hqq138 rfl rfl
            have m38_2q138 : Iq138 38 2 = Iq117 38 2 := hqq138.2.2.1 38 2 rfl
            have m39_3q138 : Iq138 39 3 = Iq117 39 3 := hqq138.2.2.1 39 3 rfl
            show jt _ 83 [(0, .ref (b + 38)), (1, .int (jI e)), (2, .ref (b + q)), (3, .int (jI u)), (4, .int (jI v)), (5, .int (jI k))] [] (cmf b f0 Iq138 Aq138) _ _ _
            refine jt_goto (t := 96) d_RD_readExpression_83 rfl ?_
            refine jt_aload_n d_RD_readExpression_96 rfl ?_
            refine cm_get (k := 38) (v := .ref (b + 39)) d_RD_readExpression_97 RD_f14 (by decide) cc_3 rfl ?_
            refine jt_aload_n d_RD_readExpression_100 rfl ?_
            refine cm_get (k := 38) (v := .int (jI (Iq138 38 2))) d_RD_readExpression_101 RD_f60 (by decide) cc_3 rfl ?_
            have rb139 : 0 ≤ Iq138 38 2 ∧ Iq138 38 2 ≤ 300 := hpq138.1 38 2
            refine jt_iconst d_RD_readExpression_104 ?_
            refine cct_callV (Y := Y_TR_isWord) (ci := 0) (k := 39) (As := [.int (jI (Iq138 38 2)), .int (jI 1)]) (rest := []) d_RD_readExpression_105 RD_c91 yk_TR_isWord yv_TR_isWord rfl (Nat.le_of_ble_eq_true rfl) (by decide) (cc_1 rfl) rfl rfl (Nat.le_of_ble_eq_true rfl) (v_TR_isWord G _ b (Iq138 38 2) 1 Iq138 Aq138 hpq138.1 hpq138.2.1 (by omega) (by omega)) (fun rvq140 Iq140 Aq140 hq140 => ?_)
            obtain ⟨yq140, rfl, ryq140, hqq140, hxq140⟩ := hq140
            have hpq140 := cPo.trans hpq138 hqq140 rfl rfl
            have m38_2q140 : Iq140 38 2 = Iq138 38 2 := hqq140.2.2.1 38 2 rfl
            have m39_3q140 : Iq140 39 3 = Iq138 39 3 := hqq140.2.2.1 39 3 rfl
            show jt _ 108 [(0, .ref (b + 38)), (1, .int (jI e)), (2, .ref (b + q)), (3, .int (jI u)), (4, .int (jI v)), (5, .int (jI k))] [.int (jI yq140)] (cmf b f0 Iq140 Aq140) _ _ _
            refine jt_istore_n (L' := [(0, .ref (b + 38)), (1, .int (jI e)), (2, .ref (b + q)), (3, .int (jI yq140)), (4, .int (jI v)), (5, .int (jI k))]) d_RD_readExpression_108 (Nat.le_of_ble_eq_true rfl) rfl ?_
            refine jt_iload_n d_RD_readExpression_109 rfl ?_
            refine jt_if_ne (t := 128) d_RD_readExpression_110 rfl (by unfold jRi; omega) (fun c141 => ?_) (fun c141 => ?_)
            · skip
              refine jt_iconst d_RD_readExpression_128 ?_
              refine jt_goto (t := 133) d_RD_readExpression_129 rfl ?_
              refine jt_istore (L' := [(0, .ref (b + 38)), (1, .int (jI e)), (2, .ref (b + q)), (3, .int (jI yq140)), (4, .int (jI 1)), (5, .int (jI k))]) d_RD_readExpression_133 (Nat.le_of_ble_eq_true rfl) rfl ?_
              refine jt_iload d_RD_readExpression_135 rfl ?_
              refine jt_if_eq (t := 150) d_RD_readExpression_137 rfl (by unfold jRi; omega) (fun c142 => ?_) (fun c142 => ?_)
              · skip
                exfalso
                omega
              · skip
                refine jt_aload_n d_RD_readExpression_140 rfl ?_
                refine jt_dup d_RD_readExpression_141 rfl ?_
                refine cm_get (k := 38) (v := .int (jI (Iq140 38 2))) d_RD_readExpression_142 RD_f60 (by decide) cc_3 rfl ?_
                have rb143 : 0 ≤ Iq140 38 2 ∧ Iq140 38 2 ≤ 300 := hpq140.1 38 2
                refine jt_iconst d_RD_readExpression_145 ?_
                refine jt_iadd d_RD_readExpression_146 ?_
                refine jt_topi (fun v144 ev144 => ?_)
                refine cm_put (k := 38) (j := 2) (v := v144) d_RD_readExpression_147 (RD_w60 _ rfl) (by decide) cc_3 rfl rfl (Nat.le_of_ble_eq_true rfl) rfl ?_
                have p145 := cPo.I 38 2 v144 hpq140 rfl (show 0 ≤ v144 ∧ v144 ≤ 300 by omega)
                refine jt_iinc (L' := [(0, .ref (b + 38)), (1, .int (jI e)), (2, .ref (b + q)), (3, .int (jI yq140)), (4, .int (jI 1)), (5, .int (jI (k + 1)))]) d_RD_readExpression_150 rfl (Nat.le_of_ble_eq_true rfl) rfl ?_
                refine jt_goto (t := 46) d_RD_readExpression_153 rfl ?_
                exact ih yq140 1 (k + 1) (cu Iq140 38 2 v144) Aq140 p145 (by omega) (by omega) (by omega) (by omega)
            · skip
              refine jt_aload_n d_RD_readExpression_113 rfl ?_
              refine cm_get (k := 38) (v := .ref (b + 39)) d_RD_readExpression_114 RD_f14 (by decide) cc_3 rfl ?_
              refine jt_aload_n d_RD_readExpression_117 rfl ?_
              refine cm_get (k := 38) (v := .int (jI (Iq140 38 2))) d_RD_readExpression_118 RD_f60 (by decide) cc_3 rfl ?_
              have rb146 : 0 ≤ Iq140 38 2 ∧ Iq140 38 2 ≤ 300 := hpq140.1 38 2
              refine jt_iconst d_RD_readExpression_121 ?_
              refine cct_callV (Y := Y_TR_isWord) (ci := 0) (k := 39) (As := [.int (jI (Iq140 38 2)), .int (jI 0)]) (rest := []) d_RD_readExpression_122 RD_c91 yk_TR_isWord yv_TR_isWord rfl (Nat.le_of_ble_eq_true rfl) (by decide) (cc_1 rfl) rfl rfl (Nat.le_of_ble_eq_true rfl) (v_TR_isWord G _ b (Iq140 38 2) 0 Iq140 Aq140 hpq140.1 hpq140.2.1 (by omega) (by omega)) (fun rvq147 Iq147 Aq147 hq147 => ?_)
              obtain ⟨yq147, rfl, ryq147, hqq147, hxq147⟩ := hq147
              have hpq147 := cPo.trans hpq140 hqq147 rfl rfl
              have m38_2q147 : Iq147 38 2 = Iq140 38 2 := hqq147.2.2.1 38 2 rfl
              have m39_3q147 : Iq147 39 3 = Iq140 39 3 := hqq147.2.2.1 39 3 rfl
              show jt _ 125 [(0, .ref (b + 38)), (1, .int (jI e)), (2, .ref (b + q)), (3, .int (jI yq140)), (4, .int (jI v)), (5, .int (jI k))] [.int (jI yq147)] (cmf b f0 Iq147 Aq147) _ _ _
              refine jt_if_eq (t := 132) d_RD_readExpression_125 rfl (by unfold jRi; omega) (fun c148 => ?_) (fun c148 => ?_)
              · skip
                refine jt_iconst d_RD_readExpression_132 ?_
                refine jt_istore (L' := [(0, .ref (b + 38)), (1, .int (jI e)), (2, .ref (b + q)), (3, .int (jI yq140)), (4, .int (jI 0)), (5, .int (jI k))]) d_RD_readExpression_133 (Nat.le_of_ble_eq_true rfl) rfl ?_
                refine jt_iload d_RD_readExpression_135 rfl ?_
                refine jt_if_eq (t := 150) d_RD_readExpression_137 rfl (by unfold jRi; omega) (fun c149 => ?_) (fun c149 => ?_)
                · skip
                  refine jt_iinc (L' := [(0, .ref (b + 38)), (1, .int (jI e)), (2, .ref (b + q)), (3, .int (jI yq140)), (4, .int (jI 0)), (5, .int (jI (k + 1)))]) d_RD_readExpression_150 rfl (Nat.le_of_ble_eq_true rfl) rfl ?_
                  refine jt_goto (t := 46) d_RD_readExpression_153 rfl ?_
                  exact ih yq140 0 (k + 1) Iq147 Aq147 hpq147 (by omega) (by omega) (by omega) (by omega)
                · skip
                  exfalso
                  omega
              · skip
                refine jt_iconst d_RD_readExpression_128 ?_
                refine jt_goto (t := 133) d_RD_readExpression_129 rfl ?_
                refine jt_istore (L' := [(0, .ref (b + 38)), (1, .int (jI e)), (2, .ref (b + q)), (3, .int (jI yq140)), (4, .int (jI 1)), (5, .int (jI k))]) d_RD_readExpression_133 (Nat.le_of_ble_eq_true rfl) rfl ?_
                refine jt_iload d_RD_readExpression_135 rfl ?_
                refine jt_if_eq (t := 150) d_RD_readExpression_137 rfl (by unfold jRi; omega) (fun c150 => ?_) (fun c150 => ?_)
                · skip
                  exfalso
                  omega
                · skip
                  refine jt_aload_n d_RD_readExpression_140 rfl ?_
                  refine jt_dup d_RD_readExpression_141 rfl ?_
                  refine cm_get (k := 38) (v := .int (jI (Iq147 38 2))) d_RD_readExpression_142 RD_f60 (by decide) cc_3 rfl ?_
                  have rb151 : 0 ≤ Iq147 38 2 ∧ Iq147 38 2 ≤ 300 := hpq147.1 38 2
                  refine jt_iconst d_RD_readExpression_145 ?_
                  refine jt_iadd d_RD_readExpression_146 ?_
                  refine jt_topi (fun v152 ev152 => ?_)
                  refine cm_put (k := 38) (j := 2) (v := v152) d_RD_readExpression_147 (RD_w60 _ rfl) (by decide) cc_3 rfl rfl (Nat.le_of_ble_eq_true rfl) rfl ?_
                  have p153 := cPo.I 38 2 v152 hpq147 rfl (show 0 ≤ v152 ∧ v152 ≤ 300 by omega)
                  refine jt_iinc (L' := [(0, .ref (b + 38)), (1, .int (jI e)), (2, .ref (b + q)), (3, .int (jI yq140)), (4, .int (jI 1)), (5, .int (jI (k + 1)))]) d_RD_readExpression_150 rfl (Nat.le_of_ble_eq_true rfl) rfl ?_
                  refine jt_goto (t := 46) d_RD_readExpression_153 rfl ?_
                  exact ih yq140 1 (k + 1) (cu Iq147 38 2 v152) Aq147 p153 (by omega) (by omega) (by omega) (by omega)
        · skip
          refine jt_iconst d_RD_readExpression_67 ?_
          exact cm_ret d_RD_readExpression_68 rfl (jnz (by omega)) (⟨0, rfl, by omega, hpq117, show 0 = 1 → e ≤ 8 by omega⟩)
set_option maxRecDepth 100000 in
set_option maxHeartbeats 4000000 in
theorem v_RD_readExpression_s (G : jG) (d b : Nat) (e : Int) (I : Nat → Nat → Int) (A : Nat → Int → Int) (hI : cSI I) (hA : cSA A) (hK : cTok A) (he : 0 ≤ e ∧ e ≤ 9) (ha : e = 9 → 1 ≤ I 38 2) (hE : e ≤ 8 → ∀ (I : Nat → Nat → Int) (A : Nat → Int → Int), cSI I → cSA A → cTok A → (e + 1 = 9 → 1 ≤ I 38 2) → cct G Y_RD_readExpression d b [.ref (b + 38), .int (jI (e + 1))] I A (fun (rv : Option Value) (I2 : Nat → Nat → Int) (A2 : Nat → Int → Int) => ∃ y : Int, rv = some (.int (jI y)) ∧ (0 ≤ y ∧ y ≤ 1) ∧ cPo [610, 611, 615] [] I A I2 A2 ∧ (y = 1 → e + 1 ≤ 8))) : cct G Y_RD_readExpression (d + 3) b [.ref (b + 38), .int (jI e)] I A (fun (rv : Option Value) (I2 : Nat → Nat → Int) (A2 : Nat → Int → Int) => ∃ y : Int, rv = some (.int (jI y)) ∧ (0 ≤ y ∧ y ≤ 1) ∧ cPo [610, 611, 615] [] I A I2 A2 ∧ (y = 1 → e ≤ 8)) := by
  refine cct_of (by decide) (Nat.le_of_ble_eq_true rfl) (fun f0 sz => ?_)
  show jt _ 0 [(0, .ref (b + 38)), (1, .int (jI e))] [] _ _ _ _
  have r39 : 0 ≤ I 39 3 ∧ I 39 3 ≤ 300 := hI 39 3
  have r38 : 0 ≤ I 38 2 ∧ I 38 2 ≤ 300 := hI 38 2
  have hz0 : cPo [610, 611, 615] [] I A I A := cPo.refl hI hA
  refine jt_iload_n d_RD_readExpression_0 rfl ?_
  refine jt_bipush d_RD_readExpression_1 (by omega) ?_
  refine jt_icmp_le (t := 24) d_RD_readExpression_3 rfl (by unfold jRi; omega) (by unfold jRi; omega) (fun c1 => ?_) (fun c1 => ?_)
  · skip
    refine jt_aload_n d_RD_readExpression_24 rfl ?_
    refine cm_get (k := 38) (v := .ref (b + 376)) d_RD_readExpression_25 RD_f40 (by decide) cc_3 rfl ?_
    refine jt_iload_n d_RD_readExpression_28 rfl ?_
    refine cm_ldF (k := 376) (n := 9) (z := e) d_RD_readExpression_29 (by decide) rfl rfl (by omega) (by omega) (by omega) ?_
    have hfq2 := form_at 376 (by decide) rfl (e : Int).toNat (show (e : Int).toNat < 9 by omega)
    generalize 376 + 1 + 2 * (e : Int).toNat = q2 at hfq2 ⊢
    have fpq2 := form_parts q2 hfq2.2 hfq2.1
    have glq2 := eLong hfq2.2 hfq2.1
    refine jt_astore_n (L' := [(0, .ref (b + 38)), (1, .int (jI e)), (2, .ref (b + q2))]) d_RD_readExpression_30 (Nat.le_of_ble_eq_true rfl) rfl ?_
    refine jt_aload_n d_RD_readExpression_31 rfl ?_
    refine jt_bipush d_RD_readExpression_32 (by omega) ?_
    refine jt_lconst (z := 0) d_RD_readExpression_34 (by decide) ?_
    refine cct_callV (Y := Y_FO_set) (ci := 4) (k := q2) (As := [.int (jI 12), .long (jL 0)]) (rest := []) d_RD_readExpression_35 RD_c114 yk_FO_set yv_FO_set rfl (Nat.le_of_ble_eq_true rfl) hfq2.2 (cc_5 hfq2.1) rfl rfl (Nat.le_of_ble_eq_true rfl) (v_FO_set G _ b q2 12 0 I A hz0.1 hz0.2.1 hfq2.2 hfq2.1 (by omega) (by omega)) (fun rvq3 Iq3 Aq3 hq3 => ?_)
    obtain ⟨rfl, hqq3⟩ := hq3
    have hpq3 := cPo.trans hz0 hqq3 rfl rfl
    have m38_2q3 : Iq3 38 2 = I 38 2 := hqq3.2.2.1 38 2 rfl
    have m39_3q3 : Iq3 39 3 = I 39 3 := hqq3.2.2.1 39 3 rfl
    show jt _ 38 [(0, .ref (b + 38)), (1, .int (jI e)), (2, .ref (b + q2))] [] (cmf b f0 Iq3 Aq3) _ _ _
    refine jt_iconst d_RD_readExpression_38 ?_
    refine jt_istore_n (L' := [(0, .ref (b + 38)), (1, .int (jI e)), (2, .ref (b + q2)), (3, .int (jI 0))]) d_RD_readExpression_39 (Nat.le_of_ble_eq_true rfl) rfl ?_
    refine jt_iconst d_RD_readExpression_40 ?_
    refine jt_istore (L' := [(0, .ref (b + 38)), (1, .int (jI e)), (2, .ref (b + q2)), (3, .int (jI 0)), (4, .int (jI 1))]) d_RD_readExpression_41 (Nat.le_of_ble_eq_true rfl) rfl ?_
    refine jt_iconst d_RD_readExpression_43 ?_
    refine jt_istore (L' := [(0, .ref (b + 38)), (1, .int (jI e)), (2, .ref (b + q2)), (3, .int (jI 0)), (4, .int (jI 1)), (5, .int (jI 0))]) d_RD_readExpression_44 (Nat.le_of_ble_eq_true rfl) rfl ?_
    exact l46_RD_readExpression_sv G d b e I A hI hA hK he ha hE f0 sz q2 hfq2.2 hfq2.1 ((by omega)) 301 0 1 0 Iq3 Aq3 hpq3 (by omega) (by omega) (by omega) (by omega)
  · skip
    refine jt_aload_n d_RD_readExpression_6 rfl ?_
    refine jt_dup d_RD_readExpression_7 rfl ?_
    refine cm_get (k := 38) (v := .int (jI (I 38 2))) d_RD_readExpression_8 RD_f60 (by decide) cc_3 rfl ?_
    have rb4 : 0 ≤ I 38 2 ∧ I 38 2 ≤ 300 := hz0.1 38 2
    refine jt_iconst d_RD_readExpression_11 ?_
    refine jt_isub d_RD_readExpression_12 ?_
    refine jt_topi (fun v5 ev5 => ?_)
    refine cm_put (k := 38) (j := 2) (v := v5) d_RD_readExpression_13 (RD_w60 _ rfl) (by decide) cc_3 rfl rfl (Nat.le_of_ble_eq_true rfl) rfl ?_
    have p6 := cPo.I 38 2 v5 hz0 rfl (show 0 ≤ v5 ∧ v5 ≤ 300 by omega)
    refine jt_aload_n d_RD_readExpression_16 rfl ?_
    refine jt_bipush d_RD_readExpression_17 (by omega) ?_
    refine cm_put (k := 38) (j := 3) (v := (-5)) d_RD_readExpression_19 (RD_w111 _ rfl) (by decide) cc_3 rfl rfl (Nat.le_of_ble_eq_true rfl) rfl ?_
    have p7 := cPo.I 38 3 (-5) p6 rfl (show -2147483648 ≤ -5 ∧ -5 ≤ 2147483647 by omega)
    refine jt_iconst d_RD_readExpression_22 ?_
    exact cm_ret d_RD_readExpression_23 rfl (jnz (by omega)) (⟨0, rfl, by omega, p7, show 0 = 1 → e ≤ 8 by omega⟩)
theorem v_RD_readExpression_n (G : jG) (b : Nat) : ∀ (n d : Nat) (e : Int), e = 9 - (n : Int) → n ≤ 9 → ∀ (I : Nat → Nat → Int) (A : Nat → Int → Int), cSI I → cSA A → cTok A → (e = 9 → 1 ≤ I 38 2) → cct G Y_RD_readExpression (d + 3 * (n + 1)) b [.ref (b + 38), .int (jI e)] I A (fun (rv : Option Value) (I2 : Nat → Nat → Int) (A2 : Nat → Int → Int) => ∃ y : Int, rv = some (.int (jI y)) ∧ (0 ≤ y ∧ y ≤ 1) ∧ cPo [610, 611, 615] [] I A I2 A2 ∧ (y = 1 → e ≤ 8))
  | 0, d, e, h, _, I, A, hI, hA, hK, ha => v_RD_readExpression_s G d b e I A hI hA hK (by omega) ha (fun z => by exfalso; omega)
  | n + 1, d, e, h, h9, I, A, hI, hA, hK, ha => v_RD_readExpression_s G (d + 3 * (n + 1)) b e I A hI hA hK (by omega) ha (fun _ I A hI hA hK ha => v_RD_readExpression_n G b n d (e + 1) (by omega) (by omega) I A hI hA hK ha)
theorem v_RD_readExpression (G : jG) (d b : Nat) (I : Nat → Nat → Int) (A : Nat → Int → Int) (hI : cSI I) (hA : cSA A) (hK : cTok A) : cct G Y_RD_readExpression (d + 30) b [.ref (b + 38), .int (jI 0)] I A (fun (rv : Option Value) (I2 : Nat → Nat → Int) (A2 : Nat → Int → Int) => ∃ y : Int, rv = some (.int (jI y)) ∧ (0 ≤ y ∧ y ≤ 1) ∧ cPo [610, 611, 615] [] I A I2 A2 ∧ (y = 1 → (0 : Int) ≤ 8)) := v_RD_readExpression_n G b 9 d 0 (by omega) (by omega) I A hI hA hK (fun z => by omega)

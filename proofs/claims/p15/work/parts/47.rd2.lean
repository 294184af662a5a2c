set_option maxRecDepth 100000 in
set_option maxHeartbeats 4000000 in
theorem v_RD_readPair (G : jG) (d b : Nat)  (I : Nat → Nat → Int) (A : Nat → Int → Int) (hI : cSI I) (hA : cSA A) (hK : cTok A) : cct G Y_RD_readPair (d + 31) b [.ref (b + 38)] I A (fun (rv : Option Value) (I2 : Nat → Nat → Int) (A2 : Nat → Int → Int) => ∃ y : Int, rv = some (.int (jI y)) ∧ (0 ≤ y ∧ y ≤ 1) ∧ cPo [610, 611, 615, 614] [] I A I2 A2) := by
  refine cct_of (by decide) (Nat.le_of_ble_eq_true rfl) (fun f0 sz => ?_)
  show jt _ 0 [(0, .ref (b + 38))] [] _ _ _ _
  have hz0 : cPo [610, 611, 615, 614] [] I A I A := cPo.refl hI hA
  refine jt_aload_n d_RD_readPair_0 rfl ?_
  refine jt_iconst d_RD_readPair_1 ?_
  refine cct_callV (Y := Y_RD_take) (ci := 2) (k := 38) (As := [.int (jI 3)]) (rest := []) d_RD_readPair_2 RD_c88 yk_RD_take yv_RD_take rfl (Nat.le_of_ble_eq_true rfl) (by decide) cc_3 rfl rfl (Nat.le_of_ble_eq_true rfl) (v_RD_take G _ b 3 I A hz0.1 hz0.2.1 (by omega)) (fun rvq1 Iq1 Aq1 hq1 => ?_)
  obtain ⟨yq1, rfl, ryq1, hqq1, hxq1⟩ := hq1
  have hpq1 := cPo.trans hz0 hqq1 rfl rfl
  have m39_3q1 : Iq1 39 3 = I 39 3 := hqq1.2.2.1 39 3 rfl
  show jt _ 5 [(0, .ref (b + 38))] [.int (jI yq1)] (cmf b f0 Iq1 Aq1) _ _ _
  refine jt_if_eq (t := 58) d_RD_readPair_5 rfl (by unfold jRi; omega) (fun c2 => ?_) (fun c2 => ?_)
  · skip
    refine jt_iconst d_RD_readPair_58 ?_
    exact cm_ret d_RD_readPair_59 rfl (jnz (by omega)) (⟨0, rfl, by omega, hpq1⟩)
  · skip
    refine jt_aload_n d_RD_readPair_8 rfl ?_
    refine jt_iconst d_RD_readPair_9 ?_
    refine cct_callV (Y := Y_RD_readExpression) (ci := 2) (k := 38) (As := [.int (jI 0)]) (rest := []) d_RD_readPair_10 RD_c74 yk_RD_readExpression yv_RD_readExpression rfl (Nat.le_of_ble_eq_true rfl) (by decide) cc_3 rfl rfl (Nat.le_of_ble_eq_true rfl) (v_RD_readExpression G _ b Iq1 Aq1 hpq1.1 hpq1.2.1 (cTok_of hpq1 hK rfl)) (fun rvq3 Iq3 Aq3 hq3 => ?_)
    obtain ⟨yq3, rfl, ryq3, hqq3, hxq3⟩ := hq3
    have hpq3 := cPo.trans hpq1 hqq3 rfl rfl
    have m39_3q3 : Iq3 39 3 = Iq1 39 3 := hqq3.2.2.1 39 3 rfl
    show jt _ 13 [(0, .ref (b + 38))] [.int (jI yq3)] (cmf b f0 Iq3 Aq3) _ _ _
    refine jt_if_eq (t := 58) d_RD_readPair_13 rfl (by unfold jRi; omega) (fun c4 => ?_) (fun c4 => ?_)
    · skip
      refine jt_iconst d_RD_readPair_58 ?_
      exact cm_ret d_RD_readPair_59 rfl (jnz (by omega)) (⟨0, rfl, by omega, hpq3⟩)
    · skip
      refine jt_aload_n d_RD_readPair_16 rfl ?_
      refine cct_callV (Y := Y_RD_keep) (ci := 2) (k := 38) (As := []) (rest := []) d_RD_readPair_17 RD_c78 yk_RD_keep yv_RD_keep rfl (Nat.le_of_ble_eq_true rfl) (by decide) cc_3 rfl rfl (Nat.le_of_ble_eq_true rfl) (v_RD_keep G _ b  Iq3 Aq3 hpq3.1 hpq3.2.1 ) (fun rvq5 Iq5 Aq5 hq5 => ?_)
      obtain ⟨yq5, rfl, ryq5, hqq5⟩ := hq5
      have hpq5 := cPo.trans hpq3 hqq5 rfl rfl
      have m38_2q5 : Iq5 38 2 = Iq3 38 2 := hqq5.2.2.1 38 2 rfl
      have m39_3q5 : Iq5 39 3 = Iq3 39 3 := hqq5.2.2.1 39 3 rfl
      show jt _ 20 [(0, .ref (b + 38))] [.int (jI yq5)] (cmf b f0 Iq5 Aq5) _ _ _
      refine jt_if_eq (t := 58) d_RD_readPair_20 rfl (by unfold jRi; omega) (fun c6 => ?_) (fun c6 => ?_)
      · skip
        refine jt_iconst d_RD_readPair_58 ?_
        exact cm_ret d_RD_readPair_59 rfl (jnz (by omega)) (⟨0, rfl, by omega, hpq5⟩)
      · skip
        refine jt_aload_n d_RD_readPair_23 rfl ?_
        refine jt_iconst d_RD_readPair_24 ?_
        refine cct_callV (Y := Y_RD_take) (ci := 2) (k := 38) (As := [.int (jI 5)]) (rest := []) d_RD_readPair_25 RD_c88 yk_RD_take yv_RD_take rfl (Nat.le_of_ble_eq_true rfl) (by decide) cc_3 rfl rfl (Nat.le_of_ble_eq_true rfl) (v_RD_take G _ b 5 Iq5 Aq5 hpq5.1 hpq5.2.1 (by omega)) (fun rvq7 Iq7 Aq7 hq7 => ?_)
        obtain ⟨yq7, rfl, ryq7, hqq7, hxq7⟩ := hq7
        have hpq7 := cPo.trans hpq5 hqq7 rfl rfl
        have m39_3q7 : Iq7 39 3 = Iq5 39 3 := hqq7.2.2.1 39 3 rfl
        show jt _ 28 [(0, .ref (b + 38))] [.int (jI yq7)] (cmf b f0 Iq7 Aq7) _ _ _
        refine jt_if_eq (t := 58) d_RD_readPair_28 rfl (by unfold jRi; omega) (fun c8 => ?_) (fun c8 => ?_)
        · skip
          refine jt_iconst d_RD_readPair_58 ?_
          exact cm_ret d_RD_readPair_59 rfl (jnz (by omega)) (⟨0, rfl, by omega, hpq7⟩)
        · skip
          refine jt_aload_n d_RD_readPair_31 rfl ?_
          refine jt_iconst d_RD_readPair_32 ?_
          refine cct_callV (Y := Y_RD_readExpression) (ci := 2) (k := 38) (As := [.int (jI 0)]) (rest := []) d_RD_readPair_33 RD_c74 yk_RD_readExpression yv_RD_readExpression rfl (Nat.le_of_ble_eq_true rfl) (by decide) cc_3 rfl rfl (Nat.le_of_ble_eq_true rfl) (v_RD_readExpression G _ b Iq7 Aq7 hpq7.1 hpq7.2.1 (cTok_of hpq7 hK rfl)) (fun rvq9 Iq9 Aq9 hq9 => ?_)
          obtain ⟨yq9, rfl, ryq9, hqq9, hxq9⟩ := hq9
          have hpq9 := cPo.trans hpq7 hqq9 rfl rfl
          have m39_3q9 : Iq9 39 3 = Iq7 39 3 := hqq9.2.2.1 39 3 rfl
          show jt _ 36 [(0, .ref (b + 38))] [.int (jI yq9)] (cmf b f0 Iq9 Aq9) _ _ _
          refine jt_if_eq (t := 58) d_RD_readPair_36 rfl (by unfold jRi; omega) (fun c10 => ?_) (fun c10 => ?_)
          · skip
            refine jt_iconst d_RD_readPair_58 ?_
            exact cm_ret d_RD_readPair_59 rfl (jnz (by omega)) (⟨0, rfl, by omega, hpq9⟩)
          · skip
            refine jt_aload_n d_RD_readPair_39 rfl ?_
            refine cct_callV (Y := Y_RD_keep) (ci := 2) (k := 38) (As := []) (rest := []) d_RD_readPair_40 RD_c78 yk_RD_keep yv_RD_keep rfl (Nat.le_of_ble_eq_true rfl) (by decide) cc_3 rfl rfl (Nat.le_of_ble_eq_true rfl) (v_RD_keep G _ b  Iq9 Aq9 hpq9.1 hpq9.2.1 ) (fun rvq11 Iq11 Aq11 hq11 => ?_)
            obtain ⟨yq11, rfl, ryq11, hqq11⟩ := hq11
            have hpq11 := cPo.trans hpq9 hqq11 rfl rfl
            have m38_2q11 : Iq11 38 2 = Iq9 38 2 := hqq11.2.2.1 38 2 rfl
            have m39_3q11 : Iq11 39 3 = Iq9 39 3 := hqq11.2.2.1 39 3 rfl
            show jt _ 43 [(0, .ref (b + 38))] [.int (jI yq11)] (cmf b f0 Iq11 Aq11) _ _ _
            refine jt_if_eq (t := 58) d_RD_readPair_43 rfl (by unfold jRi; omega) (fun c12 => ?_) (fun c12 => ?_)
            · skip
              refine jt_iconst d_RD_readPair_58 ?_
              exact cm_ret d_RD_readPair_59 rfl (jnz (by omega)) (⟨0, rfl, by omega, hpq11⟩)
            · skip
              refine jt_aload_n d_RD_readPair_46 rfl ?_
              refine jt_iconst d_RD_readPair_47 ?_
              refine cct_callV (Y := Y_RD_take) (ci := 2) (k := 38) (As := [.int (jI 4)]) (rest := []) d_RD_readPair_48 RD_c88 yk_RD_take yv_RD_take rfl (Nat.le_of_ble_eq_true rfl) (by decide) cc_3 rfl rfl (Nat.le_of_ble_eq_true rfl) (v_RD_take G _ b 4 Iq11 Aq11 hpq11.1 hpq11.2.1 (by omega)) (fun rvq13 Iq13 Aq13 hq13 => ?_)
              obtain ⟨yq13, rfl, ryq13, hqq13, hxq13⟩ := hq13
              have hpq13 := cPo.trans hpq11 hqq13 rfl rfl
              have m39_3q13 : Iq13 39 3 = Iq11 39 3 := hqq13.2.2.1 39 3 rfl
              show jt _ 51 [(0, .ref (b + 38))] [.int (jI yq13)] (cmf b f0 Iq13 Aq13) _ _ _
              refine jt_if_eq (t := 58) d_RD_readPair_51 rfl (by unfold jRi; omega) (fun c14 => ?_) (fun c14 => ?_)
              · skip
                refine jt_iconst d_RD_readPair_58 ?_
                exact cm_ret d_RD_readPair_59 rfl (jnz (by omega)) (⟨0, rfl, by omega, hpq13⟩)
              · skip
                refine jt_iconst d_RD_readPair_54 ?_
                refine jt_goto (t := 59) d_RD_readPair_55 rfl ?_
                exact cm_ret d_RD_readPair_59 rfl (jnz (by omega)) (⟨1, rfl, by omega, hpq13⟩)
set_option maxRecDepth 100000 in
set_option maxHeartbeats 4000000 in
theorem l46_RD_readEquationv (G : jG) (d b : Nat)  (I : Nat → Nat → Int) (A : Nat → Int → Int) (hI : cSI I) (hA : cSA A) (hK : cTok A) (f0 : jF) (sz : Nat)   : ∀ (n9 : Nat) (u : Int) (k : Int) (J : Nat → Nat → Int) (B : Nat → Int → Int), cPo [610, 611, 615, 614] [] I A J B → (0 ≤ u ∧ u ≤ 1) → (0 ≤ k ∧ k ≤ 150) → 150 - k < (n9 : Int) → jt (jm G Y_RD_readEquation (gR (d + 31)) (cQ b f0 sz (fun (rv : Option Value) (I2 : Nat → Nat → Int) (A2 : Nat → Int → Int) => ∃ y : Int, rv = some (.int (jI y)) ∧ (0 ≤ y ∧ y ≤ 1) ∧ cPo [610, 611, 615, 614] [] I A I2 A2))) 46 [(0, .ref (b + 38)), (1, .int (jI u)), (2, .int (jI k))] [] (cmf b f0 J B) sz 0 0 := by
  have r39 : 0 ≤ I 39 3 ∧ I 39 3 ≤ 300 := hI 39 3
  have r38 : 0 ≤ I 38 2 ∧ I 38 2 ≤ 300 := hI 38 2
  intro n9
  induction n9 with
  | zero =>
    intro u k J B hJ u0 k0 hmeas
    have f39 : J 39 3 = I 39 3 := hJ.2.2.1 39 3 rfl
    have q38 : 0 ≤ J 38 2 ∧ J 38 2 ≤ 300 := hJ.1 38 2
    exfalso
    omega
  | succ n9 ih =>
    intro u k J B hJ u0 k0 hmeas
    have f39 : J 39 3 = I 39 3 := hJ.2.2.1 39 3 rfl
    have q38 : 0 ≤ J 38 2 ∧ J 38 2 ≤ 300 := hJ.1 38 2
    refine jt_iload_n d_RD_readEquation_46 rfl ?_
    refine jt_sipush d_RD_readEquation_47 (by omega) ?_
    refine jt_icmp_ge (t := 109) d_RD_readEquation_50 rfl (by unfold jRi; omega) (by unfold jRi; omega) (fun c101 => ?_) (fun c101 => ?_)
    · skip
      refine jt_iload_n d_RD_readEquation_109 rfl ?_
      exact cm_ret d_RD_readEquation_110 rfl (jnz (by omega)) (⟨u, rfl, by omega, hJ⟩)
    · skip
      refine jt_iload_n d_RD_readEquation_53 rfl ?_
      refine jt_if_eq (t := 109) d_RD_readEquation_54 rfl (by unfold jRi; omega) (fun c102 => ?_) (fun c102 => ?_)
      · skip
        refine jt_iload_n d_RD_readEquation_109 rfl ?_
        exact cm_ret d_RD_readEquation_110 rfl (jnz (by omega)) (⟨u, rfl, by omega, hJ⟩)
      · skip
        refine jt_aload_n d_RD_readEquation_57 rfl ?_
        refine cm_get (k := 38) (v := .ref (b + 39)) d_RD_readEquation_58 RD_f14 (by decide) cc_3 rfl ?_
        refine jt_aload_n d_RD_readEquation_61 rfl ?_
        refine cm_get (k := 38) (v := .int (jI (J 38 2))) d_RD_readEquation_62 RD_f60 (by decide) cc_3 rfl ?_
        have rb103 : 0 ≤ J 38 2 ∧ J 38 2 ≤ 300 := hJ.1 38 2
        refine jt_iconst d_RD_readEquation_65 ?_
        refine cct_callV (Y := Y_TR_isWord) (ci := 0) (k := 39) (As := [.int (jI (J 38 2)), .int (jI 2)]) (rest := []) d_RD_readEquation_66 RD_c91 yk_TR_isWord yv_TR_isWord rfl (Nat.le_of_ble_eq_true rfl) (by decide) (cc_1 rfl) rfl rfl (Nat.le_of_ble_eq_true rfl) (v_TR_isWord G _ b (J 38 2) 2 J B hJ.1 hJ.2.1 (by omega) (by omega)) (fun rvq104 Iq104 Aq104 hq104 => ?_)
        obtain ⟨yq104, rfl, ryq104, hqq104, hxq104⟩ := hq104
        have hpq104 := cPo.trans hJ hqq104 rfl rfl
        have m38_2q104 : Iq104 38 2 = J 38 2 := hqq104.2.2.1 38 2 rfl
        have m39_3q104 : Iq104 39 3 = J 39 3 := hqq104.2.2.1 39 3 rfl
        show jt _ 69 [(0, .ref (b + 38)), (1, .int (jI u)), (2, .int (jI k))] [.int (jI yq104)] (cmf b f0 Iq104 Aq104) _ _ _
        refine jt_if_eq (t := 109) d_RD_readEquation_69 rfl (by unfold jRi; omega) (fun c105 => ?_) (fun c105 => ?_)
        · skip
          refine jt_iload_n d_RD_readEquation_109 rfl ?_
          exact cm_ret d_RD_readEquation_110 rfl (jnz (by omega)) (⟨u, rfl, by omega, hpq104⟩)
        · skip
          refine jt_aload_n d_RD_readEquation_72 rfl ?_
          refine jt_dup d_RD_readEquation_73 rfl ?_
          refine cm_get (k := 38) (v := .int (jI (Iq104 38 2))) d_RD_readEquation_74 RD_f60 (by decide) cc_3 rfl ?_
          have rb106 : 0 ≤ Iq104 38 2 ∧ Iq104 38 2 ≤ 300 := hpq104.1 38 2
          refine jt_iconst d_RD_readEquation_77 ?_
          refine jt_iadd d_RD_readEquation_78 ?_
          refine jt_topi (fun v107 ev107 => ?_)
          refine cm_put (k := 38) (j := 2) (v := v107) d_RD_readEquation_79 (RD_w60 _ rfl) (by decide) cc_3 rfl rfl (Nat.le_of_ble_eq_true rfl) rfl ?_
          have p108 := cPo.I 38 2 v107 hpq104 rfl (show 0 ≤ v107 ∧ v107 ≤ 300 by omega)
          refine jt_aload_n d_RD_readEquation_82 rfl ?_
          refine jt_iconst d_RD_readEquation_83 ?_
          refine cct_callV (Y := Y_RD_readExpression) (ci := 2) (k := 38) (As := [.int (jI 0)]) (rest := []) d_RD_readEquation_84 RD_c74 yk_RD_readExpression yv_RD_readExpression rfl (Nat.le_of_ble_eq_true rfl) (by decide) cc_3 rfl rfl (Nat.le_of_ble_eq_true rfl) (v_RD_readExpression G _ b (cu Iq104 38 2 v107) Aq104 p108.1 p108.2.1 (cTok_of p108 hK rfl)) (fun rvq109 Iq109 Aq109 hq109 => ?_)
          obtain ⟨yq109, rfl, ryq109, hqq109, hxq109⟩ := hq109
          have hpq109 := cPo.trans p108 hqq109 rfl rfl
          have s38_2q109 : (cu Iq104 38 2 v107) 38 2 = v107 := rfl
          have s39_3q109 : (cu Iq104 38 2 v107) 39 3 = Iq104 39 3 := rfl
          have m39_3q109 : Iq109 39 3 = Iq104 39 3 := hqq109.2.2.1 39 3 rfl
          show jt _ 87 [(0, .ref (b + 38)), (1, .int (jI u)), (2, .int (jI k))] [.int (jI yq109)] (cmf b f0 Iq109 Aq109) _ _ _
          refine jt_if_eq (t := 101) d_RD_readEquation_87 rfl (by unfold jRi; omega) (fun c110 => ?_) (fun c110 => ?_)
          · skip
            refine jt_iconst d_RD_readEquation_101 ?_
            refine jt_istore_n (L' := [(0, .ref (b + 38)), (1, .int (jI 0)), (2, .int (jI k))]) d_RD_readEquation_102 (Nat.le_of_ble_eq_true rfl) rfl ?_
            refine jt_iinc (L' := [(0, .ref (b + 38)), (1, .int (jI 0)), (2, .int (jI (k + 1)))]) d_RD_readEquation_103 rfl (Nat.le_of_ble_eq_true rfl) rfl ?_
            refine jt_goto (t := 46) d_RD_readEquation_106 rfl ?_
            exact ih 0 (k + 1) Iq109 Aq109 hpq109 (by omega) (by omega) (by omega)
          · skip
            refine jt_aload_n d_RD_readEquation_90 rfl ?_
            refine cct_callV (Y := Y_RD_keep) (ci := 2) (k := 38) (As := []) (rest := []) d_RD_readEquation_91 RD_c78 yk_RD_keep yv_RD_keep rfl (Nat.le_of_ble_eq_true rfl) (by decide) cc_3 rfl rfl (Nat.le_of_ble_eq_true rfl) (v_RD_keep G _ b  Iq109 Aq109 hpq109.1 hpq109.2.1 ) (fun rvq111 Iq111 Aq111 hq111 => ?_)
            obtain ⟨yq111, rfl, ryq111, hqq111⟩ := hq111
            have hpq111 := cPo.trans hpq109 hqq111 rfl rfl
            have m38_2q111 : Iq111 38 2 = Iq109 38 2 := hqq111.2.2.1 38 2 rfl
            have m39_3q111 : Iq111 39 3 = Iq109 39 3 := hqq111.2.2.1 39 3 rfl
            show jt _ 94 [(0, .ref (b + 38)), (1, .int (jI u)), (2, .int (jI k))] [.int (jI yq111)] (cmf b f0 Iq111 Aq111) _ _ _
            refine jt_if_eq (t := 101) d_RD_readEquation_94 rfl (by unfold jRi; omega) (fun c112 => ?_) (fun c112 => ?_)
            · skip
              refine jt_iconst d_RD_readEquation_101 ?_
              refine jt_istore_n (L' := [(0, .ref (b + 38)), (1, .int (jI 0)), (2, .int (jI k))]) d_RD_readEquation_102 (Nat.le_of_ble_eq_true rfl) rfl ?_
              refine jt_iinc (L' := [(0, .ref (b + 38)), (1, .int (jI 0)), (2, .int (jI (k + 1)))]) d_RD_readEquation_103 rfl (Nat.le_of_ble_eq_true rfl) rfl ?_
              refine jt_goto (t := 46) d_RD_readEquation_106 rfl ?_
              exact ih 0 (k + 1) Iq111 Aq111 hpq111 (by omega) (by omega) (by omega)
            · skip
              refine jt_iconst d_RD_readEquation_97 ?_
              refine jt_goto (t := 102) d_RD_readEquation_98 rfl ?_
              refine jt_istore_n (L' := [(0, .ref (b + 38)), (1, .int (jI 1)), (2, .int (jI k))]) d_RD_readEquation_102 (Nat.le_of_ble_eq_true rfl) rfl ?_
              refine jt_iinc (L' := [(0, .ref (b + 38)), (1, .int (jI 1)), (2, .int (jI (k + 1)))]) d_RD_readEquation_103 rfl (Nat.le_of_ble_eq_true rfl) rfl ?_
              refine jt_goto (t := 46) d_RD_readEquation_106 rfl ?_
              exact ih 1 (k + 1) Iq111 Aq111 hpq111 (by omega) (by omega) (by omega)
set_option maxRecDepth 100000 in
set_option maxHeartbeats 4000000 in
theorem v_RD_readEquation (G : jG) (d b : Nat)  (I : Nat → Nat → Int) (A : Nat → Int → Int) (hI : cSI I) (hA : cSA A) (hK : cTok A) : cct G Y_RD_readEquation (d + 31) b [.ref (b + 38)] I A (fun (rv : Option Value) (I2 : Nat → Nat → Int) (A2 : Nat → Int → Int) => ∃ y : Int, rv = some (.int (jI y)) ∧ (0 ≤ y ∧ y ≤ 1) ∧ cPo [610, 611, 615, 614] [] I A I2 A2) := by
  refine cct_of (by decide) (Nat.le_of_ble_eq_true rfl) (fun f0 sz => ?_)
  show jt _ 0 [(0, .ref (b + 38))] [] _ _ _ _
  have r39 : 0 ≤ I 39 3 ∧ I 39 3 ≤ 300 := hI 39 3
  have r38 : 0 ≤ I 38 2 ∧ I 38 2 ≤ 300 := hI 38 2
  have hz0 : cPo [610, 611, 615, 614] [] I A I A := cPo.refl hI hA
  refine jt_aload_n d_RD_readEquation_0 rfl ?_
  refine jt_iconst d_RD_readEquation_1 ?_
  refine cct_callV (Y := Y_RD_readExpression) (ci := 2) (k := 38) (As := [.int (jI 0)]) (rest := []) d_RD_readEquation_2 RD_c74 yk_RD_readExpression yv_RD_readExpression rfl (Nat.le_of_ble_eq_true rfl) (by decide) cc_3 rfl rfl (Nat.le_of_ble_eq_true rfl) (v_RD_readExpression G _ b I A hz0.1 hz0.2.1 (cTok_of hz0 hK rfl)) (fun rvq1 Iq1 Aq1 hq1 => ?_)
  obtain ⟨yq1, rfl, ryq1, hqq1, hxq1⟩ := hq1
  have hpq1 := cPo.trans hz0 hqq1 rfl rfl
  have m39_3q1 : Iq1 39 3 = I 39 3 := hqq1.2.2.1 39 3 rfl
  show jt _ 5 [(0, .ref (b + 38))] [.int (jI yq1)] (cmf b f0 Iq1 Aq1) _ _ _
  refine jt_if_eq (t := 42) d_RD_readEquation_5 rfl (by unfold jRi; omega) (fun c2 => ?_) (fun c2 => ?_)
  · skip
    refine jt_iconst d_RD_readEquation_42 ?_
    refine jt_istore_n (L' := [(0, .ref (b + 38)), (1, .int (jI 0))]) d_RD_readEquation_43 (Nat.le_of_ble_eq_true rfl) rfl ?_
    refine jt_iconst d_RD_readEquation_44 ?_
    refine jt_istore_n (L' := [(0, .ref (b + 38)), (1, .int (jI 0)), (2, .int (jI 0))]) d_RD_readEquation_45 (Nat.le_of_ble_eq_true rfl) rfl ?_
    exact l46_RD_readEquationv G d b  I A hI hA hK f0 sz  151 0 0 Iq1 Aq1 hpq1 (by omega) (by omega) (by omega)
  · skip
    refine jt_aload_n d_RD_readEquation_8 rfl ?_
    refine cct_callV (Y := Y_RD_keep) (ci := 2) (k := 38) (As := []) (rest := []) d_RD_readEquation_9 RD_c78 yk_RD_keep yv_RD_keep rfl (Nat.le_of_ble_eq_true rfl) (by decide) cc_3 rfl rfl (Nat.le_of_ble_eq_true rfl) (v_RD_keep G _ b  Iq1 Aq1 hpq1.1 hpq1.2.1 ) (fun rvq3 Iq3 Aq3 hq3 => ?_)
    obtain ⟨yq3, rfl, ryq3, hqq3⟩ := hq3
    have hpq3 := cPo.trans hpq1 hqq3 rfl rfl
    have m38_2q3 : Iq3 38 2 = Iq1 38 2 := hqq3.2.2.1 38 2 rfl
    have m39_3q3 : Iq3 39 3 = Iq1 39 3 := hqq3.2.2.1 39 3 rfl
    show jt _ 12 [(0, .ref (b + 38))] [.int (jI yq3)] (cmf b f0 Iq3 Aq3) _ _ _
    refine jt_if_eq (t := 42) d_RD_readEquation_12 rfl (by unfold jRi; omega) (fun c4 => ?_) (fun c4 => ?_)
    · skip
      refine jt_iconst d_RD_readEquation_42 ?_
      refine jt_istore_n (L' := [(0, .ref (b + 38)), (1, .int (jI 0))]) d_RD_readEquation_43 (Nat.le_of_ble_eq_true rfl) rfl ?_
      refine jt_iconst d_RD_readEquation_44 ?_
      refine jt_istore_n (L' := [(0, .ref (b + 38)), (1, .int (jI 0)), (2, .int (jI 0))]) d_RD_readEquation_45 (Nat.le_of_ble_eq_true rfl) rfl ?_
      exact l46_RD_readEquationv G d b  I A hI hA hK f0 sz  151 0 0 Iq3 Aq3 hpq3 (by omega) (by omega) (by omega)
    · skip
      refine jt_aload_n d_RD_readEquation_15 rfl ?_
      refine jt_iconst d_RD_readEquation_16 ?_
      refine cct_callV (Y := Y_RD_take) (ci := 2) (k := 38) (As := [.int (jI 2)]) (rest := []) d_RD_readEquation_17 RD_c88 yk_RD_take yv_RD_take rfl (Nat.le_of_ble_eq_true rfl) (by decide) cc_3 rfl rfl (Nat.le_of_ble_eq_true rfl) (v_RD_take G _ b 2 Iq3 Aq3 hpq3.1 hpq3.2.1 (by omega)) (fun rvq5 Iq5 Aq5 hq5 => ?_)
      obtain ⟨yq5, rfl, ryq5, hqq5, hxq5⟩ := hq5
      have hpq5 := cPo.trans hpq3 hqq5 rfl rfl
      have m39_3q5 : Iq5 39 3 = Iq3 39 3 := hqq5.2.2.1 39 3 rfl
      show jt _ 20 [(0, .ref (b + 38))] [.int (jI yq5)] (cmf b f0 Iq5 Aq5) _ _ _
      refine jt_if_eq (t := 42) d_RD_readEquation_20 rfl (by unfold jRi; omega) (fun c6 => ?_) (fun c6 => ?_)
      · skip
        refine jt_iconst d_RD_readEquation_42 ?_
        refine jt_istore_n (L' := [(0, .ref (b + 38)), (1, .int (jI 0))]) d_RD_readEquation_43 (Nat.le_of_ble_eq_true rfl) rfl ?_
        refine jt_iconst d_RD_readEquation_44 ?_
        refine jt_istore_n (L' := [(0, .ref (b + 38)), (1, .int (jI 0)), (2, .int (jI 0))]) d_RD_readEquation_45 (Nat.le_of_ble_eq_true rfl) rfl ?_
        exact l46_RD_readEquationv G d b  I A hI hA hK f0 sz  151 0 0 Iq5 Aq5 hpq5 (by omega) (by omega) (by omega)
      · skip
        refine jt_aload_n d_RD_readEquation_23 rfl ?_
        refine jt_iconst d_RD_readEquation_24 ?_
        refine cct_callV (Y := Y_RD_readExpression) (ci := 2) (k := 38) (As := [.int (jI 0)]) (rest := []) d_RD_readEquation_25 RD_c74 yk_RD_readExpression yv_RD_readExpression rfl (Nat.le_of_ble_eq_true rfl) (by decide) cc_3 rfl rfl (Nat.le_of_ble_eq_true rfl) (v_RD_readExpression G _ b Iq5 Aq5 hpq5.1 hpq5.2.1 (cTok_of hpq5 hK rfl)) (fun rvq7 Iq7 Aq7 hq7 => ?_)
        obtain ⟨yq7, rfl, ryq7, hqq7, hxq7⟩ := hq7
        have hpq7 := cPo.trans hpq5 hqq7 rfl rfl
        have m39_3q7 : Iq7 39 3 = Iq5 39 3 := hqq7.2.2.1 39 3 rfl
        show jt _ 28 [(0, .ref (b + 38))] [.int (jI yq7)] (cmf b f0 Iq7 Aq7) _ _ _
        refine jt_if_eq (t := 42) d_RD_readEquation_28 rfl (by unfold jRi; omega) (fun c8 => ?_) (fun c8 => ?_)
        · skip
          refine jt_iconst d_RD_readEquation_42 ?_
          refine jt_istore_n (L' := [(0, .ref (b + 38)), (1, .int (jI 0))]) d_RD_readEquation_43 (Nat.le_of_ble_eq_true rfl) rfl ?_
          refine jt_iconst d_RD_readEquation_44 ?_
          refine jt_istore_n (L' := [(0, .ref (b + 38)), (1, .int (jI 0)), (2, .int (jI 0))]) d_RD_readEquation_45 (Nat.le_of_ble_eq_true rfl) rfl ?_
          exact l46_RD_readEquationv G d b  I A hI hA hK f0 sz  151 0 0 Iq7 Aq7 hpq7 (by omega) (by omega) (by omega)
        · skip
          refine jt_aload_n d_RD_readEquation_31 rfl ?_
          refine cct_callV (Y := Y_RD_keep) (ci := 2) (k := 38) (As := []) (rest := []) d_RD_readEquation_32 RD_c78 yk_RD_keep yv_RD_keep rfl (Nat.le_of_ble_eq_true rfl) (by decide) cc_3 rfl rfl (Nat.le_of_ble_eq_true rfl) (v_RD_keep G _ b  Iq7 Aq7 hpq7.1 hpq7.2.1 ) (fun rvq9 Iq9 Aq9 hq9 => ?_)
          obtain ⟨yq9, rfl, ryq9, hqq9⟩ := hq9
          have hpq9 := cPo.trans hpq7 hqq9 rfl rfl
          have m38_2q9 : Iq9 38 2 = Iq7 38 2 := hqq9.2.2.1 38 2 rfl
          have m39_3q9 : Iq9 39 3 = Iq7 39 3 := hqq9.2.2.1 39 3 rfl
          show jt _ 35 [(0, .ref (b + 38))] [.int (jI yq9)] (cmf b f0 Iq9 Aq9) _ _ _
          refine jt_if_eq (t := 42) d_RD_readEquation_35 rfl (by unfold jRi; omega) (fun c10 => ?_) (fun c10 => ?_)
          · skip
            refine jt_iconst d_RD_readEquation_42 ?_
            refine jt_istore_n (L' := [(0, .ref (b + 38)), (1, .int (jI 0))]) d_RD_readEquation_43 (Nat.le_of_ble_eq_true rfl) rfl ?_
            refine jt_iconst d_RD_readEquation_44 ?_
            refine jt_istore_n (L' := [(0, .ref (b + 38)), (1, .int (jI 0)), (2, .int (jI 0))]) d_RD_readEquation_45 (Nat.le_of_ble_eq_true rfl) rfl ?_
            exact l46_RD_readEquationv G d b  I A hI hA hK f0 sz  151 0 0 Iq9 Aq9 hpq9 (by omega) (by omega) (by omega)
          · skip
            refine jt_iconst d_RD_readEquation_38 ?_
            refine jt_goto (t := 43) d_RD_readEquation_39 rfl ?_
            refine jt_istore_n (L' := [(0, .ref (b + 38)), (1, .int (jI 1))]) d_RD_readEquation_43 (Nat.le_of_ble_eq_true rfl) rfl ?_
            refine jt_iconst d_RD_readEquation_44 ?_
            refine jt_istore_n (L' := [(0, .ref (b + 38)), (1, .int (jI 1)), (2, .int (jI 0))]) d_RD_readEquation_45 (Nat.le_of_ble_eq_true rfl) rfl ?_
            exact l46_RD_readEquationv G d b  I A hI hA hK f0 sz  151 1 0 Iq9 Aq9 hpq9 (by omega) (by omega) (by omega)
set_option maxRecDepth 100000 in
set_option maxHeartbeats 4000000 in
theorem l9_RD_readPathv (G : jG) (d b : Nat)  (I : Nat → Nat → Int) (A : Nat → Int → Int) (hI : cSI I) (hA : cSA A) (hK : cTok A) (hl : I 38 9 = 0) (f0 : jF) (sz : Nat)   : ∀ (n9 : Nat) (u : Int) (c : Int) (k : Int) (J : Nat → Nat → Int) (B : Nat → Int → Int), cPo [610, 611, 615, 614, 617] [375] I A J B → (0 ≤ u ∧ u ≤ 1) → (0 ≤ c ∧ c ≤ 1) → (0 ≤ k ∧ k ≤ 300) → (J 38 9 ≤ k) → 300 - k < (n9 : Int) → jt (jm G Y_RD_readPath (gR (d + 32)) (cQ b f0 sz (fun (rv : Option Value) (I2 : Nat → Nat → Int) (A2 : Nat → Int → Int) => ∃ y : Int, rv = some (.int (jI y)) ∧ (0 ≤ y ∧ y ≤ 1) ∧ cPo [610, 611, 615, 614, 617] [375] I A I2 A2))) 9 [(0, .ref (b + 38)), (1, .int (jI u)), (2, .int (jI c)), (3, .int (jI k))] [] (cmf b f0 J B) sz 0 0 := by
  have r39 : 0 ≤ I 39 3 ∧ I 39 3 ≤ 300 := hI 39 3
  have r38 : 0 ≤ I 38 2 ∧ I 38 2 ≤ 300 := hI 38 2
  intro n9
  induction n9 with
  | zero =>
    intro u c k J B hJ u0 c0 k0 l0 hmeas
    have f39 : J 39 3 = I 39 3 := hJ.2.2.1 39 3 rfl
    have q38 : 0 ≤ J 38 2 ∧ J 38 2 ≤ 300 := hJ.1 38 2
    have q9 : 0 ≤ J 38 9 ∧ J 38 9 ≤ 2000 := hJ.1 38 9
    exfalso
    omega
  | succ n9 ih =>
    intro u c k J B hJ u0 c0 k0 l0 hmeas
    have f39 : J 39 3 = I 39 3 := hJ.2.2.1 39 3 rfl
    have q38 : 0 ≤ J 38 2 ∧ J 38 2 ≤ 300 := hJ.1 38 2
    have q9 : 0 ≤ J 38 9 ∧ J 38 9 ≤ 2000 := hJ.1 38 9
    refine jt_iload_n d_RD_readPath_9 rfl ?_
    refine jt_sipush d_RD_readPath_10 (by omega) ?_
    refine jt_icmp_ge (t := 163) d_RD_readPath_13 rfl (by unfold jRi; omega) (by unfold jRi; omega) (fun c101 => ?_) (fun c101 => ?_)
    · skip
      refine jt_iload_n d_RD_readPath_163 rfl ?_
      exact cm_ret d_RD_readPath_164 rfl (jnz (by omega)) (⟨u, rfl, by omega, hJ⟩)
    · skip
      refine jt_iload_n d_RD_readPath_16 rfl ?_
      refine jt_if_eq (t := 163) d_RD_readPath_17 rfl (by unfold jRi; omega) (fun c102 => ?_) (fun c102 => ?_)
      · skip
        refine jt_iload_n d_RD_readPath_163 rfl ?_
        exact cm_ret d_RD_readPath_164 rfl (jnz (by omega)) (⟨u, rfl, by omega, hJ⟩)
      · skip
        refine jt_iload_n d_RD_readPath_20 rfl ?_
        refine jt_if_ne (t := 163) d_RD_readPath_21 rfl (by unfold jRi; omega) (fun c103 => ?_) (fun c103 => ?_)
        · skip
          refine jt_iload_n d_RD_readPath_163 rfl ?_
          exact cm_ret d_RD_readPath_164 rfl (jnz (by omega)) (⟨u, rfl, by omega, hJ⟩)
        · skip
          refine jt_aload_n d_RD_readPath_24 rfl ?_
          refine cm_get (k := 38) (v := .ref (b + 39)) d_RD_readPath_25 RD_f14 (by decide) cc_3 rfl ?_
          refine jt_aload_n d_RD_readPath_28 rfl ?_
          refine cm_get (k := 38) (v := .int (jI (J 38 2))) d_RD_readPath_29 RD_f60 (by decide) cc_3 rfl ?_
          have rb104 : 0 ≤ J 38 2 ∧ J 38 2 ≤ 300 := hJ.1 38 2
          refine jt_bipush d_RD_readPath_32 (by omega) ?_
          refine cct_callV (Y := Y_TR_isWord) (ci := 0) (k := 39) (As := [.int (jI (J 38 2)), .int (jI 7)]) (rest := []) d_RD_readPath_34 RD_c91 yk_TR_isWord yv_TR_isWord rfl (Nat.le_of_ble_eq_true rfl) (by decide) (cc_1 rfl) rfl rfl (Nat.le_of_ble_eq_true rfl) (v_TR_isWord G _ b (J 38 2) 7 J B hJ.1 hJ.2.1 (by omega) (by omega)) (fun rvq105 Iq105 Aq105 hq105 => ?_)
          obtain ⟨yq105, rfl, ryq105, hqq105, hxq105⟩ := hq105
          have hpq105 := cPo.trans hJ hqq105 rfl rfl
          have m38_2q105 : Iq105 38 2 = J 38 2 := hqq105.2.2.1 38 2 rfl
          have m39_3q105 : Iq105 39 3 = J 39 3 := hqq105.2.2.1 39 3 rfl
          have m38_9q105 : Iq105 38 9 = J 38 9 := hqq105.2.2.1 38 9 rfl
          show jt _ 37 [(0, .ref (b + 38)), (1, .int (jI u)), (2, .int (jI c)), (3, .int (jI k))] [.int (jI yq105)] (cmf b f0 Iq105 Aq105) _ _ _
          refine jt_if_eq (t := 102) d_RD_readPath_37 rfl (by unfold jRi; omega) (fun c106 => ?_) (fun c106 => ?_)
          · skip
            refine jt_aload_n d_RD_readPath_102 rfl ?_
            refine jt_bipush d_RD_readPath_103 (by omega) ?_
            refine cct_callV (Y := Y_RD_take) (ci := 2) (k := 38) (As := [.int (jI 8)]) (rest := []) d_RD_readPath_105 RD_c88 yk_RD_take yv_RD_take rfl (Nat.le_of_ble_eq_true rfl) (by decide) cc_3 rfl rfl (Nat.le_of_ble_eq_true rfl) (v_RD_take G _ b 8 Iq105 Aq105 hpq105.1 hpq105.2.1 (by omega)) (fun rvq107 Iq107 Aq107 hq107 => ?_)
            obtain ⟨yq107, rfl, ryq107, hqq107, hxq107⟩ := hq107
            have hpq107 := cPo.trans hpq105 hqq107 rfl rfl
            have m39_3q107 : Iq107 39 3 = Iq105 39 3 := hqq107.2.2.1 39 3 rfl
            have m38_9q107 : Iq107 38 9 = Iq105 38 9 := hqq107.2.2.1 38 9 rfl
            show jt _ 108 [(0, .ref (b + 38)), (1, .int (jI u)), (2, .int (jI c)), (3, .int (jI k))] [.int (jI yq107)] (cmf b f0 Iq107 Aq107) _ _ _
            refine jt_if_ne (t := 116) d_RD_readPath_108 rfl (by unfold jRi; omega) (fun c108 => ?_) (fun c108 => ?_)
            · skip
              refine jt_aload_n d_RD_readPath_116 rfl ?_
              refine cm_get (k := 38) (v := .ref (b + 39)) d_RD_readPath_117 RD_f14 (by decide) cc_3 rfl ?_
              refine jt_aload_n d_RD_readPath_120 rfl ?_
              refine cm_get (k := 38) (v := .int (jI (Iq107 38 2))) d_RD_readPath_121 RD_f60 (by decide) cc_3 rfl ?_
              have rb109 : 0 ≤ Iq107 38 2 ∧ Iq107 38 2 ≤ 300 := hpq107.1 38 2
              refine jt_bipush d_RD_readPath_124 (by omega) ?_
              refine cct_callV (Y := Y_TR_isWord) (ci := 0) (k := 39) (As := [.int (jI (Iq107 38 2)), .int (jI 9)]) (rest := []) d_RD_readPath_126 RD_c91 yk_TR_isWord yv_TR_isWord rfl (Nat.le_of_ble_eq_true rfl) (by decide) (cc_1 rfl) rfl rfl (Nat.le_of_ble_eq_true rfl) (v_TR_isWord G _ b (Iq107 38 2) 9 Iq107 Aq107 hpq107.1 hpq107.2.1 (by omega) (by omega)) (fun rvq110 Iq110 Aq110 hq110 => ?_)
              obtain ⟨yq110, rfl, ryq110, hqq110, hxq110⟩ := hq110
              have hpq110 := cPo.trans hpq107 hqq110 rfl rfl
              have m38_2q110 : Iq110 38 2 = Iq107 38 2 := hqq110.2.2.1 38 2 rfl
              have m39_3q110 : Iq110 39 3 = Iq107 39 3 := hqq110.2.2.1 39 3 rfl
              have m38_9q110 : Iq110 38 9 = Iq107 38 9 := hqq110.2.2.1 38 9 rfl
              show jt _ 129 [(0, .ref (b + 38)), (1, .int (jI u)), (2, .int (jI c)), (3, .int (jI k))] [.int (jI yq110)] (cmf b f0 Iq110 Aq110) _ _ _
              refine jt_if_eq (t := 147) d_RD_readPath_129 rfl (by unfold jRi; omega) (fun c111 => ?_) (fun c111 => ?_)
              · skip
                refine jt_aload_n d_RD_readPath_147 rfl ?_
                refine jt_iconst d_RD_readPath_148 ?_
                refine cct_callV (Y := Y_RD_countLeg) (ci := 2) (k := 38) (As := [.int (jI 0)]) (rest := []) d_RD_readPath_149 RD_c97 yk_RD_countLeg yv_RD_countLeg rfl (Nat.le_of_ble_eq_true rfl) (by decide) cc_3 rfl rfl (Nat.le_of_ble_eq_true rfl) (v_RD_countLeg G _ b 0 Iq110 Aq110 hpq110.1 hpq110.2.1 (by omega) (show Iq110 38 9 < 2000 by omega)) (fun rvq112 Iq112 Aq112 hq112 => ?_)
                obtain ⟨rfl, hqq112, hxq112⟩ := hq112
                have hpq112 := cPo.trans hpq110 hqq112 rfl rfl
                have m38_2q112 : Iq112 38 2 = Iq110 38 2 := hqq112.2.2.1 38 2 rfl
                have m39_3q112 : Iq112 39 3 = Iq110 39 3 := hqq112.2.2.1 39 3 rfl
                show jt _ 152 [(0, .ref (b + 38)), (1, .int (jI u)), (2, .int (jI c)), (3, .int (jI k))] [] (cmf b f0 Iq112 Aq112) _ _ _
                refine jt_aload_n d_RD_readPath_152 rfl ?_
                refine cct_callV (Y := Y_RD_readPair) (ci := 2) (k := 38) (As := []) (rest := []) d_RD_readPath_153 RD_c94 yk_RD_readPair yv_RD_readPair rfl (Nat.le_of_ble_eq_true rfl) (by decide) cc_3 rfl rfl (Nat.le_of_ble_eq_true rfl) (v_RD_readPair G _ b  Iq112 Aq112 hpq112.1 hpq112.2.1 (cTok_of hpq112 hK rfl) ) (fun rvq113 Iq113 Aq113 hq113 => ?_)
                obtain ⟨yq113, rfl, ryq113, hqq113⟩ := hq113
                have hpq113 := cPo.trans hpq112 hqq113 rfl rfl
                have m39_3q113 : Iq113 39 3 = Iq112 39 3 := hqq113.2.2.1 39 3 rfl
                have m38_9q113 : Iq113 38 9 = Iq112 38 9 := hqq113.2.2.1 38 9 rfl
                show jt _ 156 [(0, .ref (b + 38)), (1, .int (jI u)), (2, .int (jI c)), (3, .int (jI k))] [.int (jI yq113)] (cmf b f0 Iq113 Aq113) _ _ _
                refine jt_istore_n (L' := [(0, .ref (b + 38)), (1, .int (jI yq113)), (2, .int (jI c)), (3, .int (jI k))]) d_RD_readPath_156 (Nat.le_of_ble_eq_true rfl) rfl ?_
                refine jt_iinc (L' := [(0, .ref (b + 38)), (1, .int (jI yq113)), (2, .int (jI c)), (3, .int (jI (k + 1)))]) d_RD_readPath_157 rfl (Nat.le_of_ble_eq_true rfl) rfl ?_
                refine jt_goto (t := 9) d_RD_readPath_160 rfl ?_
                exact ih yq113 c (k + 1) Iq113 Aq113 hpq113 (by omega) (by omega) (by omega) (show Iq113 38 9 ≤ k + 1 by omega) (by omega)
              · skip
                refine jt_aload_n d_RD_readPath_132 rfl ?_
                refine jt_dup d_RD_readPath_133 rfl ?_
                refine cm_get (k := 38) (v := .int (jI (Iq110 38 2))) d_RD_readPath_134 RD_f60 (by decide) cc_3 rfl ?_
                have rb114 : 0 ≤ Iq110 38 2 ∧ Iq110 38 2 ≤ 300 := hpq110.1 38 2
                refine jt_iconst d_RD_readPath_137 ?_
                refine jt_iadd d_RD_readPath_138 ?_
                refine jt_topi (fun v115 ev115 => ?_)
                refine cm_put (k := 38) (j := 2) (v := v115) d_RD_readPath_139 (RD_w60 _ rfl) (by decide) cc_3 rfl rfl (Nat.le_of_ble_eq_true rfl) rfl ?_
                have p116 := cPo.I 38 2 v115 hpq110 rfl (show 0 ≤ v115 ∧ v115 ≤ 300 by omega)
                refine jt_iconst d_RD_readPath_142 ?_
                refine jt_istore_n (L' := [(0, .ref (b + 38)), (1, .int (jI u)), (2, .int (jI 1)), (3, .int (jI k))]) d_RD_readPath_143 (Nat.le_of_ble_eq_true rfl) rfl ?_
                refine jt_goto (t := 157) d_RD_readPath_144 rfl ?_
                refine jt_iinc (L' := [(0, .ref (b + 38)), (1, .int (jI u)), (2, .int (jI 1)), (3, .int (jI (k + 1)))]) d_RD_readPath_157 rfl (Nat.le_of_ble_eq_true rfl) rfl ?_
                refine jt_goto (t := 9) d_RD_readPath_160 rfl ?_
                exact ih u 1 (k + 1) (cu Iq110 38 2 v115) Aq110 p116 (by omega) (by omega) (by omega) (show Iq110 38 9 ≤ k + 1 by omega) (by omega)
            · skip
              refine jt_iconst d_RD_readPath_111 ?_
              refine jt_istore_n (L' := [(0, .ref (b + 38)), (1, .int (jI 0)), (2, .int (jI c)), (3, .int (jI k))]) d_RD_readPath_112 (Nat.le_of_ble_eq_true rfl) rfl ?_
              refine jt_goto (t := 157) d_RD_readPath_113 rfl ?_
              refine jt_iinc (L' := [(0, .ref (b + 38)), (1, .int (jI 0)), (2, .int (jI c)), (3, .int (jI (k + 1)))]) d_RD_readPath_157 rfl (Nat.le_of_ble_eq_true rfl) rfl ?_
              refine jt_goto (t := 9) d_RD_readPath_160 rfl ?_
              exact ih 0 c (k + 1) Iq107 Aq107 hpq107 (by omega) (by omega) (by omega) (show Iq107 38 9 ≤ k + 1 by omega) (by omega)
          · skip
            refine jt_aload_n d_RD_readPath_40 rfl ?_
            refine jt_iconst d_RD_readPath_41 ?_
            refine cct_callV (Y := Y_RD_countLeg) (ci := 2) (k := 38) (As := [.int (jI 1)]) (rest := []) d_RD_readPath_42 RD_c97 yk_RD_countLeg yv_RD_countLeg rfl (Nat.le_of_ble_eq_true rfl) (by decide) cc_3 rfl rfl (Nat.le_of_ble_eq_true rfl) (v_RD_countLeg G _ b 1 Iq105 Aq105 hpq105.1 hpq105.2.1 (by omega) (show Iq105 38 9 < 2000 by omega)) (fun rvq117 Iq117 Aq117 hq117 => ?_)
            obtain ⟨rfl, hqq117, hxq117⟩ := hq117
            have hpq117 := cPo.trans hpq105 hqq117 rfl rfl
            have m38_2q117 : Iq117 38 2 = Iq105 38 2 := hqq117.2.2.1 38 2 rfl
            have m39_3q117 : Iq117 39 3 = Iq105 39 3 := hqq117.2.2.1 39 3 rfl
            show jt _ 45 [(0, .ref (b + 38)), (1, .int (jI u)), (2, .int (jI c)), (3, .int (jI k))] [] (cmf b f0 Iq117 Aq117) _ _ _
            refine jt_aload_n d_RD_readPath_45 rfl ?_
            refine jt_bipush d_RD_readPath_46 (by omega) ?_
            refine cct_callV (Y := Y_RD_take) (ci := 2) (k := 38) (As := [.int (jI 7)]) (rest := []) d_RD_readPath_48 RD_c88 yk_RD_take yv_RD_take rfl (Nat.le_of_ble_eq_true rfl) (by decide) cc_3 rfl rfl (Nat.le_of_ble_eq_true rfl) (v_RD_take G _ b 7 Iq117 Aq117 hpq117.1 hpq117.2.1 (by omega)) (fun rvq118 Iq118 Aq118 hq118 => ?_)
            obtain ⟨yq118, rfl, ryq118, hqq118, hxq118⟩ := hq118
            have hpq118 := cPo.trans hpq117 hqq118 rfl rfl
            have m39_3q118 : Iq118 39 3 = Iq117 39 3 := hqq118.2.2.1 39 3 rfl
            have m38_9q118 : Iq118 38 9 = Iq117 38 9 := hqq118.2.2.1 38 9 rfl
            show jt _ 51 [(0, .ref (b + 38)), (1, .int (jI u)), (2, .int (jI c)), (3, .int (jI k))] [.int (jI yq118)] (cmf b f0 Iq118 Aq118) _ _ _
            refine jt_if_eq (t := 97) d_RD_readPath_51 rfl (by unfold jRi; omega) (fun c119 => ?_) (fun c119 => ?_)
            · skip
              refine jt_iconst d_RD_readPath_97 ?_
              refine jt_istore_n (L' := [(0, .ref (b + 38)), (1, .int (jI 0)), (2, .int (jI c)), (3, .int (jI k))]) d_RD_readPath_98 (Nat.le_of_ble_eq_true rfl) rfl ?_
              refine jt_goto (t := 157) d_RD_readPath_99 rfl ?_
              refine jt_iinc (L' := [(0, .ref (b + 38)), (1, .int (jI 0)), (2, .int (jI c)), (3, .int (jI (k + 1)))]) d_RD_readPath_157 rfl (Nat.le_of_ble_eq_true rfl) rfl ?_
              refine jt_goto (t := 9) d_RD_readPath_160 rfl ?_
              exact ih 0 c (k + 1) Iq118 Aq118 hpq118 (by omega) (by omega) (by omega) (show Iq118 38 9 ≤ k + 1 by omega) (by omega)
            · skip
              refine jt_aload_n d_RD_readPath_54 rfl ?_
              refine cct_callV (Y := Y_RD_readPair) (ci := 2) (k := 38) (As := []) (rest := []) d_RD_readPath_55 RD_c94 yk_RD_readPair yv_RD_readPair rfl (Nat.le_of_ble_eq_true rfl) (by decide) cc_3 rfl rfl (Nat.le_of_ble_eq_true rfl) (v_RD_readPair G _ b  Iq118 Aq118 hpq118.1 hpq118.2.1 (cTok_of hpq118 hK rfl) ) (fun rvq120 Iq120 Aq120 hq120 => ?_)
              obtain ⟨yq120, rfl, ryq120, hqq120⟩ := hq120
              have hpq120 := cPo.trans hpq118 hqq120 rfl rfl
              have m39_3q120 : Iq120 39 3 = Iq118 39 3 := hqq120.2.2.1 39 3 rfl
              have m38_9q120 : Iq120 38 9 = Iq118 38 9 := hqq120.2.2.1 38 9 rfl
              show jt _ 58 [(0, .ref (b + 38)), (1, .int (jI u)), (2, .int (jI c)), (3, .int (jI k))] [.int (jI yq120)] (cmf b f0 Iq120 Aq120) _ _ _
              refine jt_if_eq (t := 97) d_RD_readPath_58 rfl (by unfold jRi; omega) (fun c121 => ?_) (fun c121 => ?_)
              · skip
                refine jt_iconst d_RD_readPath_97 ?_
                refine jt_istore_n (L' := [(0, .ref (b + 38)), (1, .int (jI 0)), (2, .int (jI c)), (3, .int (jI k))]) d_RD_readPath_98 (Nat.le_of_ble_eq_true rfl) rfl ?_
                refine jt_goto (t := 157) d_RD_readPath_99 rfl ?_
                refine jt_iinc (L' := [(0, .ref (b + 38)), (1, .int (jI 0)), (2, .int (jI c)), (3, .int (jI (k + 1)))]) d_RD_readPath_157 rfl (Nat.le_of_ble_eq_true rfl) rfl ?_
                refine jt_goto (t := 9) d_RD_readPath_160 rfl ?_
                exact ih 0 c (k + 1) Iq120 Aq120 hpq120 (by omega) (by omega) (by omega) (show Iq120 38 9 ≤ k + 1 by omega) (by omega)
              · skip
                refine jt_aload_n d_RD_readPath_61 rfl ?_
                refine jt_bipush d_RD_readPath_62 (by omega) ?_
                refine cct_callV (Y := Y_RD_take) (ci := 2) (k := 38) (As := [.int (jI 7)]) (rest := []) d_RD_readPath_64 RD_c88 yk_RD_take yv_RD_take rfl (Nat.le_of_ble_eq_true rfl) (by decide) cc_3 rfl rfl (Nat.le_of_ble_eq_true rfl) (v_RD_take G _ b 7 Iq120 Aq120 hpq120.1 hpq120.2.1 (by omega)) (fun rvq122 Iq122 Aq122 hq122 => ?_)
                obtain ⟨yq122, rfl, ryq122, hqq122, hxq122⟩ := hq122
                have hpq122 := cPo.trans hpq120 hqq122 rfl rfl
                have m39_3q122 : Iq122 39 3 = Iq120 39 3 := hqq122.2.2.1 39 3 rfl
                have m38_9q122 : Iq122 38 9 = Iq120 38 9 := hqq122.2.2.1 38 9 rfl
                show jt _ 67 [(0, .ref (b + 38)), (1, .int (jI u)), (2, .int (jI c)), (3, .int (jI k))] [.int (jI yq122)] (cmf b f0 Iq122 Aq122) _ _ _
                refine jt_if_eq (t := 97) d_RD_readPath_67 rfl (by unfold jRi; omega) (fun c123 => ?_) (fun c123 => ?_)
                · skip
                  refine jt_iconst d_RD_readPath_97 ?_
                  refine jt_istore_n (L' := [(0, .ref (b + 38)), (1, .int (jI 0)), (2, .int (jI c)), (3, .int (jI k))]) d_RD_readPath_98 (Nat.le_of_ble_eq_true rfl) rfl ?_
                  refine jt_goto (t := 157) d_RD_readPath_99 rfl ?_
                  refine jt_iinc (L' := [(0, .ref (b + 38)), (1, .int (jI 0)), (2, .int (jI c)), (3, .int (jI (k + 1)))]) d_RD_readPath_157 rfl (Nat.le_of_ble_eq_true rfl) rfl ?_
                  refine jt_goto (t := 9) d_RD_readPath_160 rfl ?_
                  exact ih 0 c (k + 1) Iq122 Aq122 hpq122 (by omega) (by omega) (by omega) (show Iq122 38 9 ≤ k + 1 by omega) (by omega)
                · skip
                  refine jt_aload_n d_RD_readPath_70 rfl ?_
                  refine cct_callV (Y := Y_RD_readPair) (ci := 2) (k := 38) (As := []) (rest := []) d_RD_readPath_71 RD_c94 yk_RD_readPair yv_RD_readPair rfl (Nat.le_of_ble_eq_true rfl) (by decide) cc_3 rfl rfl (Nat.le_of_ble_eq_true rfl) (v_RD_readPair G _ b  Iq122 Aq122 hpq122.1 hpq122.2.1 (cTok_of hpq122 hK rfl) ) (fun rvq124 Iq124 Aq124 hq124 => ?_)
                  obtain ⟨yq124, rfl, ryq124, hqq124⟩ := hq124
                  have hpq124 := cPo.trans hpq122 hqq124 rfl rfl
                  have m39_3q124 : Iq124 39 3 = Iq122 39 3 := hqq124.2.2.1 39 3 rfl
                  have m38_9q124 : Iq124 38 9 = Iq122 38 9 := hqq124.2.2.1 38 9 rfl
                  show jt _ 74 [(0, .ref (b + 38)), (1, .int (jI u)), (2, .int (jI c)), (3, .int (jI k))] [.int (jI yq124)] (cmf b f0 Iq124 Aq124) _ _ _
                  refine jt_if_eq (t := 97) d_RD_readPath_74 rfl (by unfold jRi; omega) (fun c125 => ?_) (fun c125 => ?_)
                  · skip
                    refine jt_iconst d_RD_readPath_97 ?_
                    refine jt_istore_n (L' := [(0, .ref (b + 38)), (1, .int (jI 0)), (2, .int (jI c)), (3, .int (jI k))]) d_RD_readPath_98 (Nat.le_of_ble_eq_true rfl) rfl ?_
                    refine jt_goto (t := 157) d_RD_readPath_99 rfl ?_
                    refine jt_iinc (L' := [(0, .ref (b + 38)), (1, .int (jI 0)), (2, .int (jI c)), (3, .int (jI (k + 1)))]) d_RD_readPath_157 rfl (Nat.le_of_ble_eq_true rfl) rfl ?_
                    refine jt_goto (t := 9) d_RD_readPath_160 rfl ?_
                    exact ih 0 c (k + 1) Iq124 Aq124 hpq124 (by omega) (by omega) (by omega) (show Iq124 38 9 ≤ k + 1 by omega) (by omega)
                  · skip
                    refine jt_aload_n d_RD_readPath_77 rfl ?_
                    refine jt_bipush d_RD_readPath_78 (by omega) ?_
                    refine cct_callV (Y := Y_RD_take) (ci := 2) (k := 38) (As := [.int (jI 7)]) (rest := []) d_RD_readPath_80 RD_c88 yk_RD_take yv_RD_take rfl (Nat.le_of_ble_eq_true rfl) (by decide) cc_3 rfl rfl (Nat.le_of_ble_eq_true rfl) (v_RD_take G _ b 7 Iq124 Aq124 hpq124.1 hpq124.2.1 (by omega)) (fun rvq126 Iq126 Aq126 hq126 => ?_)
                    obtain ⟨yq126, rfl, ryq126, hqq126, hxq126⟩ := hq126
                    have hpq126 := cPo.trans hpq124 hqq126 rfl rfl
                    have m39_3q126 : Iq126 39 3 = Iq124 39 3 := hqq126.2.2.1 39 3 rfl
                    have m38_9q126 : Iq126 38 9 = Iq124 38 9 := hqq126.2.2.1 38 9 rfl
                    show jt _ 83 [(0, .ref (b + 38)), (1, .int (jI u)), (2, .int (jI c)), (3, .int (jI k))] [.int (jI yq126)] (cmf b f0 Iq126 Aq126) _ _ _
                    refine jt_if_eq (t := 97) d_RD_readPath_83 rfl (by unfold jRi; omega) (fun c127 => ?_) (fun c127 => ?_)
                    · skip
                      refine jt_iconst d_RD_readPath_97 ?_
                      refine jt_istore_n (L' := [(0, .ref (b + 38)), (1, .int (jI 0)), (2, .int (jI c)), (3, .int (jI k))]) d_RD_readPath_98 (Nat.le_of_ble_eq_true rfl) rfl ?_
                      refine jt_goto (t := 157) d_RD_readPath_99 rfl ?_
                      refine jt_iinc (L' := [(0, .ref (b + 38)), (1, .int (jI 0)), (2, .int (jI c)), (3, .int (jI (k + 1)))]) d_RD_readPath_157 rfl (Nat.le_of_ble_eq_true rfl) rfl ?_
                      refine jt_goto (t := 9) d_RD_readPath_160 rfl ?_
                      exact ih 0 c (k + 1) Iq126 Aq126 hpq126 (by omega) (by omega) (by omega) (show Iq126 38 9 ≤ k + 1 by omega) (by omega)
                    · skip
                      refine jt_aload_n d_RD_readPath_86 rfl ?_
                      refine cct_callV (Y := Y_RD_readPair) (ci := 2) (k := 38) (As := []) (rest := []) d_RD_readPath_87 RD_c94 yk_RD_readPair yv_RD_readPair rfl (Nat.le_of_ble_eq_true rfl) (by decide) cc_3 rfl rfl (Nat.le_of_ble_eq_true rfl) (v_RD_readPair G _ b  Iq126 Aq126 hpq126.1 hpq126.2.1 (cTok_of hpq126 hK rfl) ) (fun rvq128 Iq128 Aq128 hq128 => ?_)
                      obtain ⟨yq128, rfl, ryq128, hqq128⟩ := hq128
                      have hpq128 := cPo.trans hpq126 hqq128 rfl rfl
                      have m39_3q128 : Iq128 39 3 = Iq126 39 3 := hqq128.2.2.1 39 3 rfl
                      have m38_9q128 : Iq128 38 9 = Iq126 38 9 := hqq128.2.2.1 38 9 rfl
                      show jt _ 90 [(0, .ref (b + 38)), (1, .int (jI u)), (2, .int (jI c)), (3, .int (jI k))] [.int (jI yq128)] (cmf b f0 Iq128 Aq128) _ _ _
                      refine jt_if_eq (t := 97) d_RD_readPath_90 rfl (by unfold jRi; omega) (fun c129 => ?_) (fun c129 => ?_)
                      · skip
                        refine jt_iconst d_RD_readPath_97 ?_
                        refine jt_istore_n (L' := [(0, .ref (b + 38)), (1, .int (jI 0)), (2, .int (jI c)), (3, .int (jI k))]) d_RD_readPath_98 (Nat.le_of_ble_eq_true rfl) rfl ?_
                        refine jt_goto (t := 157) d_RD_readPath_99 rfl ?_
                        refine jt_iinc (L' := [(0, .ref (b + 38)), (1, .int (jI 0)), (2, .int (jI c)), (3, .int (jI (k + 1)))]) d_RD_readPath_157 rfl (Nat.le_of_ble_eq_true rfl) rfl ?_
                        refine jt_goto (t := 9) d_RD_readPath_160 rfl ?_
                        exact ih 0 c (k + 1) Iq128 Aq128 hpq128 (by omega) (by omega) (by omega) (show Iq128 38 9 ≤ k + 1 by omega) (by omega)
                      · skip
                        refine jt_iconst d_RD_readPath_93 ?_
                        refine jt_goto (t := 98) d_RD_readPath_94 rfl ?_
                        refine jt_istore_n (L' := [(0, .ref (b + 38)), (1, .int (jI 1)), (2, .int (jI c)), (3, .int (jI k))]) d_RD_readPath_98 (Nat.le_of_ble_eq_true rfl) rfl ?_
                        refine jt_goto (t := 157) d_RD_readPath_99 rfl ?_
                        refine jt_iinc (L' := [(0, .ref (b + 38)), (1, .int (jI 1)), (2, .int (jI c)), (3, .int (jI (k + 1)))]) d_RD_readPath_157 rfl (Nat.le_of_ble_eq_true rfl) rfl ?_
                        refine jt_goto (t := 9) d_RD_readPath_160 rfl ?_
                        exact ih 1 c (k + 1) Iq128 Aq128 hpq128 (by omega) (by omega) (by omega) (show Iq128 38 9 ≤ k + 1 by omega) (by omega)
set_option maxRecDepth 100000 in
set_option maxHeartbeats 4000000 in
theorem v_RD_readPath (G : jG) (d b : Nat)  (I : Nat → Nat → Int) (A : Nat → Int → Int) (hI : cSI I) (hA : cSA A) (hK : cTok A) (hl : I 38 9 = 0) : cct G Y_RD_readPath (d + 32) b [.ref (b + 38)] I A (fun (rv : Option Value) (I2 : Nat → Nat → Int) (A2 : Nat → Int → Int) => ∃ y : Int, rv = some (.int (jI y)) ∧ (0 ≤ y ∧ y ≤ 1) ∧ cPo [610, 611, 615, 614, 617] [375] I A I2 A2) := by
  refine cct_of (by decide) (Nat.le_of_ble_eq_true rfl) (fun f0 sz => ?_)
  show jt _ 0 [(0, .ref (b + 38))] [] _ _ _ _
  have r39 : 0 ≤ I 39 3 ∧ I 39 3 ≤ 300 := hI 39 3
  have r38 : 0 ≤ I 38 2 ∧ I 38 2 ≤ 300 := hI 38 2
  have hz0 : cPo [610, 611, 615, 614, 617] [375] I A I A := cPo.refl hI hA
  refine jt_aload_n d_RD_readPath_0 rfl ?_
  refine cct_callV (Y := Y_RD_readPair) (ci := 2) (k := 38) (As := []) (rest := []) d_RD_readPath_1 RD_c94 yk_RD_readPair yv_RD_readPair rfl (Nat.le_of_ble_eq_true rfl) (by decide) cc_3 rfl rfl (Nat.le_of_ble_eq_true rfl) (v_RD_readPair G _ b  I A hz0.1 hz0.2.1 (cTok_of hz0 hK rfl) ) (fun rvq1 Iq1 Aq1 hq1 => ?_)
  obtain ⟨yq1, rfl, ryq1, hqq1⟩ := hq1
  have hpq1 := cPo.trans hz0 hqq1 rfl rfl
  have m39_3q1 : Iq1 39 3 = I 39 3 := hqq1.2.2.1 39 3 rfl
  have m38_9q1 : Iq1 38 9 = I 38 9 := hqq1.2.2.1 38 9 rfl
  show jt _ 4 [(0, .ref (b + 38))] [.int (jI yq1)] (cmf b f0 Iq1 Aq1) _ _ _
  refine jt_istore_n (L' := [(0, .ref (b + 38)), (1, .int (jI yq1))]) d_RD_readPath_4 (Nat.le_of_ble_eq_true rfl) rfl ?_
  refine jt_iconst d_RD_readPath_5 ?_
  refine jt_istore_n (L' := [(0, .ref (b + 38)), (1, .int (jI yq1)), (2, .int (jI 0))]) d_RD_readPath_6 (Nat.le_of_ble_eq_true rfl) rfl ?_
  refine jt_iconst d_RD_readPath_7 ?_
  refine jt_istore_n (L' := [(0, .ref (b + 38)), (1, .int (jI yq1)), (2, .int (jI 0)), (3, .int (jI 0))]) d_RD_readPath_8 (Nat.le_of_ble_eq_true rfl) rfl ?_
  exact l9_RD_readPathv G d b  I A hI hA hK hl f0 sz  301 yq1 0 0 Iq1 Aq1 hpq1 (by omega) (by omega) (by omega) (show Iq1 38 9 ≤ 0 by omega) (by omega)
set_option maxRecDepth 100000 in
set_option maxHeartbeats 4000000 in
theorem v_RD_readStatement (G : jG) (d b : Nat)  (I : Nat → Nat → Int) (A : Nat → Int → Int) (hI : cSI I) (hA : cSA A) (hK : cTok A) : cct G Y_RD_readStatement (d + 33) b [.ref (b + 38)] I A (fun (rv : Option Value) (I2 : Nat → Nat → Int) (A2 : Nat → Int → Int) => ∃ y : Int, rv = some (.int (jI y)) ∧ (0 ≤ y ∧ y ≤ 1) ∧ cPo [610, 611, 612, 614, 615, 617] [375] I A I2 A2) := by
  refine cct_of (by decide) (Nat.le_of_ble_eq_true rfl) (fun f0 sz => ?_)
  show jt _ 0 [(0, .ref (b + 38))] [] _ _ _ _
  have r39 : 0 ≤ I 39 3 ∧ I 39 3 ≤ 300 := hI 39 3
  have r38 : 0 ≤ I 38 2 ∧ I 38 2 ≤ 300 := hI 38 2
  have hz0 : cPo [610, 611, 612, 614, 615, 617] [375] I A I A := cPo.refl hI hA
  refine jt_aload_n d_RD_readStatement_0 rfl ?_
  refine jt_iconst d_RD_readStatement_1 ?_
  refine cm_put (k := 38) (j := 6) (v := 0) d_RD_readStatement_2 (RD_w49 _ rfl) (by decide) cc_3 rfl rfl (Nat.le_of_ble_eq_true rfl) rfl ?_
  have p1 := cPo.I 38 6 0 hz0 rfl (show 0 ≤ 0 ∧ 0 ≤ 150 by omega)
  refine jt_aload_n d_RD_readStatement_5 rfl ?_
  refine jt_iconst d_RD_readStatement_6 ?_
  refine cm_put (k := 38) (j := 9) (v := 0) d_RD_readStatement_7 (RD_w53 _ rfl) (by decide) cc_3 rfl rfl (Nat.le_of_ble_eq_true rfl) rfl ?_
  have p2 := cPo.I 38 9 0 p1 rfl (show 0 ≤ 0 ∧ 0 ≤ 2000 by omega)
  refine jt_aload_n d_RD_readStatement_10 rfl ?_
  refine jt_iconst d_RD_readStatement_11 ?_
  refine cm_put (k := 38) (j := 7) (v := 1) d_RD_readStatement_12 (RD_w56 _ rfl) (by decide) cc_3 (jnz (by omega)) rfl (Nat.le_of_ble_eq_true rfl) rfl ?_
  have p3 := cPo.I 38 7 1 p2 rfl (show 0 ≤ 1 ∧ 1 ≤ 1 by omega)
  refine jt_aload_n d_RD_readStatement_15 rfl ?_
  refine jt_aload_n d_RD_readStatement_16 rfl ?_
  refine cm_get (k := 38) (v := .ref (b + 39)) d_RD_readStatement_17 RD_f14 (by decide) cc_3 rfl ?_
  refine jt_aload_n d_RD_readStatement_20 rfl ?_
  refine cm_get (k := 38) (v := .int (jI (I 38 2))) d_RD_readStatement_21 RD_f60 (by decide) cc_3 rfl ?_
  have rb4 : 0 ≤ I 38 2 ∧ I 38 2 ≤ 300 := p3.1 38 2
  refine jt_iconst d_RD_readStatement_24 ?_
  refine cct_callV (Y := Y_TR_isKind) (ci := 0) (k := 39) (As := [.int (jI (I 38 2)), .int (jI 4)]) (rest := [.ref (b + 38)]) d_RD_readStatement_25 RD_c63 yk_TR_isKind yv_TR_isKind rfl (Nat.le_of_ble_eq_true rfl) (by decide) (cc_1 rfl) rfl rfl (Nat.le_of_ble_eq_true rfl) (v_TR_isKind G _ b (I 38 2) 4 (cu (cu (cu I 38 6 0) 38 9 0) 38 7 1) A p3.1 p3.2.1 (by omega) (by omega)) (fun rvq5 Iq5 Aq5 hq5 => ?_)
  obtain ⟨yq5, rfl, ryq5, hqq5, hxq5⟩ := hq5
  have hpq5 := cPo.trans p3 hqq5 rfl rfl
  have s38_2q5 : (cu (cu (cu I 38 6 0) 38 9 0) 38 7 1) 38 2 = I 38 2 := rfl
  have s39_3q5 : (cu (cu (cu I 38 6 0) 38 9 0) 38 7 1) 39 3 = I 39 3 := rfl
  have s38_9q5 : (cu (cu (cu I 38 6 0) 38 9 0) 38 7 1) 38 9 = 0 := rfl
  have m38_2q5 : Iq5 38 2 = I 38 2 := hqq5.2.2.1 38 2 rfl
  have m39_3q5 : Iq5 39 3 = I 39 3 := hqq5.2.2.1 39 3 rfl
  have m38_9q5 : Iq5 38 9 = 0 := hqq5.2.2.1 38 9 rfl
  show jt _ 28 [(0, .ref (b + 38))] [.int (jI yq5), .ref (b + 38)] (cmf b f0 Iq5 Aq5) _ _ _
  refine jt_if_eq (t := 46) d_RD_readStatement_28 rfl (by unfold jRi; omega) (fun c6 => ?_) (fun c6 => ?_)
  · skip
    refine jt_iconst d_RD_readStatement_46 ?_
    refine cm_put (k := 38) (j := 4) (v := 2) d_RD_readStatement_47 (RD_w71 _ rfl) (by decide) cc_3 rfl rfl (Nat.le_of_ble_eq_true rfl) rfl ?_
    have p7 := cPo.I 38 4 2 hpq5 rfl (show -2147483648 ≤ 2 ∧ 2 ≤ 2147483647 by omega)
    refine jt_iconst d_RD_readStatement_50 ?_
    refine jt_istore_n (L' := [(0, .ref (b + 38)), (1, .int (jI 1))]) d_RD_readStatement_51 (Nat.le_of_ble_eq_true rfl) rfl ?_
    refine jt_aload_n d_RD_readStatement_52 rfl ?_
    refine cm_get (k := 38) (v := .int (jI 2)) d_RD_readStatement_53 RD_f71 (by decide) cc_3 rfl ?_
    refine jt_tableOut (t := 155) d_RD_readStatement_56 (by unfold jRi; omega) (by omega) rfl ?_
    refine jt_aload_n d_RD_readStatement_155 rfl ?_
    refine jt_iconst d_RD_readStatement_156 ?_
    refine cm_put (k := 38) (j := 4) (v := 2) d_RD_readStatement_157 (RD_w71 _ rfl) (by decide) cc_3 rfl rfl (Nat.le_of_ble_eq_true rfl) rfl ?_
    have p8 := cPo.I 38 4 2 p7 rfl (show -2147483648 ≤ 2 ∧ 2 ≤ 2147483647 by omega)
    refine jt_aload_n d_RD_readStatement_160 rfl ?_
    refine cct_callV (Y := Y_RD_readEquation) (ci := 2) (k := 38) (As := []) (rest := []) d_RD_readStatement_161 RD_c85 yk_RD_readEquation yv_RD_readEquation rfl (Nat.le_of_ble_eq_true rfl) (by decide) cc_3 rfl rfl (Nat.le_of_ble_eq_true rfl) (v_RD_readEquation G _ b  (cu (cu Iq5 38 4 2) 38 4 2) Aq5 p8.1 p8.2.1 (cTok_of p8 hK rfl) ) (fun rvq9 Iq9 Aq9 hq9 => ?_)
    obtain ⟨yq9, rfl, ryq9, hqq9⟩ := hq9
    have hpq9 := cPo.trans p8 hqq9 rfl rfl
    have m39_3q9 : Iq9 39 3 = Iq5 39 3 := hqq9.2.2.1 39 3 rfl
    have m38_9q9 : Iq9 38 9 = Iq5 38 9 := hqq9.2.2.1 38 9 rfl
    show jt _ 164 [(0, .ref (b + 38)), (1, .int (jI 1))] [.int (jI yq9)] (cmf b f0 Iq9 Aq9) _ _ _
    refine jt_istore_n (L' := [(0, .ref (b + 38)), (1, .int (jI yq9))]) d_RD_readStatement_164 (Nat.le_of_ble_eq_true rfl) rfl ?_
    refine jt_iload_n d_RD_readStatement_165 rfl ?_
    refine jt_if_eq (t := 182) d_RD_readStatement_166 rfl (by unfold jRi; omega) (fun c10 => ?_) (fun c10 => ?_)
    · skip
      refine jt_iconst d_RD_readStatement_182 ?_
      exact cm_ret d_RD_readStatement_183 rfl (jnz (by omega)) (⟨0, rfl, by omega, hpq9⟩)
    · skip
      refine jt_aload_n d_RD_readStatement_169 rfl ?_
      refine jt_bipush d_RD_readStatement_170 (by omega) ?_
      refine cct_callV (Y := Y_RD_take) (ci := 2) (k := 38) (As := [.int (jI 6)]) (rest := []) d_RD_readStatement_172 RD_c88 yk_RD_take yv_RD_take rfl (Nat.le_of_ble_eq_true rfl) (by decide) cc_3 rfl rfl (Nat.le_of_ble_eq_true rfl) (v_RD_take G _ b 6 Iq9 Aq9 hpq9.1 hpq9.2.1 (by omega)) (fun rvq11 Iq11 Aq11 hq11 => ?_)
      obtain ⟨yq11, rfl, ryq11, hqq11, hxq11⟩ := hq11
      have hpq11 := cPo.trans hpq9 hqq11 rfl rfl
      have m39_3q11 : Iq11 39 3 = Iq9 39 3 := hqq11.2.2.1 39 3 rfl
      have m38_9q11 : Iq11 38 9 = Iq9 38 9 := hqq11.2.2.1 38 9 rfl
      show jt _ 175 [(0, .ref (b + 38)), (1, .int (jI yq9))] [.int (jI yq11)] (cmf b f0 Iq11 Aq11) _ _ _
      refine jt_if_eq (t := 182) d_RD_readStatement_175 rfl (by unfold jRi; omega) (fun c12 => ?_) (fun c12 => ?_)
      · skip
        refine jt_iconst d_RD_readStatement_182 ?_
        exact cm_ret d_RD_readStatement_183 rfl (jnz (by omega)) (⟨0, rfl, by omega, hpq11⟩)
      · skip
        refine jt_iconst d_RD_readStatement_178 ?_
        refine jt_goto (t := 183) d_RD_readStatement_179 rfl ?_
        exact cm_ret d_RD_readStatement_183 rfl (jnz (by omega)) (⟨1, rfl, by omega, hpq11⟩)
  · skip
    refine jt_aload_n d_RD_readStatement_31 rfl ?_
    refine cm_get (k := 38) (v := .ref (b + 39)) d_RD_readStatement_32 RD_f14 (by decide) cc_3 rfl ?_
    refine cm_get (k := 39) (v := .ref (b + 41)) d_RD_readStatement_35 RD_f67 (by decide) (cc_1 rfl) rfl ?_
    refine jt_aload_n d_RD_readStatement_38 rfl ?_
    refine cm_get (k := 38) (v := .int (jI (Iq5 38 2))) d_RD_readStatement_39 RD_f60 (by decide) cc_3 rfl ?_
    have rb13 : 0 ≤ Iq5 38 2 ∧ Iq5 38 2 ≤ 300 := hpq5.1 38 2
    refine cm_ld0 (k := 41) (n := 300) (v := (Aq5 41) (Iq5 38 2)) d_RD_readStatement_42 (by decide) rfl rfl (by omega) (by omega) (by omega) rfl ?_
    refine jt_topi (fun v14 ev14 => ?_)
    have bv14 : -2147483648 ≤ v14 ∧ v14 ≤ 2147483647 := by rw [ev14]; exact hpq5.2.1 41 (Iq5 38 2)
    refine jt_goto (t := 47) d_RD_readStatement_43 rfl ?_
    refine cm_put (k := 38) (j := 4) (v := v14) d_RD_readStatement_47 (RD_w71 _ rfl) (by decide) cc_3 rfl rfl (Nat.le_of_ble_eq_true rfl) rfl ?_
    have p15 := cPo.I 38 4 v14 hpq5 rfl (show -2147483648 ≤ v14 ∧ v14 ≤ 2147483647 by omega)
    refine jt_iconst d_RD_readStatement_50 ?_
    refine jt_istore_n (L' := [(0, .ref (b + 38)), (1, .int (jI 1))]) d_RD_readStatement_51 (Nat.le_of_ble_eq_true rfl) rfl ?_
    refine jt_aload_n d_RD_readStatement_52 rfl ?_
    refine cm_get (k := 38) (v := .int (jI v14)) d_RD_readStatement_53 RD_f71 (by decide) cc_3 rfl ?_
    by_cases hsw : v14 < 6 ∨ 12 < v14
    · skip
      refine jt_tableOut (t := 155) d_RD_readStatement_56 (by unfold jRi; omega) hsw rfl ?_
      refine jt_aload_n d_RD_readStatement_155 rfl ?_
      refine jt_iconst d_RD_readStatement_156 ?_
      refine cm_put (k := 38) (j := 4) (v := 2) d_RD_readStatement_157 (RD_w71 _ rfl) (by decide) cc_3 rfl rfl (Nat.le_of_ble_eq_true rfl) rfl ?_
      have p16 := cPo.I 38 4 2 p15 rfl (show -2147483648 ≤ 2 ∧ 2 ≤ 2147483647 by omega)
      refine jt_aload_n d_RD_readStatement_160 rfl ?_
      refine cct_callV (Y := Y_RD_readEquation) (ci := 2) (k := 38) (As := []) (rest := []) d_RD_readStatement_161 RD_c85 yk_RD_readEquation yv_RD_readEquation rfl (Nat.le_of_ble_eq_true rfl) (by decide) cc_3 rfl rfl (Nat.le_of_ble_eq_true rfl) (v_RD_readEquation G _ b  (cu (cu Iq5 38 4 v14) 38 4 2) Aq5 p16.1 p16.2.1 (cTok_of p16 hK rfl) ) (fun rvq17 Iq17 Aq17 hq17 => ?_)
      obtain ⟨yq17, rfl, ryq17, hqq17⟩ := hq17
      have hpq17 := cPo.trans p16 hqq17 rfl rfl
      have m39_3q17 : Iq17 39 3 = Iq5 39 3 := hqq17.2.2.1 39 3 rfl
      have m38_9q17 : Iq17 38 9 = Iq5 38 9 := hqq17.2.2.1 38 9 rfl
      show jt _ 164 [(0, .ref (b + 38)), (1, .int (jI 1))] [.int (jI yq17)] (cmf b f0 Iq17 Aq17) _ _ _
      refine jt_istore_n (L' := [(0, .ref (b + 38)), (1, .int (jI yq17))]) d_RD_readStatement_164 (Nat.le_of_ble_eq_true rfl) rfl ?_
      refine jt_iload_n d_RD_readStatement_165 rfl ?_
      refine jt_if_eq (t := 182) d_RD_readStatement_166 rfl (by unfold jRi; omega) (fun c18 => ?_) (fun c18 => ?_)
      · skip
        refine jt_iconst d_RD_readStatement_182 ?_
        exact cm_ret d_RD_readStatement_183 rfl (jnz (by omega)) (⟨0, rfl, by omega, hpq17⟩)
      · skip
        refine jt_aload_n d_RD_readStatement_169 rfl ?_
        refine jt_bipush d_RD_readStatement_170 (by omega) ?_
        refine cct_callV (Y := Y_RD_take) (ci := 2) (k := 38) (As := [.int (jI 6)]) (rest := []) d_RD_readStatement_172 RD_c88 yk_RD_take yv_RD_take rfl (Nat.le_of_ble_eq_true rfl) (by decide) cc_3 rfl rfl (Nat.le_of_ble_eq_true rfl) (v_RD_take G _ b 6 Iq17 Aq17 hpq17.1 hpq17.2.1 (by omega)) (fun rvq19 Iq19 Aq19 hq19 => ?_)
        obtain ⟨yq19, rfl, ryq19, hqq19, hxq19⟩ := hq19
        have hpq19 := cPo.trans hpq17 hqq19 rfl rfl
        have m39_3q19 : Iq19 39 3 = Iq17 39 3 := hqq19.2.2.1 39 3 rfl
        have m38_9q19 : Iq19 38 9 = Iq17 38 9 := hqq19.2.2.1 38 9 rfl
        show jt _ 175 [(0, .ref (b + 38)), (1, .int (jI yq17))] [.int (jI yq19)] (cmf b f0 Iq19 Aq19) _ _ _
        refine jt_if_eq (t := 182) d_RD_readStatement_175 rfl (by unfold jRi; omega) (fun c20 => ?_) (fun c20 => ?_)
        · skip
          refine jt_iconst d_RD_readStatement_182 ?_
          exact cm_ret d_RD_readStatement_183 rfl (jnz (by omega)) (⟨0, rfl, by omega, hpq19⟩)
        · skip
          refine jt_iconst d_RD_readStatement_178 ?_
          refine jt_goto (t := 183) d_RD_readStatement_179 rfl ?_
          exact cm_ret d_RD_readStatement_183 rfl (jnz (by omega)) (⟨1, rfl, by omega, hpq19⟩)
    by_cases hs0 : v14 = 6
    · skip
      refine jt_tableIn (t := 100) d_RD_readStatement_56 (by unfold jRi; omega) (by omega) (by omega) (by rw [hs0]; rfl) rfl ?_
      refine jt_goto (t := 165) d_RD_readStatement_100 rfl ?_
      refine jt_iload_n d_RD_readStatement_165 rfl ?_
      refine jt_if_eq (t := 182) d_RD_readStatement_166 rfl (by unfold jRi; omega) (fun c21 => ?_) (fun c21 => ?_)
      · skip
        exfalso
        omega
      · skip
        refine jt_aload_n d_RD_readStatement_169 rfl ?_
        refine jt_bipush d_RD_readStatement_170 (by omega) ?_
        refine cct_callV (Y := Y_RD_take) (ci := 2) (k := 38) (As := [.int (jI 6)]) (rest := []) d_RD_readStatement_172 RD_c88 yk_RD_take yv_RD_take rfl (Nat.le_of_ble_eq_true rfl) (by decide) cc_3 rfl rfl (Nat.le_of_ble_eq_true rfl) (v_RD_take G _ b 6 (cu Iq5 38 4 v14) Aq5 p15.1 p15.2.1 (by omega)) (fun rvq22 Iq22 Aq22 hq22 => ?_)
        obtain ⟨yq22, rfl, ryq22, hqq22, hxq22⟩ := hq22
        have hpq22 := cPo.trans p15 hqq22 rfl rfl
        have s38_2q22 : (cu Iq5 38 4 v14) 38 2 = Iq5 38 2 := rfl
        have s39_3q22 : (cu Iq5 38 4 v14) 39 3 = Iq5 39 3 := rfl
        have s38_9q22 : (cu Iq5 38 4 v14) 38 9 = Iq5 38 9 := rfl
        have m39_3q22 : Iq22 39 3 = Iq5 39 3 := hqq22.2.2.1 39 3 rfl
        have m38_9q22 : Iq22 38 9 = Iq5 38 9 := hqq22.2.2.1 38 9 rfl
        show jt _ 175 [(0, .ref (b + 38)), (1, .int (jI 1))] [.int (jI yq22)] (cmf b f0 Iq22 Aq22) _ _ _
        refine jt_if_eq (t := 182) d_RD_readStatement_175 rfl (by unfold jRi; omega) (fun c23 => ?_) (fun c23 => ?_)
        · skip
          refine jt_iconst d_RD_readStatement_182 ?_
          exact cm_ret d_RD_readStatement_183 rfl (jnz (by omega)) (⟨0, rfl, by omega, hpq22⟩)
        · skip
          refine jt_iconst d_RD_readStatement_178 ?_
          refine jt_goto (t := 183) d_RD_readStatement_179 rfl ?_
          exact cm_ret d_RD_readStatement_183 rfl (jnz (by omega)) (⟨1, rfl, by omega, hpq22⟩)
    by_cases hs1 : v14 = 7
    · skip
      refine jt_tableIn (t := 155) d_RD_readStatement_56 (by unfold jRi; omega) (by omega) (by omega) (by rw [hs1]; rfl) rfl ?_
      refine jt_aload_n d_RD_readStatement_155 rfl ?_
      refine jt_iconst d_RD_readStatement_156 ?_
      refine cm_put (k := 38) (j := 4) (v := 2) d_RD_readStatement_157 (RD_w71 _ rfl) (by decide) cc_3 rfl rfl (Nat.le_of_ble_eq_true rfl) rfl ?_
      have p24 := cPo.I 38 4 2 p15 rfl (show -2147483648 ≤ 2 ∧ 2 ≤ 2147483647 by omega)
      refine jt_aload_n d_RD_readStatement_160 rfl ?_
      refine cct_callV (Y := Y_RD_readEquation) (ci := 2) (k := 38) (As := []) (rest := []) d_RD_readStatement_161 RD_c85 yk_RD_readEquation yv_RD_readEquation rfl (Nat.le_of_ble_eq_true rfl) (by decide) cc_3 rfl rfl (Nat.le_of_ble_eq_true rfl) (v_RD_readEquation G _ b  (cu (cu Iq5 38 4 v14) 38 4 2) Aq5 p24.1 p24.2.1 (cTok_of p24 hK rfl) ) (fun rvq25 Iq25 Aq25 hq25 => ?_)
      obtain ⟨yq25, rfl, ryq25, hqq25⟩ := hq25
      have hpq25 := cPo.trans p24 hqq25 rfl rfl
      have m39_3q25 : Iq25 39 3 = Iq5 39 3 := hqq25.2.2.1 39 3 rfl
      have m38_9q25 : Iq25 38 9 = Iq5 38 9 := hqq25.2.2.1 38 9 rfl
      show jt _ 164 [(0, .ref (b + 38)), (1, .int (jI 1))] [.int (jI yq25)] (cmf b f0 Iq25 Aq25) _ _ _
      refine jt_istore_n (L' := [(0, .ref (b + 38)), (1, .int (jI yq25))]) d_RD_readStatement_164 (Nat.le_of_ble_eq_true rfl) rfl ?_
      refine jt_iload_n d_RD_readStatement_165 rfl ?_
      refine jt_if_eq (t := 182) d_RD_readStatement_166 rfl (by unfold jRi; omega) (fun c26 => ?_) (fun c26 => ?_)
      · skip
        refine jt_iconst d_RD_readStatement_182 ?_
        exact cm_ret d_RD_readStatement_183 rfl (jnz (by omega)) (⟨0, rfl, by omega, hpq25⟩)
      · skip
        refine jt_aload_n d_RD_readStatement_169 rfl ?_
        refine jt_bipush d_RD_readStatement_170 (by omega) ?_
        refine cct_callV (Y := Y_RD_take) (ci := 2) (k := 38) (As := [.int (jI 6)]) (rest := []) d_RD_readStatement_172 RD_c88 yk_RD_take yv_RD_take rfl (Nat.le_of_ble_eq_true rfl) (by decide) cc_3 rfl rfl (Nat.le_of_ble_eq_true rfl) (v_RD_take G _ b 6 Iq25 Aq25 hpq25.1 hpq25.2.1 (by omega)) (fun rvq27 Iq27 Aq27 hq27 => ?_)
        obtain ⟨yq27, rfl, ryq27, hqq27, hxq27⟩ := hq27
        have hpq27 := cPo.trans hpq25 hqq27 rfl rfl
        have m39_3q27 : Iq27 39 3 = Iq25 39 3 := hqq27.2.2.1 39 3 rfl
        have m38_9q27 : Iq27 38 9 = Iq25 38 9 := hqq27.2.2.1 38 9 rfl
        show jt _ 175 [(0, .ref (b + 38)), (1, .int (jI yq25))] [.int (jI yq27)] (cmf b f0 Iq27 Aq27) _ _ _
        refine jt_if_eq (t := 182) d_RD_readStatement_175 rfl (by unfold jRi; omega) (fun c28 => ?_) (fun c28 => ?_)
        · skip
          refine jt_iconst d_RD_readStatement_182 ?_
          exact cm_ret d_RD_readStatement_183 rfl (jnz (by omega)) (⟨0, rfl, by omega, hpq27⟩)
        · skip
          refine jt_iconst d_RD_readStatement_178 ?_
          refine jt_goto (t := 183) d_RD_readStatement_179 rfl ?_
          exact cm_ret d_RD_readStatement_183 rfl (jnz (by omega)) (⟨1, rfl, by omega, hpq27⟩)
    by_cases hs2 : v14 = 8
    · skip
      refine jt_tableIn (t := 155) d_RD_readStatement_56 (by unfold jRi; omega) (by omega) (by omega) (by rw [hs2]; rfl) rfl ?_
      refine jt_aload_n d_RD_readStatement_155 rfl ?_
      refine jt_iconst d_RD_readStatement_156 ?_
      refine cm_put (k := 38) (j := 4) (v := 2) d_RD_readStatement_157 (RD_w71 _ rfl) (by decide) cc_3 rfl rfl (Nat.le_of_ble_eq_true rfl) rfl ?_
      have p29 := cPo.I 38 4 2 p15 rfl (show -2147483648 ≤ 2 ∧ 2 ≤ 2147483647 by omega)
      refine jt_aload_n d_RD_readStatement_160 rfl ?_
      refine cct_callV (Y := Y_RD_readEquation) (ci := 2) (k := 38) (As := []) (rest := []) d_RD_readStatement_161 RD_c85 yk_RD_readEquation yv_RD_readEquation rfl (Nat.le_of_ble_eq_true rfl) (by decide) cc_3 rfl rfl (Nat.le_of_ble_eq_true rfl) (v_RD_readEquation G _ b  (cu (cu Iq5 38 4 v14) 38 4 2) Aq5 p29.1 p29.2.1 (cTok_of p29 hK rfl) ) (fun rvq30 Iq30 Aq30 hq30 => ?_)
      obtain ⟨yq30, rfl, ryq30, hqq30⟩ := hq30
      have hpq30 := cPo.trans p29 hqq30 rfl rfl
      have m39_3q30 : Iq30 39 3 = Iq5 39 3 := hqq30.2.2.1 39 3 rfl
      have m38_9q30 : Iq30 38 9 = Iq5 38 9 := hqq30.2.2.1 38 9 rfl
      show jt _ 164 [(0, .ref (b + 38)), (1, .int (jI 1))] [.int (jI yq30)] (cmf b f0 Iq30 Aq30) _ _ _
      refine jt_istore_n (L' := [(0, .ref (b + 38)), (1, .int (jI yq30))]) d_RD_readStatement_164 (Nat.le_of_ble_eq_true rfl) rfl ?_
      refine jt_iload_n d_RD_readStatement_165 rfl ?_
      refine jt_if_eq (t := 182) d_RD_readStatement_166 rfl (by unfold jRi; omega) (fun c31 => ?_) (fun c31 => ?_)
      · skip
        refine jt_iconst d_RD_readStatement_182 ?_
        exact cm_ret d_RD_readStatement_183 rfl (jnz (by omega)) (⟨0, rfl, by omega, hpq30⟩)
      · skip
        refine jt_aload_n d_RD_readStatement_169 rfl ?_
        refine jt_bipush d_RD_readStatement_170 (by omega) ?_
        refine cct_callV (Y := Y_RD_take) (ci := 2) (k := 38) (As := [.int (jI 6)]) (rest := []) d_RD_readStatement_172 RD_c88 yk_RD_take yv_RD_take rfl (Nat.le_of_ble_eq_true rfl) (by decide) cc_3 rfl rfl (Nat.le_of_ble_eq_true rfl) (v_RD_take G _ b 6 Iq30 Aq30 hpq30.1 hpq30.2.1 (by omega)) (fun rvq32 Iq32 Aq32 hq32 => ?_)
        obtain ⟨yq32, rfl, ryq32, hqq32, hxq32⟩ := hq32
        have hpq32 := cPo.trans hpq30 hqq32 rfl rfl
        have m39_3q32 : Iq32 39 3 = Iq30 39 3 := hqq32.2.2.1 39 3 rfl
        have m38_9q32 : Iq32 38 9 = Iq30 38 9 := hqq32.2.2.1 38 9 rfl
        show jt _ 175 [(0, .ref (b + 38)), (1, .int (jI yq30))] [.int (jI yq32)] (cmf b f0 Iq32 Aq32) _ _ _
        refine jt_if_eq (t := 182) d_RD_readStatement_175 rfl (by unfold jRi; omega) (fun c33 => ?_) (fun c33 => ?_)
        · skip
          refine jt_iconst d_RD_readStatement_182 ?_
          exact cm_ret d_RD_readStatement_183 rfl (jnz (by omega)) (⟨0, rfl, by omega, hpq32⟩)
        · skip
          refine jt_iconst d_RD_readStatement_178 ?_
          refine jt_goto (t := 183) d_RD_readStatement_179 rfl ?_
          exact cm_ret d_RD_readStatement_183 rfl (jnz (by omega)) (⟨1, rfl, by omega, hpq32⟩)
    by_cases hs3 : v14 = 9
    · skip
      refine jt_tableIn (t := 155) d_RD_readStatement_56 (by unfold jRi; omega) (by omega) (by omega) (by rw [hs3]; rfl) rfl ?_
      refine jt_aload_n d_RD_readStatement_155 rfl ?_
      refine jt_iconst d_RD_readStatement_156 ?_
      refine cm_put (k := 38) (j := 4) (v := 2) d_RD_readStatement_157 (RD_w71 _ rfl) (by decide) cc_3 rfl rfl (Nat.le_of_ble_eq_true rfl) rfl ?_
      have p34 := cPo.I 38 4 2 p15 rfl (show -2147483648 ≤ 2 ∧ 2 ≤ 2147483647 by omega)
      refine jt_aload_n d_RD_readStatement_160 rfl ?_
      refine cct_callV (Y := Y_RD_readEquation) (ci := 2) (k := 38) (As := []) (rest := []) d_RD_readStatement_161 RD_c85 yk_RD_readEquation yv_RD_readEquation rfl (Nat.le_of_ble_eq_true rfl) (by decide) cc_3 rfl rfl (Nat.le_of_ble_eq_true rfl) (v_RD_readEquation G _ b  (cu (cu Iq5 38 4 v14) 38 4 2) Aq5 p34.1 p34.2.1 (cTok_of p34 hK rfl) ) (fun rvq35 Iq35 Aq35 hq35 => ?_)
      obtain ⟨yq35, rfl, ryq35, hqq35⟩ := hq35
      have hpq35 := cPo.trans p34 hqq35 rfl rfl
      have m39_3q35 : Iq35 39 3 = Iq5 39 3 := hqq35.2.2.1 39 3 rfl
      have m38_9q35 : Iq35 38 9 = Iq5 38 9 := hqq35.2.2.1 38 9 rfl
      show jt _ 164 [(0, .ref (b + 38)), (1, .int (jI 1))] [.int (jI yq35)] (cmf b f0 Iq35 Aq35) _ _ _
      refine jt_istore_n (L' := [(0, .ref (b + 38)), (1, .int (jI yq35))]) d_RD_readStatement_164 (Nat.le_of_ble_eq_true rfl) rfl ?_
      refine jt_iload_n d_RD_readStatement_165 rfl ?_
      refine jt_if_eq (t := 182) d_RD_readStatement_166 rfl (by unfold jRi; omega) (fun c36 => ?_) (fun c36 => ?_)
      · skip
        refine jt_iconst d_RD_readStatement_182 ?_
        exact cm_ret d_RD_readStatement_183 rfl (jnz (by omega)) (⟨0, rfl, by omega, hpq35⟩)
      · skip
        refine jt_aload_n d_RD_readStatement_169 rfl ?_
        refine jt_bipush d_RD_readStatement_170 (by omega) ?_
        refine cct_callV (Y := Y_RD_take) (ci := 2) (k := 38) (As := [.int (jI 6)]) (rest := []) d_RD_readStatement_172 RD_c88 yk_RD_take yv_RD_take rfl (Nat.le_of_ble_eq_true rfl) (by decide) cc_3 rfl rfl (Nat.le_of_ble_eq_true rfl) (v_RD_take G _ b 6 Iq35 Aq35 hpq35.1 hpq35.2.1 (by omega)) (fun rvq37 Iq37 Aq37 hq37 => ?_)
        obtain ⟨yq37, rfl, ryq37, hqq37, hxq37⟩ := hq37
        have hpq37 := cPo.trans hpq35 hqq37 rfl rfl
        have m39_3q37 : Iq37 39 3 = Iq35 39 3 := hqq37.2.2.1 39 3 rfl
        have m38_9q37 : Iq37 38 9 = Iq35 38 9 := hqq37.2.2.1 38 9 rfl
        show jt _ 175 [(0, .ref (b + 38)), (1, .int (jI yq35))] [.int (jI yq37)] (cmf b f0 Iq37 Aq37) _ _ _
        refine jt_if_eq (t := 182) d_RD_readStatement_175 rfl (by unfold jRi; omega) (fun c38 => ?_) (fun c38 => ?_)
        · skip
          refine jt_iconst d_RD_readStatement_182 ?_
          exact cm_ret d_RD_readStatement_183 rfl (jnz (by omega)) (⟨0, rfl, by omega, hpq37⟩)
        · skip
          refine jt_iconst d_RD_readStatement_178 ?_
          refine jt_goto (t := 183) d_RD_readStatement_179 rfl ?_
          exact cm_ret d_RD_readStatement_183 rfl (jnz (by omega)) (⟨1, rfl, by omega, hpq37⟩)
    by_cases hs4 : v14 = 10
    · skip
      refine jt_tableIn (t := 137) d_RD_readStatement_56 (by unfold jRi; omega) (by omega) (by omega) (by rw [hs4]; rfl) rfl ?_
      refine jt_aload_n d_RD_readStatement_137 rfl ?_
      refine jt_dup d_RD_readStatement_138 rfl ?_
      refine cm_get (k := 38) (v := .int (jI (Iq5 38 2))) d_RD_readStatement_139 RD_f60 (by decide) cc_3 rfl ?_
      refine jt_iconst d_RD_readStatement_142 ?_
      refine jt_iadd d_RD_readStatement_143 ?_
      refine jt_topi (fun v39 ev39 => ?_)
      refine cm_put (k := 38) (j := 2) (v := v39) d_RD_readStatement_144 (RD_w60 _ rfl) (by decide) cc_3 rfl rfl (Nat.le_of_ble_eq_true rfl) rfl ?_
      have p40 := cPo.I 38 2 v39 p15 rfl (show 0 ≤ v39 ∧ v39 ≤ 300 by omega)
      refine jt_aload_n d_RD_readStatement_147 rfl ?_
      refine cct_callV (Y := Y_RD_readPath) (ci := 2) (k := 38) (As := []) (rest := []) d_RD_readStatement_148 RD_c82 yk_RD_readPath yv_RD_readPath rfl (Nat.le_of_ble_eq_true rfl) (by decide) cc_3 rfl rfl (Nat.le_of_ble_eq_true rfl) (v_RD_readPath G _ b  (cu (cu Iq5 38 4 v14) 38 2 v39) Aq5 p40.1 p40.2.1 (cTok_of p40 hK rfl) (show Iq5 38 9 = 0 by omega)) (fun rvq41 Iq41 Aq41 hq41 => ?_)
      obtain ⟨yq41, rfl, ryq41, hqq41⟩ := hq41
      have hpq41 := cPo.trans p40 hqq41 rfl rfl
      have m39_3q41 : Iq41 39 3 = Iq5 39 3 := hqq41.2.2.1 39 3 rfl
      show jt _ 151 [(0, .ref (b + 38)), (1, .int (jI 1))] [.int (jI yq41)] (cmf b f0 Iq41 Aq41) _ _ _
      refine jt_istore_n (L' := [(0, .ref (b + 38)), (1, .int (jI yq41))]) d_RD_readStatement_151 (Nat.le_of_ble_eq_true rfl) rfl ?_
      refine jt_goto (t := 165) d_RD_readStatement_152 rfl ?_
      refine jt_iload_n d_RD_readStatement_165 rfl ?_
      refine jt_if_eq (t := 182) d_RD_readStatement_166 rfl (by unfold jRi; omega) (fun c42 => ?_) (fun c42 => ?_)
      · skip
        refine jt_iconst d_RD_readStatement_182 ?_
        exact cm_ret d_RD_readStatement_183 rfl (jnz (by omega)) (⟨0, rfl, by omega, hpq41⟩)
      · skip
        refine jt_aload_n d_RD_readStatement_169 rfl ?_
        refine jt_bipush d_RD_readStatement_170 (by omega) ?_
        refine cct_callV (Y := Y_RD_take) (ci := 2) (k := 38) (As := [.int (jI 6)]) (rest := []) d_RD_readStatement_172 RD_c88 yk_RD_take yv_RD_take rfl (Nat.le_of_ble_eq_true rfl) (by decide) cc_3 rfl rfl (Nat.le_of_ble_eq_true rfl) (v_RD_take G _ b 6 Iq41 Aq41 hpq41.1 hpq41.2.1 (by omega)) (fun rvq43 Iq43 Aq43 hq43 => ?_)
        obtain ⟨yq43, rfl, ryq43, hqq43, hxq43⟩ := hq43
        have hpq43 := cPo.trans hpq41 hqq43 rfl rfl
        have m39_3q43 : Iq43 39 3 = Iq41 39 3 := hqq43.2.2.1 39 3 rfl
        have m38_9q43 : Iq43 38 9 = Iq41 38 9 := hqq43.2.2.1 38 9 rfl
        show jt _ 175 [(0, .ref (b + 38)), (1, .int (jI yq41))] [.int (jI yq43)] (cmf b f0 Iq43 Aq43) _ _ _
        refine jt_if_eq (t := 182) d_RD_readStatement_175 rfl (by unfold jRi; omega) (fun c44 => ?_) (fun c44 => ?_)
        · skip
          refine jt_iconst d_RD_readStatement_182 ?_
          exact cm_ret d_RD_readStatement_183 rfl (jnz (by omega)) (⟨0, rfl, by omega, hpq43⟩)
        · skip
          refine jt_iconst d_RD_readStatement_178 ?_
          refine jt_goto (t := 183) d_RD_readStatement_179 rfl ?_
          exact cm_ret d_RD_readStatement_183 rfl (jnz (by omega)) (⟨1, rfl, by omega, hpq43⟩)
    by_cases hs5 : v14 = 11
    · skip
      refine jt_tableIn (t := 137) d_RD_readStatement_56 (by unfold jRi; omega) (by omega) (by omega) (by rw [hs5]; rfl) rfl ?_
      refine jt_aload_n d_RD_readStatement_137 rfl ?_
      refine jt_dup d_RD_readStatement_138 rfl ?_
      refine cm_get (k := 38) (v := .int (jI (Iq5 38 2))) d_RD_readStatement_139 RD_f60 (by decide) cc_3 rfl ?_
      refine jt_iconst d_RD_readStatement_142 ?_
      refine jt_iadd d_RD_readStatement_143 ?_
      refine jt_topi (fun v45 ev45 => ?_)
      refine cm_put (k := 38) (j := 2) (v := v45) d_RD_readStatement_144 (RD_w60 _ rfl) (by decide) cc_3 rfl rfl (Nat.le_of_ble_eq_true rfl) rfl ?_
      have p46 := cPo.I 38 2 v45 p15 rfl (show 0 ≤ v45 ∧ v45 ≤ 300 by omega)
      refine jt_aload_n d_RD_readStatement_147 rfl ?_
      refine cct_callV (Y := Y_RD_readPath) (ci := 2) (k := 38) (As := []) (rest := []) d_RD_readStatement_148 RD_c82 yk_RD_readPath yv_RD_readPath rfl (Nat.le_of_ble_eq_true rfl) (by decide) cc_3 rfl rfl (Nat.le_of_ble_eq_true rfl) (v_RD_readPath G _ b  (cu (cu Iq5 38 4 v14) 38 2 v45) Aq5 p46.1 p46.2.1 (cTok_of p46 hK rfl) (show Iq5 38 9 = 0 by omega)) (fun rvq47 Iq47 Aq47 hq47 => ?_)
      obtain ⟨yq47, rfl, ryq47, hqq47⟩ := hq47
      have hpq47 := cPo.trans p46 hqq47 rfl rfl
      have m39_3q47 : Iq47 39 3 = Iq5 39 3 := hqq47.2.2.1 39 3 rfl
      show jt _ 151 [(0, .ref (b + 38)), (1, .int (jI 1))] [.int (jI yq47)] (cmf b f0 Iq47 Aq47) _ _ _
      refine jt_istore_n (L' := [(0, .ref (b + 38)), (1, .int (jI yq47))]) d_RD_readStatement_151 (Nat.le_of_ble_eq_true rfl) rfl ?_
      refine jt_goto (t := 165) d_RD_readStatement_152 rfl ?_
      refine jt_iload_n d_RD_readStatement_165 rfl ?_
      refine jt_if_eq (t := 182) d_RD_readStatement_166 rfl (by unfold jRi; omega) (fun c48 => ?_) (fun c48 => ?_)
      · skip
        refine jt_iconst d_RD_readStatement_182 ?_
        exact cm_ret d_RD_readStatement_183 rfl (jnz (by omega)) (⟨0, rfl, by omega, hpq47⟩)
      · skip
        refine jt_aload_n d_RD_readStatement_169 rfl ?_
        refine jt_bipush d_RD_readStatement_170 (by omega) ?_
        refine cct_callV (Y := Y_RD_take) (ci := 2) (k := 38) (As := [.int (jI 6)]) (rest := []) d_RD_readStatement_172 RD_c88 yk_RD_take yv_RD_take rfl (Nat.le_of_ble_eq_true rfl) (by decide) cc_3 rfl rfl (Nat.le_of_ble_eq_true rfl) (v_RD_take G _ b 6 Iq47 Aq47 hpq47.1 hpq47.2.1 (by omega)) (fun rvq49 Iq49 Aq49 hq49 => ?_)
        obtain ⟨yq49, rfl, ryq49, hqq49, hxq49⟩ := hq49
        have hpq49 := cPo.trans hpq47 hqq49 rfl rfl
        have m39_3q49 : Iq49 39 3 = Iq47 39 3 := hqq49.2.2.1 39 3 rfl
        have m38_9q49 : Iq49 38 9 = Iq47 38 9 := hqq49.2.2.1 38 9 rfl
        show jt _ 175 [(0, .ref (b + 38)), (1, .int (jI yq47))] [.int (jI yq49)] (cmf b f0 Iq49 Aq49) _ _ _
        refine jt_if_eq (t := 182) d_RD_readStatement_175 rfl (by unfold jRi; omega) (fun c50 => ?_) (fun c50 => ?_)
        · skip
          refine jt_iconst d_RD_readStatement_182 ?_
          exact cm_ret d_RD_readStatement_183 rfl (jnz (by omega)) (⟨0, rfl, by omega, hpq49⟩)
        · skip
          refine jt_iconst d_RD_readStatement_178 ?_
          refine jt_goto (t := 183) d_RD_readStatement_179 rfl ?_
          exact cm_ret d_RD_readStatement_183 rfl (jnz (by omega)) (⟨1, rfl, by omega, hpq49⟩)
    by_cases hs6 : v14 = 12
    · skip
      refine jt_tableIn (t := 103) d_RD_readStatement_56 (by unfold jRi; omega) (by omega) (by omega) (by rw [hs6]; rfl) rfl ?_
      refine jt_aload_n d_RD_readStatement_103 rfl ?_
      refine jt_dup d_RD_readStatement_104 rfl ?_
      refine cm_get (k := 38) (v := .int (jI (Iq5 38 2))) d_RD_readStatement_105 RD_f60 (by decide) cc_3 rfl ?_
      refine jt_iconst d_RD_readStatement_108 ?_
      refine jt_iadd d_RD_readStatement_109 ?_
      refine jt_topi (fun v51 ev51 => ?_)
      refine cm_put (k := 38) (j := 2) (v := v51) d_RD_readStatement_110 (RD_w60 _ rfl) (by decide) cc_3 rfl rfl (Nat.le_of_ble_eq_true rfl) rfl ?_
      have p52 := cPo.I 38 2 v51 p15 rfl (show 0 ≤ v51 ∧ v51 ≤ 300 by omega)
      refine jt_aload_n d_RD_readStatement_113 rfl ?_
      refine jt_iconst d_RD_readStatement_114 ?_
      refine cct_callV (Y := Y_RD_readExpression) (ci := 2) (k := 38) (As := [.int (jI 0)]) (rest := []) d_RD_readStatement_115 RD_c74 yk_RD_readExpression yv_RD_readExpression rfl (Nat.le_of_ble_eq_true rfl) (by decide) cc_3 rfl rfl (Nat.le_of_ble_eq_true rfl) (v_RD_readExpression G _ b (cu (cu Iq5 38 4 v14) 38 2 v51) Aq5 p52.1 p52.2.1 (cTok_of p52 hK rfl)) (fun rvq53 Iq53 Aq53 hq53 => ?_)
      obtain ⟨yq53, rfl, ryq53, hqq53, hxq53⟩ := hq53
      have hpq53 := cPo.trans p52 hqq53 rfl rfl
      have s38_2q53 : (cu (cu Iq5 38 4 v14) 38 2 v51) 38 2 = v51 := rfl
      have s39_3q53 : (cu (cu Iq5 38 4 v14) 38 2 v51) 39 3 = Iq5 39 3 := rfl
      have s38_9q53 : (cu (cu Iq5 38 4 v14) 38 2 v51) 38 9 = Iq5 38 9 := rfl
      have m39_3q53 : Iq53 39 3 = Iq5 39 3 := hqq53.2.2.1 39 3 rfl
      have m38_9q53 : Iq53 38 9 = Iq5 38 9 := hqq53.2.2.1 38 9 rfl
      show jt _ 118 [(0, .ref (b + 38)), (1, .int (jI 1))] [.int (jI yq53)] (cmf b f0 Iq53 Aq53) _ _ _
      refine jt_if_eq (t := 132) d_RD_readStatement_118 rfl (by unfold jRi; omega) (fun c54 => ?_) (fun c54 => ?_)
      · skip
        refine jt_iconst d_RD_readStatement_132 ?_
        refine jt_istore_n (L' := [(0, .ref (b + 38)), (1, .int (jI 0))]) d_RD_readStatement_133 (Nat.le_of_ble_eq_true rfl) rfl ?_
        refine jt_goto (t := 165) d_RD_readStatement_134 rfl ?_
        refine jt_iload_n d_RD_readStatement_165 rfl ?_
        refine jt_if_eq (t := 182) d_RD_readStatement_166 rfl (by unfold jRi; omega) (fun c55 => ?_) (fun c55 => ?_)
        · skip
          refine jt_iconst d_RD_readStatement_182 ?_
          exact cm_ret d_RD_readStatement_183 rfl (jnz (by omega)) (⟨0, rfl, by omega, hpq53⟩)
        · skip
          exfalso
          omega
      · skip
        refine jt_aload_n d_RD_readStatement_121 rfl ?_
        refine cct_callV (Y := Y_RD_keep) (ci := 2) (k := 38) (As := []) (rest := []) d_RD_readStatement_122 RD_c78 yk_RD_keep yv_RD_keep rfl (Nat.le_of_ble_eq_true rfl) (by decide) cc_3 rfl rfl (Nat.le_of_ble_eq_true rfl) (v_RD_keep G _ b  Iq53 Aq53 hpq53.1 hpq53.2.1 ) (fun rvq56 Iq56 Aq56 hq56 => ?_)
        obtain ⟨yq56, rfl, ryq56, hqq56⟩ := hq56
        have hpq56 := cPo.trans hpq53 hqq56 rfl rfl
        have m38_2q56 : Iq56 38 2 = Iq53 38 2 := hqq56.2.2.1 38 2 rfl
        have m39_3q56 : Iq56 39 3 = Iq53 39 3 := hqq56.2.2.1 39 3 rfl
        have m38_9q56 : Iq56 38 9 = Iq53 38 9 := hqq56.2.2.1 38 9 rfl
        show jt _ 125 [(0, .ref (b + 38)), (1, .int (jI 1))] [.int (jI yq56)] (cmf b f0 Iq56 Aq56) _ _ _
        refine jt_if_eq (t := 132) d_RD_readStatement_125 rfl (by unfold jRi; omega) (fun c57 => ?_) (fun c57 => ?_)
        · skip
          refine jt_iconst d_RD_readStatement_132 ?_
          refine jt_istore_n (L' := [(0, .ref (b + 38)), (1, .int (jI 0))]) d_RD_readStatement_133 (Nat.le_of_ble_eq_true rfl) rfl ?_
          refine jt_goto (t := 165) d_RD_readStatement_134 rfl ?_
          refine jt_iload_n d_RD_readStatement_165 rfl ?_
          refine jt_if_eq (t := 182) d_RD_readStatement_166 rfl (by unfold jRi; omega) (fun c58 => ?_) (fun c58 => ?_)
          · skip
            refine jt_iconst d_RD_readStatement_182 ?_
            exact cm_ret d_RD_readStatement_183 rfl (jnz (by omega)) (⟨0, rfl, by omega, hpq56⟩)
          · skip
            exfalso
            omega
        · skip
          refine jt_iconst d_RD_readStatement_128 ?_
          refine jt_goto (t := 133) d_RD_readStatement_129 rfl ?_
          refine jt_istore_n (L' := [(0, .ref (b + 38)), (1, .int (jI 1))]) d_RD_readStatement_133 (Nat.le_of_ble_eq_true rfl) rfl ?_
          refine jt_goto (t := 165) d_RD_readStatement_134 rfl ?_
          refine jt_iload_n d_RD_readStatement_165 rfl ?_
          refine jt_if_eq (t := 182) d_RD_readStatement_166 rfl (by unfold jRi; omega) (fun c59 => ?_) (fun c59 => ?_)
          · skip
            exfalso
            omega
          · skip
            refine jt_aload_n d_RD_readStatement_169 rfl ?_
            refine jt_bipush d_RD_readStatement_170 (by omega) ?_
            refine cct_callV (Y := Y_RD_take) (ci := 2) (k := 38) (As := [.int (jI 6)]) (rest := []) d_RD_readStatement_172 RD_c88 yk_RD_take yv_RD_take rfl (Nat.le_of_ble_eq_true rfl) (by decide) cc_3 rfl rfl (Nat.le_of_ble_eq_true rfl) (v_RD_take G _ b 6 Iq56 Aq56 hpq56.1 hpq56.2.1 (by omega)) (fun rvq60 Iq60 Aq60 hq60 => ?_)
            obtain ⟨yq60, rfl, ryq60, hqq60, hxq60⟩ := hq60
            have hpq60 := cPo.trans hpq56 hqq60 rfl rfl
            have m39_3q60 : Iq60 39 3 = Iq56 39 3 := hqq60.2.2.1 39 3 rfl
            have m38_9q60 : Iq60 38 9 = Iq56 38 9 := hqq60.2.2.1 38 9 rfl
            show jt _ 175 [(0, .ref (b + 38)), (1, .int (jI 1))] [.int (jI yq60)] (cmf b f0 Iq60 Aq60) _ _ _
            refine jt_if_eq (t := 182) d_RD_readStatement_175 rfl (by unfold jRi; omega) (fun c61 => ?_) (fun c61 => ?_)
            · skip
              refine jt_iconst d_RD_readStatement_182 ?_
              exact cm_ret d_RD_readStatement_183 rfl (jnz (by omega)) (⟨0, rfl, by omega, hpq60⟩)
            · skip
              refine jt_iconst d_RD_readStatement_178 ?_
              refine jt_goto (t := 183) d_RD_readStatement_179 rfl ?_
              exact cm_ret d_RD_readStatement_183 rfl (jnz (by omega)) (⟨1, rfl, by omega, hpq60⟩)
    exfalso
    omega

set_option maxRecDepth 100000 in
set_option maxHeartbeats 4000000 in
theorem v_RD_readPrimary_x3 (G : jG) (d b : Nat)  (I : Nat → Nat → Int) (A : Nat → Int → Int) (hI : cSI I) (hA : cSA A) (hK : cTok A) (X9 : Int → Int) (hX : A 40 = X9) (Y9 : Int → Int) (hY : A 41 = Y9) (N9 : Int) (hN : I 39 3 = N9) (V9 : Int → Int → Int) (hV : cVf A V9) (hVr : ∀ v, 0 ≤ v → v < 12 → inr (V9 v)) (hnm : ¬ xV N9 X9 Y9 (I 38 2) 1) (hnc : ¬ xK N9 X9 (I 38 2) 0) : cct G Y_RD_readPrimary (d + 16) b [.ref (b + 38), .int (jI 3)] I A (fun (rv : Option Value) (I2 : Nat → Nat → Int) (A2 : Nat → Int → Int) => ∃ y : Int, rv = some (.int (jI y)) ∧ (0 ≤ y ∧ y ≤ 1) ∧ cPx [610, 611, 615] [403, 386, 405, 424, 388, 407, 426, 390, 409, 428, 392, 411, 430, 394, 413, 432] I A I2 A2 ∧ (y = 1 → rdT N9 X9 Y9 V9 3 (I 38 2) (I 38 7 = 1) (I2 38 2) (A2 403) (I2 38 7 = 1) ∧ I 38 2 < I2 38 2) ∧ (y = 0 → rdX N9 X9 Y9 V9 3 (I 38 2) (I 38 7 = 1) (I2 38 3) (I2 38 2))) := by
  refine cct_of (by decide) (Nat.le_of_ble_eq_true rfl) (fun f0 sz => ?_)
  show jt _ 0 [(0, .ref (b + 38)), (1, .int (jI 3))] [] _ _ _ _
  have r39 : 0 ≤ I 39 3 ∧ I 39 3 ≤ 300 := hI 39 3
  have r38 : 0 ≤ I 38 2 ∧ I 38 2 ≤ 300 := hI 38 2
  have tk : gtok (X9 (I 38 2)) (Y9 (I 38 2)) := by have h9 : gtok (A 40 (I 38 2)) (A 41 (I 38 2)) := hK 39 rfl (I 38 2); rw [hX, hY] at h9; exact h9
  have hz0 : cPx [610, 611, 615] [403, 386, 405, 424, 388, 407, 426, 390, 409, 428, 392, 411, 430, 394, 413, 432] I A I A := cPx.refl hI hA
  refine jt_aload_n d_RD_readPrimary_0 rfl ?_
  refine cm_get (k := 38) (v := .ref (b + 39)) d_RD_readPrimary_1 RD_f14 (by decide) cc_3 rfl ?_
  refine jt_aload_n d_RD_readPrimary_4 rfl ?_
  refine cm_get (k := 38) (v := .int (jI (I 38 2))) d_RD_readPrimary_5 RD_f60 (by decide) cc_3 rfl ?_
  have rb1 : 0 ≤ I 38 2 ∧ I 38 2 ≤ 300 := hz0.1 38 2
  refine jt_iconst d_RD_readPrimary_8 ?_
  refine cct_callV (Y := Y_TR_isKind) (ci := 0) (k := 39) (As := [.int (jI (I 38 2)), .int (jI 1)]) (rest := []) d_RD_readPrimary_9 RD_c63 yk_TR_isKind yv_TR_isKind rfl (Nat.le_of_ble_eq_true rfl) (by decide) (cc_1 rfl) rfl rfl (Nat.le_of_ble_eq_true rfl) (v_TR_isKind_x G _ b (I 38 2) 1 I A hz0.1 hz0.2.1 X9 hX N9 hN (by omega) (by omega)) (fun rvq2 Iq2 Aq2 hq2 => ?_)
  obtain ⟨yq2, rfl, ryq2, hIq2, hAq2, hxq2⟩ := hq2
  rw [hIq2, hAq2]
  by_cases gbq2 : yq2 = 1
  · skip
    obtain rfl : yq2 = 1 := by omega
    have hwq2 := hxq2.1 rfl
    clear hxq2
    show jt _ 12 [(0, .ref (b + 38)), (1, .int (jI 3))] [.int (jI 1)] (cmf b f0 I A) _ _ _
    refine jt_if_eq (t := 56) d_RD_readPrimary_12 rfl (by unfold jRi; omega) (fun c3 => ?_) (fun c3 => ?_)
    · skip
      exfalso
      omega
    · skip
      unfold gtok at tk
      have tv : 0 ≤ Y9 (I 38 2) ∧ Y9 (I 38 2) ≤ 11 := by omega
      clear tk
      refine jt_aload_n d_RD_readPrimary_15 rfl ?_
      refine cm_get (k := 38) (v := .ref (b + 395)) d_RD_readPrimary_16 RD_f43 (by decide) cc_3 rfl ?_
      refine jt_iload_n d_RD_readPrimary_19 rfl ?_
      refine cm_ldF (k := 395) (n := 9) (z := 3) d_RD_readPrimary_20 (by decide) rfl rfl (by omega) (by omega) (by omega) ?_
      show jt _ 21 [(0, .ref (b + 38)), (1, .int (jI 3))] [.ref (b + 402)] (cmf b f0 I A) _ _ _
      refine jt_aload_n d_RD_readPrimary_21 rfl ?_
      refine cm_get (k := 38) (v := .ref (b + 43)) d_RD_readPrimary_22 RD_f23 (by decide) cc_3 rfl ?_
      refine cm_get (k := 43) (v := .ref (b + 45)) d_RD_readPrimary_25 RD_f149 (by decide) (cc_4 rfl) rfl ?_
      refine jt_aload_n d_RD_readPrimary_28 rfl ?_
      refine cm_get (k := 38) (v := .ref (b + 39)) d_RD_readPrimary_29 RD_f14 (by decide) cc_3 rfl ?_
      refine cm_get (k := 39) (v := .ref (b + 41)) d_RD_readPrimary_32 RD_f67 (by decide) (cc_1 rfl) rfl ?_
      refine jt_aload_n d_RD_readPrimary_35 rfl ?_
      refine cm_get (k := 38) (v := .int (jI (I 38 2))) d_RD_readPrimary_36 RD_f60 (by decide) cc_3 rfl ?_
      refine cm_ld0 (k := 41) (n := 300) (v := (A 41) (I 38 2)) d_RD_readPrimary_39 (by decide) rfl rfl (by omega) (by omega) (by omega) rfl ?_
      refine jt_topi (fun v4 ev4 => ?_)
      have bv4 : -2147483648 ≤ v4 ∧ v4 ≤ 2147483647 := by rw [ev4]; exact hz0.2.1 41 (I 38 2)
      rw [hY] at ev4
      refine cm_ldF (k := 45) (n := 12) (z := v4) d_RD_readPrimary_40 (by decide) rfl rfl (by omega) (by omega) (by omega) ?_
      have hfq5 := form_at 45 (by decide) rfl (v4 : Int).toNat (show (v4 : Int).toNat < 12 by omega)
      obtain ⟨q5, eqq5⟩ : ∃ q9 : Nat, q9 = 45 + 1 + 2 * (v4 : Int).toNat := ⟨_, rfl⟩
      rw [← eqq5] at hfq5 ⊢
      have fpq5 := form_parts q5 hfq5.2 hfq5.1
      have glq5 := eLong hfq5.2 hfq5.1
      refine cct_callV (Y := Y_FO_copy) (ci := 4) (k := 402) (As := [.ref (b + q5)]) (rest := []) d_RD_readPrimary_41 RD_c101 yk_FO_copy yv_FO_copy rfl (Nat.le_of_ble_eq_true rfl) (by decide) (cc_5 rfl) rfl rfl (Nat.le_of_ble_eq_true rfl) (v_FO_copy_x G _ b 402 q5 I A hz0.1 hz0.2.1 (by decide) rfl hfq5.2 hfq5.1 (by omega)) (fun rvq6 Iq6 Aq6 hq6 => ?_)
      obtain ⟨rfl, hqq6, hxq6⟩ := hq6
      have hpq6 := cPx.trans hz0 hqq6 rfl rfl
      have cXq6 : Aq6 40 = X9 := (hqq6.2.2.2 40 rfl (by decide)).trans hX
      have cYq6 : Aq6 41 = Y9 := (hqq6.2.2.2 41 rfl (by decide)).trans hY
      have cNq6 : Iq6 39 3 = N9 := (hqq6.2.2.1 39 3 rfl).trans hN
      have cVq6 : cVf Aq6 V9 := cVf_of hqq6 rfl hV
      have m38_2q6 : Iq6 38 2 = I 38 2 := hqq6.2.2.1 38 2 rfl
      have m38_7q6 : Iq6 38 7 = I 38 7 := hqq6.2.2.1 38 7 rfl
      have a386q6 : Aq6 386 = A 386 := hqq6.2.2.2 386 rfl (by decide)
      have hcq6 : ∀ z, 0 ≤ z → z < 13 → Aq6 403 z = (A (q5 + 1)) z := hxq6
      show jt _ 44 [(0, .ref (b + 38)), (1, .int (jI 3))] [] (cmf b f0 Iq6 Aq6) _ _ _
      refine jt_aload_n d_RD_readPrimary_44 rfl ?_
      refine jt_dup d_RD_readPrimary_45 rfl ?_
      refine cm_get (k := 38) (v := .int (jI (Iq6 38 2))) d_RD_readPrimary_46 RD_f60 (by decide) cc_3 rfl ?_
      have rb7 : 0 ≤ Iq6 38 2 ∧ Iq6 38 2 ≤ 300 := hpq6.1 38 2
      refine jt_iconst d_RD_readPrimary_49 ?_
      refine jt_iadd d_RD_readPrimary_50 ?_
      refine jt_topi (fun v8 ev8 => ?_)
      refine cm_put (k := 38) (j := 2) (v := v8) d_RD_readPrimary_51 (RD_w60 _ rfl) (by decide) cc_3 rfl rfl (Nat.le_of_ble_eq_true rfl) rfl ?_
      have p9 := cPx.I 38 2 v8 hpq6 rfl (show 0 ≤ v8 ∧ v8 ≤ 300 by omega)
      refine jt_iconst d_RD_readPrimary_54 ?_
      exact cm_ret d_RD_readPrimary_55 rfl (jnz (by omega)) (⟨1, rfl, by omega, p9, fun _ => ⟨by
        show rdT N9 X9 Y9 V9 3 (I 38 2) (I 38 7 = 1) v8 (Aq6 403) (Iq6 38 7 = 1)
        rw [show v8 = I 38 2 + 1 by omega, show Iq6 38 7 = I 38 7 from m38_7q6]
        exact rdT_var ⟨by omega, by omega⟩ (fun z a c => by rw [hcq6 z a c, show q5 + 1 = 47 + 2 * (Y9 (I 38 2)).toNat by omega, hV _ (by omega) (by omega)]) (hVr _ (by omega) (by omega)), show I 38 2 < v8 by omega⟩, fun z => absurd z (by omega)⟩)
  · skip
    obtain rfl : yq2 = 0 := by omega
    have hwq2 : ¬ xK N9 X9 (I 38 2) 1 := fun z9 => hxq2.2 rfl ⟨by omega, z9.1, z9.2⟩
    clear hxq2
    show jt _ 12 [(0, .ref (b + 38)), (1, .int (jI 3))] [.int (jI 0)] (cmf b f0 I A) _ _ _
    refine jt_if_eq (t := 56) d_RD_readPrimary_12 rfl (by unfold jRi; omega) (fun c10 => ?_) (fun c10 => ?_)
    · skip
      refine jt_aload_n d_RD_readPrimary_56 rfl ?_
      refine jt_iconst d_RD_readPrimary_57 ?_
      refine cct_callV (Y := Y_RD_take) (ci := 2) (k := 38) (As := [.int (jI 3)]) (rest := []) d_RD_readPrimary_58 RD_c88 yk_RD_take yv_RD_take rfl (Nat.le_of_ble_eq_true rfl) (by decide) cc_3 rfl rfl (Nat.le_of_ble_eq_true rfl) (v_RD_take_x G _ b 3 I A hz0.1 hz0.2.1 X9 hX Y9 hY N9 hN (by omega)) (fun rvq11 Iq11 Aq11 hq11 => ?_)
      obtain ⟨yq11, rfl, ryq11, hqq11, hxq11⟩ := hq11
      have hpq11 := cPx.trans hz0 hqq11 rfl rfl
      have cXq11 : Aq11 40 = X9 := (hqq11.2.2.2 40 rfl (by decide)).trans hX
      have cYq11 : Aq11 41 = Y9 := (hqq11.2.2.2 41 rfl (by decide)).trans hY
      have cNq11 : Iq11 39 3 = N9 := (hqq11.2.2.1 39 3 rfl).trans hN
      have cVq11 : cVf Aq11 V9 := cVf_of hqq11 rfl hV
      have m38_7q11 : Iq11 38 7 = I 38 7 := hqq11.2.2.1 38 7 rfl
      have a386q11 : Aq11 386 = A 386 := hqq11.2.2.2 386 rfl (by decide)
      by_cases gbq11 : yq11 = 0
      · skip
        obtain rfl : yq11 = 0 := by omega
        have hwq11 := hxq11.2 rfl
        clear hxq11
        show jt _ 61 [(0, .ref (b + 38)), (1, .int (jI 3))] [.int (jI 0)] (cmf b f0 Iq11 Aq11) _ _ _
        refine jt_if_eq (t := 82) d_RD_readPrimary_61 rfl (by unfold jRi; omega) (fun c12 => ?_) (fun c12 => ?_)
        · skip
          refine jt_iconst d_RD_readPrimary_82 ?_
          exact cm_ret d_RD_readPrimary_83 rfl (jnz (by omega)) (⟨0, rfl, by omega, hpq11, fun z => absurd z (by omega), fun _ => by
        show rdX N9 X9 Y9 V9 3 (I 38 2) (I 38 7 = 1) (Iq11 38 3) (Iq11 38 2)
        rw [hwq11.2.2, hwq11.2.1]
        exact rdX_bad hnm hnc hwq2 hwq11.1⟩)
        · skip
          exfalso
          omega
      · skip
        obtain rfl : yq11 = 1 := by omega
        have hwq11 := hxq11.1 rfl
        clear hxq11
        show jt _ 61 [(0, .ref (b + 38)), (1, .int (jI 3))] [.int (jI 1)] (cmf b f0 Iq11 Aq11) _ _ _
        refine jt_if_eq (t := 82) d_RD_readPrimary_61 rfl (by unfold jRi; omega) (fun c13 => ?_) (fun c13 => ?_)
        · skip
          exfalso
          omega
        · skip
          refine jt_aload_n d_RD_readPrimary_64 rfl ?_
          refine jt_iload_n d_RD_readPrimary_65 rfl ?_
          refine jt_iconst d_RD_readPrimary_66 ?_
          refine jt_iadd d_RD_readPrimary_67 ?_
          show jt _ 68 [(0, .ref (b + 38)), (1, .int (jI 3))] [.int (jI 4), .ref (b + 38)] (cmf b f0 Iq11 Aq11) _ _ _
          refine cct_callV (Y := Y_RD_readExpression) (ci := 2) (k := 38) (As := [.int (jI 4)]) (rest := []) d_RD_readPrimary_68 RD_c74 yk_RD_readExpression yv_RD_readExpression rfl (Nat.le_of_ble_eq_true rfl) (by decide) cc_3 rfl rfl (Nat.le_of_ble_eq_true rfl) (v_RD_readExpression_x4 G _ b Iq11 Aq11 hpq11.1 hpq11.2.1 (cTok_of (cPx.po hpq11) hK rfl) X9 cXq11 Y9 cYq11 N9 cNq11 V9 cVq11 hVr) (fun rvq14 Iq14 Aq14 hq14 => ?_)
          obtain ⟨yq14, rfl, ryq14, hqq14, hxq14⟩ := hq14
          have hpq14 := cPx.trans hpq11 hqq14 rfl rfl
          have cXq14 : Aq14 40 = X9 := (hqq14.2.2.2 40 rfl (by decide)).trans cXq11
          have cYq14 : Aq14 41 = Y9 := (hqq14.2.2.2 41 rfl (by decide)).trans cYq11
          have cNq14 : Iq14 39 3 = N9 := (hqq14.2.2.1 39 3 rfl).trans cNq11
          have cVq14 : cVf Aq14 V9 := cVf_of hqq14 rfl cVq11
          by_cases gbq14 : yq14 = 0
          · skip
            obtain rfl : yq14 = 0 := by omega
            have hwq14 := hxq14.2 rfl
            clear hxq14
            show jt _ 71 [(0, .ref (b + 38)), (1, .int (jI 3))] [.int (jI 0)] (cmf b f0 Iq14 Aq14) _ _ _
            refine jt_if_eq (t := 82) d_RD_readPrimary_71 rfl (by unfold jRi; omega) (fun c15 => ?_) (fun c15 => ?_)
            · skip
              refine jt_iconst d_RD_readPrimary_82 ?_
              exact cm_ret d_RD_readPrimary_83 rfl (jnz (by omega)) (⟨0, rfl, by omega, hpq14, fun z => absurd z (by omega), fun _ => by
        have h9 := hwq14
        rw [hwq11.2, m38_7q11] at h9
        exact rdX_br hwq11.1 (by omega) h9⟩)
            · skip
              exfalso
              omega
          · skip
            obtain rfl : yq14 = 1 := by omega
            have hwq14 := hxq14.1 rfl
            clear hxq14
            show jt _ 71 [(0, .ref (b + 38)), (1, .int (jI 3))] [.int (jI 1)] (cmf b f0 Iq14 Aq14) _ _ _
            refine jt_if_eq (t := 82) d_RD_readPrimary_71 rfl (by unfold jRi; omega) (fun c16 => ?_) (fun c16 => ?_)
            · skip
              exfalso
              omega
            · skip
              refine jt_aload_n d_RD_readPrimary_74 rfl ?_
              refine jt_iconst d_RD_readPrimary_75 ?_
              refine cct_callV (Y := Y_RD_take) (ci := 2) (k := 38) (As := [.int (jI 4)]) (rest := []) d_RD_readPrimary_76 RD_c88 yk_RD_take yv_RD_take rfl (Nat.le_of_ble_eq_true rfl) (by decide) cc_3 rfl rfl (Nat.le_of_ble_eq_true rfl) (v_RD_take_x G _ b 4 Iq14 Aq14 hpq14.1 hpq14.2.1 X9 cXq14 Y9 cYq14 N9 cNq14 (by omega)) (fun rvq17 Iq17 Aq17 hq17 => ?_)
              obtain ⟨yq17, rfl, ryq17, hqq17, hxq17⟩ := hq17
              have hpq17 := cPx.trans hpq14 hqq17 rfl rfl
              have cXq17 : Aq17 40 = X9 := (hqq17.2.2.2 40 rfl (by decide)).trans cXq14
              have cYq17 : Aq17 41 = Y9 := (hqq17.2.2.2 41 rfl (by decide)).trans cYq14
              have cNq17 : Iq17 39 3 = N9 := (hqq17.2.2.1 39 3 rfl).trans cNq14
              have cVq17 : cVf Aq17 V9 := cVf_of hqq17 rfl cVq14
              have m38_7q17 : Iq17 38 7 = Iq14 38 7 := hqq17.2.2.1 38 7 rfl
              have a386q17 : Aq17 386 = Aq14 386 := hqq17.2.2.2 386 rfl (by decide)
              by_cases gbq17 : yq17 = 0
              · skip
                obtain rfl : yq17 = 0 := by omega
                have hwq17 := hxq17.2 rfl
                clear hxq17
                show jt _ 79 [(0, .ref (b + 38)), (1, .int (jI 3))] [.int (jI 0)] (cmf b f0 Iq17 Aq17) _ _ _
                refine jt_if_ne (t := 84) d_RD_readPrimary_79 rfl (by unfold jRi; omega) (fun c18 => ?_) (fun c18 => ?_)
                · skip
                  exfalso
                  omega
                · skip
                  refine jt_iconst d_RD_readPrimary_82 ?_
                  exact cm_ret d_RD_readPrimary_83 rfl (jnz (by omega)) (⟨0, rfl, by omega, hpq17, fun z => absurd z (by omega), fun _ => by
        have h9 := hwq14.1
        rw [hwq11.2, m38_7q11] at h9
        show rdX N9 X9 Y9 V9 3 (I 38 2) (I 38 7 = 1) (Iq17 38 3) (Iq17 38 2)
        rw [hwq17.2.2, hwq17.2.1]
        exact rdX_cls hwq11.1 (by omega) h9 hwq17.1⟩)
              · skip
                obtain rfl : yq17 = 1 := by omega
                have hwq17 := hxq17.1 rfl
                clear hxq17
                show jt _ 79 [(0, .ref (b + 38)), (1, .int (jI 3))] [.int (jI 1)] (cmf b f0 Iq17 Aq17) _ _ _
                refine jt_if_ne (t := 84) d_RD_readPrimary_79 rfl (by unfold jRi; omega) (fun c19 => ?_) (fun c19 => ?_)
                · skip
                  refine jt_aload_n d_RD_readPrimary_84 rfl ?_
                  refine cm_get (k := 38) (v := .ref (b + 395)) d_RD_readPrimary_85 RD_f43 (by decide) cc_3 rfl ?_
                  refine jt_iload_n d_RD_readPrimary_88 rfl ?_
                  refine cm_ldF (k := 395) (n := 9) (z := 3) d_RD_readPrimary_89 (by decide) rfl rfl (by omega) (by omega) (by omega) ?_
                  show jt _ 90 [(0, .ref (b + 38)), (1, .int (jI 3))] [.ref (b + 402)] (cmf b f0 Iq17 Aq17) _ _ _
                  refine jt_aload_n d_RD_readPrimary_90 rfl ?_
                  refine cm_get (k := 38) (v := .ref (b + 376)) d_RD_readPrimary_91 RD_f40 (by decide) cc_3 rfl ?_
                  refine jt_iload_n d_RD_readPrimary_94 rfl ?_
                  refine jt_iconst d_RD_readPrimary_95 ?_
                  refine jt_iadd d_RD_readPrimary_96 ?_
                  show jt _ 97 [(0, .ref (b + 38)), (1, .int (jI 3))] [.int (jI 4), .ref (b + 376), .ref (b + 402)] (cmf b f0 Iq17 Aq17) _ _ _
                  refine cm_ldF (k := 376) (n := 9) (z := 4) d_RD_readPrimary_97 (by decide) rfl rfl (by omega) (by omega) (by omega) ?_
                  show jt _ 98 [(0, .ref (b + 38)), (1, .int (jI 3))] [.ref (b + 385), .ref (b + 402)] (cmf b f0 Iq17 Aq17) _ _ _
                  refine cct_callV (Y := Y_FO_copy) (ci := 4) (k := 402) (As := [.ref (b + 385)]) (rest := []) d_RD_readPrimary_98 RD_c101 yk_FO_copy yv_FO_copy rfl (Nat.le_of_ble_eq_true rfl) (by decide) (cc_5 rfl) rfl rfl (Nat.le_of_ble_eq_true rfl) (v_FO_copy_x G _ b 402 385 Iq17 Aq17 hpq17.1 hpq17.2.1 (by decide) rfl (by decide) rfl (by omega)) (fun rvq20 Iq20 Aq20 hq20 => ?_)
                  obtain ⟨rfl, hqq20, hxq20⟩ := hq20
                  have hpq20 := cPx.trans hpq17 hqq20 rfl rfl
                  have cXq20 : Aq20 40 = X9 := (hqq20.2.2.2 40 rfl (by decide)).trans cXq17
                  have cYq20 : Aq20 41 = Y9 := (hqq20.2.2.2 41 rfl (by decide)).trans cYq17
                  have cNq20 : Iq20 39 3 = N9 := (hqq20.2.2.1 39 3 rfl).trans cNq17
                  have cVq20 : cVf Aq20 V9 := cVf_of hqq20 rfl cVq17
                  have m38_2q20 : Iq20 38 2 = Iq17 38 2 := hqq20.2.2.1 38 2 rfl
                  have m38_7q20 : Iq20 38 7 = Iq17 38 7 := hqq20.2.2.1 38 7 rfl
                  have a386q20 : Aq20 386 = Aq17 386 := hqq20.2.2.2 386 rfl (by decide)
                  have hcq20 : ∀ z, 0 ≤ z → z < 13 → Aq20 403 z = (Aq17 386) z := hxq20
                  show jt _ 101 [(0, .ref (b + 38)), (1, .int (jI 3))] [] (cmf b f0 Iq20 Aq20) _ _ _
                  refine jt_iconst d_RD_readPrimary_101 ?_
                  exact cm_ret d_RD_readPrimary_102 rfl (jnz (by omega)) (⟨1, rfl, by omega, hpq20, fun _ => ⟨by
        have h9 := hwq14.1
        rw [hwq11.2, m38_7q11] at h9
        show rdT N9 X9 Y9 V9 3 (I 38 2) (I 38 7 = 1) (Iq20 38 2) (Aq20 403) (Iq20 38 7 = 1)
        rw [show Iq20 38 2 = Iq14 38 2 + 1 by omega, show Iq20 38 7 = Iq14 38 7 by omega]
        exact rdT_same (rdT_br hwq11.1 (by omega) h9 hwq17.1) (fun _ z a d => by rw [hcq20 z a d, a386q17]), show I 38 2 < Iq20 38 2 by omega⟩, fun z => absurd z (by omega)⟩)
                · skip
                  exfalso
                  omega
    · skip
      exfalso
      omega
set_option maxRecDepth 100000 in
set_option maxHeartbeats 4000000 in
theorem v_RD_readEnds_x3 (G : jG) (d b : Nat)  (I : Nat → Nat → Int) (A : Nat → Int → Int) (hI : cSI I) (hA : cSA A) (hK : cTok A) (X9 : Int → Int) (hX : A 40 = X9) (Y9 : Int → Int) (hY : A 41 = Y9) (N9 : Int) (hN : I 39 3 = N9) (V9 : Int → Int → Int) (hV : cVf A V9) (hVr : ∀ v, 0 ≤ v → v < 12 → inr (V9 v)) : cct G Y_RD_readEnds (d + 16) b [.ref (b + 38), .int (jI 3)] I A (fun (rv : Option Value) (I2 : Nat → Nat → Int) (A2 : Nat → Int → Int) => ∃ y : Int, rv = some (.int (jI y)) ∧ (0 ≤ y ∧ y ≤ 1) ∧ cPx [610, 611, 615] [422, 386, 405, 424, 388, 407, 426, 390, 409, 428, 392, 411, 430, 394, 413, 432] I A I2 A2 ∧ (y = 1 → rdB N9 X9 Y9 V9 3 (I 38 2) (I 38 7 = 1) (I2 38 2 - 1) (A2 422) (A2 386) (I2 38 7 = 1) ∧ I 38 2 < I2 38 2) ∧ (y = 0 → rdBX N9 X9 Y9 V9 3 (I 38 2) (I 38 7 = 1) (I2 38 3) (I2 38 2))) := by
  refine cct_of (by decide) (Nat.le_of_ble_eq_true rfl) (fun f0 sz => ?_)
  show jt _ 0 [(0, .ref (b + 38)), (1, .int (jI 3))] [] _ _ _ _
  have r39 : 0 ≤ I 39 3 ∧ I 39 3 ≤ 300 := hI 39 3
  have r38 : 0 ≤ I 38 2 ∧ I 38 2 ≤ 300 := hI 38 2
  have hz0 : cPx [610, 611, 615] [422, 386, 405, 424, 388, 407, 426, 390, 409, 428, 392, 411, 430, 394, 413, 432] I A I A := cPx.refl hI hA
  refine jt_aload_n d_RD_readEnds_0 rfl ?_
  refine jt_iconst d_RD_readEnds_1 ?_
  refine cct_callV (Y := Y_RD_take) (ci := 2) (k := 38) (As := [.int (jI 3)]) (rest := []) d_RD_readEnds_2 RD_c88 yk_RD_take yv_RD_take rfl (Nat.le_of_ble_eq_true rfl) (by decide) cc_3 rfl rfl (Nat.le_of_ble_eq_true rfl) (v_RD_take_x G _ b 3 I A hz0.1 hz0.2.1 X9 hX Y9 hY N9 hN (by omega)) (fun rvq1 Iq1 Aq1 hq1 => ?_)
  obtain ⟨yq1, rfl, ryq1, hqq1, hxq1⟩ := hq1
  have hpq1 := cPx.trans hz0 hqq1 rfl rfl
  have cXq1 : Aq1 40 = X9 := (hqq1.2.2.2 40 rfl (by decide)).trans hX
  have cYq1 : Aq1 41 = Y9 := (hqq1.2.2.2 41 rfl (by decide)).trans hY
  have cNq1 : Iq1 39 3 = N9 := (hqq1.2.2.1 39 3 rfl).trans hN
  have cVq1 : cVf Aq1 V9 := cVf_of hqq1 rfl hV
  have m38_7q1 : Iq1 38 7 = I 38 7 := hqq1.2.2.1 38 7 rfl
  have a422q1 : Aq1 422 = A 422 := hqq1.2.2.2 422 rfl (by decide)
  have a386q1 : Aq1 386 = A 386 := hqq1.2.2.2 386 rfl (by decide)
  by_cases gbq1 : yq1 = 0
  · skip
    obtain rfl : yq1 = 0 := by omega
    have hwq1 := hxq1.2 rfl
    clear hxq1
    show jt _ 5 [(0, .ref (b + 38)), (1, .int (jI 3))] [.int (jI 0)] (cmf b f0 Iq1 Aq1) _ _ _
    refine jt_if_eq (t := 26) d_RD_readEnds_5 rfl (by unfold jRi; omega) (fun c2 => ?_) (fun c2 => ?_)
    · skip
      refine jt_iconst d_RD_readEnds_26 ?_
      exact cm_ret d_RD_readEnds_27 rfl (jnz (by omega)) (⟨0, rfl, by omega, hpq1, fun z => absurd z (by omega), fun _ => by
        show rdBX N9 X9 Y9 V9 3 (I 38 2) (I 38 7 = 1) (Iq1 38 3) (Iq1 38 2)
        rw [hwq1.2.2, hwq1.2.1]
        exact Or.inl ⟨hwq1.1, rfl, rfl⟩⟩)
    · skip
      exfalso
      omega
  · skip
    obtain rfl : yq1 = 1 := by omega
    have hwq1 := hxq1.1 rfl
    clear hxq1
    show jt _ 5 [(0, .ref (b + 38)), (1, .int (jI 3))] [.int (jI 1)] (cmf b f0 Iq1 Aq1) _ _ _
    refine jt_if_eq (t := 26) d_RD_readEnds_5 rfl (by unfold jRi; omega) (fun c3 => ?_) (fun c3 => ?_)
    · skip
      exfalso
      omega
    · skip
      refine jt_aload_n d_RD_readEnds_8 rfl ?_
      refine jt_iload_n d_RD_readEnds_9 rfl ?_
      refine jt_iconst d_RD_readEnds_10 ?_
      refine jt_iadd d_RD_readEnds_11 ?_
      show jt _ 12 [(0, .ref (b + 38)), (1, .int (jI 3))] [.int (jI 4), .ref (b + 38)] (cmf b f0 Iq1 Aq1) _ _ _
      refine cct_callV (Y := Y_RD_readExpression) (ci := 2) (k := 38) (As := [.int (jI 4)]) (rest := []) d_RD_readEnds_12 RD_c74 yk_RD_readExpression yv_RD_readExpression rfl (Nat.le_of_ble_eq_true rfl) (by decide) cc_3 rfl rfl (Nat.le_of_ble_eq_true rfl) (v_RD_readExpression_x4 G _ b Iq1 Aq1 hpq1.1 hpq1.2.1 (cTok_of (cPx.po hpq1) hK rfl) X9 cXq1 Y9 cYq1 N9 cNq1 V9 cVq1 hVr) (fun rvq4 Iq4 Aq4 hq4 => ?_)
      obtain ⟨yq4, rfl, ryq4, hqq4, hxq4⟩ := hq4
      have hpq4 := cPx.trans hpq1 hqq4 rfl rfl
      have cXq4 : Aq4 40 = X9 := (hqq4.2.2.2 40 rfl (by decide)).trans cXq1
      have cYq4 : Aq4 41 = Y9 := (hqq4.2.2.2 41 rfl (by decide)).trans cYq1
      have cNq4 : Iq4 39 3 = N9 := (hqq4.2.2.1 39 3 rfl).trans cNq1
      have cVq4 : cVf Aq4 V9 := cVf_of hqq4 rfl cVq1
      have a422q4 : Aq4 422 = Aq1 422 := hqq4.2.2.2 422 rfl (by decide)
      by_cases gbq4 : yq4 = 0
      · skip
        obtain rfl : yq4 = 0 := by omega
        have hwq4 := hxq4.2 rfl
        clear hxq4
        show jt _ 15 [(0, .ref (b + 38)), (1, .int (jI 3))] [.int (jI 0)] (cmf b f0 Iq4 Aq4) _ _ _
        refine jt_if_eq (t := 26) d_RD_readEnds_15 rfl (by unfold jRi; omega) (fun c5 => ?_) (fun c5 => ?_)
        · skip
          refine jt_iconst d_RD_readEnds_26 ?_
          exact cm_ret d_RD_readEnds_27 rfl (jnz (by omega)) (⟨0, rfl, by omega, hpq4, fun z => absurd z (by omega), fun _ => by
        have h9 := hwq4
        rw [hwq1.2, m38_7q1] at h9
        exact Or.inr (Or.inr (Or.inl ⟨hwq1.1, by omega, h9⟩))⟩)
        · skip
          exfalso
          omega
      · skip
        obtain rfl : yq4 = 1 := by omega
        have hwq4 := hxq4.1 rfl
        clear hxq4
        show jt _ 15 [(0, .ref (b + 38)), (1, .int (jI 3))] [.int (jI 1)] (cmf b f0 Iq4 Aq4) _ _ _
        refine jt_if_eq (t := 26) d_RD_readEnds_15 rfl (by unfold jRi; omega) (fun c6 => ?_) (fun c6 => ?_)
        · skip
          exfalso
          omega
        · skip
          refine jt_aload_n d_RD_readEnds_18 rfl ?_
          refine jt_iconst d_RD_readEnds_19 ?_
          refine cct_callV (Y := Y_RD_take) (ci := 2) (k := 38) (As := [.int (jI 5)]) (rest := []) d_RD_readEnds_20 RD_c88 yk_RD_take yv_RD_take rfl (Nat.le_of_ble_eq_true rfl) (by decide) cc_3 rfl rfl (Nat.le_of_ble_eq_true rfl) (v_RD_take_x G _ b 5 Iq4 Aq4 hpq4.1 hpq4.2.1 X9 cXq4 Y9 cYq4 N9 cNq4 (by omega)) (fun rvq7 Iq7 Aq7 hq7 => ?_)
          obtain ⟨yq7, rfl, ryq7, hqq7, hxq7⟩ := hq7
          have hpq7 := cPx.trans hpq4 hqq7 rfl rfl
          have cXq7 : Aq7 40 = X9 := (hqq7.2.2.2 40 rfl (by decide)).trans cXq4
          have cYq7 : Aq7 41 = Y9 := (hqq7.2.2.2 41 rfl (by decide)).trans cYq4
          have cNq7 : Iq7 39 3 = N9 := (hqq7.2.2.1 39 3 rfl).trans cNq4
          have cVq7 : cVf Aq7 V9 := cVf_of hqq7 rfl cVq4
          have m38_7q7 : Iq7 38 7 = Iq4 38 7 := hqq7.2.2.1 38 7 rfl
          have a422q7 : Aq7 422 = Aq4 422 := hqq7.2.2.2 422 rfl (by decide)
          have a386q7 : Aq7 386 = Aq4 386 := hqq7.2.2.2 386 rfl (by decide)
          by_cases gbq7 : yq7 = 0
          · skip
            obtain rfl : yq7 = 0 := by omega
            have hwq7 := hxq7.2 rfl
            clear hxq7
            show jt _ 23 [(0, .ref (b + 38)), (1, .int (jI 3))] [.int (jI 0)] (cmf b f0 Iq7 Aq7) _ _ _
            refine jt_if_ne (t := 28) d_RD_readEnds_23 rfl (by unfold jRi; omega) (fun c8 => ?_) (fun c8 => ?_)
            · skip
              exfalso
              omega
            · skip
              refine jt_iconst d_RD_readEnds_26 ?_
              exact cm_ret d_RD_readEnds_27 rfl (jnz (by omega)) (⟨0, rfl, by omega, hpq7, fun z => absurd z (by omega), fun _ => by
        have h9 := hwq4.1
        rw [hwq1.2, m38_7q1] at h9
        show rdBX N9 X9 Y9 V9 3 (I 38 2) (I 38 7 = 1) (Iq7 38 3) (Iq7 38 2)
        rw [hwq7.2.2, hwq7.2.1]
        exact Or.inr (Or.inr (Or.inr ⟨_, _, _, hwq1.1, by omega, h9, Or.inl ⟨hwq7.1, rfl, rfl⟩⟩))⟩)
          · skip
            obtain rfl : yq7 = 1 := by omega
            have hwq7 := hxq7.1 rfl
            clear hxq7
            show jt _ 23 [(0, .ref (b + 38)), (1, .int (jI 3))] [.int (jI 1)] (cmf b f0 Iq7 Aq7) _ _ _
            refine jt_if_ne (t := 28) d_RD_readEnds_23 rfl (by unfold jRi; omega) (fun c9 => ?_) (fun c9 => ?_)
            · skip
              refine jt_aload_n d_RD_readEnds_28 rfl ?_
              refine cm_get (k := 38) (v := .ref (b + 414)) d_RD_readEnds_29 RD_f46 (by decide) cc_3 rfl ?_
              refine jt_iload_n d_RD_readEnds_32 rfl ?_
              refine cm_ldF (k := 414) (n := 9) (z := 3) d_RD_readEnds_33 (by decide) rfl rfl (by omega) (by omega) (by omega) ?_
              show jt _ 34 [(0, .ref (b + 38)), (1, .int (jI 3))] [.ref (b + 421)] (cmf b f0 Iq7 Aq7) _ _ _
              refine jt_aload_n d_RD_readEnds_34 rfl ?_
              refine cm_get (k := 38) (v := .ref (b + 376)) d_RD_readEnds_35 RD_f40 (by decide) cc_3 rfl ?_
              refine jt_iload_n d_RD_readEnds_38 rfl ?_
              refine jt_iconst d_RD_readEnds_39 ?_
              refine jt_iadd d_RD_readEnds_40 ?_
              show jt _ 41 [(0, .ref (b + 38)), (1, .int (jI 3))] [.int (jI 4), .ref (b + 376), .ref (b + 421)] (cmf b f0 Iq7 Aq7) _ _ _
              refine cm_ldF (k := 376) (n := 9) (z := 4) d_RD_readEnds_41 (by decide) rfl rfl (by omega) (by omega) (by omega) ?_
              show jt _ 42 [(0, .ref (b + 38)), (1, .int (jI 3))] [.ref (b + 385), .ref (b + 421)] (cmf b f0 Iq7 Aq7) _ _ _
              refine cct_callV (Y := Y_FO_copy) (ci := 4) (k := 421) (As := [.ref (b + 385)]) (rest := []) d_RD_readEnds_42 RD_c101 yk_FO_copy yv_FO_copy rfl (Nat.le_of_ble_eq_true rfl) (by decide) (cc_5 rfl) rfl rfl (Nat.le_of_ble_eq_true rfl) (v_FO_copy_x G _ b 421 385 Iq7 Aq7 hpq7.1 hpq7.2.1 (by decide) rfl (by decide) rfl (by omega)) (fun rvq10 Iq10 Aq10 hq10 => ?_)
              obtain ⟨rfl, hqq10, hxq10⟩ := hq10
              have hpq10 := cPx.trans hpq7 hqq10 rfl rfl
              have cXq10 : Aq10 40 = X9 := (hqq10.2.2.2 40 rfl (by decide)).trans cXq7
              have cYq10 : Aq10 41 = Y9 := (hqq10.2.2.2 41 rfl (by decide)).trans cYq7
              have cNq10 : Iq10 39 3 = N9 := (hqq10.2.2.1 39 3 rfl).trans cNq7
              have cVq10 : cVf Aq10 V9 := cVf_of hqq10 rfl cVq7
              have m38_2q10 : Iq10 38 2 = Iq7 38 2 := hqq10.2.2.1 38 2 rfl
              have m38_7q10 : Iq10 38 7 = Iq7 38 7 := hqq10.2.2.1 38 7 rfl
              have a386q10 : Aq10 386 = Aq7 386 := hqq10.2.2.2 386 rfl (by decide)
              have hcq10 : ∀ z, 0 ≤ z → z < 13 → Aq10 422 z = (Aq7 386) z := hxq10
              show jt _ 45 [(0, .ref (b + 38)), (1, .int (jI 3))] [] (cmf b f0 Iq10 Aq10) _ _ _
              refine jt_aload_n d_RD_readEnds_45 rfl ?_
              refine jt_iload_n d_RD_readEnds_46 rfl ?_
              refine jt_iconst d_RD_readEnds_47 ?_
              refine jt_iadd d_RD_readEnds_48 ?_
              show jt _ 49 [(0, .ref (b + 38)), (1, .int (jI 3))] [.int (jI 4), .ref (b + 38)] (cmf b f0 Iq10 Aq10) _ _ _
              refine cct_callV (Y := Y_RD_readExpression) (ci := 2) (k := 38) (As := [.int (jI 4)]) (rest := []) d_RD_readEnds_49 RD_c74 yk_RD_readExpression yv_RD_readExpression rfl (Nat.le_of_ble_eq_true rfl) (by decide) cc_3 rfl rfl (Nat.le_of_ble_eq_true rfl) (v_RD_readExpression_x4 G _ b Iq10 Aq10 hpq10.1 hpq10.2.1 (cTok_of (cPx.po hpq10) hK rfl) X9 cXq10 Y9 cYq10 N9 cNq10 V9 cVq10 hVr) (fun rvq11 Iq11 Aq11 hq11 => ?_)
              obtain ⟨yq11, rfl, ryq11, hqq11, hxq11⟩ := hq11
              have hpq11 := cPx.trans hpq10 hqq11 rfl rfl
              have cXq11 : Aq11 40 = X9 := (hqq11.2.2.2 40 rfl (by decide)).trans cXq10
              have cYq11 : Aq11 41 = Y9 := (hqq11.2.2.2 41 rfl (by decide)).trans cYq10
              have cNq11 : Iq11 39 3 = N9 := (hqq11.2.2.1 39 3 rfl).trans cNq10
              have cVq11 : cVf Aq11 V9 := cVf_of hqq11 rfl cVq10
              have a422q11 : Aq11 422 = Aq10 422 := hqq11.2.2.2 422 rfl (by decide)
              by_cases gbq11 : yq11 = 0
              · skip
                obtain rfl : yq11 = 0 := by omega
                have hwq11 := hxq11.2 rfl
                clear hxq11
                show jt _ 52 [(0, .ref (b + 38)), (1, .int (jI 3))] [.int (jI 0)] (cmf b f0 Iq11 Aq11) _ _ _
                refine jt_if_eq (t := 67) d_RD_readEnds_52 rfl (by unfold jRi; omega) (fun c12 => ?_) (fun c12 => ?_)
                · skip
                  refine jt_iconst d_RD_readEnds_67 ?_
                  exact cm_ret d_RD_readEnds_68 rfl (jnz (by omega)) (⟨0, rfl, by omega, hpq11, fun z => absurd z (by omega), fun _ => by
        have h9 := hwq4.1
        rw [hwq1.2, m38_7q1] at h9
        have h8 := hwq11
        rw [show Iq10 38 2 = Iq4 38 2 + 1 by omega, show Iq10 38 7 = Iq4 38 7 by omega] at h8
        exact Or.inr (Or.inr (Or.inr ⟨_, _, _, hwq1.1, by omega, h9, Or.inr ⟨hwq7.1, Or.inl h8⟩⟩))⟩)
                · skip
                  exfalso
                  omega
              · skip
                obtain rfl : yq11 = 1 := by omega
                have hwq11 := hxq11.1 rfl
                clear hxq11
                show jt _ 52 [(0, .ref (b + 38)), (1, .int (jI 3))] [.int (jI 1)] (cmf b f0 Iq11 Aq11) _ _ _
                refine jt_if_eq (t := 67) d_RD_readEnds_52 rfl (by unfold jRi; omega) (fun c13 => ?_) (fun c13 => ?_)
                · skip
                  exfalso
                  omega
                · skip
                  refine jt_aload_n d_RD_readEnds_55 rfl ?_
                  refine jt_iconst d_RD_readEnds_56 ?_
                  refine cct_callV (Y := Y_RD_take) (ci := 2) (k := 38) (As := [.int (jI 4)]) (rest := []) d_RD_readEnds_57 RD_c88 yk_RD_take yv_RD_take rfl (Nat.le_of_ble_eq_true rfl) (by decide) cc_3 rfl rfl (Nat.le_of_ble_eq_true rfl) (v_RD_take_x G _ b 4 Iq11 Aq11 hpq11.1 hpq11.2.1 X9 cXq11 Y9 cYq11 N9 cNq11 (by omega)) (fun rvq14 Iq14 Aq14 hq14 => ?_)
                  obtain ⟨yq14, rfl, ryq14, hqq14, hxq14⟩ := hq14
                  have hpq14 := cPx.trans hpq11 hqq14 rfl rfl
                  have cXq14 : Aq14 40 = X9 := (hqq14.2.2.2 40 rfl (by decide)).trans cXq11
                  have cYq14 : Aq14 41 = Y9 := (hqq14.2.2.2 41 rfl (by decide)).trans cYq11
                  have cNq14 : Iq14 39 3 = N9 := (hqq14.2.2.1 39 3 rfl).trans cNq11
                  have cVq14 : cVf Aq14 V9 := cVf_of hqq14 rfl cVq11
                  have m38_7q14 : Iq14 38 7 = Iq11 38 7 := hqq14.2.2.1 38 7 rfl
                  have a422q14 : Aq14 422 = Aq11 422 := hqq14.2.2.2 422 rfl (by decide)
                  have a386q14 : Aq14 386 = Aq11 386 := hqq14.2.2.2 386 rfl (by decide)
                  by_cases gbq14 : yq14 = 0
                  · skip
                    obtain rfl : yq14 = 0 := by omega
                    have hwq14 := hxq14.2 rfl
                    clear hxq14
                    show jt _ 60 [(0, .ref (b + 38)), (1, .int (jI 3))] [.int (jI 0)] (cmf b f0 Iq14 Aq14) _ _ _
                    refine jt_if_eq (t := 67) d_RD_readEnds_60 rfl (by unfold jRi; omega) (fun c15 => ?_) (fun c15 => ?_)
                    · skip
                      refine jt_iconst d_RD_readEnds_67 ?_
                      exact cm_ret d_RD_readEnds_68 rfl (jnz (by omega)) (⟨0, rfl, by omega, hpq14, fun z => absurd z (by omega), fun _ => by
        have h9 := hwq4.1
        rw [hwq1.2, m38_7q1] at h9
        have h8 := hwq11.1
        rw [show Iq10 38 2 = Iq4 38 2 + 1 by omega, show Iq10 38 7 = Iq4 38 7 by omega] at h8
        show rdBX N9 X9 Y9 V9 3 (I 38 2) (I 38 7 = 1) (Iq14 38 3) (Iq14 38 2)
        rw [hwq14.2.2, hwq14.2.1]
        exact Or.inr (Or.inr (Or.inr ⟨_, _, _, hwq1.1, by omega, h9, Or.inr ⟨hwq7.1, Or.inr ⟨_, _, _, h8, hwq14.1, rfl, rfl⟩⟩⟩))⟩)
                    · skip
                      exfalso
                      omega
                  · skip
                    obtain rfl : yq14 = 1 := by omega
                    have hwq14 := hxq14.1 rfl
                    clear hxq14
                    show jt _ 60 [(0, .ref (b + 38)), (1, .int (jI 3))] [.int (jI 1)] (cmf b f0 Iq14 Aq14) _ _ _
                    refine jt_if_eq (t := 67) d_RD_readEnds_60 rfl (by unfold jRi; omega) (fun c16 => ?_) (fun c16 => ?_)
                    · skip
                      exfalso
                      omega
                    · skip
                      refine jt_iconst d_RD_readEnds_63 ?_
                      refine jt_goto (t := 68) d_RD_readEnds_64 rfl ?_
                      exact cm_ret d_RD_readEnds_68 rfl (jnz (by omega)) (⟨1, rfl, by omega, hpq14, fun _ => ⟨by
        have h9 := hwq4.1
        rw [hwq1.2, m38_7q1] at h9
        have h8 := hwq11.1
        rw [show Iq10 38 2 = Iq4 38 2 + 1 by omega, show Iq10 38 7 = Iq4 38 7 by omega] at h8
        show rdB N9 X9 Y9 V9 3 (I 38 2) (I 38 7 = 1) (Iq14 38 2 - 1) (Aq14 422) (Aq14 386) (Iq14 38 7 = 1)
        rw [show Iq14 38 2 - 1 = Iq11 38 2 by omega, show Iq14 38 7 = Iq11 38 7 by omega, a386q14]
        exact ⟨_, _, _, hwq1.1, by omega, h9, hwq7.1, fun _ z a d => by rw [a422q14, a422q11, hcq10 z a d, a386q7], h8, hwq14.1⟩, show I 38 2 < Iq14 38 2 by omega⟩, fun z => absurd z (by omega)⟩)
            · skip
              exfalso
              omega
set_option maxRecDepth 100000 in
set_option maxHeartbeats 4000000 in
theorem l9_RD_readTerm_x3v (G : jG) (d b : Nat)  (I : Nat → Nat → Int) (A : Nat → Int → Int) (hI : cSI I) (hA : cSA A) (hK : cTok A) (X9 : Int → Int) (hX : A 40 = X9) (Y9 : Int → Int) (hY : A 41 = Y9) (N9 : Int) (hN : I 39 3 = N9) (V9 : Int → Int → Int) (hV : cVf A V9) (hVr : ∀ v, 0 ≤ v → v < 12 → inr (V9 v)) (f0 : jF) (sz : Nat)   (hout : ∀ (s : Int) (J : Nat → Nat → Int) (B : Nat → Int → Int), cPx [610, 611, 615] [403, 422, 386, 405, 424, 388, 407, 426, 390, 409, 428, 392, 411, 430, 394, 413, 432] I A J B → (sgn s) → (-1 ≤ s ∧ s ≤ 1) → (J 38 7 = I 38 7) → (I 38 2 ≤ J 38 2) → (∀ (q : Int) (F : Int → Int) (g2 : Prop), rdT N9 X9 Y9 V9 3 (J 38 2) (I 38 7 = 1) q F g2 → rdT N9 X9 Y9 V9 3 (I 38 2) (I 38 7 = 1) q (fun i => s * F i) g2) → (∀ c pl : Int, rdX N9 X9 Y9 V9 3 (J 38 2) (I 38 7 = 1) c pl → rdX N9 X9 Y9 V9 3 (I 38 2) (I 38 7 = 1) c pl) → (B 40 = X9) → (B 41 = Y9) → (J 39 3 = N9) → (cVf B V9) → (¬ xV N9 X9 Y9 (J 38 2) 1) → jt (jm G Y_RD_readTerm (gR (d + 17)) (cQ b f0 sz (fun (rv : Option Value) (I2 : Nat → Nat → Int) (A2 : Nat → Int → Int) => ∃ y : Int, rv = some (.int (jI y)) ∧ (0 ≤ y ∧ y ≤ 1) ∧ cPx [610, 611, 615] [403, 422, 386, 405, 424, 388, 407, 426, 390, 409, 428, 392, 411, 430, 394, 413, 432] I A I2 A2 ∧ (y = 1 → rdT N9 X9 Y9 V9 3 (I 38 2) (I 38 7 = 1) (I2 38 2) (A2 403) (I2 38 7 = 1) ∧ I 38 2 < I2 38 2) ∧ (y = 0 → rdX N9 X9 Y9 V9 3 (I 38 2) (I 38 7 = 1) (I2 38 3) (I2 38 2))))) 54 [(0, .ref (b + 38)), (1, .int (jI 3)), (2, .ref (b + 402)), (3, .int (jI s))] [] (cmf b f0 J B) sz 0 0) : ∀ (n9 : Nat) (s : Int) (J : Nat → Nat → Int) (B : Nat → Int → Int), cPx [610, 611, 615] [403, 422, 386, 405, 424, 388, 407, 426, 390, 409, 428, 392, 411, 430, 394, 413, 432] I A J B → (sgn s) → (-1 ≤ s ∧ s ≤ 1) → (J 38 7 = I 38 7) → (I 38 2 ≤ J 38 2) → (∀ (q : Int) (F : Int → Int) (g2 : Prop), rdT N9 X9 Y9 V9 3 (J 38 2) (I 38 7 = 1) q F g2 → rdT N9 X9 Y9 V9 3 (I 38 2) (I 38 7 = 1) q (fun i => s * F i) g2) → (∀ c pl : Int, rdX N9 X9 Y9 V9 3 (J 38 2) (I 38 7 = 1) c pl → rdX N9 X9 Y9 V9 3 (I 38 2) (I 38 7 = 1) c pl) → (B 40 = X9) → (B 41 = Y9) → (J 39 3 = N9) → (cVf B V9) → 300 - J 38 2 < (n9 : Int) → jt (jm G Y_RD_readTerm (gR (d + 17)) (cQ b f0 sz (fun (rv : Option Value) (I2 : Nat → Nat → Int) (A2 : Nat → Int → Int) => ∃ y : Int, rv = some (.int (jI y)) ∧ (0 ≤ y ∧ y ≤ 1) ∧ cPx [610, 611, 615] [403, 422, 386, 405, 424, 388, 407, 426, 390, 409, 428, 392, 411, 430, 394, 413, 432] I A I2 A2 ∧ (y = 1 → rdT N9 X9 Y9 V9 3 (I 38 2) (I 38 7 = 1) (I2 38 2) (A2 403) (I2 38 7 = 1) ∧ I 38 2 < I2 38 2) ∧ (y = 0 → rdX N9 X9 Y9 V9 3 (I 38 2) (I 38 7 = 1) (I2 38 3) (I2 38 2))))) 9 [(0, .ref (b + 38)), (1, .int (jI 3)), (2, .ref (b + 402)), (3, .int (jI s))] [] (cmf b f0 J B) sz 0 0 := by
  have r39 : 0 ≤ I 39 3 ∧ I 39 3 ≤ 300 := hI 39 3
  have r38 : 0 ≤ I 38 2 ∧ I 38 2 ≤ 300 := hI 38 2
  intro n9
  induction n9 with
  | zero =>
    intro s J B hJ s0 s1 j7 jp hM hMX cX cY cN cV hmeas
    have q38 : 0 ≤ J 38 2 ∧ J 38 2 ≤ 300 := hJ.1 38 2
    exfalso
    omega
  | succ n9 ih =>
    intro s J B hJ s0 s1 j7 jp hM hMX cX cY cN cV hmeas
    have q38 : 0 ≤ J 38 2 ∧ J 38 2 ≤ 300 := hJ.1 38 2
    refine jt_aload_n d_RD_readTerm_9 rfl ?_
    refine cm_get (k := 38) (v := .int (jI (J 38 2))) d_RD_readTerm_10 RD_f60 (by decide) cc_3 rfl ?_
    have rb101 : 0 ≤ J 38 2 ∧ J 38 2 ≤ 300 := hJ.1 38 2
    refine jt_aload_n d_RD_readTerm_13 rfl ?_
    refine cm_get (k := 38) (v := .ref (b + 39)) d_RD_readTerm_14 RD_f14 (by decide) cc_3 rfl ?_
    refine cm_get (k := 39) (v := .int (jI (J 39 3))) d_RD_readTerm_17 RD_f105 (by decide) (cc_1 rfl) rfl ?_
    have rb102 : 0 ≤ J 39 3 ∧ J 39 3 ≤ 300 := hJ.1 39 3
    refine jt_icmp_ge (t := 54) d_RD_readTerm_20 rfl (by unfold jRi; omega) (by unfold jRi; omega) (fun c103 => ?_) (fun c103 => ?_)
    · skip
      exact hout s J B hJ s0 s1 j7 jp hM hMX cX cY cN cV (fun z9 => by unfold xV at z9; omega)
    · skip
      refine jt_aload_n d_RD_readTerm_23 rfl ?_
      refine cm_get (k := 38) (v := .ref (b + 39)) d_RD_readTerm_24 RD_f14 (by decide) cc_3 rfl ?_
      refine jt_aload_n d_RD_readTerm_27 rfl ?_
      refine cm_get (k := 38) (v := .int (jI (J 38 2))) d_RD_readTerm_28 RD_f60 (by decide) cc_3 rfl ?_
      refine jt_iconst d_RD_readTerm_31 ?_
      refine cct_callV (Y := Y_TR_isWord) (ci := 0) (k := 39) (As := [.int (jI (J 38 2)), .int (jI 1)]) (rest := []) d_RD_readTerm_32 RD_c91 yk_TR_isWord yv_TR_isWord rfl (Nat.le_of_ble_eq_true rfl) (by decide) (cc_1 rfl) rfl rfl (Nat.le_of_ble_eq_true rfl) (v_TR_isWord_x G _ b (J 38 2) 1 J B hJ.1 hJ.2.1 X9 cX Y9 cY N9 cN (by omega) (by omega)) (fun rvq104 Iq104 Aq104 hq104 => ?_)
      obtain ⟨yq104, rfl, ryq104, hIq104, hAq104, hxq104⟩ := hq104
      rw [hIq104, hAq104]
      by_cases gbq104 : yq104 = 1
      · skip
        obtain rfl : yq104 = 1 := by omega
        have hwq104 := hxq104.1 rfl
        clear hxq104
        show jt _ 35 [(0, .ref (b + 38)), (1, .int (jI 3)), (2, .ref (b + 402)), (3, .int (jI s))] [.int (jI 1)] (cmf b f0 J B) _ _ _
        refine jt_if_eq (t := 54) d_RD_readTerm_35 rfl (by unfold jRi; omega) (fun c105 => ?_) (fun c105 => ?_)
        · skip
          exfalso
          omega
        · skip
          refine jt_iload_n d_RD_readTerm_38 rfl ?_
          refine jt_ineg d_RD_readTerm_39 ?_
          refine jt_topi (fun v106 ev106 => ?_)
          refine jt_istore_n (L' := [(0, .ref (b + 38)), (1, .int (jI 3)), (2, .ref (b + 402)), (3, .int (jI v106))]) d_RD_readTerm_40 (Nat.le_of_ble_eq_true rfl) rfl ?_
          refine jt_aload_n d_RD_readTerm_41 rfl ?_
          refine jt_dup d_RD_readTerm_42 rfl ?_
          refine cm_get (k := 38) (v := .int (jI (J 38 2))) d_RD_readTerm_43 RD_f60 (by decide) cc_3 rfl ?_
          refine jt_iconst d_RD_readTerm_46 ?_
          refine jt_iadd d_RD_readTerm_47 ?_
          refine jt_topi (fun v107 ev107 => ?_)
          refine cm_put (k := 38) (j := 2) (v := v107) d_RD_readTerm_48 (RD_w60 _ rfl) (by decide) cc_3 rfl rfl (Nat.le_of_ble_eq_true rfl) rfl ?_
          have p108 := cPx.I 38 2 v107 hJ rfl (show 0 ≤ v107 ∧ v107 ≤ 300 by omega)
          refine jt_goto (t := 9) d_RD_readTerm_51 rfl ?_
          exact ih v106 (cu J 38 2 v107) B p108 (sgn_n s0 ev106) (by omega) (show J 38 7 = I 38 7 from j7) (show I 38 2 ≤ v107 by omega) (fun q F g2 k9 => by have h9 := rdT_step hM hwq104.2 q F g2 (by rw [← ev107]; exact k9); rw [ev106]; exact h9) (fun c pl k9 => hMX c pl (rdX_minus hwq104.2 (by rw [← ev107]; exact k9))) cX cY cN cV (show 300 - v107 < (n9 : Int) by omega)
      · skip
        obtain rfl : yq104 = 0 := by omega
        have hwq104 : ¬ xV N9 X9 Y9 (J 38 2) 1 := fun z9 => hxq104.2 rfl ⟨by omega, z9⟩
        clear hxq104
        show jt _ 35 [(0, .ref (b + 38)), (1, .int (jI 3)), (2, .ref (b + 402)), (3, .int (jI s))] [.int (jI 0)] (cmf b f0 J B) _ _ _
        refine jt_if_eq (t := 54) d_RD_readTerm_35 rfl (by unfold jRi; omega) (fun c109 => ?_) (fun c109 => ?_)
        · skip
          exact hout s J B hJ s0 s1 j7 jp hM hMX cX cY cN cV hwq104
        · skip
          exfalso
          omega
set_option maxRecDepth 100000 in
set_option maxHeartbeats 4000000 in
theorem v_RD_readTerm_x3 (G : jG) (d b : Nat)  (I : Nat → Nat → Int) (A : Nat → Int → Int) (hI : cSI I) (hA : cSA A) (hK : cTok A) (X9 : Int → Int) (hX : A 40 = X9) (Y9 : Int → Int) (hY : A 41 = Y9) (N9 : Int) (hN : I 39 3 = N9) (V9 : Int → Int → Int) (hV : cVf A V9) (hVr : ∀ v, 0 ≤ v → v < 12 → inr (V9 v)) : cct G Y_RD_readTerm (d + 17) b [.ref (b + 38), .int (jI 3)] I A (fun (rv : Option Value) (I2 : Nat → Nat → Int) (A2 : Nat → Int → Int) => ∃ y : Int, rv = some (.int (jI y)) ∧ (0 ≤ y ∧ y ≤ 1) ∧ cPx [610, 611, 615] [403, 422, 386, 405, 424, 388, 407, 426, 390, 409, 428, 392, 411, 430, 394, 413, 432] I A I2 A2 ∧ (y = 1 → rdT N9 X9 Y9 V9 3 (I 38 2) (I 38 7 = 1) (I2 38 2) (A2 403) (I2 38 7 = 1) ∧ I 38 2 < I2 38 2) ∧ (y = 0 → rdX N9 X9 Y9 V9 3 (I 38 2) (I 38 7 = 1) (I2 38 3) (I2 38 2))) := by
  refine cct_of (by decide) (Nat.le_of_ble_eq_true rfl) (fun f0 sz => ?_)
  show jt _ 0 [(0, .ref (b + 38)), (1, .int (jI 3))] [] _ _ _ _
  have r39 : 0 ≤ I 39 3 ∧ I 39 3 ≤ 300 := hI 39 3
  have r38 : 0 ≤ I 38 2 ∧ I 38 2 ≤ 300 := hI 38 2
  have hz0 : cPx [610, 611, 615] [403, 422, 386, 405, 424, 388, 407, 426, 390, 409, 428, 392, 411, 430, 394, 413, 432] I A I A := cPx.refl hI hA
  refine jt_aload_n d_RD_readTerm_0 rfl ?_
  refine cm_get (k := 38) (v := .ref (b + 395)) d_RD_readTerm_1 RD_f43 (by decide) cc_3 rfl ?_
  refine jt_iload_n d_RD_readTerm_4 rfl ?_
  refine cm_ldF (k := 395) (n := 9) (z := 3) d_RD_readTerm_5 (by decide) rfl rfl (by omega) (by omega) (by omega) ?_
  show jt _ 6 [(0, .ref (b + 38)), (1, .int (jI 3))] [.ref (b + 402)] (cmf b f0 I A) _ _ _
  refine jt_astore_n (L' := [(0, .ref (b + 38)), (1, .int (jI 3)), (2, .ref (b + 402))]) d_RD_readTerm_6 (Nat.le_of_ble_eq_true rfl) rfl ?_
  refine jt_iconst d_RD_readTerm_7 ?_
  refine jt_istore_n (L' := [(0, .ref (b + 38)), (1, .int (jI 3)), (2, .ref (b + 402)), (3, .int (jI 1))]) d_RD_readTerm_8 (Nat.le_of_ble_eq_true rfl) rfl ?_
  refine l9_RD_readTerm_x3v G d b  I A hI hA hK X9 hX Y9 hY N9 hN V9 hV hVr f0 sz  (fun so1 Jo1 Bo1 hJo1 s0o1 s1o1 j7o1 jpo1 hMo1 hMXo1 cXo1 cYo1 cNo1 cVo1 nmo1 => ?_) 301 1 I A hz0 (Or.inl rfl) (by omega) rfl (Int.le_refl _) (fun q F g2 k9 => rdT_1 k9) (fun c pl k9 => k9) hX hY hN hV (by omega)
  refine jt_aload_n d_RD_readTerm_54 rfl ?_
  refine cm_get (k := 38) (v := .ref (b + 39)) d_RD_readTerm_55 RD_f14 (by decide) cc_3 rfl ?_
  refine jt_aload_n d_RD_readTerm_58 rfl ?_
  refine cm_get (k := 38) (v := .int (jI (Jo1 38 2))) d_RD_readTerm_59 RD_f60 (by decide) cc_3 rfl ?_
  have rb2 : 0 ≤ Jo1 38 2 ∧ Jo1 38 2 ≤ 300 := hJo1.1 38 2
  refine jt_iconst d_RD_readTerm_62 ?_
  refine cct_callV (Y := Y_TR_isKind) (ci := 0) (k := 39) (As := [.int (jI (Jo1 38 2)), .int (jI 0)]) (rest := []) d_RD_readTerm_63 RD_c63 yk_TR_isKind yv_TR_isKind rfl (Nat.le_of_ble_eq_true rfl) (by decide) (cc_1 rfl) rfl rfl (Nat.le_of_ble_eq_true rfl) (v_TR_isKind_x G _ b (Jo1 38 2) 0 Jo1 Bo1 hJo1.1 hJo1.2.1 X9 cXo1 N9 cNo1 (by omega) (by omega)) (fun rvq3 Iq3 Aq3 hq3 => ?_)
  obtain ⟨yq3, rfl, ryq3, hIq3, hAq3, hxq3⟩ := hq3
  rw [hIq3, hAq3]
  by_cases gbq3 : yq3 = 1
  · skip
    obtain rfl : yq3 = 1 := by omega
    have hwq3 := hxq3.1 rfl
    clear hxq3
    show jt _ 66 [(0, .ref (b + 38)), (1, .int (jI 3)), (2, .ref (b + 402)), (3, .int (jI so1))] [.int (jI 1)] (cmf b f0 Jo1 Bo1) _ _ _
    refine jt_if_ne (t := 98) d_RD_readTerm_66 rfl (by unfold jRi; omega) (fun c4 => ?_) (fun c4 => ?_)
    · skip
      have tk : gtok (X9 (Jo1 38 2)) (Y9 (Jo1 38 2)) := by have h9 : gtok (Bo1 40 (Jo1 38 2)) (Bo1 41 (Jo1 38 2)) := (cTok_of (cPx.po hJo1) hK rfl) 39 rfl (Jo1 38 2); rw [cXo1, cYo1] at h9; exact h9
      unfold gtok at tk
      have tv : -16000 ≤ Y9 (Jo1 38 2) ∧ Y9 (Jo1 38 2) ≤ 16000 := by omega
      clear tk
      refine jt_aload_n d_RD_readTerm_98 rfl ?_
      refine cm_get (k := 38) (v := .ref (b + 39)) d_RD_readTerm_99 RD_f14 (by decide) cc_3 rfl ?_
      refine cm_get (k := 39) (v := .ref (b + 41)) d_RD_readTerm_102 RD_f67 (by decide) (cc_1 rfl) rfl ?_
      refine jt_aload_n d_RD_readTerm_105 rfl ?_
      refine cm_get (k := 38) (v := .int (jI (Jo1 38 2))) d_RD_readTerm_106 RD_f60 (by decide) cc_3 rfl ?_
      refine cm_ld0 (k := 41) (n := 300) (v := (Bo1 41) (Jo1 38 2)) d_RD_readTerm_109 (by decide) rfl rfl (by omega) (by omega) (by omega) rfl ?_
      refine jt_topi (fun v5 ev5 => ?_)
      have bv5 : -2147483648 ≤ v5 ∧ v5 ≤ 2147483647 := by rw [ev5]; exact hJo1.2.1 41 (Jo1 38 2)
      rw [cYo1] at ev5
      refine jt_istore (L' := [(0, .ref (b + 38)), (1, .int (jI 3)), (2, .ref (b + 402)), (3, .int (jI so1)), (4, .int (jI v5))]) d_RD_readTerm_110 (Nat.le_of_ble_eq_true rfl) rfl ?_
      have hvs := sgn_m (v := v5) s0o1 (by omega)
      refine jt_aload_n d_RD_readTerm_112 rfl ?_
      refine jt_dup d_RD_readTerm_113 rfl ?_
      refine cm_get (k := 38) (v := .int (jI (Jo1 38 2))) d_RD_readTerm_114 RD_f60 (by decide) cc_3 rfl ?_
      refine jt_iconst d_RD_readTerm_117 ?_
      refine jt_iadd d_RD_readTerm_118 ?_
      refine jt_topi (fun v6 ev6 => ?_)
      refine cm_put (k := 38) (j := 2) (v := v6) d_RD_readTerm_119 (RD_w60 _ rfl) (by decide) cc_3 rfl rfl (Nat.le_of_ble_eq_true rfl) rfl ?_
      have p7 := cPx.I 38 2 v6 hJo1 rfl (show 0 ≤ v6 ∧ v6 ≤ 300 by omega)
      refine jt_aload_n d_RD_readTerm_122 rfl ?_
      refine cm_get (k := 38) (v := .ref (b + 39)) d_RD_readTerm_123 RD_f14 (by decide) cc_3 rfl ?_
      refine jt_aload_n d_RD_readTerm_126 rfl ?_
      refine cm_get (k := 38) (v := .int (jI v6)) d_RD_readTerm_127 RD_f60 (by decide) cc_3 rfl ?_
      refine jt_bipush d_RD_readTerm_130 (by omega) ?_
      refine cct_callV (Y := Y_TR_isWord) (ci := 0) (k := 39) (As := [.int (jI v6), .int (jI 13)]) (rest := []) d_RD_readTerm_132 RD_c91 yk_TR_isWord yv_TR_isWord rfl (Nat.le_of_ble_eq_true rfl) (by decide) (cc_1 rfl) rfl rfl (Nat.le_of_ble_eq_true rfl) (v_TR_isWord_x G _ b v6 13 (cu Jo1 38 2 v6) Bo1 p7.1 p7.2.1 X9 cXo1 Y9 cYo1 N9 cNo1 (by omega) (by omega)) (fun rvq8 Iq8 Aq8 hq8 => ?_)
      obtain ⟨yq8, rfl, ryq8, hIq8, hAq8, hxq8⟩ := hq8
      rw [hIq8, hAq8]
      by_cases gbq8 : yq8 = 1
      · skip
        obtain rfl : yq8 = 1 := by omega
        have hwq8 := hxq8.1 rfl
        clear hxq8
        show jt _ 135 [(0, .ref (b + 38)), (1, .int (jI 3)), (2, .ref (b + 402)), (3, .int (jI so1)), (4, .int (jI v5))] [.int (jI 1)] (cmf b f0 (cu Jo1 38 2 v6) Bo1) _ _ _
        refine jt_if_eq (t := 204) d_RD_readTerm_135 rfl (by unfold jRi; omega) (fun c9 => ?_) (fun c9 => ?_)
        · skip
          exfalso
          omega
        · skip
          refine jt_aload_n d_RD_readTerm_138 rfl ?_
          refine jt_dup d_RD_readTerm_139 rfl ?_
          refine cm_get (k := 38) (v := .int (jI v6)) d_RD_readTerm_140 RD_f60 (by decide) cc_3 rfl ?_
          refine jt_iconst d_RD_readTerm_143 ?_
          refine jt_iadd d_RD_readTerm_144 ?_
          refine jt_topi (fun v10 ev10 => ?_)
          refine cm_put (k := 38) (j := 2) (v := v10) d_RD_readTerm_145 (RD_w60 _ rfl) (by decide) cc_3 rfl rfl (Nat.le_of_ble_eq_true rfl) rfl ?_
          have p11 := cPx.I 38 2 v10 p7 rfl (show 0 ≤ v10 ∧ v10 ≤ 300 by omega)
          refine jt_aload_n d_RD_readTerm_148 rfl ?_
          refine jt_iload_n d_RD_readTerm_149 rfl ?_
          refine cct_callV (Y := Y_RD_readEnds) (ci := 2) (k := 38) (As := [.int (jI 3)]) (rest := []) d_RD_readTerm_150 RD_c140 yk_RD_readEnds yv_RD_readEnds rfl (Nat.le_of_ble_eq_true rfl) (by decide) cc_3 rfl rfl (Nat.le_of_ble_eq_true rfl) (v_RD_readEnds_x3 G _ b (cu (cu Jo1 38 2 v6) 38 2 v10) Bo1 p11.1 p11.2.1 (cTok_of (cPx.po p11) hK rfl) X9 cXo1 Y9 cYo1 N9 cNo1 V9 cVo1 hVr) (fun rvq12 Iq12 Aq12 hq12 => ?_)
          obtain ⟨yq12, rfl, ryq12, hqq12, hxq12⟩ := hq12
          have hpq12 := cPx.trans p11 hqq12 rfl rfl
          have cXq12 : Aq12 40 = X9 := (hqq12.2.2.2 40 rfl (by decide)).trans cXo1
          have cYq12 : Aq12 41 = Y9 := (hqq12.2.2.2 41 rfl (by decide)).trans cYo1
          have cNq12 : Iq12 39 3 = N9 := (hqq12.2.2.1 39 3 rfl).trans cNo1
          have cVq12 : cVf Aq12 V9 := cVf_of hqq12 rfl cVo1
          have s38_2q12 : (cu (cu Jo1 38 2 v6) 38 2 v10) 38 2 = v10 := rfl
          have s38_7q12 : (cu (cu Jo1 38 2 v6) 38 2 v10) 38 7 = Jo1 38 7 := rfl
          have a403q12 : Aq12 403 = Bo1 403 := hqq12.2.2.2 403 rfl (by decide)
          by_cases gbq12 : yq12 = 0
          · skip
            obtain rfl : yq12 = 0 := by omega
            have hwq12 := hxq12.2 rfl
            clear hxq12
            show jt _ 153 [(0, .ref (b + 38)), (1, .int (jI 3)), (2, .ref (b + 402)), (3, .int (jI so1)), (4, .int (jI v5))] [.int (jI 0)] (cmf b f0 Iq12 Aq12) _ _ _
            refine jt_if_eq (t := 202) d_RD_readTerm_153 rfl (by unfold jRi; omega) (fun c13 => ?_) (fun c13 => ?_)
            · skip
              refine jt_iconst d_RD_readTerm_202 ?_
              exact cm_ret d_RD_readTerm_203 rfl (jnz (by omega)) (⟨0, rfl, by omega, hpq12, fun z => absurd z (by omega), fun _ => hMXo1 _ _ (rdX_btw hwq3.2 (by have h9 := hwq8.2; rw [ev6] at h9; exact h9) (by have h9 : rdBX N9 X9 Y9 V9 3 v10 (Jo1 38 7 = 1) (Iq12 38 3) (Iq12 38 2) := hwq12; rw [show v10 = Jo1 38 2 + 2 by omega, j7o1] at h9; exact h9))⟩)
            · skip
              exfalso
              omega
          · skip
            obtain rfl : yq12 = 1 := by omega
            have hwq12 := hxq12.1 rfl
            clear hxq12
            show jt _ 153 [(0, .ref (b + 38)), (1, .int (jI 3)), (2, .ref (b + 402)), (3, .int (jI so1)), (4, .int (jI v5))] [.int (jI 1)] (cmf b f0 Iq12 Aq12) _ _ _
            refine jt_if_eq (t := 202) d_RD_readTerm_153 rfl (by unfold jRi; omega) (fun c14 => ?_) (fun c14 => ?_)
            · skip
              exfalso
              omega
            · skip
              refine jt_aload_n d_RD_readTerm_156 rfl ?_
              refine jt_aload_n d_RD_readTerm_157 rfl ?_
              refine jt_iload d_RD_readTerm_158 rfl ?_
              refine jt_aload_n d_RD_readTerm_160 rfl ?_
              refine cm_get (k := 38) (v := .ref (b + 414)) d_RD_readTerm_161 RD_f46 (by decide) cc_3 rfl ?_
              refine jt_iload_n d_RD_readTerm_164 rfl ?_
              refine cm_ldF (k := 414) (n := 9) (z := 3) d_RD_readTerm_165 (by decide) rfl rfl (by omega) (by omega) (by omega) ?_
              show jt _ 166 [(0, .ref (b + 38)), (1, .int (jI 3)), (2, .ref (b + 402)), (3, .int (jI so1)), (4, .int (jI v5))] [.ref (b + 421), .int (jI v5), .ref (b + 402), .ref (b + 38)] (cmf b f0 Iq12 Aq12) _ _ _
              refine jt_aload_n d_RD_readTerm_166 rfl ?_
              refine cm_get (k := 38) (v := .ref (b + 376)) d_RD_readTerm_167 RD_f40 (by decide) cc_3 rfl ?_
              refine jt_iload_n d_RD_readTerm_170 rfl ?_
              refine jt_iconst d_RD_readTerm_171 ?_
              refine jt_iadd d_RD_readTerm_172 ?_
              show jt _ 173 [(0, .ref (b + 38)), (1, .int (jI 3)), (2, .ref (b + 402)), (3, .int (jI so1)), (4, .int (jI v5))] [.int (jI 4), .ref (b + 376), .ref (b + 421), .int (jI v5), .ref (b + 402), .ref (b + 38)] (cmf b f0 Iq12 Aq12) _ _ _
              refine cm_ldF (k := 376) (n := 9) (z := 4) d_RD_readTerm_173 (by decide) rfl rfl (by omega) (by omega) (by omega) ?_
              show jt _ 174 [(0, .ref (b + 38)), (1, .int (jI 3)), (2, .ref (b + 402)), (3, .int (jI so1)), (4, .int (jI v5))] [.ref (b + 385), .ref (b + 421), .int (jI v5), .ref (b + 402), .ref (b + 38)] (cmf b f0 Iq12 Aq12) _ _ _
              refine cct_callV (Y := Y_FO_setBetween) (ci := 4) (k := 402) (As := [.int (jI v5), .ref (b + 421), .ref (b + 385)]) (rest := [.ref (b + 38)]) d_RD_readTerm_174 RD_c143 yk_FO_setBetween yv_FO_setBetween rfl (Nat.le_of_ble_eq_true rfl) (by decide) (cc_5 rfl) rfl rfl (Nat.le_of_ble_eq_true rfl) (v_FO_setBetween_x G _ b 402 v5 421 385 Iq12 Aq12 hpq12.1 hpq12.2.1 (by decide) rfl (by decide) rfl (by decide) rfl (by omega) (by omega) (by omega)) (fun rvq15 Iq15 Aq15 hq15 => ?_)
              obtain ⟨yq15, rfl, ryq15, hqq15, hxq15⟩ := hq15
              have hpq15 := cPx.trans hpq12 hqq15 rfl rfl
              have cXq15 : Aq15 40 = X9 := (hqq15.2.2.2 40 rfl (by decide)).trans cXq12
              have cYq15 : Aq15 41 = Y9 := (hqq15.2.2.2 41 rfl (by decide)).trans cYq12
              have cNq15 : Iq15 39 3 = N9 := (hqq15.2.2.1 39 3 rfl).trans cNq12
              have cVq15 : cVf Aq15 V9 := cVf_of hqq15 rfl cVq12
              have m38_2q15 : Iq15 38 2 = Iq12 38 2 := hqq15.2.2.1 38 2 rfl
              have m38_7q15 : Iq15 38 7 = Iq12 38 7 := hqq15.2.2.1 38 7 rfl
              have hcq15 : (inr (Aq12 422) ∧ inr (Aq12 386)) → (∀ z, 0 ≤ z → z < 13 → Aq15 403 z = (Aq12 422) z + ((Aq12 386) z - (Aq12 422) z) * v5 / 16) ∧ (yq15 = 1 → fB v5 (Aq12 422) (Aq12 386)) ∧ (yq15 = 0 → ¬ fB v5 (Aq12 422) (Aq12 386)) := hxq15
              show jt _ 177 [(0, .ref (b + 38)), (1, .int (jI 3)), (2, .ref (b + 402)), (3, .int (jI so1)), (4, .int (jI v5))] [.int (jI yq15), .ref (b + 38)] (cmf b f0 Iq15 Aq15) _ _ _
              refine cct_callV (Y := Y_RD_check) (ci := 2) (k := 38) (As := [.int (jI yq15)]) (rest := []) d_RD_readTerm_177 RD_c136 yk_RD_check yv_RD_check rfl (Nat.le_of_ble_eq_true rfl) (by decide) cc_3 rfl rfl (Nat.le_of_ble_eq_true rfl) (v_RD_check_x G _ b yq15 Iq15 Aq15 hpq15.1 hpq15.2.1 (by omega)) (fun rvq16 Iq16 Aq16 hq16 => ?_)
              obtain ⟨yq16, rfl, ryq16, hqq16, hxq16⟩ := hq16
              have hpq16 := cPx.trans hpq15 hqq16 rfl rfl
              have cXq16 : Aq16 40 = X9 := (hqq16.2.2.2 40 rfl (by decide)).trans cXq15
              have cYq16 : Aq16 41 = Y9 := (hqq16.2.2.2 41 rfl (by decide)).trans cYq15
              have cNq16 : Iq16 39 3 = N9 := (hqq16.2.2.1 39 3 rfl).trans cNq15
              have cVq16 : cVf Aq16 V9 := cVf_of hqq16 rfl cVq15
              have m38_2q16 : Iq16 38 2 = Iq15 38 2 := hqq16.2.2.1 38 2 rfl
              have a403q16 : Aq16 403 = Aq15 403 := hqq16.2.2.2 403 rfl (by decide)
              obtain rfl : yq16 = 1 := ryq16
              show jt _ 180 [(0, .ref (b + 38)), (1, .int (jI 3)), (2, .ref (b + 402)), (3, .int (jI so1)), (4, .int (jI v5))] [.int (jI 1)] (cmf b f0 Iq16 Aq16) _ _ _
              refine jt_if_eq (t := 202) d_RD_readTerm_180 rfl (by unfold jRi; omega) (fun c17 => ?_) (fun c17 => ?_)
              · skip
                exfalso
                omega
              · skip
                refine jt_aload_n d_RD_readTerm_183 rfl ?_
                refine jt_aload_n d_RD_readTerm_184 rfl ?_
                refine jt_bipush d_RD_readTerm_185 (by omega) ?_
                refine jt_iload_n d_RD_readTerm_187 rfl ?_
                refine jt_imul d_RD_readTerm_188 ?_
                refine cct_callV (Y := Y_FO_multiply) (ci := 4) (k := 402) (As := [.int (jI (16 * so1))]) (rest := [.ref (b + 38)]) d_RD_readTerm_189 RD_c133 yk_FO_multiply yv_FO_multiply rfl (Nat.le_of_ble_eq_true rfl) (by decide) (cc_5 rfl) rfl rfl (Nat.le_of_ble_eq_true rfl) (v_FO_multiply_x G _ b 402 (16 * so1) Iq16 Aq16 hpq16.1 hpq16.2.1 (by decide) rfl (by omega)) (fun rvq18 Iq18 Aq18 hq18 => ?_)
                obtain ⟨yq18, rfl, ryq18, hqq18, hxq18⟩ := hq18
                have hpq18 := cPx.trans hpq16 hqq18 rfl rfl
                have cXq18 : Aq18 40 = X9 := (hqq18.2.2.2 40 rfl (by decide)).trans cXq16
                have cYq18 : Aq18 41 = Y9 := (hqq18.2.2.2 41 rfl (by decide)).trans cYq16
                have cNq18 : Iq18 39 3 = N9 := (hqq18.2.2.1 39 3 rfl).trans cNq16
                have cVq18 : cVf Aq18 V9 := cVf_of hqq18 rfl cVq16
                have m38_2q18 : Iq18 38 2 = Iq16 38 2 := hqq18.2.2.1 38 2 rfl
                have m38_7q18 : Iq18 38 7 = Iq16 38 7 := hqq18.2.2.1 38 7 rfl
                have hcq18 : inr (Aq16 403) → (∀ z, 0 ≤ z → z < 13 → Aq18 403 z = (Aq16 403) z * (16 * so1) / 16) ∧ (yq18 = 1 → fM (Aq16 403) (16 * so1)) ∧ (yq18 = 0 → ¬ fM (Aq16 403) (16 * so1)) := hxq18
                show jt _ 192 [(0, .ref (b + 38)), (1, .int (jI 3)), (2, .ref (b + 402)), (3, .int (jI so1)), (4, .int (jI v5))] [.int (jI yq18), .ref (b + 38)] (cmf b f0 Iq18 Aq18) _ _ _
                refine cct_callV (Y := Y_RD_check) (ci := 2) (k := 38) (As := [.int (jI yq18)]) (rest := []) d_RD_readTerm_192 RD_c136 yk_RD_check yv_RD_check rfl (Nat.le_of_ble_eq_true rfl) (by decide) cc_3 rfl rfl (Nat.le_of_ble_eq_true rfl) (v_RD_check_x G _ b yq18 Iq18 Aq18 hpq18.1 hpq18.2.1 (by omega)) (fun rvq19 Iq19 Aq19 hq19 => ?_)
                obtain ⟨yq19, rfl, ryq19, hqq19, hxq19⟩ := hq19
                have hpq19 := cPx.trans hpq18 hqq19 rfl rfl
                have cXq19 : Aq19 40 = X9 := (hqq19.2.2.2 40 rfl (by decide)).trans cXq18
                have cYq19 : Aq19 41 = Y9 := (hqq19.2.2.2 41 rfl (by decide)).trans cYq18
                have cNq19 : Iq19 39 3 = N9 := (hqq19.2.2.1 39 3 rfl).trans cNq18
                have cVq19 : cVf Aq19 V9 := cVf_of hqq19 rfl cVq18
                have m38_2q19 : Iq19 38 2 = Iq18 38 2 := hqq19.2.2.1 38 2 rfl
                have a403q19 : Aq19 403 = Aq18 403 := hqq19.2.2.2 403 rfl (by decide)
                obtain rfl : yq19 = 1 := ryq19
                show jt _ 195 [(0, .ref (b + 38)), (1, .int (jI 3)), (2, .ref (b + 402)), (3, .int (jI so1)), (4, .int (jI v5))] [.int (jI 1)] (cmf b f0 Iq19 Aq19) _ _ _
                refine jt_if_eq (t := 202) d_RD_readTerm_195 rfl (by unfold jRi; omega) (fun c20 => ?_) (fun c20 => ?_)
                · skip
                  exfalso
                  omega
                · skip
                  refine jt_iconst d_RD_readTerm_198 ?_
                  refine jt_goto (t := 203) d_RD_readTerm_199 rfl ?_
                  exact cm_ret d_RD_readTerm_203 rfl (jnz (by omega)) (⟨1, rfl, by omega, hpq19, fun _ => ⟨by
        have h9 : rdB N9 X9 Y9 V9 3 v10 (Jo1 38 7 = 1) (Iq12 38 2 - 1) (Aq12 422) (Aq12 386) (Iq12 38 7 = 1) := hwq12.1
        rw [show v10 = Jo1 38 2 + 2 by omega, j7o1] at h9
        have hi := fun g9 => rdB_inr h9 g9
        have hY : Y9 (Jo1 38 2) = v5 := by omega
        have hg : (Iq16 38 7 = 1) ↔ ((Iq12 38 7 = 1) ∧ fB (Y9 (Jo1 38 2)) (Aq12 422) (Aq12 386)) := by
          rw [hY]
          constructor
          · intro g9
            have g8 := hxq16.mp g9
            exact ⟨by omega, (hcq15 (hi (by omega))).2.1 g8.2⟩
          · rintro ⟨g9, g8⟩
            refine hxq16.mpr ⟨by omega, ?_⟩
            by_cases y9 : yq15 = 0
            · exact absurd g8 ((hcq15 (hi g9)).2.2 y9)
            · omega
        have h1 := rdT_btw hwq3.2 (by have h9 := hwq8.2; rw [ev6] at h9; exact h9) h9 hg
        have h2 := hMo1 _ _ _ h1
        have hT : Iq16 38 7 = 1 → vis (Aq16 403) (fun i => (Aq12 422) i + ((Aq12 386) i - (Aq12 422) i) * Y9 (Jo1 38 2) / 16) := fun g9 z a d => by rw [a403q16, (hcq15 (hi (hg.mp g9).1)).1 z a d, hY]
        have hin : Iq16 38 7 = 1 → inr (Aq16 403) := fun g9 z a d => by rw [hT g9 z a d]; exact h1.2.1 g9 z a d
        show rdT N9 X9 Y9 V9 3 (I 38 2) (I 38 7 = 1) (Iq19 38 2) (Aq19 403) (Iq19 38 7 = 1)
        rw [show Iq19 38 2 = Iq12 38 2 - 1 + 1 by omega, a403q19]
        refine rdT_g (rdT_same h2 (fun g9 z a d => by rw [(hcq18 (hin g9)).1 z a d, (sg_16 s0o1 _).1, hT g9 z a d])) ⟨fun g9 => ?_, fun g9 => ?_⟩
        · have := hxq19.mp g9; omega
        · refine hxq19.mpr ⟨by omega, ?_⟩
          by_cases y9 : yq18 = 0
          · exact absurd (fM_16 s0o1 (hin g9)) ((hcq18 (hin g9)).2.2 y9)
          · omega, show I 38 2 < Iq19 38 2 by omega⟩, fun z => absurd z (by omega)⟩)
      · skip
        obtain rfl : yq8 = 0 := by omega
        have hwq8 : ¬ xV N9 X9 Y9 v6 13 := fun z9 => hxq8.2 rfl ⟨by omega, z9⟩
        clear hxq8
        show jt _ 135 [(0, .ref (b + 38)), (1, .int (jI 3)), (2, .ref (b + 402)), (3, .int (jI so1)), (4, .int (jI v5))] [.int (jI 0)] (cmf b f0 (cu Jo1 38 2 v6) Bo1) _ _ _
        refine jt_if_eq (t := 204) d_RD_readTerm_135 rfl (by unfold jRi; omega) (fun c21 => ?_) (fun c21 => ?_)
        · skip
          refine jt_aload_n d_RD_readTerm_204 rfl ?_
          refine cm_get (k := 38) (v := .ref (b + 39)) d_RD_readTerm_205 RD_f14 (by decide) cc_3 rfl ?_
          refine jt_aload_n d_RD_readTerm_208 rfl ?_
          refine cm_get (k := 38) (v := .int (jI v6)) d_RD_readTerm_209 RD_f60 (by decide) cc_3 rfl ?_
          refine jt_iconst d_RD_readTerm_212 ?_
          refine cct_callV (Y := Y_TR_isKind) (ci := 0) (k := 39) (As := [.int (jI v6), .int (jI 1)]) (rest := []) d_RD_readTerm_213 RD_c63 yk_TR_isKind yv_TR_isKind rfl (Nat.le_of_ble_eq_true rfl) (by decide) (cc_1 rfl) rfl rfl (Nat.le_of_ble_eq_true rfl) (v_TR_isKind_x G _ b v6 1 (cu Jo1 38 2 v6) Bo1 p7.1 p7.2.1 X9 cXo1 N9 cNo1 (by omega) (by omega)) (fun rvq22 Iq22 Aq22 hq22 => ?_)
          obtain ⟨yq22, rfl, ryq22, hIq22, hAq22, hxq22⟩ := hq22
          rw [hIq22, hAq22]
          by_cases gbq22 : yq22 = 1
          · skip
            obtain rfl : yq22 = 1 := by omega
            have hwq22 := hxq22.1 rfl
            clear hxq22
            show jt _ 216 [(0, .ref (b + 38)), (1, .int (jI 3)), (2, .ref (b + 402)), (3, .int (jI so1)), (4, .int (jI v5))] [.int (jI 1)] (cmf b f0 (cu Jo1 38 2 v6) Bo1) _ _ _
            refine jt_if_ne (t := 234) d_RD_readTerm_216 rfl (by unfold jRi; omega) (fun c23 => ?_) (fun c23 => ?_)
            · skip
              refine jt_aload_n d_RD_readTerm_234 rfl ?_
              refine jt_iload_n d_RD_readTerm_235 rfl ?_
              refine cct_callV (Y := Y_RD_readPrimary) (ci := 2) (k := 38) (As := [.int (jI 3)]) (rest := []) d_RD_readTerm_236 RD_c130 yk_RD_readPrimary yv_RD_readPrimary rfl (Nat.le_of_ble_eq_true rfl) (by decide) cc_3 rfl rfl (Nat.le_of_ble_eq_true rfl) (v_RD_readPrimary_x3 G _ b (cu Jo1 38 2 v6) Bo1 p7.1 p7.2.1 (cTok_of (cPx.po p7) hK rfl) X9 cXo1 Y9 cYo1 N9 cNo1 V9 cVo1 hVr (show ¬ xV N9 X9 Y9 v6 1 from fun z9 => by unfold xV at z9; omega) (show ¬ xK N9 X9 v6 0 from fun z9 => by unfold xK at z9; omega)) (fun rvq24 Iq24 Aq24 hq24 => ?_)
              obtain ⟨yq24, rfl, ryq24, hqq24, hxq24⟩ := hq24
              have hpq24 := cPx.trans p7 hqq24 rfl rfl
              have cXq24 : Aq24 40 = X9 := (hqq24.2.2.2 40 rfl (by decide)).trans cXo1
              have cYq24 : Aq24 41 = Y9 := (hqq24.2.2.2 41 rfl (by decide)).trans cYo1
              have cNq24 : Iq24 39 3 = N9 := (hqq24.2.2.1 39 3 rfl).trans cNo1
              have cVq24 : cVf Aq24 V9 := cVf_of hqq24 rfl cVo1
              have s38_2q24 : (cu Jo1 38 2 v6) 38 2 = v6 := rfl
              have s38_7q24 : (cu Jo1 38 2 v6) 38 7 = Jo1 38 7 := rfl
              by_cases gbq24 : yq24 = 0
              · skip
                obtain rfl : yq24 = 0 := by omega
                have hwq24 := hxq24.2 rfl
                clear hxq24
                show jt _ 239 [(0, .ref (b + 38)), (1, .int (jI 3)), (2, .ref (b + 402)), (3, .int (jI so1)), (4, .int (jI v5))] [.int (jI 0)] (cmf b f0 Iq24 Aq24) _ _ _
                refine jt_if_eq (t := 261) d_RD_readTerm_239 rfl (by unfold jRi; omega) (fun c25 => ?_) (fun c25 => ?_)
                · skip
                  refine jt_iconst d_RD_readTerm_261 ?_
                  exact cm_ret d_RD_readTerm_262 rfl (jnz (by omega)) (⟨0, rfl, by omega, hpq24, fun z => absurd z (by omega), fun _ => hMXo1 _ _ (rdX_mulp hwq3.2 (by have h9 := hwq8; rw [ev6] at h9; exact h9) (by have h9 := (show (v6 < N9 ∧ X9 v6 = 1) ∨ xW N9 X9 Y9 v6 3 from Or.inl hwq22.2); rw [ev6] at h9; exact h9) (by have h9 : rdX N9 X9 Y9 V9 3 v6 (Jo1 38 7 = 1) (Iq24 38 3) (Iq24 38 2) := hwq24; rw [ev6, j7o1] at h9; exact h9))⟩)
                · skip
                  exfalso
                  omega
              · skip
                obtain rfl : yq24 = 1 := by omega
                have hwq24 := hxq24.1 rfl
                clear hxq24
                show jt _ 239 [(0, .ref (b + 38)), (1, .int (jI 3)), (2, .ref (b + 402)), (3, .int (jI so1)), (4, .int (jI v5))] [.int (jI 1)] (cmf b f0 Iq24 Aq24) _ _ _
                refine jt_if_eq (t := 261) d_RD_readTerm_239 rfl (by unfold jRi; omega) (fun c26 => ?_) (fun c26 => ?_)
                · skip
                  exfalso
                  omega
                · skip
                  refine jt_aload_n d_RD_readTerm_242 rfl ?_
                  refine jt_aload_n d_RD_readTerm_243 rfl ?_
                  refine jt_iload d_RD_readTerm_244 rfl ?_
                  refine jt_iload_n d_RD_readTerm_246 rfl ?_
                  refine jt_imul d_RD_readTerm_247 ?_
                  refine cct_callV (Y := Y_FO_multiply) (ci := 4) (k := 402) (As := [.int (jI (v5 * so1))]) (rest := [.ref (b + 38)]) d_RD_readTerm_248 RD_c133 yk_FO_multiply yv_FO_multiply rfl (Nat.le_of_ble_eq_true rfl) (by decide) (cc_5 rfl) rfl rfl (Nat.le_of_ble_eq_true rfl) (v_FO_multiply_x G _ b 402 (v5 * so1) Iq24 Aq24 hpq24.1 hpq24.2.1 (by decide) rfl (by omega)) (fun rvq27 Iq27 Aq27 hq27 => ?_)
                  obtain ⟨yq27, rfl, ryq27, hqq27, hxq27⟩ := hq27
                  have hpq27 := cPx.trans hpq24 hqq27 rfl rfl
                  have cXq27 : Aq27 40 = X9 := (hqq27.2.2.2 40 rfl (by decide)).trans cXq24
                  have cYq27 : Aq27 41 = Y9 := (hqq27.2.2.2 41 rfl (by decide)).trans cYq24
                  have cNq27 : Iq27 39 3 = N9 := (hqq27.2.2.1 39 3 rfl).trans cNq24
                  have cVq27 : cVf Aq27 V9 := cVf_of hqq27 rfl cVq24
                  have m38_2q27 : Iq27 38 2 = Iq24 38 2 := hqq27.2.2.1 38 2 rfl
                  have m38_7q27 : Iq27 38 7 = Iq24 38 7 := hqq27.2.2.1 38 7 rfl
                  have hcq27 : inr (Aq24 403) → (∀ z, 0 ≤ z → z < 13 → Aq27 403 z = (Aq24 403) z * (v5 * so1) / 16) ∧ (yq27 = 1 → fM (Aq24 403) (v5 * so1)) ∧ (yq27 = 0 → ¬ fM (Aq24 403) (v5 * so1)) := hxq27
                  show jt _ 251 [(0, .ref (b + 38)), (1, .int (jI 3)), (2, .ref (b + 402)), (3, .int (jI so1)), (4, .int (jI v5))] [.int (jI yq27), .ref (b + 38)] (cmf b f0 Iq27 Aq27) _ _ _
                  refine cct_callV (Y := Y_RD_check) (ci := 2) (k := 38) (As := [.int (jI yq27)]) (rest := []) d_RD_readTerm_251 RD_c136 yk_RD_check yv_RD_check rfl (Nat.le_of_ble_eq_true rfl) (by decide) cc_3 rfl rfl (Nat.le_of_ble_eq_true rfl) (v_RD_check_x G _ b yq27 Iq27 Aq27 hpq27.1 hpq27.2.1 (by omega)) (fun rvq28 Iq28 Aq28 hq28 => ?_)
                  obtain ⟨yq28, rfl, ryq28, hqq28, hxq28⟩ := hq28
                  have hpq28 := cPx.trans hpq27 hqq28 rfl rfl
                  have cXq28 : Aq28 40 = X9 := (hqq28.2.2.2 40 rfl (by decide)).trans cXq27
                  have cYq28 : Aq28 41 = Y9 := (hqq28.2.2.2 41 rfl (by decide)).trans cYq27
                  have cNq28 : Iq28 39 3 = N9 := (hqq28.2.2.1 39 3 rfl).trans cNq27
                  have cVq28 : cVf Aq28 V9 := cVf_of hqq28 rfl cVq27
                  have m38_2q28 : Iq28 38 2 = Iq27 38 2 := hqq28.2.2.1 38 2 rfl
                  have a403q28 : Aq28 403 = Aq27 403 := hqq28.2.2.2 403 rfl (by decide)
                  obtain rfl : yq28 = 1 := ryq28
                  show jt _ 254 [(0, .ref (b + 38)), (1, .int (jI 3)), (2, .ref (b + 402)), (3, .int (jI so1)), (4, .int (jI v5))] [.int (jI 1)] (cmf b f0 Iq28 Aq28) _ _ _
                  refine jt_if_eq (t := 261) d_RD_readTerm_254 rfl (by unfold jRi; omega) (fun c29 => ?_) (fun c29 => ?_)
                  · skip
                    exfalso
                    omega
                  · skip
                    refine jt_iconst d_RD_readTerm_257 ?_
                    refine jt_goto (t := 262) d_RD_readTerm_258 rfl ?_
                    exact cm_ret d_RD_readTerm_262 rfl (jnz (by omega)) (⟨1, rfl, by omega, hpq28, fun _ => ⟨by
        have h9 : rdT N9 X9 Y9 V9 3 v6 (Jo1 38 7 = 1) (Iq24 38 2) (Aq24 403) (Iq24 38 7 = 1) := hwq24.1
        rw [ev6, j7o1] at h9
        have hY : Y9 (Jo1 38 2) = v5 := by omega
        have hg : (Iq28 38 7 = 1) ↔ ((Iq24 38 7 = 1) ∧ fM (Aq24 403) (Y9 (Jo1 38 2))) := by
          rw [hY]
          constructor
          · intro g9
            have g8 := hxq28.mp g9
            exact ⟨by omega, (fM_s s0o1).mp ((hcq27 (h9.2.1 (by omega))).2.1 g8.2)⟩
          · rintro ⟨g9, g8⟩
            refine hxq28.mpr ⟨by omega, ?_⟩
            by_cases y9 : yq27 = 0
            · exact absurd ((fM_s s0o1).mpr g8) ((hcq27 (h9.2.1 g9)).2.2 y9)
            · omega
        have h2 := hMo1 _ _ _ (rdT_mulp hwq3.2 (by have h9 := hwq8; rw [ev6] at h9; exact h9) (by have h9 := (show (v6 < N9 ∧ X9 v6 = 1) ∨ xW N9 X9 Y9 v6 3 from Or.inl hwq22.2); rw [ev6] at h9; exact h9) h9 hg)
        show rdT N9 X9 Y9 V9 3 (I 38 2) (I 38 7 = 1) (Iq28 38 2) (Aq28 403) (Iq28 38 7 = 1)
        rw [show Iq28 38 2 = Iq24 38 2 by omega, a403q28]
        exact rdT_same h2 (fun g9 z a d => by have g8 := hg.mp g9; rw [(hcq27 (h9.2.1 g8.1)).1 z a d, hY]; rw [hY] at g8; exact mul_s s0o1 _ (g8.2 z a d).1), show I 38 2 < Iq28 38 2 by omega⟩, fun z => absurd z (by omega)⟩)
            · skip
              exfalso
              omega
          · skip
            obtain rfl : yq22 = 0 := by omega
            have hwq22 : ¬ xK N9 X9 v6 1 := fun z9 => hxq22.2 rfl ⟨by omega, z9.1, z9.2⟩
            clear hxq22
            show jt _ 216 [(0, .ref (b + 38)), (1, .int (jI 3)), (2, .ref (b + 402)), (3, .int (jI so1)), (4, .int (jI v5))] [.int (jI 0)] (cmf b f0 (cu Jo1 38 2 v6) Bo1) _ _ _
            refine jt_if_ne (t := 234) d_RD_readTerm_216 rfl (by unfold jRi; omega) (fun c30 => ?_) (fun c30 => ?_)
            · skip
              exfalso
              omega
            · skip
              refine jt_aload_n d_RD_readTerm_219 rfl ?_
              refine cm_get (k := 38) (v := .ref (b + 39)) d_RD_readTerm_220 RD_f14 (by decide) cc_3 rfl ?_
              refine jt_aload_n d_RD_readTerm_223 rfl ?_
              refine cm_get (k := 38) (v := .int (jI v6)) d_RD_readTerm_224 RD_f60 (by decide) cc_3 rfl ?_
              refine jt_iconst d_RD_readTerm_227 ?_
              refine cct_callV (Y := Y_TR_isWord) (ci := 0) (k := 39) (As := [.int (jI v6), .int (jI 3)]) (rest := []) d_RD_readTerm_228 RD_c91 yk_TR_isWord yv_TR_isWord rfl (Nat.le_of_ble_eq_true rfl) (by decide) (cc_1 rfl) rfl rfl (Nat.le_of_ble_eq_true rfl) (v_TR_isWord_x G _ b v6 3 (cu Jo1 38 2 v6) Bo1 p7.1 p7.2.1 X9 cXo1 Y9 cYo1 N9 cNo1 (by omega) (by omega)) (fun rvq31 Iq31 Aq31 hq31 => ?_)
              obtain ⟨yq31, rfl, ryq31, hIq31, hAq31, hxq31⟩ := hq31
              rw [hIq31, hAq31]
              by_cases gbq31 : yq31 = 1
              · skip
                obtain rfl : yq31 = 1 := by omega
                have hwq31 := hxq31.1 rfl
                clear hxq31
                show jt _ 231 [(0, .ref (b + 38)), (1, .int (jI 3)), (2, .ref (b + 402)), (3, .int (jI so1)), (4, .int (jI v5))] [.int (jI 1)] (cmf b f0 (cu Jo1 38 2 v6) Bo1) _ _ _
                refine jt_if_eq (t := 263) d_RD_readTerm_231 rfl (by unfold jRi; omega) (fun c32 => ?_) (fun c32 => ?_)
                · skip
                  exfalso
                  omega
                · skip
                  refine jt_aload_n d_RD_readTerm_234 rfl ?_
                  refine jt_iload_n d_RD_readTerm_235 rfl ?_
                  refine cct_callV (Y := Y_RD_readPrimary) (ci := 2) (k := 38) (As := [.int (jI 3)]) (rest := []) d_RD_readTerm_236 RD_c130 yk_RD_readPrimary yv_RD_readPrimary rfl (Nat.le_of_ble_eq_true rfl) (by decide) cc_3 rfl rfl (Nat.le_of_ble_eq_true rfl) (v_RD_readPrimary_x3 G _ b (cu Jo1 38 2 v6) Bo1 p7.1 p7.2.1 (cTok_of (cPx.po p7) hK rfl) X9 cXo1 Y9 cYo1 N9 cNo1 V9 cVo1 hVr (show ¬ xV N9 X9 Y9 v6 1 from fun z9 => by unfold xV at z9; omega) (show ¬ xK N9 X9 v6 0 from fun z9 => by unfold xK at z9; omega)) (fun rvq33 Iq33 Aq33 hq33 => ?_)
                  obtain ⟨yq33, rfl, ryq33, hqq33, hxq33⟩ := hq33
                  have hpq33 := cPx.trans p7 hqq33 rfl rfl
                  have cXq33 : Aq33 40 = X9 := (hqq33.2.2.2 40 rfl (by decide)).trans cXo1
                  have cYq33 : Aq33 41 = Y9 := (hqq33.2.2.2 41 rfl (by decide)).trans cYo1
                  have cNq33 : Iq33 39 3 = N9 := (hqq33.2.2.1 39 3 rfl).trans cNo1
                  have cVq33 : cVf Aq33 V9 := cVf_of hqq33 rfl cVo1
                  have s38_2q33 : (cu Jo1 38 2 v6) 38 2 = v6 := rfl
                  have s38_7q33 : (cu Jo1 38 2 v6) 38 7 = Jo1 38 7 := rfl
                  by_cases gbq33 : yq33 = 0
                  · skip
                    obtain rfl : yq33 = 0 := by omega
                    have hwq33 := hxq33.2 rfl
                    clear hxq33
                    show jt _ 239 [(0, .ref (b + 38)), (1, .int (jI 3)), (2, .ref (b + 402)), (3, .int (jI so1)), (4, .int (jI v5))] [.int (jI 0)] (cmf b f0 Iq33 Aq33) _ _ _
                    refine jt_if_eq (t := 261) d_RD_readTerm_239 rfl (by unfold jRi; omega) (fun c34 => ?_) (fun c34 => ?_)
                    · skip
                      refine jt_iconst d_RD_readTerm_261 ?_
                      exact cm_ret d_RD_readTerm_262 rfl (jnz (by omega)) (⟨0, rfl, by omega, hpq33, fun z => absurd z (by omega), fun _ => hMXo1 _ _ (rdX_mulp hwq3.2 (by have h9 := hwq8; rw [ev6] at h9; exact h9) (by have h9 := (show (v6 < N9 ∧ X9 v6 = 1) ∨ xW N9 X9 Y9 v6 3 from Or.inr hwq31.2); rw [ev6] at h9; exact h9) (by have h9 : rdX N9 X9 Y9 V9 3 v6 (Jo1 38 7 = 1) (Iq33 38 3) (Iq33 38 2) := hwq33; rw [ev6, j7o1] at h9; exact h9))⟩)
                    · skip
                      exfalso
                      omega
                  · skip
                    obtain rfl : yq33 = 1 := by omega
                    have hwq33 := hxq33.1 rfl
                    clear hxq33
                    show jt _ 239 [(0, .ref (b + 38)), (1, .int (jI 3)), (2, .ref (b + 402)), (3, .int (jI so1)), (4, .int (jI v5))] [.int (jI 1)] (cmf b f0 Iq33 Aq33) _ _ _
                    refine jt_if_eq (t := 261) d_RD_readTerm_239 rfl (by unfold jRi; omega) (fun c35 => ?_) (fun c35 => ?_)
                    · skip
                      exfalso
                      omega
                    · skip
                      refine jt_aload_n d_RD_readTerm_242 rfl ?_
                      refine jt_aload_n d_RD_readTerm_243 rfl ?_
                      refine jt_iload d_RD_readTerm_244 rfl ?_
                      refine jt_iload_n d_RD_readTerm_246 rfl ?_
                      refine jt_imul d_RD_readTerm_247 ?_
                      refine cct_callV (Y := Y_FO_multiply) (ci := 4) (k := 402) (As := [.int (jI (v5 * so1))]) (rest := [.ref (b + 38)]) d_RD_readTerm_248 RD_c133 yk_FO_multiply yv_FO_multiply rfl (Nat.le_of_ble_eq_true rfl) (by decide) (cc_5 rfl) rfl rfl (Nat.le_of_ble_eq_true rfl) (v_FO_multiply_x G _ b 402 (v5 * so1) Iq33 Aq33 hpq33.1 hpq33.2.1 (by decide) rfl (by omega)) (fun rvq36 Iq36 Aq36 hq36 => ?_)
                      obtain ⟨yq36, rfl, ryq36, hqq36, hxq36⟩ := hq36
                      have hpq36 := cPx.trans hpq33 hqq36 rfl rfl
                      have cXq36 : Aq36 40 = X9 := (hqq36.2.2.2 40 rfl (by decide)).trans cXq33
                      have cYq36 : Aq36 41 = Y9 := (hqq36.2.2.2 41 rfl (by decide)).trans cYq33
                      have cNq36 : Iq36 39 3 = N9 := (hqq36.2.2.1 39 3 rfl).trans cNq33
                      have cVq36 : cVf Aq36 V9 := cVf_of hqq36 rfl cVq33
                      have m38_2q36 : Iq36 38 2 = Iq33 38 2 := hqq36.2.2.1 38 2 rfl
                      have m38_7q36 : Iq36 38 7 = Iq33 38 7 := hqq36.2.2.1 38 7 rfl
                      have hcq36 : inr (Aq33 403) → (∀ z, 0 ≤ z → z < 13 → Aq36 403 z = (Aq33 403) z * (v5 * so1) / 16) ∧ (yq36 = 1 → fM (Aq33 403) (v5 * so1)) ∧ (yq36 = 0 → ¬ fM (Aq33 403) (v5 * so1)) := hxq36
                      show jt _ 251 [(0, .ref (b + 38)), (1, .int (jI 3)), (2, .ref (b + 402)), (3, .int (jI so1)), (4, .int (jI v5))] [.int (jI yq36), .ref (b + 38)] (cmf b f0 Iq36 Aq36) _ _ _
                      refine cct_callV (Y := Y_RD_check) (ci := 2) (k := 38) (As := [.int (jI yq36)]) (rest := []) d_RD_readTerm_251 RD_c136 yk_RD_check yv_RD_check rfl (Nat.le_of_ble_eq_true rfl) (by decide) cc_3 rfl rfl (Nat.le_of_ble_eq_true rfl) (v_RD_check_x G _ b yq36 Iq36 Aq36 hpq36.1 hpq36.2.1 (by omega)) (fun rvq37 Iq37 Aq37 hq37 => ?_)
                      obtain ⟨yq37, rfl, ryq37, hqq37, hxq37⟩ := hq37
                      have hpq37 := cPx.trans hpq36 hqq37 rfl rfl
                      have cXq37 : Aq37 40 = X9 := (hqq37.2.2.2 40 rfl (by decide)).trans cXq36
                      have cYq37 : Aq37 41 = Y9 := (hqq37.2.2.2 41 rfl (by decide)).trans cYq36
                      have cNq37 : Iq37 39 3 = N9 := (hqq37.2.2.1 39 3 rfl).trans cNq36
                      have cVq37 : cVf Aq37 V9 := cVf_of hqq37 rfl cVq36
                      have m38_2q37 : Iq37 38 2 = Iq36 38 2 := hqq37.2.2.1 38 2 rfl
                      have a403q37 : Aq37 403 = Aq36 403 := hqq37.2.2.2 403 rfl (by decide)
                      obtain rfl : yq37 = 1 := ryq37
                      show jt _ 254 [(0, .ref (b + 38)), (1, .int (jI 3)), (2, .ref (b + 402)), (3, .int (jI so1)), (4, .int (jI v5))] [.int (jI 1)] (cmf b f0 Iq37 Aq37) _ _ _
                      refine jt_if_eq (t := 261) d_RD_readTerm_254 rfl (by unfold jRi; omega) (fun c38 => ?_) (fun c38 => ?_)
                      · skip
                        exfalso
                        omega
                      · skip
                        refine jt_iconst d_RD_readTerm_257 ?_
                        refine jt_goto (t := 262) d_RD_readTerm_258 rfl ?_
                        exact cm_ret d_RD_readTerm_262 rfl (jnz (by omega)) (⟨1, rfl, by omega, hpq37, fun _ => ⟨by
        have h9 : rdT N9 X9 Y9 V9 3 v6 (Jo1 38 7 = 1) (Iq33 38 2) (Aq33 403) (Iq33 38 7 = 1) := hwq33.1
        rw [ev6, j7o1] at h9
        have hY : Y9 (Jo1 38 2) = v5 := by omega
        have hg : (Iq37 38 7 = 1) ↔ ((Iq33 38 7 = 1) ∧ fM (Aq33 403) (Y9 (Jo1 38 2))) := by
          rw [hY]
          constructor
          · intro g9
            have g8 := hxq37.mp g9
            exact ⟨by omega, (fM_s s0o1).mp ((hcq36 (h9.2.1 (by omega))).2.1 g8.2)⟩
          · rintro ⟨g9, g8⟩
            refine hxq37.mpr ⟨by omega, ?_⟩
            by_cases y9 : yq36 = 0
            · exact absurd ((fM_s s0o1).mpr g8) ((hcq36 (h9.2.1 g9)).2.2 y9)
            · omega
        have h2 := hMo1 _ _ _ (rdT_mulp hwq3.2 (by have h9 := hwq8; rw [ev6] at h9; exact h9) (by have h9 := (show (v6 < N9 ∧ X9 v6 = 1) ∨ xW N9 X9 Y9 v6 3 from Or.inr hwq31.2); rw [ev6] at h9; exact h9) h9 hg)
        show rdT N9 X9 Y9 V9 3 (I 38 2) (I 38 7 = 1) (Iq37 38 2) (Aq37 403) (Iq37 38 7 = 1)
        rw [show Iq37 38 2 = Iq33 38 2 by omega, a403q37]
        exact rdT_same h2 (fun g9 z a d => by have g8 := hg.mp g9; rw [(hcq36 (h9.2.1 g8.1)).1 z a d, hY]; rw [hY] at g8; exact mul_s s0o1 _ (g8.2 z a d).1), show I 38 2 < Iq37 38 2 by omega⟩, fun z => absurd z (by omega)⟩)
              · skip
                obtain rfl : yq31 = 0 := by omega
                have hwq31 : ¬ xV N9 X9 Y9 v6 3 := fun z9 => hxq31.2 rfl ⟨by omega, z9⟩
                clear hxq31
                show jt _ 231 [(0, .ref (b + 38)), (1, .int (jI 3)), (2, .ref (b + 402)), (3, .int (jI so1)), (4, .int (jI v5))] [.int (jI 0)] (cmf b f0 (cu Jo1 38 2 v6) Bo1) _ _ _
                refine jt_if_eq (t := 263) d_RD_readTerm_231 rfl (by unfold jRi; omega) (fun c39 => ?_) (fun c39 => ?_)
                · skip
                  refine jt_aload_n d_RD_readTerm_263 rfl ?_
                  refine jt_bipush d_RD_readTerm_264 (by omega) ?_
                  refine jt_iload d_RD_readTerm_266 rfl ?_
                  refine jt_iload_n d_RD_readTerm_268 rfl ?_
                  refine jt_imul d_RD_readTerm_269 ?_
                  refine jt_i2l d_RD_readTerm_270 (by unfold jRi; omega) ?_
                  refine jt_ldc2 (z := 4096) d_RD_readTerm_271 RD_k147 ?_
                  refine jt_lmul d_RD_readTerm_274 ?_
                  refine jt_topln (fun v40 bv40 ev40 => ?_)
                  refine cct_callV (Y := Y_FO_set) (ci := 4) (k := 402) (As := [.int (jI 12), .long (jL v40)]) (rest := []) d_RD_readTerm_275 RD_c114 yk_FO_set yv_FO_set rfl (Nat.le_of_ble_eq_true rfl) (by decide) (cc_5 rfl) rfl rfl (Nat.le_of_ble_eq_true rfl) (v_FO_set_x G _ b 402 12 v40 (cu Jo1 38 2 v6) Bo1 p7.1 p7.2.1 (by decide) rfl (by omega) (by omega)) (fun rvq41 Iq41 Aq41 hq41 => ?_)
                  obtain ⟨rfl, hqq41, hxq41⟩ := hq41
                  have hpq41 := cPx.trans p7 hqq41 rfl rfl
                  have cXq41 : Aq41 40 = X9 := (hqq41.2.2.2 40 rfl (by decide)).trans cXo1
                  have cYq41 : Aq41 41 = Y9 := (hqq41.2.2.2 41 rfl (by decide)).trans cYo1
                  have cNq41 : Iq41 39 3 = N9 := (hqq41.2.2.1 39 3 rfl).trans cNo1
                  have cVq41 : cVf Aq41 V9 := cVf_of hqq41 rfl cVo1
                  have s38_2q41 : (cu Jo1 38 2 v6) 38 2 = v6 := rfl
                  have s38_7q41 : (cu Jo1 38 2 v6) 38 7 = Jo1 38 7 := rfl
                  have m38_2q41 : Iq41 38 2 = v6 := hqq41.2.2.1 38 2 rfl
                  have m38_7q41 : Iq41 38 7 = Jo1 38 7 := hqq41.2.2.1 38 7 rfl
                  have hcq41 : ∀ z, 0 ≤ z → z < 13 → Aq41 403 z = if z = 12 then v40 else 0 := hxq41
                  show jt _ 278 [(0, .ref (b + 38)), (1, .int (jI 3)), (2, .ref (b + 402)), (3, .int (jI so1)), (4, .int (jI v5))] [] (cmf b f0 Iq41 Aq41) _ _ _
                  refine jt_iconst d_RD_readTerm_278 ?_
                  exact cm_ret d_RD_readTerm_279 rfl (jnz (by omega)) (⟨1, rfl, by omega, hpq41, fun _ => ⟨by
        have hY : Y9 (Jo1 38 2) = v5 := by omega
        have h1 : rdT N9 X9 Y9 V9 3 (Jo1 38 2) (I 38 7 = 1) (Jo1 38 2 + 1) (fun i => if i = 12 then Y9 (Jo1 38 2) * 4096 else 0) (I 38 7 = 1) := rdT_con hwq3.2 (by have h9 := hwq8; rw [ev6] at h9; exact h9) (by have h9 := (show ¬ ((v6 < N9 ∧ X9 v6 = 1) ∨ xW N9 X9 Y9 v6 3) from fun z9 => z9.elim hwq22 hwq31); rw [ev6] at h9; exact h9) (by omega) (fun i _ _ => rfl)
        have h2 := hMo1 _ _ _ h1
        show rdT N9 X9 Y9 V9 3 (I 38 2) (I 38 7 = 1) (Iq41 38 2) (Aq41 403) (Iq41 38 7 = 1)
        rw [show Iq41 38 2 = Jo1 38 2 + 1 by omega, show Iq41 38 7 = I 38 7 by omega]
        refine rdT_same h2 (fun g9 z a d => ?_)
        rw [hcq41 z a d]
        show _ = so1 * (if z = 12 then Y9 (Jo1 38 2) * 4096 else 0)
        by_cases hz : z = 12
        · rw [if_pos hz, if_pos hz, hY]
          exact sgn_4 s0o1 (by omega) bv40 ev40
        · rw [if_neg hz, if_neg hz, Int.mul_zero], show I 38 2 < Iq41 38 2 by omega⟩, fun z => absurd z (by omega)⟩)
                · skip
                  exfalso
                  omega
        · skip
          exfalso
          omega
    · skip
      exfalso
      omega
  · skip
    obtain rfl : yq3 = 0 := by omega
    have hwq3 : ¬ xK N9 X9 (Jo1 38 2) 0 := fun z9 => hxq3.2 rfl ⟨by omega, z9.1, z9.2⟩
    clear hxq3
    show jt _ 66 [(0, .ref (b + 38)), (1, .int (jI 3)), (2, .ref (b + 402)), (3, .int (jI so1))] [.int (jI 0)] (cmf b f0 Jo1 Bo1) _ _ _
    refine jt_if_ne (t := 98) d_RD_readTerm_66 rfl (by unfold jRi; omega) (fun c42 => ?_) (fun c42 => ?_)
    · skip
      exfalso
      omega
    · skip
      refine jt_aload_n d_RD_readTerm_69 rfl ?_
      refine jt_iload_n d_RD_readTerm_70 rfl ?_
      refine cct_callV (Y := Y_RD_readPrimary) (ci := 2) (k := 38) (As := [.int (jI 3)]) (rest := []) d_RD_readTerm_71 RD_c130 yk_RD_readPrimary yv_RD_readPrimary rfl (Nat.le_of_ble_eq_true rfl) (by decide) cc_3 rfl rfl (Nat.le_of_ble_eq_true rfl) (v_RD_readPrimary_x3 G _ b Jo1 Bo1 hJo1.1 hJo1.2.1 (cTok_of (cPx.po hJo1) hK rfl) X9 cXo1 Y9 cYo1 N9 cNo1 V9 cVo1 hVr nmo1 hwq3) (fun rvq43 Iq43 Aq43 hq43 => ?_)
      obtain ⟨yq43, rfl, ryq43, hqq43, hxq43⟩ := hq43
      have hpq43 := cPx.trans hJo1 hqq43 rfl rfl
      have cXq43 : Aq43 40 = X9 := (hqq43.2.2.2 40 rfl (by decide)).trans cXo1
      have cYq43 : Aq43 41 = Y9 := (hqq43.2.2.2 41 rfl (by decide)).trans cYo1
      have cNq43 : Iq43 39 3 = N9 := (hqq43.2.2.1 39 3 rfl).trans cNo1
      have cVq43 : cVf Aq43 V9 := cVf_of hqq43 rfl cVo1
      by_cases gbq43 : yq43 = 0
      · skip
        obtain rfl : yq43 = 0 := by omega
        have hwq43 := hxq43.2 rfl
        clear hxq43
        show jt _ 74 [(0, .ref (b + 38)), (1, .int (jI 3)), (2, .ref (b + 402)), (3, .int (jI so1))] [.int (jI 0)] (cmf b f0 Iq43 Aq43) _ _ _
        refine jt_if_eq (t := 96) d_RD_readTerm_74 rfl (by unfold jRi; omega) (fun c44 => ?_) (fun c44 => ?_)
        · skip
          refine jt_iconst d_RD_readTerm_96 ?_
          exact cm_ret d_RD_readTerm_97 rfl (jnz (by omega)) (⟨0, rfl, by omega, hpq43, fun z => absurd z (by omega), fun _ => hMXo1 _ _ (by have h9 := hwq43; rw [j7o1] at h9; exact h9)⟩)
        · skip
          exfalso
          omega
      · skip
        obtain rfl : yq43 = 1 := by omega
        have hwq43 := hxq43.1 rfl
        clear hxq43
        show jt _ 74 [(0, .ref (b + 38)), (1, .int (jI 3)), (2, .ref (b + 402)), (3, .int (jI so1))] [.int (jI 1)] (cmf b f0 Iq43 Aq43) _ _ _
        refine jt_if_eq (t := 96) d_RD_readTerm_74 rfl (by unfold jRi; omega) (fun c45 => ?_) (fun c45 => ?_)
        · skip
          exfalso
          omega
        · skip
          refine jt_aload_n d_RD_readTerm_77 rfl ?_
          refine jt_aload_n d_RD_readTerm_78 rfl ?_
          refine jt_bipush d_RD_readTerm_79 (by omega) ?_
          refine jt_iload_n d_RD_readTerm_81 rfl ?_
          refine jt_imul d_RD_readTerm_82 ?_
          refine cct_callV (Y := Y_FO_multiply) (ci := 4) (k := 402) (As := [.int (jI (16 * so1))]) (rest := [.ref (b + 38)]) d_RD_readTerm_83 RD_c133 yk_FO_multiply yv_FO_multiply rfl (Nat.le_of_ble_eq_true rfl) (by decide) (cc_5 rfl) rfl rfl (Nat.le_of_ble_eq_true rfl) (v_FO_multiply_x G _ b 402 (16 * so1) Iq43 Aq43 hpq43.1 hpq43.2.1 (by decide) rfl (by omega)) (fun rvq46 Iq46 Aq46 hq46 => ?_)
          obtain ⟨yq46, rfl, ryq46, hqq46, hxq46⟩ := hq46
          have hpq46 := cPx.trans hpq43 hqq46 rfl rfl
          have cXq46 : Aq46 40 = X9 := (hqq46.2.2.2 40 rfl (by decide)).trans cXq43
          have cYq46 : Aq46 41 = Y9 := (hqq46.2.2.2 41 rfl (by decide)).trans cYq43
          have cNq46 : Iq46 39 3 = N9 := (hqq46.2.2.1 39 3 rfl).trans cNq43
          have cVq46 : cVf Aq46 V9 := cVf_of hqq46 rfl cVq43
          have m38_2q46 : Iq46 38 2 = Iq43 38 2 := hqq46.2.2.1 38 2 rfl
          have m38_7q46 : Iq46 38 7 = Iq43 38 7 := hqq46.2.2.1 38 7 rfl
          have hcq46 : inr (Aq43 403) → (∀ z, 0 ≤ z → z < 13 → Aq46 403 z = (Aq43 403) z * (16 * so1) / 16) ∧ (yq46 = 1 → fM (Aq43 403) (16 * so1)) ∧ (yq46 = 0 → ¬ fM (Aq43 403) (16 * so1)) := hxq46
          show jt _ 86 [(0, .ref (b + 38)), (1, .int (jI 3)), (2, .ref (b + 402)), (3, .int (jI so1))] [.int (jI yq46), .ref (b + 38)] (cmf b f0 Iq46 Aq46) _ _ _
          refine cct_callV (Y := Y_RD_check) (ci := 2) (k := 38) (As := [.int (jI yq46)]) (rest := []) d_RD_readTerm_86 RD_c136 yk_RD_check yv_RD_check rfl (Nat.le_of_ble_eq_true rfl) (by decide) cc_3 rfl rfl (Nat.le_of_ble_eq_true rfl) (v_RD_check_x G _ b yq46 Iq46 Aq46 hpq46.1 hpq46.2.1 (by omega)) (fun rvq47 Iq47 Aq47 hq47 => ?_)
          obtain ⟨yq47, rfl, ryq47, hqq47, hxq47⟩ := hq47
          have hpq47 := cPx.trans hpq46 hqq47 rfl rfl
          have cXq47 : Aq47 40 = X9 := (hqq47.2.2.2 40 rfl (by decide)).trans cXq46
          have cYq47 : Aq47 41 = Y9 := (hqq47.2.2.2 41 rfl (by decide)).trans cYq46
          have cNq47 : Iq47 39 3 = N9 := (hqq47.2.2.1 39 3 rfl).trans cNq46
          have cVq47 : cVf Aq47 V9 := cVf_of hqq47 rfl cVq46
          have m38_2q47 : Iq47 38 2 = Iq46 38 2 := hqq47.2.2.1 38 2 rfl
          have a403q47 : Aq47 403 = Aq46 403 := hqq47.2.2.2 403 rfl (by decide)
          obtain rfl : yq47 = 1 := ryq47
          show jt _ 89 [(0, .ref (b + 38)), (1, .int (jI 3)), (2, .ref (b + 402)), (3, .int (jI so1))] [.int (jI 1)] (cmf b f0 Iq47 Aq47) _ _ _
          refine jt_if_eq (t := 96) d_RD_readTerm_89 rfl (by unfold jRi; omega) (fun c48 => ?_) (fun c48 => ?_)
          · skip
            exfalso
            omega
          · skip
            refine jt_iconst d_RD_readTerm_92 ?_
            refine jt_goto (t := 97) d_RD_readTerm_93 rfl ?_
            exact cm_ret d_RD_readTerm_97 rfl (jnz (by omega)) (⟨1, rfl, by omega, hpq47, fun _ => ⟨by
        have h1 := hwq43.1
        rw [j7o1] at h1
        have h2 := hMo1 _ _ _ h1
        show rdT N9 X9 Y9 V9 3 (I 38 2) (I 38 7 = 1) (Iq47 38 2) (Aq47 403) (Iq47 38 7 = 1)
        rw [show Iq47 38 2 = Iq43 38 2 by omega, a403q47]
        refine rdT_g (rdT_same h2 (fun g9 z a d => by rw [(hcq46 (h1.2.1 g9)).1 z a d, (sg_16 s0o1 _).1])) ⟨fun g9 => ?_, fun g9 => ?_⟩
        · have := hxq47.mp g9; omega
        · refine hxq47.mpr ⟨by omega, ?_⟩
          by_cases y9 : yq46 = 0
          · exact absurd (fM_16 s0o1 (h1.2.1 g9)) ((hcq46 (h1.2.1 g9)).2.2 y9)
          · omega, show I 38 2 < Iq47 38 2 by omega⟩, fun z => absurd z (by omega)⟩)
set_option maxRecDepth 100000 in
set_option maxHeartbeats 4000000 in
theorem l46_RD_readExpression_x3v (G : jG) (d b : Nat)  (I : Nat → Nat → Int) (A : Nat → Int → Int) (hI : cSI I) (hA : cSA A) (hK : cTok A) (X9 : Int → Int) (hX : A 40 = X9) (Y9 : Int → Int) (hY : A 41 = Y9) (N9 : Int) (hN : I 39 3 = N9) (V9 : Int → Int → Int) (hV : cVf A V9) (hVr : ∀ v, 0 ≤ v → v < 12 → inr (V9 v)) (f0 : jF) (sz : Nat)   : ∀ (n9 : Nat) (u : Int) (v : Int) (k : Int) (J : Nat → Nat → Int) (B : Nat → Int → Int), cPx [610, 611, 615] [384, 403, 422, 386, 405, 424, 388, 407, 426, 390, 409, 428, 392, 411, 430, 394, 413, 432] I A J B → (0 ≤ u ∧ u ≤ 1) → (0 ≤ v ∧ v ≤ 1) → (0 ≤ k ∧ k ≤ 300) → (J 38 7 = 1 → I 38 7 = 1) → (I 38 2 + 2 * k ≤ J 38 2 + (1 - v)) → (v = 0 → 1 ≤ k) → (k = 0 → u = 0) → (J 38 7 = 1 → ∀ i, 0 ≤ i → i < 13 → -(68719476736 * k) ≤ B 384 i ∧ B 384 i ≤ 68719476736 * k) → (v = 1 → ∀ (S : List Fr) (r : ER), dep S = 3 → nb S → RE N9 X9 Y9 V9 (.op (J 38 2) (fk k u (B 384) ++ S) (J 38 7 = 1)) r → RE N9 X9 Y9 V9 (.op (I 38 2) S (I 38 7 = 1)) r) → (v = 0 → (¬ xV N9 X9 Y9 (J 38 2) 0 ∧ ¬ xV N9 X9 Y9 (J 38 2) 1) ∧ ∀ (S : List Fr) (r : ER), dep S = 3 → nb S → RE N9 X9 Y9 V9 (.sd (J 38 2) (B 384) S (J 38 7 = 1)) r → RE N9 X9 Y9 V9 (.op (I 38 2) S (I 38 7 = 1)) r) → (B 40 = X9) → (B 41 = Y9) → (J 39 3 = N9) → (cVf B V9) → 300 - k < (n9 : Int) → jt (jm G Y_RD_readExpression (gR (d + 18)) (cQ b f0 sz (fun (rv : Option Value) (I2 : Nat → Nat → Int) (A2 : Nat → Int → Int) => ∃ y : Int, rv = some (.int (jI y)) ∧ (0 ≤ y ∧ y ≤ 1) ∧ cPx [610, 611, 615] [384, 403, 422, 386, 405, 424, 388, 407, 426, 390, 409, 428, 392, 411, 430, 394, 413, 432] I A I2 A2 ∧ (y = 1 → rdE N9 X9 Y9 V9 3 (I 38 2) (I 38 7 = 1) (I2 38 2) (A2 384) (I2 38 7 = 1) ∧ I 38 2 < I2 38 2) ∧ (y = 0 → rdXn N9 X9 Y9 V9 3 (I 38 2) (I 38 7 = 1) (I2 38 3) (I2 38 2))))) 46 [(0, .ref (b + 38)), (1, .int (jI 3)), (2, .ref (b + 383)), (3, .int (jI u)), (4, .int (jI v)), (5, .int (jI k))] [] (cmf b f0 J B) sz 0 0 := by
  have r39 : 0 ≤ I 39 3 ∧ I 39 3 ≤ 300 := hI 39 3
  have r38 : 0 ≤ I 38 2 ∧ I 38 2 ≤ 300 := hI 38 2
  intro n9
  induction n9 with
  | zero =>
    intro u v k J B hJ u0 v0 k0 jg kp kv hu hb hL hS cX cY cN cV hmeas
    have q38 : 0 ≤ J 38 2 ∧ J 38 2 ≤ 300 := hJ.1 38 2
    have q7 : 0 ≤ J 38 7 ∧ J 38 7 ≤ 1 := hJ.1 38 7
    exfalso
    omega
  | succ n9 ih =>
    intro u v k J B hJ u0 v0 k0 jg kp kv hu hb hL hS cX cY cN cV hmeas
    have q38 : 0 ≤ J 38 2 ∧ J 38 2 ≤ 300 := hJ.1 38 2
    have q7 : 0 ≤ J 38 7 ∧ J 38 7 ≤ 1 := hJ.1 38 7
    refine jt_iload d_RD_readExpression_46 rfl ?_
    refine jt_sipush d_RD_readExpression_48 (by omega) ?_
    refine jt_icmp_ge (t := 156) d_RD_readExpression_51 rfl (by unfold jRi; omega) (by unfold jRi; omega) (fun c101 => ?_) (fun c101 => ?_)
    · skip
      refine jt_aload_n d_RD_readExpression_156 rfl ?_
      refine jt_aload_n d_RD_readExpression_157 rfl ?_
      refine cct_callV (Y := Y_FO_hasNumbers) (ci := 4) (k := 383) (As := []) (rest := [.ref (b + 38)]) d_RD_readExpression_158 RD_c127 yk_FO_hasNumbers yv_FO_hasNumbers rfl (Nat.le_of_ble_eq_true rfl) (by decide) (cc_5 rfl) rfl rfl (Nat.le_of_ble_eq_true rfl) (v_FO_hasNumbers_x G _ b 383 J B hJ.1 hJ.2.1 (by decide) rfl) (fun rvq102 Iq102 Aq102 hq102 => ?_)
      obtain ⟨yq102, rfl, ryq102, hIq102, hAq102, hxq102⟩ := hq102
      rw [hIq102, hAq102]
      by_cases gbq102 : yq102 = 1
      · skip
        obtain rfl : yq102 = 1 := by omega
        have hwq102 := hxq102.1 rfl
        show jt _ 161 [(0, .ref (b + 38)), (1, .int (jI 3)), (2, .ref (b + 383)), (3, .int (jI u)), (4, .int (jI v)), (5, .int (jI k))] [.int (jI 1), .ref (b + 38)] (cmf b f0 J B) _ _ _
        refine jt_if_eq (t := 175) d_RD_readExpression_161 rfl (by unfold jRi; omega) (fun c103 => ?_) (fun c103 => ?_)
        · skip
          exfalso
          omega
        · skip
          refine jt_aload_n d_RD_readExpression_164 rfl ?_
          refine cm_get (k := 38) (v := .int (jI (J 38 7))) d_RD_readExpression_165 RD_f56 (by decide) cc_3 rfl ?_
          have rb104 : 0 ≤ J 38 7 ∧ J 38 7 ≤ 1 := hJ.1 38 7
          refine jt_if_eq (t := 175) d_RD_readExpression_168 rfl (by unfold jRi; omega) (fun c105 => ?_) (fun c105 => ?_)
          · skip
            refine jt_iconst d_RD_readExpression_175 ?_
            refine cm_put (k := 38) (j := 7) (v := 0) d_RD_readExpression_176 (RD_w56 _ rfl) (by decide) cc_3 (jnz (by omega)) rfl (Nat.le_of_ble_eq_true rfl) rfl ?_
            have p106 := cPx.I 38 7 0 hJ rfl (show 0 ≤ 0 ∧ 0 ≤ 1 by omega)
            refine jt_iconst d_RD_readExpression_179 ?_
            exact cm_ret d_RD_readExpression_180 rfl (jnz (by omega)) (⟨1, rfl, by omega, p106, fun _ => ⟨by
          have hg : ((0 : Int) = 1) ↔ (J 38 7 = 1 ∧ inr (B 384)) := ⟨fun z => absurd z (by omega), fun z => by first | exact absurd z.2 hwq102 | (have := z.1; omega)⟩
          have h9 := hS (by omega)
          exact ⟨fun z => jg (hg.mp z).1, fun z => (hg.mp z).2, fun S r hS9 hn k9 => h9.2 S r hS9 hn (RE.chk h9.1.1 h9.1.2 hg k9)⟩, show I 38 2 < J 38 2 by omega⟩, fun z => absurd z (by omega)⟩)
          · skip
            refine jt_iconst d_RD_readExpression_171 ?_
            refine jt_goto (t := 176) d_RD_readExpression_172 rfl ?_
            refine cm_put (k := 38) (j := 7) (v := 1) d_RD_readExpression_176 (RD_w56 _ rfl) (by decide) cc_3 (jnz (by omega)) rfl (Nat.le_of_ble_eq_true rfl) rfl ?_
            have p107 := cPx.I 38 7 1 hJ rfl (show 0 ≤ 1 ∧ 1 ≤ 1 by omega)
            refine jt_iconst d_RD_readExpression_179 ?_
            exact cm_ret d_RD_readExpression_180 rfl (jnz (by omega)) (⟨1, rfl, by omega, p107, fun _ => ⟨by
          have hg : ((1 : Int) = 1) ↔ (J 38 7 = 1 ∧ inr (B 384)) := ⟨fun _ => ⟨by omega, hwq102⟩, fun _ => rfl⟩
          have h9 := hS (by omega)
          exact ⟨fun z => jg (hg.mp z).1, fun z => (hg.mp z).2, fun S r hS9 hn k9 => h9.2 S r hS9 hn (RE.chk h9.1.1 h9.1.2 hg k9)⟩, show I 38 2 < J 38 2 by omega⟩, fun z => absurd z (by omega)⟩)
      · skip
        obtain rfl : yq102 = 0 := by omega
        have hwq102 := hxq102.2 rfl
        show jt _ 161 [(0, .ref (b + 38)), (1, .int (jI 3)), (2, .ref (b + 383)), (3, .int (jI u)), (4, .int (jI v)), (5, .int (jI k))] [.int (jI 0), .ref (b + 38)] (cmf b f0 J B) _ _ _
        refine jt_if_eq (t := 175) d_RD_readExpression_161 rfl (by unfold jRi; omega) (fun c108 => ?_) (fun c108 => ?_)
        · skip
          refine jt_iconst d_RD_readExpression_175 ?_
          refine cm_put (k := 38) (j := 7) (v := 0) d_RD_readExpression_176 (RD_w56 _ rfl) (by decide) cc_3 (jnz (by omega)) rfl (Nat.le_of_ble_eq_true rfl) rfl ?_
          have p109 := cPx.I 38 7 0 hJ rfl (show 0 ≤ 0 ∧ 0 ≤ 1 by omega)
          refine jt_iconst d_RD_readExpression_179 ?_
          exact cm_ret d_RD_readExpression_180 rfl (jnz (by omega)) (⟨1, rfl, by omega, p109, fun _ => ⟨by
          have hg : ((0 : Int) = 1) ↔ (J 38 7 = 1 ∧ inr (B 384)) := ⟨fun z => absurd z (by omega), fun z => by first | exact absurd z.2 hwq102 | (have := z.1; omega)⟩
          have h9 := hS (by omega)
          exact ⟨fun z => jg (hg.mp z).1, fun z => (hg.mp z).2, fun S r hS9 hn k9 => h9.2 S r hS9 hn (RE.chk h9.1.1 h9.1.2 hg k9)⟩, show I 38 2 < J 38 2 by omega⟩, fun z => absurd z (by omega)⟩)
        · skip
          exfalso
          omega
    · skip
      refine jt_iload d_RD_readExpression_54 rfl ?_
      refine jt_if_eq (t := 156) d_RD_readExpression_56 rfl (by unfold jRi; omega) (fun c110 => ?_) (fun c110 => ?_)
      · skip
        refine jt_aload_n d_RD_readExpression_156 rfl ?_
        refine jt_aload_n d_RD_readExpression_157 rfl ?_
        refine cct_callV (Y := Y_FO_hasNumbers) (ci := 4) (k := 383) (As := []) (rest := [.ref (b + 38)]) d_RD_readExpression_158 RD_c127 yk_FO_hasNumbers yv_FO_hasNumbers rfl (Nat.le_of_ble_eq_true rfl) (by decide) (cc_5 rfl) rfl rfl (Nat.le_of_ble_eq_true rfl) (v_FO_hasNumbers_x G _ b 383 J B hJ.1 hJ.2.1 (by decide) rfl) (fun rvq111 Iq111 Aq111 hq111 => ?_)
        obtain ⟨yq111, rfl, ryq111, hIq111, hAq111, hxq111⟩ := hq111
        rw [hIq111, hAq111]
        by_cases gbq111 : yq111 = 1
        · skip
          obtain rfl : yq111 = 1 := by omega
          have hwq111 := hxq111.1 rfl
          show jt _ 161 [(0, .ref (b + 38)), (1, .int (jI 3)), (2, .ref (b + 383)), (3, .int (jI u)), (4, .int (jI v)), (5, .int (jI k))] [.int (jI 1), .ref (b + 38)] (cmf b f0 J B) _ _ _
          refine jt_if_eq (t := 175) d_RD_readExpression_161 rfl (by unfold jRi; omega) (fun c112 => ?_) (fun c112 => ?_)
          · skip
            exfalso
            omega
          · skip
            refine jt_aload_n d_RD_readExpression_164 rfl ?_
            refine cm_get (k := 38) (v := .int (jI (J 38 7))) d_RD_readExpression_165 RD_f56 (by decide) cc_3 rfl ?_
            have rb113 : 0 ≤ J 38 7 ∧ J 38 7 ≤ 1 := hJ.1 38 7
            refine jt_if_eq (t := 175) d_RD_readExpression_168 rfl (by unfold jRi; omega) (fun c114 => ?_) (fun c114 => ?_)
            · skip
              refine jt_iconst d_RD_readExpression_175 ?_
              refine cm_put (k := 38) (j := 7) (v := 0) d_RD_readExpression_176 (RD_w56 _ rfl) (by decide) cc_3 (jnz (by omega)) rfl (Nat.le_of_ble_eq_true rfl) rfl ?_
              have p115 := cPx.I 38 7 0 hJ rfl (show 0 ≤ 0 ∧ 0 ≤ 1 by omega)
              refine jt_iconst d_RD_readExpression_179 ?_
              exact cm_ret d_RD_readExpression_180 rfl (jnz (by omega)) (⟨1, rfl, by omega, p115, fun _ => ⟨by
          have hg : ((0 : Int) = 1) ↔ (J 38 7 = 1 ∧ inr (B 384)) := ⟨fun z => absurd z (by omega), fun z => by first | exact absurd z.2 hwq111 | (have := z.1; omega)⟩
          have h9 := hS (by omega)
          exact ⟨fun z => jg (hg.mp z).1, fun z => (hg.mp z).2, fun S r hS9 hn k9 => h9.2 S r hS9 hn (RE.chk h9.1.1 h9.1.2 hg k9)⟩, show I 38 2 < J 38 2 by omega⟩, fun z => absurd z (by omega)⟩)
            · skip
              refine jt_iconst d_RD_readExpression_171 ?_
              refine jt_goto (t := 176) d_RD_readExpression_172 rfl ?_
              refine cm_put (k := 38) (j := 7) (v := 1) d_RD_readExpression_176 (RD_w56 _ rfl) (by decide) cc_3 (jnz (by omega)) rfl (Nat.le_of_ble_eq_true rfl) rfl ?_
              have p116 := cPx.I 38 7 1 hJ rfl (show 0 ≤ 1 ∧ 1 ≤ 1 by omega)
              refine jt_iconst d_RD_readExpression_179 ?_
              exact cm_ret d_RD_readExpression_180 rfl (jnz (by omega)) (⟨1, rfl, by omega, p116, fun _ => ⟨by
          have hg : ((1 : Int) = 1) ↔ (J 38 7 = 1 ∧ inr (B 384)) := ⟨fun _ => ⟨by omega, hwq111⟩, fun _ => rfl⟩
          have h9 := hS (by omega)
          exact ⟨fun z => jg (hg.mp z).1, fun z => (hg.mp z).2, fun S r hS9 hn k9 => h9.2 S r hS9 hn (RE.chk h9.1.1 h9.1.2 hg k9)⟩, show I 38 2 < J 38 2 by omega⟩, fun z => absurd z (by omega)⟩)
        · skip
          obtain rfl : yq111 = 0 := by omega
          have hwq111 := hxq111.2 rfl
          show jt _ 161 [(0, .ref (b + 38)), (1, .int (jI 3)), (2, .ref (b + 383)), (3, .int (jI u)), (4, .int (jI v)), (5, .int (jI k))] [.int (jI 0), .ref (b + 38)] (cmf b f0 J B) _ _ _
          refine jt_if_eq (t := 175) d_RD_readExpression_161 rfl (by unfold jRi; omega) (fun c117 => ?_) (fun c117 => ?_)
          · skip
            refine jt_iconst d_RD_readExpression_175 ?_
            refine cm_put (k := 38) (j := 7) (v := 0) d_RD_readExpression_176 (RD_w56 _ rfl) (by decide) cc_3 (jnz (by omega)) rfl (Nat.le_of_ble_eq_true rfl) rfl ?_
            have p118 := cPx.I 38 7 0 hJ rfl (show 0 ≤ 0 ∧ 0 ≤ 1 by omega)
            refine jt_iconst d_RD_readExpression_179 ?_
            exact cm_ret d_RD_readExpression_180 rfl (jnz (by omega)) (⟨1, rfl, by omega, p118, fun _ => ⟨by
          have hg : ((0 : Int) = 1) ↔ (J 38 7 = 1 ∧ inr (B 384)) := ⟨fun z => absurd z (by omega), fun z => by first | exact absurd z.2 hwq111 | (have := z.1; omega)⟩
          have h9 := hS (by omega)
          exact ⟨fun z => jg (hg.mp z).1, fun z => (hg.mp z).2, fun S r hS9 hn k9 => h9.2 S r hS9 hn (RE.chk h9.1.1 h9.1.2 hg k9)⟩, show I 38 2 < J 38 2 by omega⟩, fun z => absurd z (by omega)⟩)
          · skip
            exfalso
            omega
      · skip
        refine jt_aload_n d_RD_readExpression_59 rfl ?_
        refine jt_iload_n d_RD_readExpression_60 rfl ?_
        refine cct_callV (Y := Y_RD_readTerm) (ci := 2) (k := 38) (As := [.int (jI 3)]) (rest := []) d_RD_readExpression_61 RD_c118 yk_RD_readTerm yv_RD_readTerm rfl (Nat.le_of_ble_eq_true rfl) (by decide) cc_3 rfl rfl (Nat.le_of_ble_eq_true rfl) (v_RD_readTerm_x3 G _ b J B hJ.1 hJ.2.1 (cTok_of (cPx.po hJ) hK rfl) X9 cX Y9 cY N9 cN V9 cV hVr) (fun rvq119 Iq119 Aq119 hq119 => ?_)
        obtain ⟨yq119, rfl, ryq119, hqq119, hxq119⟩ := hq119
        have hpq119 := cPx.trans hJ hqq119 rfl rfl
        have cXq119 : Aq119 40 = X9 := (hqq119.2.2.2 40 rfl (by decide)).trans cX
        have cYq119 : Aq119 41 = Y9 := (hqq119.2.2.2 41 rfl (by decide)).trans cY
        have cNq119 : Iq119 39 3 = N9 := (hqq119.2.2.1 39 3 rfl).trans cN
        have cVq119 : cVf Aq119 V9 := cVf_of hqq119 rfl cV
        have a384q119 : Aq119 384 = B 384 := hqq119.2.2.2 384 rfl (by decide)
        by_cases gbq119 : yq119 = 0
        · skip
          obtain rfl : yq119 = 0 := by omega
          have hwq119 := hxq119.2 rfl
          clear hxq119
          show jt _ 64 [(0, .ref (b + 38)), (1, .int (jI 3)), (2, .ref (b + 383)), (3, .int (jI u)), (4, .int (jI v)), (5, .int (jI k))] [.int (jI 0)] (cmf b f0 Iq119 Aq119) _ _ _
          refine jt_if_ne (t := 69) d_RD_readExpression_64 rfl (by unfold jRi; omega) (fun c120 => ?_) (fun c120 => ?_)
          · skip
            exfalso
            omega
          · skip
            refine jt_iconst d_RD_readExpression_67 ?_
            exact cm_ret d_RD_readExpression_68 rfl (jnz (by omega)) (⟨0, rfl, by omega, hpq119, fun z => absurd z (by omega), fun _ S hS9 hn => hL (by omega) S _ hS9 hn (hwq119 (fk k u (B 384) ++ S) (by rw [dep_fk]; exact hS9))⟩)
        · skip
          obtain rfl : yq119 = 1 := by omega
          have hwq119 := hxq119.1 rfl
          clear hxq119
          show jt _ 64 [(0, .ref (b + 38)), (1, .int (jI 3)), (2, .ref (b + 383)), (3, .int (jI u)), (4, .int (jI v)), (5, .int (jI k))] [.int (jI 1)] (cmf b f0 Iq119 Aq119) _ _ _
          refine jt_if_ne (t := 69) d_RD_readExpression_64 rfl (by unfold jRi; omega) (fun c121 => ?_) (fun c121 => ?_)
          · skip
            refine jt_iload_n d_RD_readExpression_69 rfl ?_
            refine jt_if_eq (t := 86) d_RD_readExpression_70 rfl (by unfold jRi; omega) (fun c122 => ?_) (fun c122 => ?_)
            · skip
              refine jt_aload_n d_RD_readExpression_86 rfl ?_
              refine jt_aload_n d_RD_readExpression_87 rfl ?_
              refine cm_get (k := 38) (v := .ref (b + 395)) d_RD_readExpression_88 RD_f43 (by decide) cc_3 rfl ?_
              refine jt_iload_n d_RD_readExpression_91 rfl ?_
              refine cm_ldF (k := 395) (n := 9) (z := 3) d_RD_readExpression_92 (by decide) rfl rfl (by omega) (by omega) (by omega) ?_
              show jt _ 93 [(0, .ref (b + 38)), (1, .int (jI 3)), (2, .ref (b + 383)), (3, .int (jI u)), (4, .int (jI v)), (5, .int (jI k))] [.ref (b + 402), .ref (b + 383)] (cmf b f0 Iq119 Aq119) _ _ _
              refine cct_callV (Y := Y_FO_add) (ci := 4) (k := 383) (As := [.ref (b + 402)]) (rest := []) d_RD_readExpression_93 RD_c124 yk_FO_add yv_FO_add rfl (Nat.le_of_ble_eq_true rfl) (by decide) (cc_5 rfl) rfl rfl (Nat.le_of_ble_eq_true rfl) (v_FO_add_x G _ b 383 402 Iq119 Aq119 hpq119.1 hpq119.2.1 (by decide) rfl (by decide) rfl (by omega)) (fun rvq123 Iq123 Aq123 hq123 => ?_)
              obtain ⟨rfl, hqq123, hxq123⟩ := hq123
              have hpq123 := cPx.trans hpq119 hqq123 rfl rfl
              have cXq123 : Aq123 40 = X9 := (hqq123.2.2.2 40 rfl (by decide)).trans cXq119
              have cYq123 : Aq123 41 = Y9 := (hqq123.2.2.2 41 rfl (by decide)).trans cYq119
              have cNq123 : Iq123 39 3 = N9 := (hqq123.2.2.1 39 3 rfl).trans cNq119
              have cVq123 : cVf Aq123 V9 := cVf_of hqq123 rfl cVq119
              have m38_2q123 : Iq123 38 2 = Iq119 38 2 := hqq123.2.2.1 38 2 rfl
              have m38_7q123 : Iq123 38 7 = Iq119 38 7 := hqq123.2.2.1 38 7 rfl
              have hcq123 : ∀ z, 0 ≤ z → z < 13 → jRl ((Aq119 384) z + (Aq119 403) z) → Aq123 384 z = (Aq119 384) z + (Aq119 403) z := hxq123
              show jt _ 96 [(0, .ref (b + 38)), (1, .int (jI 3)), (2, .ref (b + 383)), (3, .int (jI u)), (4, .int (jI v)), (5, .int (jI k))] [] (cmf b f0 Iq123 Aq123) _ _ _
              have hval : Iq119 38 7 = 1 → ∀ i, 0 ≤ i → i < 13 → Aq123 384 i = B 384 i + Aq119 403 i ∧ -(68719476736 * (k + 1)) ≤ Aq123 384 i ∧ Aq123 384 i ≤ 68719476736 * (k + 1) := fun g9 i a c => by
                have h1 := hwq119.1.2.1 g9 i a c
                have h2 := hb (hwq119.1.1 g9) i a c
                have h3 := hcq123 i a c (by rw [a384q119]; unfold jRl; omega)
                rw [a384q119] at h3
                omega
              have hsd : ∀ (S : List Fr) (r : ER), dep S = 3 → nb S → RE N9 X9 Y9 V9 (.sd (Iq119 38 2) (Aq123 384) S (Iq119 38 7 = 1)) r → RE N9 X9 Y9 V9 (.op (I 38 2) S (I 38 7 = 1)) r := fun S r hS9 hn k9 => by
                refine hL (by omega) S r hS9 hn (hwq119.1.2.2 (fk k u (B 384) ++ S) r (by rw [dep_fk]; exact hS9) (re_term hn (fun z g9 i a c => by have h4 := hval g9 i a c; have h5 := hb (hwq119.1.1 g9) i a c; rw [h4.1]; rw [z] at h5; omega) (fun _ z => absurd z (by omega)) (fun _ _ g9 i a c => (hval g9 i a c).1) (fun g9 i a c => ?_) k9))
                have h4 := hval g9 i a c
                omega
              have f2 : Iq123 38 2 = Iq119 38 2 := m38_2q123
              have f7 : Iq123 38 7 = Iq119 38 7 := m38_7q123
              have tlt := hwq119.2
              refine jt_aload_n d_RD_readExpression_96 rfl ?_
              refine cm_get (k := 38) (v := .ref (b + 39)) d_RD_readExpression_97 RD_f14 (by decide) cc_3 rfl ?_
              refine jt_aload_n d_RD_readExpression_100 rfl ?_
              refine cm_get (k := 38) (v := .int (jI (Iq123 38 2))) d_RD_readExpression_101 RD_f60 (by decide) cc_3 rfl ?_
              have rb124 : 0 ≤ Iq123 38 2 ∧ Iq123 38 2 ≤ 300 := hpq123.1 38 2
              refine jt_iconst d_RD_readExpression_104 ?_
              refine cct_callV (Y := Y_TR_isWord) (ci := 0) (k := 39) (As := [.int (jI (Iq123 38 2)), .int (jI 1)]) (rest := []) d_RD_readExpression_105 RD_c91 yk_TR_isWord yv_TR_isWord rfl (Nat.le_of_ble_eq_true rfl) (by decide) (cc_1 rfl) rfl rfl (Nat.le_of_ble_eq_true rfl) (v_TR_isWord_x G _ b (Iq123 38 2) 1 Iq123 Aq123 hpq123.1 hpq123.2.1 X9 cXq123 Y9 cYq123 N9 cNq123 (by omega) (by omega)) (fun rvq125 Iq125 Aq125 hq125 => ?_)
              obtain ⟨yq125, rfl, ryq125, hIq125, hAq125, hxq125⟩ := hq125
              rw [hIq125, hAq125]
              by_cases gbq125 : yq125 = 1
              · skip
                obtain rfl : yq125 = 1 := by omega
                have hwq125 := hxq125.1 rfl
                clear hxq125
                show jt _ 108 [(0, .ref (b + 38)), (1, .int (jI 3)), (2, .ref (b + 383)), (3, .int (jI u)), (4, .int (jI v)), (5, .int (jI k))] [.int (jI 1)] (cmf b f0 Iq123 Aq123) _ _ _
                refine jt_istore_n (L' := [(0, .ref (b + 38)), (1, .int (jI 3)), (2, .ref (b + 383)), (3, .int (jI 1)), (4, .int (jI v)), (5, .int (jI k))]) d_RD_readExpression_108 (Nat.le_of_ble_eq_true rfl) rfl ?_
                refine jt_iload_n d_RD_readExpression_109 rfl ?_
                refine jt_if_ne (t := 128) d_RD_readExpression_110 rfl (by unfold jRi; omega) (fun c126 => ?_) (fun c126 => ?_)
                · skip
                  refine jt_iconst d_RD_readExpression_128 ?_
                  refine jt_goto (t := 133) d_RD_readExpression_129 rfl ?_
                  refine jt_istore (L' := [(0, .ref (b + 38)), (1, .int (jI 3)), (2, .ref (b + 383)), (3, .int (jI 1)), (4, .int (jI 1)), (5, .int (jI k))]) d_RD_readExpression_133 (Nat.le_of_ble_eq_true rfl) rfl ?_
                  refine jt_iload d_RD_readExpression_135 rfl ?_
                  refine jt_if_eq (t := 150) d_RD_readExpression_137 rfl (by unfold jRi; omega) (fun c127 => ?_) (fun c127 => ?_)
                  · skip
                    exfalso
                    omega
                  · skip
                    refine jt_aload_n d_RD_readExpression_140 rfl ?_
                    refine jt_dup d_RD_readExpression_141 rfl ?_
                    refine cm_get (k := 38) (v := .int (jI (Iq123 38 2))) d_RD_readExpression_142 RD_f60 (by decide) cc_3 rfl ?_
                    refine jt_iconst d_RD_readExpression_145 ?_
                    refine jt_iadd d_RD_readExpression_146 ?_
                    refine jt_topi (fun v128 ev128 => ?_)
                    refine cm_put (k := 38) (j := 2) (v := v128) d_RD_readExpression_147 (RD_w60 _ rfl) (by decide) cc_3 rfl rfl (Nat.le_of_ble_eq_true rfl) rfl ?_
                    have p129 := cPx.I 38 2 v128 hpq123 rfl (show 0 ≤ v128 ∧ v128 ≤ 300 by omega)
                    refine jt_iinc (L' := [(0, .ref (b + 38)), (1, .int (jI 3)), (2, .ref (b + 383)), (3, .int (jI 1)), (4, .int (jI 1)), (5, .int (jI (k + 1)))]) d_RD_readExpression_150 rfl (Nat.le_of_ble_eq_true rfl) rfl ?_
                    refine jt_goto (t := 46) d_RD_readExpression_153 rfl ?_
                    exact ih 1 1 (k + 1) (cu Iq123 38 2 v128) Aq123 p129 (by omega) (by omega) (by omega) (show Iq123 38 7 = 1 → I 38 7 = 1 from fun g9 => jg (hwq119.1.1 (by rw [← f7]; exact g9))) (show I 38 2 + 2 * (k + 1) ≤ v128 + (1 - 1) by omega) (by omega) (by omega) (fun g9 i a c => (hval (by rw [← f7]; exact g9) i a c).2) (fun _ S r hS9 hn k9 => hsd S r hS9 hn (RE.sub (by have h9 := hwq125.2; rw [f2] at h9; exact h9) (by have h9 : RE N9 X9 Y9 V9 (.op v128 (fk (k + 1) 1 (Aq123 384) ++ S) (Iq123 38 7 = 1)) r := k9; rw [fk_m (by omega), ev128, f2, f7] at h9; exact h9))) (fun z9 => absurd z9 (by omega)) cXq123 cYq123 cNq123 cVq123 (by omega)
                · skip
                  exfalso
                  omega
              · skip
                obtain rfl : yq125 = 0 := by omega
                have hwq125 : ¬ xV N9 X9 Y9 (Iq123 38 2) 1 := fun z9 => hxq125.2 rfl ⟨by omega, z9⟩
                clear hxq125
                show jt _ 108 [(0, .ref (b + 38)), (1, .int (jI 3)), (2, .ref (b + 383)), (3, .int (jI u)), (4, .int (jI v)), (5, .int (jI k))] [.int (jI 0)] (cmf b f0 Iq123 Aq123) _ _ _
                refine jt_istore_n (L' := [(0, .ref (b + 38)), (1, .int (jI 3)), (2, .ref (b + 383)), (3, .int (jI 0)), (4, .int (jI v)), (5, .int (jI k))]) d_RD_readExpression_108 (Nat.le_of_ble_eq_true rfl) rfl ?_
                refine jt_iload_n d_RD_readExpression_109 rfl ?_
                refine jt_if_ne (t := 128) d_RD_readExpression_110 rfl (by unfold jRi; omega) (fun c130 => ?_) (fun c130 => ?_)
                · skip
                  exfalso
                  omega
                · skip
                  refine jt_aload_n d_RD_readExpression_113 rfl ?_
                  refine cm_get (k := 38) (v := .ref (b + 39)) d_RD_readExpression_114 RD_f14 (by decide) cc_3 rfl ?_
                  refine jt_aload_n d_RD_readExpression_117 rfl ?_
                  refine cm_get (k := 38) (v := .int (jI (Iq123 38 2))) d_RD_readExpression_118 RD_f60 (by decide) cc_3 rfl ?_
                  refine jt_iconst d_RD_readExpression_121 ?_
                  refine cct_callV (Y := Y_TR_isWord) (ci := 0) (k := 39) (As := [.int (jI (Iq123 38 2)), .int (jI 0)]) (rest := []) d_RD_readExpression_122 RD_c91 yk_TR_isWord yv_TR_isWord rfl (Nat.le_of_ble_eq_true rfl) (by decide) (cc_1 rfl) rfl rfl (Nat.le_of_ble_eq_true rfl) (v_TR_isWord_x G _ b (Iq123 38 2) 0 Iq123 Aq123 hpq123.1 hpq123.2.1 X9 cXq123 Y9 cYq123 N9 cNq123 (by omega) (by omega)) (fun rvq131 Iq131 Aq131 hq131 => ?_)
                  obtain ⟨yq131, rfl, ryq131, hIq131, hAq131, hxq131⟩ := hq131
                  rw [hIq131, hAq131]
                  by_cases gbq131 : yq131 = 1
                  · skip
                    obtain rfl : yq131 = 1 := by omega
                    have hwq131 := hxq131.1 rfl
                    clear hxq131
                    show jt _ 125 [(0, .ref (b + 38)), (1, .int (jI 3)), (2, .ref (b + 383)), (3, .int (jI 0)), (4, .int (jI v)), (5, .int (jI k))] [.int (jI 1)] (cmf b f0 Iq123 Aq123) _ _ _
                    refine jt_if_eq (t := 132) d_RD_readExpression_125 rfl (by unfold jRi; omega) (fun c132 => ?_) (fun c132 => ?_)
                    · skip
                      exfalso
                      omega
                    · skip
                      refine jt_iconst d_RD_readExpression_128 ?_
                      refine jt_goto (t := 133) d_RD_readExpression_129 rfl ?_
                      refine jt_istore (L' := [(0, .ref (b + 38)), (1, .int (jI 3)), (2, .ref (b + 383)), (3, .int (jI 0)), (4, .int (jI 1)), (5, .int (jI k))]) d_RD_readExpression_133 (Nat.le_of_ble_eq_true rfl) rfl ?_
                      refine jt_iload d_RD_readExpression_135 rfl ?_
                      refine jt_if_eq (t := 150) d_RD_readExpression_137 rfl (by unfold jRi; omega) (fun c133 => ?_) (fun c133 => ?_)
                      · skip
                        exfalso
                        omega
                      · skip
                        refine jt_aload_n d_RD_readExpression_140 rfl ?_
                        refine jt_dup d_RD_readExpression_141 rfl ?_
                        refine cm_get (k := 38) (v := .int (jI (Iq123 38 2))) d_RD_readExpression_142 RD_f60 (by decide) cc_3 rfl ?_
                        refine jt_iconst d_RD_readExpression_145 ?_
                        refine jt_iadd d_RD_readExpression_146 ?_
                        refine jt_topi (fun v134 ev134 => ?_)
                        refine cm_put (k := 38) (j := 2) (v := v134) d_RD_readExpression_147 (RD_w60 _ rfl) (by decide) cc_3 rfl rfl (Nat.le_of_ble_eq_true rfl) rfl ?_
                        have p135 := cPx.I 38 2 v134 hpq123 rfl (show 0 ≤ v134 ∧ v134 ≤ 300 by omega)
                        refine jt_iinc (L' := [(0, .ref (b + 38)), (1, .int (jI 3)), (2, .ref (b + 383)), (3, .int (jI 0)), (4, .int (jI 1)), (5, .int (jI (k + 1)))]) d_RD_readExpression_150 rfl (Nat.le_of_ble_eq_true rfl) rfl ?_
                        refine jt_goto (t := 46) d_RD_readExpression_153 rfl ?_
                        exact ih 0 1 (k + 1) (cu Iq123 38 2 v134) Aq123 p135 (by omega) (by omega) (by omega) (show Iq123 38 7 = 1 → I 38 7 = 1 from fun g9 => jg (hwq119.1.1 (by rw [← f7]; exact g9))) (show I 38 2 + 2 * (k + 1) ≤ v134 + (1 - 1) by omega) (by omega) (by omega) (fun g9 i a c => (hval (by rw [← f7]; exact g9) i a c).2) (fun _ S r hS9 hn k9 => hsd S r hS9 hn (RE.add (by have h9 := hwq131.2; rw [f2] at h9; exact h9) (by have h9 : RE N9 X9 Y9 V9 (.op v134 (fk (k + 1) 0 (Aq123 384) ++ S) (Iq123 38 7 = 1)) r := k9; rw [fk_p (by omega), ev134, f2, f7] at h9; exact h9))) (fun z9 => absurd z9 (by omega)) cXq123 cYq123 cNq123 cVq123 (by omega)
                  · skip
                    obtain rfl : yq131 = 0 := by omega
                    have hwq131 : ¬ xV N9 X9 Y9 (Iq123 38 2) 0 := fun z9 => hxq131.2 rfl ⟨by omega, z9⟩
                    clear hxq131
                    show jt _ 125 [(0, .ref (b + 38)), (1, .int (jI 3)), (2, .ref (b + 383)), (3, .int (jI 0)), (4, .int (jI v)), (5, .int (jI k))] [.int (jI 0)] (cmf b f0 Iq123 Aq123) _ _ _
                    refine jt_if_eq (t := 132) d_RD_readExpression_125 rfl (by unfold jRi; omega) (fun c136 => ?_) (fun c136 => ?_)
                    · skip
                      refine jt_iconst d_RD_readExpression_132 ?_
                      refine jt_istore (L' := [(0, .ref (b + 38)), (1, .int (jI 3)), (2, .ref (b + 383)), (3, .int (jI 0)), (4, .int (jI 0)), (5, .int (jI k))]) d_RD_readExpression_133 (Nat.le_of_ble_eq_true rfl) rfl ?_
                      refine jt_iload d_RD_readExpression_135 rfl ?_
                      refine jt_if_eq (t := 150) d_RD_readExpression_137 rfl (by unfold jRi; omega) (fun c137 => ?_) (fun c137 => ?_)
                      · skip
                        refine jt_iinc (L' := [(0, .ref (b + 38)), (1, .int (jI 3)), (2, .ref (b + 383)), (3, .int (jI 0)), (4, .int (jI 0)), (5, .int (jI (k + 1)))]) d_RD_readExpression_150 rfl (Nat.le_of_ble_eq_true rfl) rfl ?_
                        refine jt_goto (t := 46) d_RD_readExpression_153 rfl ?_
                        exact ih 0 0 (k + 1) Iq123 Aq123 hpq123 (by omega) (by omega) (by omega) (show Iq123 38 7 = 1 → I 38 7 = 1 from fun g9 => jg (hwq119.1.1 (by rw [← f7]; exact g9))) (show I 38 2 + 2 * (k + 1) ≤ Iq123 38 2 + (1 - 0) by omega) (by omega) (by omega) (fun g9 i a c => (hval (by rw [← f7]; exact g9) i a c).2) (fun z9 => absurd z9 (by omega)) (fun _ => ⟨⟨hwq131, hwq125⟩, fun S r hS9 hn k9 => hsd S r hS9 hn (by rw [← f2, ← f7]; exact k9)⟩) cXq123 cYq123 cNq123 cVq123 (by omega)
                      · skip
                        exfalso
                        omega
                    · skip
                      exfalso
                      omega
            · skip
              refine jt_aload_n d_RD_readExpression_73 rfl ?_
              refine jt_aload_n d_RD_readExpression_74 rfl ?_
              refine cm_get (k := 38) (v := .ref (b + 395)) d_RD_readExpression_75 RD_f43 (by decide) cc_3 rfl ?_
              refine jt_iload_n d_RD_readExpression_78 rfl ?_
              refine cm_ldF (k := 395) (n := 9) (z := 3) d_RD_readExpression_79 (by decide) rfl rfl (by omega) (by omega) (by omega) ?_
              show jt _ 80 [(0, .ref (b + 38)), (1, .int (jI 3)), (2, .ref (b + 383)), (3, .int (jI u)), (4, .int (jI v)), (5, .int (jI k))] [.ref (b + 402), .ref (b + 383)] (cmf b f0 Iq119 Aq119) _ _ _
              refine cct_callV (Y := Y_FO_subtract) (ci := 4) (k := 383) (As := [.ref (b + 402)]) (rest := []) d_RD_readExpression_80 RD_c121 yk_FO_subtract yv_FO_subtract rfl (Nat.le_of_ble_eq_true rfl) (by decide) (cc_5 rfl) rfl rfl (Nat.le_of_ble_eq_true rfl) (v_FO_subtract_x G _ b 383 402 Iq119 Aq119 hpq119.1 hpq119.2.1 (by decide) rfl (by decide) rfl (by omega)) (fun rvq138 Iq138 Aq138 hq138 => ?_)
              obtain ⟨rfl, hqq138, hxq138⟩ := hq138
              have hpq138 := cPx.trans hpq119 hqq138 rfl rfl
              have cXq138 : Aq138 40 = X9 := (hqq138.2.2.2 40 rfl (by decide)).trans cXq119
              have cYq138 : Aq138 41 = Y9 := (hqq138.2.2.2 41 rfl (by decide)).trans cYq119
              have cNq138 : Iq138 39 3 = N9 := (hqq138.2.2.1 39 3 rfl).trans cNq119
              have cVq138 : cVf Aq138 V9 := cVf_of hqq138 rfl cVq119
              have m38_2q138 : Iq138 38 2 = Iq119 38 2 := hqq138.2.2.1 38 2 rfl
              have m38_7q138 : Iq138 38 7 = Iq119 38 7 := hqq138.2.2.1 38 7 rfl
              have hcq138 : ∀ z, 0 ≤ z → z < 13 → jRl ((Aq119 384) z - (Aq119 403) z) → Aq138 384 z = (Aq119 384) z - (Aq119 403) z := hxq138
              show jt _ 83 [(0, .ref (b + 38)), (1, .int (jI 3)), (2, .ref (b + 383)), (3, .int (jI u)), (4, .int (jI v)), (5, .int (jI k))] [] (cmf b f0 Iq138 Aq138) _ _ _
              refine jt_goto (t := 96) d_RD_readExpression_83 rfl ?_
              have hval : Iq119 38 7 = 1 → ∀ i, 0 ≤ i → i < 13 → Aq138 384 i = B 384 i - Aq119 403 i ∧ -(68719476736 * (k + 1)) ≤ Aq138 384 i ∧ Aq138 384 i ≤ 68719476736 * (k + 1) := fun g9 i a c => by
                have h1 := hwq119.1.2.1 g9 i a c
                have h2 := hb (hwq119.1.1 g9) i a c
                have h3 := hcq138 i a c (by rw [a384q119]; unfold jRl; omega)
                rw [a384q119] at h3
                omega
              have hsd : ∀ (S : List Fr) (r : ER), dep S = 3 → nb S → RE N9 X9 Y9 V9 (.sd (Iq119 38 2) (Aq138 384) S (Iq119 38 7 = 1)) r → RE N9 X9 Y9 V9 (.op (I 38 2) S (I 38 7 = 1)) r := fun S r hS9 hn k9 => by
                refine hL (by omega) S r hS9 hn (hwq119.1.2.2 (fk k u (B 384) ++ S) r (by rw [dep_fk]; exact hS9) (re_term hn (fun z => absurd (hu z) (by omega)) (fun _ _ g9 i a c => (hval g9 i a c).1) (fun _ z => absurd (by omega) z) (fun g9 i a c => ?_) k9))
                have h4 := hval g9 i a c
                omega
              have f2 : Iq138 38 2 = Iq119 38 2 := m38_2q138
              have f7 : Iq138 38 7 = Iq119 38 7 := m38_7q138
              have tlt := hwq119.2
              refine jt_aload_n d_RD_readExpression_96 rfl ?_
              refine cm_get (k := 38) (v := .ref (b + 39)) d_RD_readExpression_97 RD_f14 (by decide) cc_3 rfl ?_
              refine jt_aload_n d_RD_readExpression_100 rfl ?_
              refine cm_get (k := 38) (v := .int (jI (Iq138 38 2))) d_RD_readExpression_101 RD_f60 (by decide) cc_3 rfl ?_
              have rb139 : 0 ≤ Iq138 38 2 ∧ Iq138 38 2 ≤ 300 := hpq138.1 38 2
              refine jt_iconst d_RD_readExpression_104 ?_
              refine cct_callV (Y := Y_TR_isWord) (ci := 0) (k := 39) (As := [.int (jI (Iq138 38 2)), .int (jI 1)]) (rest := []) d_RD_readExpression_105 RD_c91 yk_TR_isWord yv_TR_isWord rfl (Nat.le_of_ble_eq_true rfl) (by decide) (cc_1 rfl) rfl rfl (Nat.le_of_ble_eq_true rfl) (v_TR_isWord_x G _ b (Iq138 38 2) 1 Iq138 Aq138 hpq138.1 hpq138.2.1 X9 cXq138 Y9 cYq138 N9 cNq138 (by omega) (by omega)) (fun rvq140 Iq140 Aq140 hq140 => ?_)
              obtain ⟨yq140, rfl, ryq140, hIq140, hAq140, hxq140⟩ := hq140
              rw [hIq140, hAq140]
              by_cases gbq140 : yq140 = 1
              · skip
                obtain rfl : yq140 = 1 := by omega
                have hwq140 := hxq140.1 rfl
                clear hxq140
                show jt _ 108 [(0, .ref (b + 38)), (1, .int (jI 3)), (2, .ref (b + 383)), (3, .int (jI u)), (4, .int (jI v)), (5, .int (jI k))] [.int (jI 1)] (cmf b f0 Iq138 Aq138) _ _ _
                refine jt_istore_n (L' := [(0, .ref (b + 38)), (1, .int (jI 3)), (2, .ref (b + 383)), (3, .int (jI 1)), (4, .int (jI v)), (5, .int (jI k))]) d_RD_readExpression_108 (Nat.le_of_ble_eq_true rfl) rfl ?_
                refine jt_iload_n d_RD_readExpression_109 rfl ?_
                refine jt_if_ne (t := 128) d_RD_readExpression_110 rfl (by unfold jRi; omega) (fun c141 => ?_) (fun c141 => ?_)
                · skip
                  refine jt_iconst d_RD_readExpression_128 ?_
                  refine jt_goto (t := 133) d_RD_readExpression_129 rfl ?_
                  refine jt_istore (L' := [(0, .ref (b + 38)), (1, .int (jI 3)), (2, .ref (b + 383)), (3, .int (jI 1)), (4, .int (jI 1)), (5, .int (jI k))]) d_RD_readExpression_133 (Nat.le_of_ble_eq_true rfl) rfl ?_
                  refine jt_iload d_RD_readExpression_135 rfl ?_
                  refine jt_if_eq (t := 150) d_RD_readExpression_137 rfl (by unfold jRi; omega) (fun c142 => ?_) (fun c142 => ?_)
                  · skip
                    exfalso
                    omega
                  · skip
                    refine jt_aload_n d_RD_readExpression_140 rfl ?_
                    refine jt_dup d_RD_readExpression_141 rfl ?_
                    refine cm_get (k := 38) (v := .int (jI (Iq138 38 2))) d_RD_readExpression_142 RD_f60 (by decide) cc_3 rfl ?_
                    refine jt_iconst d_RD_readExpression_145 ?_
                    refine jt_iadd d_RD_readExpression_146 ?_
                    refine jt_topi (fun v143 ev143 => ?_)
                    refine cm_put (k := 38) (j := 2) (v := v143) d_RD_readExpression_147 (RD_w60 _ rfl) (by decide) cc_3 rfl rfl (Nat.le_of_ble_eq_true rfl) rfl ?_
                    have p144 := cPx.I 38 2 v143 hpq138 rfl (show 0 ≤ v143 ∧ v143 ≤ 300 by omega)
                    refine jt_iinc (L' := [(0, .ref (b + 38)), (1, .int (jI 3)), (2, .ref (b + 383)), (3, .int (jI 1)), (4, .int (jI 1)), (5, .int (jI (k + 1)))]) d_RD_readExpression_150 rfl (Nat.le_of_ble_eq_true rfl) rfl ?_
                    refine jt_goto (t := 46) d_RD_readExpression_153 rfl ?_
                    exact ih 1 1 (k + 1) (cu Iq138 38 2 v143) Aq138 p144 (by omega) (by omega) (by omega) (show Iq138 38 7 = 1 → I 38 7 = 1 from fun g9 => jg (hwq119.1.1 (by rw [← f7]; exact g9))) (show I 38 2 + 2 * (k + 1) ≤ v143 + (1 - 1) by omega) (by omega) (by omega) (fun g9 i a c => (hval (by rw [← f7]; exact g9) i a c).2) (fun _ S r hS9 hn k9 => hsd S r hS9 hn (RE.sub (by have h9 := hwq140.2; rw [f2] at h9; exact h9) (by have h9 : RE N9 X9 Y9 V9 (.op v143 (fk (k + 1) 1 (Aq138 384) ++ S) (Iq138 38 7 = 1)) r := k9; rw [fk_m (by omega), ev143, f2, f7] at h9; exact h9))) (fun z9 => absurd z9 (by omega)) cXq138 cYq138 cNq138 cVq138 (by omega)
                · skip
                  exfalso
                  omega
              · skip
                obtain rfl : yq140 = 0 := by omega
                have hwq140 : ¬ xV N9 X9 Y9 (Iq138 38 2) 1 := fun z9 => hxq140.2 rfl ⟨by omega, z9⟩
                clear hxq140
                show jt _ 108 [(0, .ref (b + 38)), (1, .int (jI 3)), (2, .ref (b + 383)), (3, .int (jI u)), (4, .int (jI v)), (5, .int (jI k))] [.int (jI 0)] (cmf b f0 Iq138 Aq138) _ _ _
                refine jt_istore_n (L' := [(0, .ref (b + 38)), (1, .int (jI 3)), (2, .ref (b + 383)), (3, .int (jI 0)), (4, .int (jI v)), (5, .int (jI k))]) d_RD_readExpression_108 (Nat.le_of_ble_eq_true rfl) rfl ?_
                refine jt_iload_n d_RD_readExpression_109 rfl ?_
                refine jt_if_ne (t := 128) d_RD_readExpression_110 rfl (by unfold jRi; omega) (fun c145 => ?_) (fun c145 => ?_)
                · skip
                  exfalso
                  omega
                · skip
                  refine jt_aload_n d_RD_readExpression_113 rfl ?_
                  refine cm_get (k := 38) (v := .ref (b + 39)) d_RD_readExpression_114 RD_f14 (by decide) cc_3 rfl ?_
                  refine jt_aload_n d_RD_readExpression_117 rfl ?_
                  refine cm_get (k := 38) (v := .int (jI (Iq138 38 2))) d_RD_readExpression_118 RD_f60 (by decide) cc_3 rfl ?_
                  refine jt_iconst d_RD_readExpression_121 ?_
                  refine cct_callV (Y := Y_TR_isWord) (ci := 0) (k := 39) (As := [.int (jI (Iq138 38 2)), .int (jI 0)]) (rest := []) d_RD_readExpression_122 RD_c91 yk_TR_isWord yv_TR_isWord rfl (Nat.le_of_ble_eq_true rfl) (by decide) (cc_1 rfl) rfl rfl (Nat.le_of_ble_eq_true rfl) (v_TR_isWord_x G _ b (Iq138 38 2) 0 Iq138 Aq138 hpq138.1 hpq138.2.1 X9 cXq138 Y9 cYq138 N9 cNq138 (by omega) (by omega)) (fun rvq146 Iq146 Aq146 hq146 => ?_)
                  obtain ⟨yq146, rfl, ryq146, hIq146, hAq146, hxq146⟩ := hq146
                  rw [hIq146, hAq146]
                  by_cases gbq146 : yq146 = 1
                  · skip
                    obtain rfl : yq146 = 1 := by omega
                    have hwq146 := hxq146.1 rfl
                    clear hxq146
                    show jt _ 125 [(0, .ref (b + 38)), (1, .int (jI 3)), (2, .ref (b + 383)), (3, .int (jI 0)), (4, .int (jI v)), (5, .int (jI k))] [.int (jI 1)] (cmf b f0 Iq138 Aq138) _ _ _
                    refine jt_if_eq (t := 132) d_RD_readExpression_125 rfl (by unfold jRi; omega) (fun c147 => ?_) (fun c147 => ?_)
                    · skip
                      exfalso
                      omega
                    · skip
                      refine jt_iconst d_RD_readExpression_128 ?_
                      refine jt_goto (t := 133) d_RD_readExpression_129 rfl ?_
                      refine jt_istore (L' := [(0, .ref (b + 38)), (1, .int (jI 3)), (2, .ref (b + 383)), (3, .int (jI 0)), (4, .int (jI 1)), (5, .int (jI k))]) d_RD_readExpression_133 (Nat.le_of_ble_eq_true rfl) rfl ?_
                      refine jt_iload d_RD_readExpression_135 rfl ?_
                      refine jt_if_eq (t := 150) d_RD_readExpression_137 rfl (by unfold jRi; omega) (fun c148 => ?_) (fun c148 => ?_)
                      · skip
                        exfalso
                        omega
                      · skip
                        refine jt_aload_n d_RD_readExpression_140 rfl ?_
                        refine jt_dup d_RD_readExpression_141 rfl ?_
                        refine cm_get (k := 38) (v := .int (jI (Iq138 38 2))) d_RD_readExpression_142 RD_f60 (by decide) cc_3 rfl ?_
                        refine jt_iconst d_RD_readExpression_145 ?_
                        refine jt_iadd d_RD_readExpression_146 ?_
                        refine jt_topi (fun v149 ev149 => ?_)
                        refine cm_put (k := 38) (j := 2) (v := v149) d_RD_readExpression_147 (RD_w60 _ rfl) (by decide) cc_3 rfl rfl (Nat.le_of_ble_eq_true rfl) rfl ?_
                        have p150 := cPx.I 38 2 v149 hpq138 rfl (show 0 ≤ v149 ∧ v149 ≤ 300 by omega)
                        refine jt_iinc (L' := [(0, .ref (b + 38)), (1, .int (jI 3)), (2, .ref (b + 383)), (3, .int (jI 0)), (4, .int (jI 1)), (5, .int (jI (k + 1)))]) d_RD_readExpression_150 rfl (Nat.le_of_ble_eq_true rfl) rfl ?_
                        refine jt_goto (t := 46) d_RD_readExpression_153 rfl ?_
                        exact ih 0 1 (k + 1) (cu Iq138 38 2 v149) Aq138 p150 (by omega) (by omega) (by omega) (show Iq138 38 7 = 1 → I 38 7 = 1 from fun g9 => jg (hwq119.1.1 (by rw [← f7]; exact g9))) (show I 38 2 + 2 * (k + 1) ≤ v149 + (1 - 1) by omega) (by omega) (by omega) (fun g9 i a c => (hval (by rw [← f7]; exact g9) i a c).2) (fun _ S r hS9 hn k9 => hsd S r hS9 hn (RE.add (by have h9 := hwq146.2; rw [f2] at h9; exact h9) (by have h9 : RE N9 X9 Y9 V9 (.op v149 (fk (k + 1) 0 (Aq138 384) ++ S) (Iq138 38 7 = 1)) r := k9; rw [fk_p (by omega), ev149, f2, f7] at h9; exact h9))) (fun z9 => absurd z9 (by omega)) cXq138 cYq138 cNq138 cVq138 (by omega)
                  · skip
                    obtain rfl : yq146 = 0 := by omega
                    have hwq146 : ¬ xV N9 X9 Y9 (Iq138 38 2) 0 := fun z9 => hxq146.2 rfl ⟨by omega, z9⟩
                    clear hxq146
                    show jt _ 125 [(0, .ref (b + 38)), (1, .int (jI 3)), (2, .ref (b + 383)), (3, .int (jI 0)), (4, .int (jI v)), (5, .int (jI k))] [.int (jI 0)] (cmf b f0 Iq138 Aq138) _ _ _
                    refine jt_if_eq (t := 132) d_RD_readExpression_125 rfl (by unfold jRi; omega) (fun c151 => ?_) (fun c151 => ?_)
                    · skip
                      refine jt_iconst d_RD_readExpression_132 ?_
                      refine jt_istore (L' := [(0, .ref (b + 38)), (1, .int (jI 3)), (2, .ref (b + 383)), (3, .int (jI 0)), (4, .int (jI 0)), (5, .int (jI k))]) d_RD_readExpression_133 (Nat.le_of_ble_eq_true rfl) rfl ?_
                      refine jt_iload d_RD_readExpression_135 rfl ?_
                      refine jt_if_eq (t := 150) d_RD_readExpression_137 rfl (by unfold jRi; omega) (fun c152 => ?_) (fun c152 => ?_)
                      · skip
                        refine jt_iinc (L' := [(0, .ref (b + 38)), (1, .int (jI 3)), (2, .ref (b + 383)), (3, .int (jI 0)), (4, .int (jI 0)), (5, .int (jI (k + 1)))]) d_RD_readExpression_150 rfl (Nat.le_of_ble_eq_true rfl) rfl ?_
                        refine jt_goto (t := 46) d_RD_readExpression_153 rfl ?_
                        exact ih 0 0 (k + 1) Iq138 Aq138 hpq138 (by omega) (by omega) (by omega) (show Iq138 38 7 = 1 → I 38 7 = 1 from fun g9 => jg (hwq119.1.1 (by rw [← f7]; exact g9))) (show I 38 2 + 2 * (k + 1) ≤ Iq138 38 2 + (1 - 0) by omega) (by omega) (by omega) (fun g9 i a c => (hval (by rw [← f7]; exact g9) i a c).2) (fun z9 => absurd z9 (by omega)) (fun _ => ⟨⟨hwq146, hwq140⟩, fun S r hS9 hn k9 => hsd S r hS9 hn (by rw [← f2, ← f7]; exact k9)⟩) cXq138 cYq138 cNq138 cVq138 (by omega)
                      · skip
                        exfalso
                        omega
                    · skip
                      exfalso
                      omega
          · skip
            exfalso
            omega
set_option maxRecDepth 100000 in
set_option maxHeartbeats 4000000 in
theorem v_RD_readExpression_x3 (G : jG) (d b : Nat)  (I : Nat → Nat → Int) (A : Nat → Int → Int) (hI : cSI I) (hA : cSA A) (hK : cTok A) (X9 : Int → Int) (hX : A 40 = X9) (Y9 : Int → Int) (hY : A 41 = Y9) (N9 : Int) (hN : I 39 3 = N9) (V9 : Int → Int → Int) (hV : cVf A V9) (hVr : ∀ v, 0 ≤ v → v < 12 → inr (V9 v)) : cct G Y_RD_readExpression (d + 18) b [.ref (b + 38), .int (jI 3)] I A (fun (rv : Option Value) (I2 : Nat → Nat → Int) (A2 : Nat → Int → Int) => ∃ y : Int, rv = some (.int (jI y)) ∧ (0 ≤ y ∧ y ≤ 1) ∧ cPx [610, 611, 615] [384, 403, 422, 386, 405, 424, 388, 407, 426, 390, 409, 428, 392, 411, 430, 394, 413, 432] I A I2 A2 ∧ (y = 1 → rdE N9 X9 Y9 V9 3 (I 38 2) (I 38 7 = 1) (I2 38 2) (A2 384) (I2 38 7 = 1) ∧ I 38 2 < I2 38 2) ∧ (y = 0 → rdXn N9 X9 Y9 V9 3 (I 38 2) (I 38 7 = 1) (I2 38 3) (I2 38 2))) := by
  refine cct_of (by decide) (Nat.le_of_ble_eq_true rfl) (fun f0 sz => ?_)
  show jt _ 0 [(0, .ref (b + 38)), (1, .int (jI 3))] [] _ _ _ _
  have r39 : 0 ≤ I 39 3 ∧ I 39 3 ≤ 300 := hI 39 3
  have r38 : 0 ≤ I 38 2 ∧ I 38 2 ≤ 300 := hI 38 2
  have hz0 : cPx [610, 611, 615] [384, 403, 422, 386, 405, 424, 388, 407, 426, 390, 409, 428, 392, 411, 430, 394, 413, 432] I A I A := cPx.refl hI hA
  refine jt_iload_n d_RD_readExpression_0 rfl ?_
  refine jt_bipush d_RD_readExpression_1 (by omega) ?_
  refine jt_icmp_le (t := 24) d_RD_readExpression_3 rfl (by unfold jRi; omega) (by unfold jRi; omega) (fun c1 => ?_) (fun c1 => ?_)
  · skip
    refine jt_aload_n d_RD_readExpression_24 rfl ?_
    refine cm_get (k := 38) (v := .ref (b + 376)) d_RD_readExpression_25 RD_f40 (by decide) cc_3 rfl ?_
    refine jt_iload_n d_RD_readExpression_28 rfl ?_
    refine cm_ldF (k := 376) (n := 9) (z := 3) d_RD_readExpression_29 (by decide) rfl rfl (by omega) (by omega) (by omega) ?_
    show jt _ 30 [(0, .ref (b + 38)), (1, .int (jI 3))] [.ref (b + 383)] (cmf b f0 I A) _ _ _
    refine jt_astore_n (L' := [(0, .ref (b + 38)), (1, .int (jI 3)), (2, .ref (b + 383))]) d_RD_readExpression_30 (Nat.le_of_ble_eq_true rfl) rfl ?_
    refine jt_aload_n d_RD_readExpression_31 rfl ?_
    refine jt_bipush d_RD_readExpression_32 (by omega) ?_
    refine jt_lconst (z := 0) d_RD_readExpression_34 (by decide) ?_
    refine cct_callV (Y := Y_FO_set) (ci := 4) (k := 383) (As := [.int (jI 12), .long (jL 0)]) (rest := []) d_RD_readExpression_35 RD_c114 yk_FO_set yv_FO_set rfl (Nat.le_of_ble_eq_true rfl) (by decide) (cc_5 rfl) rfl rfl (Nat.le_of_ble_eq_true rfl) (v_FO_set_x G _ b 383 12 0 I A hz0.1 hz0.2.1 (by decide) rfl (by omega) (by omega)) (fun rvq2 Iq2 Aq2 hq2 => ?_)
    obtain ⟨rfl, hqq2, hxq2⟩ := hq2
    have hpq2 := cPx.trans hz0 hqq2 rfl rfl
    have cXq2 : Aq2 40 = X9 := (hqq2.2.2.2 40 rfl (by decide)).trans hX
    have cYq2 : Aq2 41 = Y9 := (hqq2.2.2.2 41 rfl (by decide)).trans hY
    have cNq2 : Iq2 39 3 = N9 := (hqq2.2.2.1 39 3 rfl).trans hN
    have cVq2 : cVf Aq2 V9 := cVf_of hqq2 rfl hV
    have m38_2q2 : Iq2 38 2 = I 38 2 := hqq2.2.2.1 38 2 rfl
    have m38_7q2 : Iq2 38 7 = I 38 7 := hqq2.2.2.1 38 7 rfl
    have hcq2 : ∀ z, 0 ≤ z → z < 13 → Aq2 384 z = if z = 12 then 0 else 0 := hxq2
    show jt _ 38 [(0, .ref (b + 38)), (1, .int (jI 3)), (2, .ref (b + 383))] [] (cmf b f0 Iq2 Aq2) _ _ _
    refine jt_iconst d_RD_readExpression_38 ?_
    refine jt_istore_n (L' := [(0, .ref (b + 38)), (1, .int (jI 3)), (2, .ref (b + 383)), (3, .int (jI 0))]) d_RD_readExpression_39 (Nat.le_of_ble_eq_true rfl) rfl ?_
    refine jt_iconst d_RD_readExpression_40 ?_
    refine jt_istore (L' := [(0, .ref (b + 38)), (1, .int (jI 3)), (2, .ref (b + 383)), (3, .int (jI 0)), (4, .int (jI 1))]) d_RD_readExpression_41 (Nat.le_of_ble_eq_true rfl) rfl ?_
    refine jt_iconst d_RD_readExpression_43 ?_
    refine jt_istore (L' := [(0, .ref (b + 38)), (1, .int (jI 3)), (2, .ref (b + 383)), (3, .int (jI 0)), (4, .int (jI 1)), (5, .int (jI 0))]) d_RD_readExpression_44 (Nat.le_of_ble_eq_true rfl) rfl ?_
    exact l46_RD_readExpression_x3v G d b  I A hI hA hK X9 hX Y9 hY N9 hN V9 hV hVr f0 sz  301 0 1 0 Iq2 Aq2 hpq2 (by omega) (by omega) (by omega) (show Iq2 38 7 = 1 → I 38 7 = 1 by omega) (show I 38 2 + 2 * 0 ≤ Iq2 38 2 + (1 - 1) by omega) (fun z9 => absurd z9 (by omega)) (fun _ => rfl) (fun _ i a c => by have h9 := hcq2 i a c; rw [h9]; split <;> omega) (fun _ S r hS9 hn k9 => by have h9 : RE N9 X9 Y9 V9 (.op (Iq2 38 2) S (Iq2 38 7 = 1)) r := k9; rw [m38_2q2, m38_7q2] at h9; exact h9) (fun z9 => absurd z9 (by omega)) cXq2 cYq2 cNq2 cVq2 (by omega)
  · skip
    exfalso
    omega

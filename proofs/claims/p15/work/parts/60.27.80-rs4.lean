set_option maxRecDepth 100000 in
set_option maxHeartbeats 4000000 in
theorem v_RD_readStatement_x (G : jG) (d b : Nat)  (I : Nat → Nat → Int) (A : Nat → Int → Int) (hI : cSI I) (hA : cSA A) (hK : cTok A) (X9 : Int → Int) (hX : A 40 = X9) (Y9 : Int → Int) (hY : A 41 = Y9) (N9 : Int) (hN : I 39 3 = N9) (V9 : Int → Int → Int) (hV : cVf A V9) (hVr : ∀ v, 0 ≤ v → v < 12 → inr (V9 v)) : cct G Y_RD_readStatement (d + 30) b [.ref (b + 38)] I A (fun (rv : Option Value) (I2 : Nat → Nat → Int) (A2 : Nat → Int → Int) => ∃ y : Int, rv = some (.int (jI y)) ∧ (0 ≤ y ∧ y ≤ 1) ∧ cPf [610, 611, 612, 614, 615, 617] tKept I A I2 A2 ∧ (y = 1 → cSR N9 X9 Y9 V9 (I 38 2) I2 A2) ∧ (y = 0 → ST N9 X9 Y9 V9 (I 38 2) (.err (I2 38 3) (I2 38 2)))) := by
  refine cct_of (by decide) (Nat.le_of_ble_eq_true rfl) (fun f0 sz => ?_)
  show jt _ 0 [(0, .ref (b + 38))] [] _ _ _ _
  have r39 : 0 ≤ I 39 3 ∧ I 39 3 ≤ 300 := hI 39 3
  have r38 : 0 ≤ I 38 2 ∧ I 38 2 ≤ 300 := hI 38 2
  have r386 : 0 ≤ I 38 6 ∧ I 38 6 ≤ 150 := hI 38 6
  have hz0 : cPf [610, 611, 612, 614, 615, 617] tKept I A I A := cPf.refl hI hA
  refine jt_aload_n d_RD_readStatement_0 rfl ?_
  refine jt_iconst d_RD_readStatement_1 ?_
  refine cm_put (k := 38) (j := 6) (v := 0) d_RD_readStatement_2 (RD_w49 _ rfl) (by decide) cc_3 rfl rfl (Nat.le_of_ble_eq_true rfl) rfl ?_
  have p1 := cPf.I 38 6 0 hz0 rfl (show 0 ≤ 0 ∧ 0 ≤ 150 by omega)
  refine jt_aload_n d_RD_readStatement_5 rfl ?_
  refine jt_iconst d_RD_readStatement_6 ?_
  refine cm_put (k := 38) (j := 9) (v := 0) d_RD_readStatement_7 (RD_w53 _ rfl) (by decide) cc_3 rfl rfl (Nat.le_of_ble_eq_true rfl) rfl ?_
  have p2 := cPf.I 38 9 0 p1 rfl (show 0 ≤ 0 ∧ 0 ≤ 2000 by omega)
  refine jt_aload_n d_RD_readStatement_10 rfl ?_
  refine jt_iconst d_RD_readStatement_11 ?_
  refine cm_put (k := 38) (j := 7) (v := 1) d_RD_readStatement_12 (RD_w56 _ rfl) (by decide) cc_3 (jnz (by omega)) rfl (Nat.le_of_ble_eq_true rfl) rfl ?_
  have p3 := cPf.I 38 7 1 p2 rfl (show 0 ≤ 1 ∧ 1 ≤ 1 by omega)
  refine jt_aload_n d_RD_readStatement_15 rfl ?_
  refine jt_aload_n d_RD_readStatement_16 rfl ?_
  refine cm_get (k := 38) (v := .ref (b + 39)) d_RD_readStatement_17 RD_f14 (by decide) cc_3 rfl ?_
  refine jt_aload_n d_RD_readStatement_20 rfl ?_
  refine cm_get (k := 38) (v := .int (jI (I 38 2))) d_RD_readStatement_21 RD_f60 (by decide) cc_3 rfl ?_
  have rb4 : 0 ≤ I 38 2 ∧ I 38 2 ≤ 300 := p3.1 38 2
  refine jt_iconst d_RD_readStatement_24 ?_
  refine cct_callV (Y := Y_TR_isKind) (ci := 0) (k := 39) (As := [.int (jI (I 38 2)), .int (jI 4)]) (rest := [.ref (b + 38)]) d_RD_readStatement_25 RD_c63 yk_TR_isKind yv_TR_isKind rfl (Nat.le_of_ble_eq_true rfl) (by decide) (cc_1 rfl) rfl rfl (Nat.le_of_ble_eq_true rfl) (v_TR_isKind_x G _ b (I 38 2) 4 (cu (cu (cu I 38 6 0) 38 9 0) 38 7 1) A p3.1 p3.2.1 X9 hX N9 hN (by omega) (by omega)) (fun rvq5 Iq5 Aq5 hq5 => ?_)
  obtain ⟨yq5, rfl, ryq5, hIq5, hAq5, hxq5⟩ := hq5
  rw [hIq5, hAq5]
  by_cases gbq5 : yq5 = 1
  · skip
    obtain rfl : yq5 = 1 := by omega
    have hwq5 := hxq5.1 rfl
    clear hxq5
    show jt _ 28 [(0, .ref (b + 38))] [.int (jI 1), .ref (b + 38)] (cmf b f0 (cu (cu (cu I 38 6 0) 38 9 0) 38 7 1) A) _ _ _
    refine jt_if_eq (t := 46) d_RD_readStatement_28 rfl (by unfold jRi; omega) (fun c6 => ?_) (fun c6 => ?_)
    · skip
      exfalso
      omega
    · skip
      refine jt_aload_n d_RD_readStatement_31 rfl ?_
      refine cm_get (k := 38) (v := .ref (b + 39)) d_RD_readStatement_32 RD_f14 (by decide) cc_3 rfl ?_
      refine cm_get (k := 39) (v := .ref (b + 41)) d_RD_readStatement_35 RD_f67 (by decide) (cc_1 rfl) rfl ?_
      refine jt_aload_n d_RD_readStatement_38 rfl ?_
      refine cm_get (k := 38) (v := .int (jI (I 38 2))) d_RD_readStatement_39 RD_f60 (by decide) cc_3 rfl ?_
      refine cm_ld0 (k := 41) (n := 300) (v := (A 41) (I 38 2)) d_RD_readStatement_42 (by decide) rfl rfl (by omega) (by omega) (by omega) rfl ?_
      refine jt_topi (fun v7 ev7 => ?_)
      have bv7 : -2147483648 ≤ v7 ∧ v7 ≤ 2147483647 := by rw [ev7]; exact p3.2.1 41 (I 38 2)
      rw [hY] at ev7
      refine jt_goto (t := 47) d_RD_readStatement_43 rfl ?_
      refine cm_put (k := 38) (j := 4) (v := v7) d_RD_readStatement_47 (RD_w71 _ rfl) (by decide) cc_3 rfl rfl (Nat.le_of_ble_eq_true rfl) rfl ?_
      have p8 := cPf.I 38 4 v7 p3 rfl (show -2147483648 ≤ v7 ∧ v7 ≤ 2147483647 by omega)
      have tkk : I 38 2 < N9 ∧ X9 (I 38 2) = 4 ∧ Y9 (I 38 2) = v7 := ⟨by omega, by omega, by omega⟩
      refine jt_iconst d_RD_readStatement_50 ?_
      refine jt_istore_n (L' := [(0, .ref (b + 38)), (1, .int (jI 1))]) d_RD_readStatement_51 (Nat.le_of_ble_eq_true rfl) rfl ?_
      refine jt_aload_n d_RD_readStatement_52 rfl ?_
      refine cm_get (k := 38) (v := .int (jI v7)) d_RD_readStatement_53 RD_f71 (by decide) cc_3 rfl ?_
      by_cases hsw : v7 < 6 ∨ 12 < v7
      · skip
        refine jt_tableOut (t := 155) d_RD_readStatement_56 (by unfold jRi; omega) hsw rfl ?_
        refine jt_aload_n d_RD_readStatement_155 rfl ?_
        refine jt_iconst d_RD_readStatement_156 ?_
        refine cm_put (k := 38) (j := 4) (v := 2) d_RD_readStatement_157 (RD_w71 _ rfl) (by decide) cc_3 rfl rfl (Nat.le_of_ble_eq_true rfl) rfl ?_
        have p9 := cPf.I 38 4 2 p8 rfl (show -2147483648 ≤ 2 ∧ 2 ≤ 2147483647 by omega)
        refine jt_aload_n d_RD_readStatement_160 rfl ?_
        refine cct_callV (Y := Y_RD_readEquation) (ci := 2) (k := 38) (As := []) (rest := []) d_RD_readStatement_161 RD_c85 yk_RD_readEquation yv_RD_readEquation rfl (Nat.le_of_ble_eq_true rfl) (by decide) cc_3 rfl rfl (Nat.le_of_ble_eq_true rfl) (v_RD_readEquation_x G _ b (cu (cu (cu (cu (cu I 38 6 0) 38 9 0) 38 7 1) 38 4 v7) 38 4 2) A p9.1 p9.2.1 (cTok_f p9 hK rfl) X9 hX Y9 hY N9 hN V9 hV hVr rfl rfl) (fun rvq10 Iq10 Aq10 hq10 => ?_)
        obtain ⟨yq10, rfl, ryq10, hqq10, hxq10⟩ := hq10
        have hpq10 := cPf.trans p9 hqq10 rfl (fun _ h9 => h9)
        have cXq10 : Aq10 40 = X9 := (hqq10.2.2.2 40 rfl (by decide)).trans hX
        have cYq10 : Aq10 41 = Y9 := (hqq10.2.2.2 41 rfl (by decide)).trans hY
        have cNq10 : Iq10 39 3 = N9 := (hqq10.2.2.1 39 3 rfl).trans hN
        have cVq10 : cVf Aq10 V9 := cVf_f hqq10 rfl hV
        have s38_2q10 : (cu (cu (cu (cu (cu I 38 6 0) 38 9 0) 38 7 1) 38 4 v7) 38 4 2) 38 2 = I 38 2 := rfl
        have s38_6q10 : (cu (cu (cu (cu (cu I 38 6 0) 38 9 0) 38 7 1) 38 4 v7) 38 4 2) 38 6 = 0 := rfl
        have s38_7q10 : (cu (cu (cu (cu (cu I 38 6 0) 38 9 0) 38 7 1) 38 4 v7) 38 4 2) 38 7 = 1 := rfl
        have s38_9q10 : (cu (cu (cu (cu (cu I 38 6 0) 38 9 0) 38 7 1) 38 4 v7) 38 4 2) 38 9 = 0 := rfl
        have s38_4q10 : (cu (cu (cu (cu (cu I 38 6 0) 38 9 0) 38 7 1) 38 4 v7) 38 4 2) 38 4 = 2 := rfl
        have m38_9q10 : Iq10 38 9 = 0 := hqq10.2.2.1 38 9 rfl
        have m38_4q10 : Iq10 38 4 = 2 := hqq10.2.2.1 38 4 rfl
        by_cases gbq10 : yq10 = 0
        · skip
          obtain rfl : yq10 = 0 := by omega
          have hwq10 := hxq10.2 rfl
          clear hxq10
          show jt _ 164 [(0, .ref (b + 38)), (1, .int (jI 1))] [.int (jI 0)] (cmf b f0 Iq10 Aq10) _ _ _
          refine jt_istore_n (L' := [(0, .ref (b + 38)), (1, .int (jI 0))]) d_RD_readStatement_164 (Nat.le_of_ble_eq_true rfl) rfl ?_
          refine jt_iload_n d_RD_readStatement_165 rfl ?_
          refine jt_if_eq (t := 182) d_RD_readStatement_166 rfl (by unfold jRi; omega) (fun c11 => ?_) (fun c11 => ?_)
          · skip
            refine jt_iconst d_RD_readStatement_182 ?_
            exact cm_ret d_RD_readStatement_183 rfl (jnz (by omega)) (⟨0, rfl, by omega, hpq10, fun z => absurd z (by omega), fun _ => by
        have h9 : EQ N9 X9 Y9 V9 (I 38 2) (.err (Iq10 38 3) (Iq10 38 2)) := hwq10
        exact .eqsX (fun z => by omega) (fun z => by omega) (fun z => by omega) (fun z => by omega) h9⟩)
          · skip
            exfalso
            omega
        · skip
          obtain rfl : yq10 = 1 := by omega
          have hwq10 := hxq10.1 rfl
          clear hxq10
          show jt _ 164 [(0, .ref (b + 38)), (1, .int (jI 1))] [.int (jI 1)] (cmf b f0 Iq10 Aq10) _ _ _
          refine jt_istore_n (L' := [(0, .ref (b + 38)), (1, .int (jI 1))]) d_RD_readStatement_164 (Nat.le_of_ble_eq_true rfl) rfl ?_
          refine jt_iload_n d_RD_readStatement_165 rfl ?_
          refine jt_if_eq (t := 182) d_RD_readStatement_166 rfl (by unfold jRi; omega) (fun c12 => ?_) (fun c12 => ?_)
          · skip
            exfalso
            omega
          · skip
            refine jt_aload_n d_RD_readStatement_169 rfl ?_
            refine jt_bipush d_RD_readStatement_170 (by omega) ?_
            refine cct_callV (Y := Y_RD_take) (ci := 2) (k := 38) (As := [.int (jI 6)]) (rest := []) d_RD_readStatement_172 RD_c88 yk_RD_take yv_RD_take rfl (Nat.le_of_ble_eq_true rfl) (by decide) cc_3 rfl rfl (Nat.le_of_ble_eq_true rfl) (v_RD_take_x G _ b 6 Iq10 Aq10 hpq10.1 hpq10.2.1 X9 cXq10 Y9 cYq10 N9 cNq10 (by omega)) (fun rvq13 Iq13 Aq13 hq13 => ?_)
            obtain ⟨yq13, rfl, ryq13, hqq13, hxq13⟩ := hq13
            have hpq13 := cPf.transx hpq10 hqq13 rfl rfl
            have cXq13 : Aq13 40 = X9 := (hqq13.2.2.2 40 rfl (by decide)).trans cXq10
            have cYq13 : Aq13 41 = Y9 := (hqq13.2.2.2 41 rfl (by decide)).trans cYq10
            have cNq13 : Iq13 39 3 = N9 := (hqq13.2.2.1 39 3 rfl).trans cNq10
            have cVq13 : cVf Aq13 V9 := cVf_of hqq13 rfl cVq10
            have m38_6q13 : Iq13 38 6 = Iq10 38 6 := hqq13.2.2.1 38 6 rfl
            have m38_7q13 : Iq13 38 7 = Iq10 38 7 := hqq13.2.2.1 38 7 rfl
            have m38_9q13 : Iq13 38 9 = Iq10 38 9 := hqq13.2.2.1 38 9 rfl
            have m38_4q13 : Iq13 38 4 = Iq10 38 4 := hqq13.2.2.1 38 4 rfl
            have a375q13 : Aq13 375 = Aq10 375 := hqq13.2.2.2 375 rfl (by decide)
            by_cases gbq13 : yq13 = 0
            · skip
              obtain rfl : yq13 = 0 := by omega
              have hwq13 := hxq13.2 rfl
              clear hxq13
              show jt _ 175 [(0, .ref (b + 38)), (1, .int (jI 1))] [.int (jI 0)] (cmf b f0 Iq13 Aq13) _ _ _
              refine jt_if_eq (t := 182) d_RD_readStatement_175 rfl (by unfold jRi; omega) (fun c14 => ?_) (fun c14 => ?_)
              · skip
                refine jt_iconst d_RD_readStatement_182 ?_
                exact cm_ret d_RD_readStatement_183 rfl (jnz (by omega)) (⟨0, rfl, by omega, hpq13, fun z => absurd z (by omega), fun _ => by
        obtain ⟨fs, hkp, hf6, hph⟩ := hwq10
        have h9 : EQ N9 X9 Y9 V9 (I 38 2) (.ok (Iq10 38 2) fs (Iq10 38 7 = 1)) := hph
        show ST N9 X9 Y9 V9 (I 38 2) (.err (Iq13 38 3) (Iq13 38 2))
        rw [hwq13.2.2, hwq13.2.1]
        exact .eqsE (fun z => by omega) (fun z => by omega) (fun z => by omega) (fun z => by omega) h9 hwq13.1⟩)
              · skip
                exfalso
                omega
            · skip
              obtain rfl : yq13 = 1 := by omega
              have hwq13 := hxq13.1 rfl
              clear hxq13
              show jt _ 175 [(0, .ref (b + 38)), (1, .int (jI 1))] [.int (jI 1)] (cmf b f0 Iq13 Aq13) _ _ _
              refine jt_if_eq (t := 182) d_RD_readStatement_175 rfl (by unfold jRi; omega) (fun c15 => ?_) (fun c15 => ?_)
              · skip
                exfalso
                omega
              · skip
                refine jt_iconst d_RD_readStatement_178 ?_
                refine jt_goto (t := 183) d_RD_readStatement_179 rfl ?_
                exact cm_ret d_RD_readStatement_183 rfl (jnz (by omega)) (⟨1, rfl, by omega, hpq13, fun _ => by
        obtain ⟨fs, hkp, hf6, hph⟩ := hwq10
        have h9 : EQ N9 X9 Y9 V9 (I 38 2) (.ok (Iq10 38 2) fs (Iq10 38 7 = 1)) := hph
        refine Or.inr (Or.inr (Or.inr ⟨?_, fs, ?_, cKp_fr hkp (by have := hpq10.1 38 6; have h9 : Iq10 38 6 ≤ 150 := this.2; omega) (fr_x hqq13 rfl), ?_⟩))
        · show Iq13 38 4 = 2
          omega
        · show ST N9 X9 Y9 V9 (I 38 2) (.eqs (Iq13 38 2) fs (Iq13 38 7 = 1))
          rw [hwq13.2, m38_7q13]
          exact .eqs (fun z => by omega) (fun z => by omega) (fun z => by omega) (fun z => by omega) h9 hwq13.1
        · show Iq13 38 6 = _
          omega, fun z => absurd z (by omega)⟩)
      by_cases hs0 : v7 = 6
      · skip
        refine jt_tableIn (t := 100) d_RD_readStatement_56 (by unfold jRi; omega) (by omega) (by omega) (by rw [hs0]; rfl) rfl ?_
        refine jt_goto (t := 165) d_RD_readStatement_100 rfl ?_
        refine jt_iload_n d_RD_readStatement_165 rfl ?_
        refine jt_if_eq (t := 182) d_RD_readStatement_166 rfl (by unfold jRi; omega) (fun c16 => ?_) (fun c16 => ?_)
        · skip
          exfalso
          omega
        · skip
          refine jt_aload_n d_RD_readStatement_169 rfl ?_
          refine jt_bipush d_RD_readStatement_170 (by omega) ?_
          refine cct_callV (Y := Y_RD_take) (ci := 2) (k := 38) (As := [.int (jI 6)]) (rest := []) d_RD_readStatement_172 RD_c88 yk_RD_take yv_RD_take rfl (Nat.le_of_ble_eq_true rfl) (by decide) cc_3 rfl rfl (Nat.le_of_ble_eq_true rfl) (v_RD_take_x G _ b 6 (cu (cu (cu (cu I 38 6 0) 38 9 0) 38 7 1) 38 4 v7) A p8.1 p8.2.1 X9 hX Y9 hY N9 hN (by omega)) (fun rvq17 Iq17 Aq17 hq17 => ?_)
          obtain ⟨yq17, rfl, ryq17, hqq17, hxq17⟩ := hq17
          have hpq17 := cPf.transx p8 hqq17 rfl rfl
          have cXq17 : Aq17 40 = X9 := (hqq17.2.2.2 40 rfl (by decide)).trans hX
          have cYq17 : Aq17 41 = Y9 := (hqq17.2.2.2 41 rfl (by decide)).trans hY
          have cNq17 : Iq17 39 3 = N9 := (hqq17.2.2.1 39 3 rfl).trans hN
          have cVq17 : cVf Aq17 V9 := cVf_of hqq17 rfl hV
          have s38_2q17 : (cu (cu (cu (cu I 38 6 0) 38 9 0) 38 7 1) 38 4 v7) 38 2 = I 38 2 := rfl
          have s38_6q17 : (cu (cu (cu (cu I 38 6 0) 38 9 0) 38 7 1) 38 4 v7) 38 6 = 0 := rfl
          have s38_7q17 : (cu (cu (cu (cu I 38 6 0) 38 9 0) 38 7 1) 38 4 v7) 38 7 = 1 := rfl
          have s38_9q17 : (cu (cu (cu (cu I 38 6 0) 38 9 0) 38 7 1) 38 4 v7) 38 9 = 0 := rfl
          have s38_4q17 : (cu (cu (cu (cu I 38 6 0) 38 9 0) 38 7 1) 38 4 v7) 38 4 = v7 := rfl
          have m38_6q17 : Iq17 38 6 = 0 := hqq17.2.2.1 38 6 rfl
          have m38_7q17 : Iq17 38 7 = 1 := hqq17.2.2.1 38 7 rfl
          have m38_9q17 : Iq17 38 9 = 0 := hqq17.2.2.1 38 9 rfl
          have m38_4q17 : Iq17 38 4 = v7 := hqq17.2.2.1 38 4 rfl
          have a375q17 : Aq17 375 = A 375 := hqq17.2.2.2 375 rfl (by decide)
          have kpq17 : cKp Aq17 ([] : List (Int → Int)) := cKp_fr (cKp_0 A) (by first | omega | (simp only [List.length_append, List.length_cons, List.length_nil]; omega)) (fr_x hqq17 rfl)
          have rrq17 : 0 ≤ Iq17 38 2 ∧ Iq17 38 2 ≤ 300 := hpq17.1 38 2
          by_cases gbq17 : yq17 = 0
          · skip
            obtain rfl : yq17 = 0 := by omega
            have hwq17 := hxq17.2 rfl
            clear hxq17
            show jt _ 175 [(0, .ref (b + 38)), (1, .int (jI 1))] [.int (jI 0)] (cmf b f0 Iq17 Aq17) _ _ _
            refine jt_if_eq (t := 182) d_RD_readStatement_175 rfl (by unfold jRi; omega) (fun c18 => ?_) (fun c18 => ?_)
            · skip
              refine jt_iconst d_RD_readStatement_182 ?_
              exact cm_ret d_RD_readStatement_183 rfl (jnz (by omega)) (⟨0, rfl, by omega, hpq17, fun z => absurd z (by omega), fun _ => by
        show ST N9 X9 Y9 V9 (I 38 2) (.err (Iq17 38 3) (Iq17 38 2))
        rw [hwq17.2.2, hwq17.2.1]
        exact absurd (show xW N9 X9 Y9 (I 38 2) 6 from (by first | exact tkk | omega)) hwq17.1⟩)
            · skip
              exfalso
              omega
          · skip
            obtain rfl : yq17 = 1 := by omega
            have hwq17 := hxq17.1 rfl
            clear hxq17
            show jt _ 175 [(0, .ref (b + 38)), (1, .int (jI 1))] [.int (jI 1)] (cmf b f0 Iq17 Aq17) _ _ _
            refine jt_if_eq (t := 182) d_RD_readStatement_175 rfl (by unfold jRi; omega) (fun c19 => ?_) (fun c19 => ?_)
            · skip
              exfalso
              omega
            · skip
              refine jt_iconst d_RD_readStatement_178 ?_
              refine jt_goto (t := 183) d_RD_readStatement_179 rfl ?_
              exact cm_ret d_RD_readStatement_183 rfl (jnz (by omega)) (⟨1, rfl, by omega, hpq17, fun _ => by
        refine Or.inl ⟨show Iq17 38 4 = 6 by omega, ?_, show Iq17 38 7 = 1 from m38_7q17⟩
        show ST N9 X9 Y9 V9 (I 38 2) (.nop (Iq17 38 2))
        rw [hwq17.2]
        exact .nop (by first | exact tkk | omega), fun z => absurd z (by omega)⟩)
      by_cases hs1 : v7 = 7
      · skip
        refine jt_tableIn (t := 155) d_RD_readStatement_56 (by unfold jRi; omega) (by omega) (by omega) (by rw [hs1]; rfl) rfl ?_
        refine jt_aload_n d_RD_readStatement_155 rfl ?_
        refine jt_iconst d_RD_readStatement_156 ?_
        refine cm_put (k := 38) (j := 4) (v := 2) d_RD_readStatement_157 (RD_w71 _ rfl) (by decide) cc_3 rfl rfl (Nat.le_of_ble_eq_true rfl) rfl ?_
        have p20 := cPf.I 38 4 2 p8 rfl (show -2147483648 ≤ 2 ∧ 2 ≤ 2147483647 by omega)
        refine jt_aload_n d_RD_readStatement_160 rfl ?_
        refine cct_callV (Y := Y_RD_readEquation) (ci := 2) (k := 38) (As := []) (rest := []) d_RD_readStatement_161 RD_c85 yk_RD_readEquation yv_RD_readEquation rfl (Nat.le_of_ble_eq_true rfl) (by decide) cc_3 rfl rfl (Nat.le_of_ble_eq_true rfl) (v_RD_readEquation_x G _ b (cu (cu (cu (cu (cu I 38 6 0) 38 9 0) 38 7 1) 38 4 v7) 38 4 2) A p20.1 p20.2.1 (cTok_f p20 hK rfl) X9 hX Y9 hY N9 hN V9 hV hVr rfl rfl) (fun rvq21 Iq21 Aq21 hq21 => ?_)
        obtain ⟨yq21, rfl, ryq21, hqq21, hxq21⟩ := hq21
        have hpq21 := cPf.trans p20 hqq21 rfl (fun _ h9 => h9)
        have cXq21 : Aq21 40 = X9 := (hqq21.2.2.2 40 rfl (by decide)).trans hX
        have cYq21 : Aq21 41 = Y9 := (hqq21.2.2.2 41 rfl (by decide)).trans hY
        have cNq21 : Iq21 39 3 = N9 := (hqq21.2.2.1 39 3 rfl).trans hN
        have cVq21 : cVf Aq21 V9 := cVf_f hqq21 rfl hV
        have s38_2q21 : (cu (cu (cu (cu (cu I 38 6 0) 38 9 0) 38 7 1) 38 4 v7) 38 4 2) 38 2 = I 38 2 := rfl
        have s38_6q21 : (cu (cu (cu (cu (cu I 38 6 0) 38 9 0) 38 7 1) 38 4 v7) 38 4 2) 38 6 = 0 := rfl
        have s38_7q21 : (cu (cu (cu (cu (cu I 38 6 0) 38 9 0) 38 7 1) 38 4 v7) 38 4 2) 38 7 = 1 := rfl
        have s38_9q21 : (cu (cu (cu (cu (cu I 38 6 0) 38 9 0) 38 7 1) 38 4 v7) 38 4 2) 38 9 = 0 := rfl
        have s38_4q21 : (cu (cu (cu (cu (cu I 38 6 0) 38 9 0) 38 7 1) 38 4 v7) 38 4 2) 38 4 = 2 := rfl
        have m38_9q21 : Iq21 38 9 = 0 := hqq21.2.2.1 38 9 rfl
        have m38_4q21 : Iq21 38 4 = 2 := hqq21.2.2.1 38 4 rfl
        by_cases gbq21 : yq21 = 0
        · skip
          obtain rfl : yq21 = 0 := by omega
          have hwq21 := hxq21.2 rfl
          clear hxq21
          show jt _ 164 [(0, .ref (b + 38)), (1, .int (jI 1))] [.int (jI 0)] (cmf b f0 Iq21 Aq21) _ _ _
          refine jt_istore_n (L' := [(0, .ref (b + 38)), (1, .int (jI 0))]) d_RD_readStatement_164 (Nat.le_of_ble_eq_true rfl) rfl ?_
          refine jt_iload_n d_RD_readStatement_165 rfl ?_
          refine jt_if_eq (t := 182) d_RD_readStatement_166 rfl (by unfold jRi; omega) (fun c22 => ?_) (fun c22 => ?_)
          · skip
            refine jt_iconst d_RD_readStatement_182 ?_
            exact cm_ret d_RD_readStatement_183 rfl (jnz (by omega)) (⟨0, rfl, by omega, hpq21, fun z => absurd z (by omega), fun _ => by
        have h9 : EQ N9 X9 Y9 V9 (I 38 2) (.err (Iq21 38 3) (Iq21 38 2)) := hwq21
        exact .eqsX (fun z => by omega) (fun z => by omega) (fun z => by omega) (fun z => by omega) h9⟩)
          · skip
            exfalso
            omega
        · skip
          obtain rfl : yq21 = 1 := by omega
          have hwq21 := hxq21.1 rfl
          clear hxq21
          show jt _ 164 [(0, .ref (b + 38)), (1, .int (jI 1))] [.int (jI 1)] (cmf b f0 Iq21 Aq21) _ _ _
          refine jt_istore_n (L' := [(0, .ref (b + 38)), (1, .int (jI 1))]) d_RD_readStatement_164 (Nat.le_of_ble_eq_true rfl) rfl ?_
          refine jt_iload_n d_RD_readStatement_165 rfl ?_
          refine jt_if_eq (t := 182) d_RD_readStatement_166 rfl (by unfold jRi; omega) (fun c23 => ?_) (fun c23 => ?_)
          · skip
            exfalso
            omega
          · skip
            refine jt_aload_n d_RD_readStatement_169 rfl ?_
            refine jt_bipush d_RD_readStatement_170 (by omega) ?_
            refine cct_callV (Y := Y_RD_take) (ci := 2) (k := 38) (As := [.int (jI 6)]) (rest := []) d_RD_readStatement_172 RD_c88 yk_RD_take yv_RD_take rfl (Nat.le_of_ble_eq_true rfl) (by decide) cc_3 rfl rfl (Nat.le_of_ble_eq_true rfl) (v_RD_take_x G _ b 6 Iq21 Aq21 hpq21.1 hpq21.2.1 X9 cXq21 Y9 cYq21 N9 cNq21 (by omega)) (fun rvq24 Iq24 Aq24 hq24 => ?_)
            obtain ⟨yq24, rfl, ryq24, hqq24, hxq24⟩ := hq24
            have hpq24 := cPf.transx hpq21 hqq24 rfl rfl
            have cXq24 : Aq24 40 = X9 := (hqq24.2.2.2 40 rfl (by decide)).trans cXq21
            have cYq24 : Aq24 41 = Y9 := (hqq24.2.2.2 41 rfl (by decide)).trans cYq21
            have cNq24 : Iq24 39 3 = N9 := (hqq24.2.2.1 39 3 rfl).trans cNq21
            have cVq24 : cVf Aq24 V9 := cVf_of hqq24 rfl cVq21
            have m38_6q24 : Iq24 38 6 = Iq21 38 6 := hqq24.2.2.1 38 6 rfl
            have m38_7q24 : Iq24 38 7 = Iq21 38 7 := hqq24.2.2.1 38 7 rfl
            have m38_9q24 : Iq24 38 9 = Iq21 38 9 := hqq24.2.2.1 38 9 rfl
            have m38_4q24 : Iq24 38 4 = Iq21 38 4 := hqq24.2.2.1 38 4 rfl
            have a375q24 : Aq24 375 = Aq21 375 := hqq24.2.2.2 375 rfl (by decide)
            by_cases gbq24 : yq24 = 0
            · skip
              obtain rfl : yq24 = 0 := by omega
              have hwq24 := hxq24.2 rfl
              clear hxq24
              show jt _ 175 [(0, .ref (b + 38)), (1, .int (jI 1))] [.int (jI 0)] (cmf b f0 Iq24 Aq24) _ _ _
              refine jt_if_eq (t := 182) d_RD_readStatement_175 rfl (by unfold jRi; omega) (fun c25 => ?_) (fun c25 => ?_)
              · skip
                refine jt_iconst d_RD_readStatement_182 ?_
                exact cm_ret d_RD_readStatement_183 rfl (jnz (by omega)) (⟨0, rfl, by omega, hpq24, fun z => absurd z (by omega), fun _ => by
        obtain ⟨fs, hkp, hf6, hph⟩ := hwq21
        have h9 : EQ N9 X9 Y9 V9 (I 38 2) (.ok (Iq21 38 2) fs (Iq21 38 7 = 1)) := hph
        show ST N9 X9 Y9 V9 (I 38 2) (.err (Iq24 38 3) (Iq24 38 2))
        rw [hwq24.2.2, hwq24.2.1]
        exact .eqsE (fun z => by omega) (fun z => by omega) (fun z => by omega) (fun z => by omega) h9 hwq24.1⟩)
              · skip
                exfalso
                omega
            · skip
              obtain rfl : yq24 = 1 := by omega
              have hwq24 := hxq24.1 rfl
              clear hxq24
              show jt _ 175 [(0, .ref (b + 38)), (1, .int (jI 1))] [.int (jI 1)] (cmf b f0 Iq24 Aq24) _ _ _
              refine jt_if_eq (t := 182) d_RD_readStatement_175 rfl (by unfold jRi; omega) (fun c26 => ?_) (fun c26 => ?_)
              · skip
                exfalso
                omega
              · skip
                refine jt_iconst d_RD_readStatement_178 ?_
                refine jt_goto (t := 183) d_RD_readStatement_179 rfl ?_
                exact cm_ret d_RD_readStatement_183 rfl (jnz (by omega)) (⟨1, rfl, by omega, hpq24, fun _ => by
        obtain ⟨fs, hkp, hf6, hph⟩ := hwq21
        have h9 : EQ N9 X9 Y9 V9 (I 38 2) (.ok (Iq21 38 2) fs (Iq21 38 7 = 1)) := hph
        refine Or.inr (Or.inr (Or.inr ⟨?_, fs, ?_, cKp_fr hkp (by have := hpq21.1 38 6; have h9 : Iq21 38 6 ≤ 150 := this.2; omega) (fr_x hqq24 rfl), ?_⟩))
        · show Iq24 38 4 = 2
          omega
        · show ST N9 X9 Y9 V9 (I 38 2) (.eqs (Iq24 38 2) fs (Iq24 38 7 = 1))
          rw [hwq24.2, m38_7q24]
          exact .eqs (fun z => by omega) (fun z => by omega) (fun z => by omega) (fun z => by omega) h9 hwq24.1
        · show Iq24 38 6 = _
          omega, fun z => absurd z (by omega)⟩)
      by_cases hs2 : v7 = 8
      · skip
        refine jt_tableIn (t := 155) d_RD_readStatement_56 (by unfold jRi; omega) (by omega) (by omega) (by rw [hs2]; rfl) rfl ?_
        refine jt_aload_n d_RD_readStatement_155 rfl ?_
        refine jt_iconst d_RD_readStatement_156 ?_
        refine cm_put (k := 38) (j := 4) (v := 2) d_RD_readStatement_157 (RD_w71 _ rfl) (by decide) cc_3 rfl rfl (Nat.le_of_ble_eq_true rfl) rfl ?_
        have p27 := cPf.I 38 4 2 p8 rfl (show -2147483648 ≤ 2 ∧ 2 ≤ 2147483647 by omega)
        refine jt_aload_n d_RD_readStatement_160 rfl ?_
        refine cct_callV (Y := Y_RD_readEquation) (ci := 2) (k := 38) (As := []) (rest := []) d_RD_readStatement_161 RD_c85 yk_RD_readEquation yv_RD_readEquation rfl (Nat.le_of_ble_eq_true rfl) (by decide) cc_3 rfl rfl (Nat.le_of_ble_eq_true rfl) (v_RD_readEquation_x G _ b (cu (cu (cu (cu (cu I 38 6 0) 38 9 0) 38 7 1) 38 4 v7) 38 4 2) A p27.1 p27.2.1 (cTok_f p27 hK rfl) X9 hX Y9 hY N9 hN V9 hV hVr rfl rfl) (fun rvq28 Iq28 Aq28 hq28 => ?_)
        obtain ⟨yq28, rfl, ryq28, hqq28, hxq28⟩ := hq28
        have hpq28 := cPf.trans p27 hqq28 rfl (fun _ h9 => h9)
        have cXq28 : Aq28 40 = X9 := (hqq28.2.2.2 40 rfl (by decide)).trans hX
        have cYq28 : Aq28 41 = Y9 := (hqq28.2.2.2 41 rfl (by decide)).trans hY
        have cNq28 : Iq28 39 3 = N9 := (hqq28.2.2.1 39 3 rfl).trans hN
        have cVq28 : cVf Aq28 V9 := cVf_f hqq28 rfl hV
        have s38_2q28 : (cu (cu (cu (cu (cu I 38 6 0) 38 9 0) 38 7 1) 38 4 v7) 38 4 2) 38 2 = I 38 2 := rfl
        have s38_6q28 : (cu (cu (cu (cu (cu I 38 6 0) 38 9 0) 38 7 1) 38 4 v7) 38 4 2) 38 6 = 0 := rfl
        have s38_7q28 : (cu (cu (cu (cu (cu I 38 6 0) 38 9 0) 38 7 1) 38 4 v7) 38 4 2) 38 7 = 1 := rfl
        have s38_9q28 : (cu (cu (cu (cu (cu I 38 6 0) 38 9 0) 38 7 1) 38 4 v7) 38 4 2) 38 9 = 0 := rfl
        have s38_4q28 : (cu (cu (cu (cu (cu I 38 6 0) 38 9 0) 38 7 1) 38 4 v7) 38 4 2) 38 4 = 2 := rfl
        have m38_9q28 : Iq28 38 9 = 0 := hqq28.2.2.1 38 9 rfl
        have m38_4q28 : Iq28 38 4 = 2 := hqq28.2.2.1 38 4 rfl
        by_cases gbq28 : yq28 = 0
        · skip
          obtain rfl : yq28 = 0 := by omega
          have hwq28 := hxq28.2 rfl
          clear hxq28
          show jt _ 164 [(0, .ref (b + 38)), (1, .int (jI 1))] [.int (jI 0)] (cmf b f0 Iq28 Aq28) _ _ _
          refine jt_istore_n (L' := [(0, .ref (b + 38)), (1, .int (jI 0))]) d_RD_readStatement_164 (Nat.le_of_ble_eq_true rfl) rfl ?_
          refine jt_iload_n d_RD_readStatement_165 rfl ?_
          refine jt_if_eq (t := 182) d_RD_readStatement_166 rfl (by unfold jRi; omega) (fun c29 => ?_) (fun c29 => ?_)
          · skip
            refine jt_iconst d_RD_readStatement_182 ?_
            exact cm_ret d_RD_readStatement_183 rfl (jnz (by omega)) (⟨0, rfl, by omega, hpq28, fun z => absurd z (by omega), fun _ => by
        have h9 : EQ N9 X9 Y9 V9 (I 38 2) (.err (Iq28 38 3) (Iq28 38 2)) := hwq28
        exact .eqsX (fun z => by omega) (fun z => by omega) (fun z => by omega) (fun z => by omega) h9⟩)
          · skip
            exfalso
            omega
        · skip
          obtain rfl : yq28 = 1 := by omega
          have hwq28 := hxq28.1 rfl
          clear hxq28
          show jt _ 164 [(0, .ref (b + 38)), (1, .int (jI 1))] [.int (jI 1)] (cmf b f0 Iq28 Aq28) _ _ _
          refine jt_istore_n (L' := [(0, .ref (b + 38)), (1, .int (jI 1))]) d_RD_readStatement_164 (Nat.le_of_ble_eq_true rfl) rfl ?_
          refine jt_iload_n d_RD_readStatement_165 rfl ?_
          refine jt_if_eq (t := 182) d_RD_readStatement_166 rfl (by unfold jRi; omega) (fun c30 => ?_) (fun c30 => ?_)
          · skip
            exfalso
            omega
          · skip
            refine jt_aload_n d_RD_readStatement_169 rfl ?_
            refine jt_bipush d_RD_readStatement_170 (by omega) ?_
            refine cct_callV (Y := Y_RD_take) (ci := 2) (k := 38) (As := [.int (jI 6)]) (rest := []) d_RD_readStatement_172 RD_c88 yk_RD_take yv_RD_take rfl (Nat.le_of_ble_eq_true rfl) (by decide) cc_3 rfl rfl (Nat.le_of_ble_eq_true rfl) (v_RD_take_x G _ b 6 Iq28 Aq28 hpq28.1 hpq28.2.1 X9 cXq28 Y9 cYq28 N9 cNq28 (by omega)) (fun rvq31 Iq31 Aq31 hq31 => ?_)
            obtain ⟨yq31, rfl, ryq31, hqq31, hxq31⟩ := hq31
            have hpq31 := cPf.transx hpq28 hqq31 rfl rfl
            have cXq31 : Aq31 40 = X9 := (hqq31.2.2.2 40 rfl (by decide)).trans cXq28
            have cYq31 : Aq31 41 = Y9 := (hqq31.2.2.2 41 rfl (by decide)).trans cYq28
            have cNq31 : Iq31 39 3 = N9 := (hqq31.2.2.1 39 3 rfl).trans cNq28
            have cVq31 : cVf Aq31 V9 := cVf_of hqq31 rfl cVq28
            have m38_6q31 : Iq31 38 6 = Iq28 38 6 := hqq31.2.2.1 38 6 rfl
            have m38_7q31 : Iq31 38 7 = Iq28 38 7 := hqq31.2.2.1 38 7 rfl
            have m38_9q31 : Iq31 38 9 = Iq28 38 9 := hqq31.2.2.1 38 9 rfl
            have m38_4q31 : Iq31 38 4 = Iq28 38 4 := hqq31.2.2.1 38 4 rfl
            have a375q31 : Aq31 375 = Aq28 375 := hqq31.2.2.2 375 rfl (by decide)
            by_cases gbq31 : yq31 = 0
            · skip
              obtain rfl : yq31 = 0 := by omega
              have hwq31 := hxq31.2 rfl
              clear hxq31
              show jt _ 175 [(0, .ref (b + 38)), (1, .int (jI 1))] [.int (jI 0)] (cmf b f0 Iq31 Aq31) _ _ _
              refine jt_if_eq (t := 182) d_RD_readStatement_175 rfl (by unfold jRi; omega) (fun c32 => ?_) (fun c32 => ?_)
              · skip
                refine jt_iconst d_RD_readStatement_182 ?_
                exact cm_ret d_RD_readStatement_183 rfl (jnz (by omega)) (⟨0, rfl, by omega, hpq31, fun z => absurd z (by omega), fun _ => by
        obtain ⟨fs, hkp, hf6, hph⟩ := hwq28
        have h9 : EQ N9 X9 Y9 V9 (I 38 2) (.ok (Iq28 38 2) fs (Iq28 38 7 = 1)) := hph
        show ST N9 X9 Y9 V9 (I 38 2) (.err (Iq31 38 3) (Iq31 38 2))
        rw [hwq31.2.2, hwq31.2.1]
        exact .eqsE (fun z => by omega) (fun z => by omega) (fun z => by omega) (fun z => by omega) h9 hwq31.1⟩)
              · skip
                exfalso
                omega
            · skip
              obtain rfl : yq31 = 1 := by omega
              have hwq31 := hxq31.1 rfl
              clear hxq31
              show jt _ 175 [(0, .ref (b + 38)), (1, .int (jI 1))] [.int (jI 1)] (cmf b f0 Iq31 Aq31) _ _ _
              refine jt_if_eq (t := 182) d_RD_readStatement_175 rfl (by unfold jRi; omega) (fun c33 => ?_) (fun c33 => ?_)
              · skip
                exfalso
                omega
              · skip
                refine jt_iconst d_RD_readStatement_178 ?_
                refine jt_goto (t := 183) d_RD_readStatement_179 rfl ?_
                exact cm_ret d_RD_readStatement_183 rfl (jnz (by omega)) (⟨1, rfl, by omega, hpq31, fun _ => by
        obtain ⟨fs, hkp, hf6, hph⟩ := hwq28
        have h9 : EQ N9 X9 Y9 V9 (I 38 2) (.ok (Iq28 38 2) fs (Iq28 38 7 = 1)) := hph
        refine Or.inr (Or.inr (Or.inr ⟨?_, fs, ?_, cKp_fr hkp (by have := hpq28.1 38 6; have h9 : Iq28 38 6 ≤ 150 := this.2; omega) (fr_x hqq31 rfl), ?_⟩))
        · show Iq31 38 4 = 2
          omega
        · show ST N9 X9 Y9 V9 (I 38 2) (.eqs (Iq31 38 2) fs (Iq31 38 7 = 1))
          rw [hwq31.2, m38_7q31]
          exact .eqs (fun z => by omega) (fun z => by omega) (fun z => by omega) (fun z => by omega) h9 hwq31.1
        · show Iq31 38 6 = _
          omega, fun z => absurd z (by omega)⟩)
      by_cases hs3 : v7 = 9
      · skip
        refine jt_tableIn (t := 155) d_RD_readStatement_56 (by unfold jRi; omega) (by omega) (by omega) (by rw [hs3]; rfl) rfl ?_
        refine jt_aload_n d_RD_readStatement_155 rfl ?_
        refine jt_iconst d_RD_readStatement_156 ?_
        refine cm_put (k := 38) (j := 4) (v := 2) d_RD_readStatement_157 (RD_w71 _ rfl) (by decide) cc_3 rfl rfl (Nat.le_of_ble_eq_true rfl) rfl ?_
        have p34 := cPf.I 38 4 2 p8 rfl (show -2147483648 ≤ 2 ∧ 2 ≤ 2147483647 by omega)
        refine jt_aload_n d_RD_readStatement_160 rfl ?_
        refine cct_callV (Y := Y_RD_readEquation) (ci := 2) (k := 38) (As := []) (rest := []) d_RD_readStatement_161 RD_c85 yk_RD_readEquation yv_RD_readEquation rfl (Nat.le_of_ble_eq_true rfl) (by decide) cc_3 rfl rfl (Nat.le_of_ble_eq_true rfl) (v_RD_readEquation_x G _ b (cu (cu (cu (cu (cu I 38 6 0) 38 9 0) 38 7 1) 38 4 v7) 38 4 2) A p34.1 p34.2.1 (cTok_f p34 hK rfl) X9 hX Y9 hY N9 hN V9 hV hVr rfl rfl) (fun rvq35 Iq35 Aq35 hq35 => ?_)
        obtain ⟨yq35, rfl, ryq35, hqq35, hxq35⟩ := hq35
        have hpq35 := cPf.trans p34 hqq35 rfl (fun _ h9 => h9)
        have cXq35 : Aq35 40 = X9 := (hqq35.2.2.2 40 rfl (by decide)).trans hX
        have cYq35 : Aq35 41 = Y9 := (hqq35.2.2.2 41 rfl (by decide)).trans hY
        have cNq35 : Iq35 39 3 = N9 := (hqq35.2.2.1 39 3 rfl).trans hN
        have cVq35 : cVf Aq35 V9 := cVf_f hqq35 rfl hV
        have s38_2q35 : (cu (cu (cu (cu (cu I 38 6 0) 38 9 0) 38 7 1) 38 4 v7) 38 4 2) 38 2 = I 38 2 := rfl
        have s38_6q35 : (cu (cu (cu (cu (cu I 38 6 0) 38 9 0) 38 7 1) 38 4 v7) 38 4 2) 38 6 = 0 := rfl
        have s38_7q35 : (cu (cu (cu (cu (cu I 38 6 0) 38 9 0) 38 7 1) 38 4 v7) 38 4 2) 38 7 = 1 := rfl
        have s38_9q35 : (cu (cu (cu (cu (cu I 38 6 0) 38 9 0) 38 7 1) 38 4 v7) 38 4 2) 38 9 = 0 := rfl
        have s38_4q35 : (cu (cu (cu (cu (cu I 38 6 0) 38 9 0) 38 7 1) 38 4 v7) 38 4 2) 38 4 = 2 := rfl
        have m38_9q35 : Iq35 38 9 = 0 := hqq35.2.2.1 38 9 rfl
        have m38_4q35 : Iq35 38 4 = 2 := hqq35.2.2.1 38 4 rfl
        by_cases gbq35 : yq35 = 0
        · skip
          obtain rfl : yq35 = 0 := by omega
          have hwq35 := hxq35.2 rfl
          clear hxq35
          show jt _ 164 [(0, .ref (b + 38)), (1, .int (jI 1))] [.int (jI 0)] (cmf b f0 Iq35 Aq35) _ _ _
          refine jt_istore_n (L' := [(0, .ref (b + 38)), (1, .int (jI 0))]) d_RD_readStatement_164 (Nat.le_of_ble_eq_true rfl) rfl ?_
          refine jt_iload_n d_RD_readStatement_165 rfl ?_
          refine jt_if_eq (t := 182) d_RD_readStatement_166 rfl (by unfold jRi; omega) (fun c36 => ?_) (fun c36 => ?_)
          · skip
            refine jt_iconst d_RD_readStatement_182 ?_
            exact cm_ret d_RD_readStatement_183 rfl (jnz (by omega)) (⟨0, rfl, by omega, hpq35, fun z => absurd z (by omega), fun _ => by
        have h9 : EQ N9 X9 Y9 V9 (I 38 2) (.err (Iq35 38 3) (Iq35 38 2)) := hwq35
        exact .eqsX (fun z => by omega) (fun z => by omega) (fun z => by omega) (fun z => by omega) h9⟩)
          · skip
            exfalso
            omega
        · skip
          obtain rfl : yq35 = 1 := by omega
          have hwq35 := hxq35.1 rfl
          clear hxq35
          show jt _ 164 [(0, .ref (b + 38)), (1, .int (jI 1))] [.int (jI 1)] (cmf b f0 Iq35 Aq35) _ _ _
          refine jt_istore_n (L' := [(0, .ref (b + 38)), (1, .int (jI 1))]) d_RD_readStatement_164 (Nat.le_of_ble_eq_true rfl) rfl ?_
          refine jt_iload_n d_RD_readStatement_165 rfl ?_
          refine jt_if_eq (t := 182) d_RD_readStatement_166 rfl (by unfold jRi; omega) (fun c37 => ?_) (fun c37 => ?_)
          · skip
            exfalso
            omega
          · skip
            refine jt_aload_n d_RD_readStatement_169 rfl ?_
            refine jt_bipush d_RD_readStatement_170 (by omega) ?_
            refine cct_callV (Y := Y_RD_take) (ci := 2) (k := 38) (As := [.int (jI 6)]) (rest := []) d_RD_readStatement_172 RD_c88 yk_RD_take yv_RD_take rfl (Nat.le_of_ble_eq_true rfl) (by decide) cc_3 rfl rfl (Nat.le_of_ble_eq_true rfl) (v_RD_take_x G _ b 6 Iq35 Aq35 hpq35.1 hpq35.2.1 X9 cXq35 Y9 cYq35 N9 cNq35 (by omega)) (fun rvq38 Iq38 Aq38 hq38 => ?_)
            obtain ⟨yq38, rfl, ryq38, hqq38, hxq38⟩ := hq38
            have hpq38 := cPf.transx hpq35 hqq38 rfl rfl
            have cXq38 : Aq38 40 = X9 := (hqq38.2.2.2 40 rfl (by decide)).trans cXq35
            have cYq38 : Aq38 41 = Y9 := (hqq38.2.2.2 41 rfl (by decide)).trans cYq35
            have cNq38 : Iq38 39 3 = N9 := (hqq38.2.2.1 39 3 rfl).trans cNq35
            have cVq38 : cVf Aq38 V9 := cVf_of hqq38 rfl cVq35
            have m38_6q38 : Iq38 38 6 = Iq35 38 6 := hqq38.2.2.1 38 6 rfl
            have m38_7q38 : Iq38 38 7 = Iq35 38 7 := hqq38.2.2.1 38 7 rfl
            have m38_9q38 : Iq38 38 9 = Iq35 38 9 := hqq38.2.2.1 38 9 rfl
            have m38_4q38 : Iq38 38 4 = Iq35 38 4 := hqq38.2.2.1 38 4 rfl
            have a375q38 : Aq38 375 = Aq35 375 := hqq38.2.2.2 375 rfl (by decide)
            by_cases gbq38 : yq38 = 0
            · skip
              obtain rfl : yq38 = 0 := by omega
              have hwq38 := hxq38.2 rfl
              clear hxq38
              show jt _ 175 [(0, .ref (b + 38)), (1, .int (jI 1))] [.int (jI 0)] (cmf b f0 Iq38 Aq38) _ _ _
              refine jt_if_eq (t := 182) d_RD_readStatement_175 rfl (by unfold jRi; omega) (fun c39 => ?_) (fun c39 => ?_)
              · skip
                refine jt_iconst d_RD_readStatement_182 ?_
                exact cm_ret d_RD_readStatement_183 rfl (jnz (by omega)) (⟨0, rfl, by omega, hpq38, fun z => absurd z (by omega), fun _ => by
        obtain ⟨fs, hkp, hf6, hph⟩ := hwq35
        have h9 : EQ N9 X9 Y9 V9 (I 38 2) (.ok (Iq35 38 2) fs (Iq35 38 7 = 1)) := hph
        show ST N9 X9 Y9 V9 (I 38 2) (.err (Iq38 38 3) (Iq38 38 2))
        rw [hwq38.2.2, hwq38.2.1]
        exact .eqsE (fun z => by omega) (fun z => by omega) (fun z => by omega) (fun z => by omega) h9 hwq38.1⟩)
              · skip
                exfalso
                omega
            · skip
              obtain rfl : yq38 = 1 := by omega
              have hwq38 := hxq38.1 rfl
              clear hxq38
              show jt _ 175 [(0, .ref (b + 38)), (1, .int (jI 1))] [.int (jI 1)] (cmf b f0 Iq38 Aq38) _ _ _
              refine jt_if_eq (t := 182) d_RD_readStatement_175 rfl (by unfold jRi; omega) (fun c40 => ?_) (fun c40 => ?_)
              · skip
                exfalso
                omega
              · skip
                refine jt_iconst d_RD_readStatement_178 ?_
                refine jt_goto (t := 183) d_RD_readStatement_179 rfl ?_
                exact cm_ret d_RD_readStatement_183 rfl (jnz (by omega)) (⟨1, rfl, by omega, hpq38, fun _ => by
        obtain ⟨fs, hkp, hf6, hph⟩ := hwq35
        have h9 : EQ N9 X9 Y9 V9 (I 38 2) (.ok (Iq35 38 2) fs (Iq35 38 7 = 1)) := hph
        refine Or.inr (Or.inr (Or.inr ⟨?_, fs, ?_, cKp_fr hkp (by have := hpq35.1 38 6; have h9 : Iq35 38 6 ≤ 150 := this.2; omega) (fr_x hqq38 rfl), ?_⟩))
        · show Iq38 38 4 = 2
          omega
        · show ST N9 X9 Y9 V9 (I 38 2) (.eqs (Iq38 38 2) fs (Iq38 38 7 = 1))
          rw [hwq38.2, m38_7q38]
          exact .eqs (fun z => by omega) (fun z => by omega) (fun z => by omega) (fun z => by omega) h9 hwq38.1
        · show Iq38 38 6 = _
          omega, fun z => absurd z (by omega)⟩)
      by_cases hs4 : v7 = 10
      · skip
        refine jt_tableIn (t := 137) d_RD_readStatement_56 (by unfold jRi; omega) (by omega) (by omega) (by rw [hs4]; rfl) rfl ?_
        refine jt_aload_n d_RD_readStatement_137 rfl ?_
        refine jt_dup d_RD_readStatement_138 rfl ?_
        refine cm_get (k := 38) (v := .int (jI (I 38 2))) d_RD_readStatement_139 RD_f60 (by decide) cc_3 rfl ?_
        refine jt_iconst d_RD_readStatement_142 ?_
        refine jt_iadd d_RD_readStatement_143 ?_
        refine jt_topi (fun v41 ev41 => ?_)
        refine cm_put (k := 38) (j := 2) (v := v41) d_RD_readStatement_144 (RD_w60 _ rfl) (by decide) cc_3 rfl rfl (Nat.le_of_ble_eq_true rfl) rfl ?_
        have p42 := cPf.I 38 2 v41 p8 rfl (show 0 ≤ v41 ∧ v41 ≤ 300 by omega)
        refine jt_aload_n d_RD_readStatement_147 rfl ?_
        refine cct_callV (Y := Y_RD_readPath) (ci := 2) (k := 38) (As := []) (rest := []) d_RD_readStatement_148 RD_c82 yk_RD_readPath yv_RD_readPath rfl (Nat.le_of_ble_eq_true rfl) (by decide) cc_3 rfl rfl (Nat.le_of_ble_eq_true rfl) (v_RD_readPath_x G _ b (cu (cu (cu (cu (cu I 38 6 0) 38 9 0) 38 7 1) 38 4 v7) 38 2 v41) A p42.1 p42.2.1 (cTok_f p42 hK rfl) X9 hX Y9 hY N9 hN V9 hV hVr rfl rfl rfl) (fun rvq43 Iq43 Aq43 hq43 => ?_)
        obtain ⟨yq43, rfl, ryq43, hqq43, hxq43⟩ := hq43
        have hpq43 := cPf.trans p42 hqq43 rfl (fun _ h9 => h9)
        have cXq43 : Aq43 40 = X9 := (hqq43.2.2.2 40 rfl (by decide)).trans hX
        have cYq43 : Aq43 41 = Y9 := (hqq43.2.2.2 41 rfl (by decide)).trans hY
        have cNq43 : Iq43 39 3 = N9 := (hqq43.2.2.1 39 3 rfl).trans hN
        have cVq43 : cVf Aq43 V9 := cVf_f hqq43 rfl hV
        have s38_2q43 : (cu (cu (cu (cu (cu I 38 6 0) 38 9 0) 38 7 1) 38 4 v7) 38 2 v41) 38 2 = v41 := rfl
        have s38_6q43 : (cu (cu (cu (cu (cu I 38 6 0) 38 9 0) 38 7 1) 38 4 v7) 38 2 v41) 38 6 = 0 := rfl
        have s38_7q43 : (cu (cu (cu (cu (cu I 38 6 0) 38 9 0) 38 7 1) 38 4 v7) 38 2 v41) 38 7 = 1 := rfl
        have s38_9q43 : (cu (cu (cu (cu (cu I 38 6 0) 38 9 0) 38 7 1) 38 4 v7) 38 2 v41) 38 9 = 0 := rfl
        have s38_4q43 : (cu (cu (cu (cu (cu I 38 6 0) 38 9 0) 38 7 1) 38 4 v7) 38 2 v41) 38 4 = v7 := rfl
        have m38_4q43 : Iq43 38 4 = v7 := hqq43.2.2.1 38 4 rfl
        by_cases gbq43 : yq43 = 0
        · skip
          obtain rfl : yq43 = 0 := by omega
          have hwq43 := hxq43.2 rfl
          clear hxq43
          show jt _ 151 [(0, .ref (b + 38)), (1, .int (jI 1))] [.int (jI 0)] (cmf b f0 Iq43 Aq43) _ _ _
          refine jt_istore_n (L' := [(0, .ref (b + 38)), (1, .int (jI 0))]) d_RD_readStatement_151 (Nat.le_of_ble_eq_true rfl) rfl ?_
          refine jt_goto (t := 165) d_RD_readStatement_152 rfl ?_
          refine jt_iload_n d_RD_readStatement_165 rfl ?_
          refine jt_if_eq (t := 182) d_RD_readStatement_166 rfl (by unfold jRi; omega) (fun c44 => ?_) (fun c44 => ?_)
          · skip
            refine jt_iconst d_RD_readStatement_182 ?_
            exact cm_ret d_RD_readStatement_183 rfl (jnz (by omega)) (⟨0, rfl, by omega, hpq43, fun z => absurd z (by omega), fun _ => by
        have h9 : PH N9 X9 Y9 V9 v41 (.err (Iq43 38 3) (Iq43 38 2)) := hwq43
        rw [ev41] at h9
        exact .pathX (by omega : v7 = 10 ∨ v7 = 11) (by first | exact tkk | omega) h9⟩)
          · skip
            exfalso
            omega
        · skip
          obtain rfl : yq43 = 1 := by omega
          have hwq43 := hxq43.1 rfl
          clear hxq43
          show jt _ 151 [(0, .ref (b + 38)), (1, .int (jI 1))] [.int (jI 1)] (cmf b f0 Iq43 Aq43) _ _ _
          refine jt_istore_n (L' := [(0, .ref (b + 38)), (1, .int (jI 1))]) d_RD_readStatement_151 (Nat.le_of_ble_eq_true rfl) rfl ?_
          refine jt_goto (t := 165) d_RD_readStatement_152 rfl ?_
          refine jt_iload_n d_RD_readStatement_165 rfl ?_
          refine jt_if_eq (t := 182) d_RD_readStatement_166 rfl (by unfold jRi; omega) (fun c45 => ?_) (fun c45 => ?_)
          · skip
            exfalso
            omega
          · skip
            refine jt_aload_n d_RD_readStatement_169 rfl ?_
            refine jt_bipush d_RD_readStatement_170 (by omega) ?_
            refine cct_callV (Y := Y_RD_take) (ci := 2) (k := 38) (As := [.int (jI 6)]) (rest := []) d_RD_readStatement_172 RD_c88 yk_RD_take yv_RD_take rfl (Nat.le_of_ble_eq_true rfl) (by decide) cc_3 rfl rfl (Nat.le_of_ble_eq_true rfl) (v_RD_take_x G _ b 6 Iq43 Aq43 hpq43.1 hpq43.2.1 X9 cXq43 Y9 cYq43 N9 cNq43 (by omega)) (fun rvq46 Iq46 Aq46 hq46 => ?_)
            obtain ⟨yq46, rfl, ryq46, hqq46, hxq46⟩ := hq46
            have hpq46 := cPf.transx hpq43 hqq46 rfl rfl
            have cXq46 : Aq46 40 = X9 := (hqq46.2.2.2 40 rfl (by decide)).trans cXq43
            have cYq46 : Aq46 41 = Y9 := (hqq46.2.2.2 41 rfl (by decide)).trans cYq43
            have cNq46 : Iq46 39 3 = N9 := (hqq46.2.2.1 39 3 rfl).trans cNq43
            have cVq46 : cVf Aq46 V9 := cVf_of hqq46 rfl cVq43
            have m38_6q46 : Iq46 38 6 = Iq43 38 6 := hqq46.2.2.1 38 6 rfl
            have m38_7q46 : Iq46 38 7 = Iq43 38 7 := hqq46.2.2.1 38 7 rfl
            have m38_9q46 : Iq46 38 9 = Iq43 38 9 := hqq46.2.2.1 38 9 rfl
            have m38_4q46 : Iq46 38 4 = Iq43 38 4 := hqq46.2.2.1 38 4 rfl
            have a375q46 : Aq46 375 = Aq43 375 := hqq46.2.2.2 375 rfl (by decide)
            by_cases gbq46 : yq46 = 0
            · skip
              obtain rfl : yq46 = 0 := by omega
              have hwq46 := hxq46.2 rfl
              clear hxq46
              show jt _ 175 [(0, .ref (b + 38)), (1, .int (jI 1))] [.int (jI 0)] (cmf b f0 Iq46 Aq46) _ _ _
              refine jt_if_eq (t := 182) d_RD_readStatement_175 rfl (by unfold jRi; omega) (fun c47 => ?_) (fun c47 => ?_)
              · skip
                refine jt_iconst d_RD_readStatement_182 ?_
                exact cm_ret d_RD_readStatement_183 rfl (jnz (by omega)) (⟨0, rfl, by omega, hpq46, fun z => absurd z (by omega), fun _ => by
        obtain ⟨L9, fs, hkp, hlg, hf6, hf9, hph⟩ := hwq43
        have h9 : PH N9 X9 Y9 V9 v41 (.ok (Iq43 38 2) L9 fs (Iq43 38 7 = 1)) := hph
        rw [ev41] at h9
        show ST N9 X9 Y9 V9 (I 38 2) (.err (Iq46 38 3) (Iq46 38 2))
        rw [hwq46.2.2, hwq46.2.1]
        exact .pathE (by omega : v7 = 10 ∨ v7 = 11) (by first | exact tkk | omega) h9 hwq46.1⟩)
              · skip
                exfalso
                omega
            · skip
              obtain rfl : yq46 = 1 := by omega
              have hwq46 := hxq46.1 rfl
              clear hxq46
              show jt _ 175 [(0, .ref (b + 38)), (1, .int (jI 1))] [.int (jI 1)] (cmf b f0 Iq46 Aq46) _ _ _
              refine jt_if_eq (t := 182) d_RD_readStatement_175 rfl (by unfold jRi; omega) (fun c48 => ?_) (fun c48 => ?_)
              · skip
                exfalso
                omega
              · skip
                refine jt_iconst d_RD_readStatement_178 ?_
                refine jt_goto (t := 183) d_RD_readStatement_179 rfl ?_
                exact cm_ret d_RD_readStatement_183 rfl (jnz (by omega)) (⟨1, rfl, by omega, hpq46, fun _ => by
        obtain ⟨L9, fs, hkp, hlg, hf6, hf9, hph⟩ := hwq43
        have h9 : PH N9 X9 Y9 V9 v41 (.ok (Iq43 38 2) L9 fs (Iq43 38 7 = 1)) := hph
        rw [ev41] at h9
        refine Or.inr (Or.inr (Or.inl ⟨?_, L9, fs, ?_, cKp_fr hkp (by have := hpq43.1 38 6; have h9 : Iq43 38 6 ≤ 150 := this.2; omega) (fr_x hqq46 rfl), cLg_fr hlg a375q46, ?_, ?_⟩))
        · show Iq46 38 4 = 10 ∨ Iq46 38 4 = 11
          omega
        · show ST N9 X9 Y9 V9 (I 38 2) (.path (Iq46 38 2) (Iq46 38 4) L9 fs (Iq46 38 7 = 1))
          rw [hwq46.2, m38_7q46, show Iq46 38 4 = v7 by omega]
          exact .path (by omega : v7 = 10 ∨ v7 = 11) (by first | exact tkk | omega) h9 hwq46.1
        · show Iq46 38 6 = _
          omega
        · show Iq46 38 9 = _
          omega, fun z => absurd z (by omega)⟩)
      by_cases hs5 : v7 = 11
      · skip
        refine jt_tableIn (t := 137) d_RD_readStatement_56 (by unfold jRi; omega) (by omega) (by omega) (by rw [hs5]; rfl) rfl ?_
        refine jt_aload_n d_RD_readStatement_137 rfl ?_
        refine jt_dup d_RD_readStatement_138 rfl ?_
        refine cm_get (k := 38) (v := .int (jI (I 38 2))) d_RD_readStatement_139 RD_f60 (by decide) cc_3 rfl ?_
        refine jt_iconst d_RD_readStatement_142 ?_
        refine jt_iadd d_RD_readStatement_143 ?_
        refine jt_topi (fun v49 ev49 => ?_)
        refine cm_put (k := 38) (j := 2) (v := v49) d_RD_readStatement_144 (RD_w60 _ rfl) (by decide) cc_3 rfl rfl (Nat.le_of_ble_eq_true rfl) rfl ?_
        have p50 := cPf.I 38 2 v49 p8 rfl (show 0 ≤ v49 ∧ v49 ≤ 300 by omega)
        refine jt_aload_n d_RD_readStatement_147 rfl ?_
        refine cct_callV (Y := Y_RD_readPath) (ci := 2) (k := 38) (As := []) (rest := []) d_RD_readStatement_148 RD_c82 yk_RD_readPath yv_RD_readPath rfl (Nat.le_of_ble_eq_true rfl) (by decide) cc_3 rfl rfl (Nat.le_of_ble_eq_true rfl) (v_RD_readPath_x G _ b (cu (cu (cu (cu (cu I 38 6 0) 38 9 0) 38 7 1) 38 4 v7) 38 2 v49) A p50.1 p50.2.1 (cTok_f p50 hK rfl) X9 hX Y9 hY N9 hN V9 hV hVr rfl rfl rfl) (fun rvq51 Iq51 Aq51 hq51 => ?_)
        obtain ⟨yq51, rfl, ryq51, hqq51, hxq51⟩ := hq51
        have hpq51 := cPf.trans p50 hqq51 rfl (fun _ h9 => h9)
        have cXq51 : Aq51 40 = X9 := (hqq51.2.2.2 40 rfl (by decide)).trans hX
        have cYq51 : Aq51 41 = Y9 := (hqq51.2.2.2 41 rfl (by decide)).trans hY
        have cNq51 : Iq51 39 3 = N9 := (hqq51.2.2.1 39 3 rfl).trans hN
        have cVq51 : cVf Aq51 V9 := cVf_f hqq51 rfl hV
        have s38_2q51 : (cu (cu (cu (cu (cu I 38 6 0) 38 9 0) 38 7 1) 38 4 v7) 38 2 v49) 38 2 = v49 := rfl
        have s38_6q51 : (cu (cu (cu (cu (cu I 38 6 0) 38 9 0) 38 7 1) 38 4 v7) 38 2 v49) 38 6 = 0 := rfl
        have s38_7q51 : (cu (cu (cu (cu (cu I 38 6 0) 38 9 0) 38 7 1) 38 4 v7) 38 2 v49) 38 7 = 1 := rfl
        have s38_9q51 : (cu (cu (cu (cu (cu I 38 6 0) 38 9 0) 38 7 1) 38 4 v7) 38 2 v49) 38 9 = 0 := rfl
        have s38_4q51 : (cu (cu (cu (cu (cu I 38 6 0) 38 9 0) 38 7 1) 38 4 v7) 38 2 v49) 38 4 = v7 := rfl
        have m38_4q51 : Iq51 38 4 = v7 := hqq51.2.2.1 38 4 rfl
        by_cases gbq51 : yq51 = 0
        · skip
          obtain rfl : yq51 = 0 := by omega
          have hwq51 := hxq51.2 rfl
          clear hxq51
          show jt _ 151 [(0, .ref (b + 38)), (1, .int (jI 1))] [.int (jI 0)] (cmf b f0 Iq51 Aq51) _ _ _
          refine jt_istore_n (L' := [(0, .ref (b + 38)), (1, .int (jI 0))]) d_RD_readStatement_151 (Nat.le_of_ble_eq_true rfl) rfl ?_
          refine jt_goto (t := 165) d_RD_readStatement_152 rfl ?_
          refine jt_iload_n d_RD_readStatement_165 rfl ?_
          refine jt_if_eq (t := 182) d_RD_readStatement_166 rfl (by unfold jRi; omega) (fun c52 => ?_) (fun c52 => ?_)
          · skip
            refine jt_iconst d_RD_readStatement_182 ?_
            exact cm_ret d_RD_readStatement_183 rfl (jnz (by omega)) (⟨0, rfl, by omega, hpq51, fun z => absurd z (by omega), fun _ => by
        have h9 : PH N9 X9 Y9 V9 v49 (.err (Iq51 38 3) (Iq51 38 2)) := hwq51
        rw [ev49] at h9
        exact .pathX (by omega : v7 = 10 ∨ v7 = 11) (by first | exact tkk | omega) h9⟩)
          · skip
            exfalso
            omega
        · skip
          obtain rfl : yq51 = 1 := by omega
          have hwq51 := hxq51.1 rfl
          clear hxq51
          show jt _ 151 [(0, .ref (b + 38)), (1, .int (jI 1))] [.int (jI 1)] (cmf b f0 Iq51 Aq51) _ _ _
          refine jt_istore_n (L' := [(0, .ref (b + 38)), (1, .int (jI 1))]) d_RD_readStatement_151 (Nat.le_of_ble_eq_true rfl) rfl ?_
          refine jt_goto (t := 165) d_RD_readStatement_152 rfl ?_
          refine jt_iload_n d_RD_readStatement_165 rfl ?_
          refine jt_if_eq (t := 182) d_RD_readStatement_166 rfl (by unfold jRi; omega) (fun c53 => ?_) (fun c53 => ?_)
          · skip
            exfalso
            omega
          · skip
            refine jt_aload_n d_RD_readStatement_169 rfl ?_
            refine jt_bipush d_RD_readStatement_170 (by omega) ?_
            refine cct_callV (Y := Y_RD_take) (ci := 2) (k := 38) (As := [.int (jI 6)]) (rest := []) d_RD_readStatement_172 RD_c88 yk_RD_take yv_RD_take rfl (Nat.le_of_ble_eq_true rfl) (by decide) cc_3 rfl rfl (Nat.le_of_ble_eq_true rfl) (v_RD_take_x G _ b 6 Iq51 Aq51 hpq51.1 hpq51.2.1 X9 cXq51 Y9 cYq51 N9 cNq51 (by omega)) (fun rvq54 Iq54 Aq54 hq54 => ?_)
            obtain ⟨yq54, rfl, ryq54, hqq54, hxq54⟩ := hq54
            have hpq54 := cPf.transx hpq51 hqq54 rfl rfl
            have cXq54 : Aq54 40 = X9 := (hqq54.2.2.2 40 rfl (by decide)).trans cXq51
            have cYq54 : Aq54 41 = Y9 := (hqq54.2.2.2 41 rfl (by decide)).trans cYq51
            have cNq54 : Iq54 39 3 = N9 := (hqq54.2.2.1 39 3 rfl).trans cNq51
            have cVq54 : cVf Aq54 V9 := cVf_of hqq54 rfl cVq51
            have m38_6q54 : Iq54 38 6 = Iq51 38 6 := hqq54.2.2.1 38 6 rfl
            have m38_7q54 : Iq54 38 7 = Iq51 38 7 := hqq54.2.2.1 38 7 rfl
            have m38_9q54 : Iq54 38 9 = Iq51 38 9 := hqq54.2.2.1 38 9 rfl
            have m38_4q54 : Iq54 38 4 = Iq51 38 4 := hqq54.2.2.1 38 4 rfl
            have a375q54 : Aq54 375 = Aq51 375 := hqq54.2.2.2 375 rfl (by decide)
            by_cases gbq54 : yq54 = 0
            · skip
              obtain rfl : yq54 = 0 := by omega
              have hwq54 := hxq54.2 rfl
              clear hxq54
              show jt _ 175 [(0, .ref (b + 38)), (1, .int (jI 1))] [.int (jI 0)] (cmf b f0 Iq54 Aq54) _ _ _
              refine jt_if_eq (t := 182) d_RD_readStatement_175 rfl (by unfold jRi; omega) (fun c55 => ?_) (fun c55 => ?_)
              · skip
                refine jt_iconst d_RD_readStatement_182 ?_
                exact cm_ret d_RD_readStatement_183 rfl (jnz (by omega)) (⟨0, rfl, by omega, hpq54, fun z => absurd z (by omega), fun _ => by
        obtain ⟨L9, fs, hkp, hlg, hf6, hf9, hph⟩ := hwq51
        have h9 : PH N9 X9 Y9 V9 v49 (.ok (Iq51 38 2) L9 fs (Iq51 38 7 = 1)) := hph
        rw [ev49] at h9
        show ST N9 X9 Y9 V9 (I 38 2) (.err (Iq54 38 3) (Iq54 38 2))
        rw [hwq54.2.2, hwq54.2.1]
        exact .pathE (by omega : v7 = 10 ∨ v7 = 11) (by first | exact tkk | omega) h9 hwq54.1⟩)
              · skip
                exfalso
                omega
            · skip
              obtain rfl : yq54 = 1 := by omega
              have hwq54 := hxq54.1 rfl
              clear hxq54
              show jt _ 175 [(0, .ref (b + 38)), (1, .int (jI 1))] [.int (jI 1)] (cmf b f0 Iq54 Aq54) _ _ _
              refine jt_if_eq (t := 182) d_RD_readStatement_175 rfl (by unfold jRi; omega) (fun c56 => ?_) (fun c56 => ?_)
              · skip
                exfalso
                omega
              · skip
                refine jt_iconst d_RD_readStatement_178 ?_
                refine jt_goto (t := 183) d_RD_readStatement_179 rfl ?_
                exact cm_ret d_RD_readStatement_183 rfl (jnz (by omega)) (⟨1, rfl, by omega, hpq54, fun _ => by
        obtain ⟨L9, fs, hkp, hlg, hf6, hf9, hph⟩ := hwq51
        have h9 : PH N9 X9 Y9 V9 v49 (.ok (Iq51 38 2) L9 fs (Iq51 38 7 = 1)) := hph
        rw [ev49] at h9
        refine Or.inr (Or.inr (Or.inl ⟨?_, L9, fs, ?_, cKp_fr hkp (by have := hpq51.1 38 6; have h9 : Iq51 38 6 ≤ 150 := this.2; omega) (fr_x hqq54 rfl), cLg_fr hlg a375q54, ?_, ?_⟩))
        · show Iq54 38 4 = 10 ∨ Iq54 38 4 = 11
          omega
        · show ST N9 X9 Y9 V9 (I 38 2) (.path (Iq54 38 2) (Iq54 38 4) L9 fs (Iq54 38 7 = 1))
          rw [hwq54.2, m38_7q54, show Iq54 38 4 = v7 by omega]
          exact .path (by omega : v7 = 10 ∨ v7 = 11) (by first | exact tkk | omega) h9 hwq54.1
        · show Iq54 38 6 = _
          omega
        · show Iq54 38 9 = _
          omega, fun z => absurd z (by omega)⟩)
      by_cases hs6 : v7 = 12
      · skip
        refine jt_tableIn (t := 103) d_RD_readStatement_56 (by unfold jRi; omega) (by omega) (by omega) (by rw [hs6]; rfl) rfl ?_
        refine jt_aload_n d_RD_readStatement_103 rfl ?_
        refine jt_dup d_RD_readStatement_104 rfl ?_
        refine cm_get (k := 38) (v := .int (jI (I 38 2))) d_RD_readStatement_105 RD_f60 (by decide) cc_3 rfl ?_
        refine jt_iconst d_RD_readStatement_108 ?_
        refine jt_iadd d_RD_readStatement_109 ?_
        refine jt_topi (fun v57 ev57 => ?_)
        refine cm_put (k := 38) (j := 2) (v := v57) d_RD_readStatement_110 (RD_w60 _ rfl) (by decide) cc_3 rfl rfl (Nat.le_of_ble_eq_true rfl) rfl ?_
        have p58 := cPf.I 38 2 v57 p8 rfl (show 0 ≤ v57 ∧ v57 ≤ 300 by omega)
        refine jt_aload_n d_RD_readStatement_113 rfl ?_
        refine jt_iconst d_RD_readStatement_114 ?_
        refine cct_callV (Y := Y_RD_readExpression) (ci := 2) (k := 38) (As := [.int (jI 0)]) (rest := []) d_RD_readStatement_115 RD_c74 yk_RD_readExpression yv_RD_readExpression rfl (Nat.le_of_ble_eq_true rfl) (by decide) cc_3 rfl rfl (Nat.le_of_ble_eq_true rfl) (v_RD_readExpression_x0 G _ b (cu (cu (cu (cu (cu I 38 6 0) 38 9 0) 38 7 1) 38 4 v7) 38 2 v57) A p58.1 p58.2.1 (cTok_f p58 hK rfl) X9 hX Y9 hY N9 hN V9 hV hVr) (fun rvq59 Iq59 Aq59 hq59 => ?_)
        obtain ⟨yq59, rfl, ryq59, hqq59, hxq59⟩ := hq59
        have hpq59 := cPf.transx p58 hqq59 rfl rfl
        have cXq59 : Aq59 40 = X9 := (hqq59.2.2.2 40 rfl (by decide)).trans hX
        have cYq59 : Aq59 41 = Y9 := (hqq59.2.2.2 41 rfl (by decide)).trans hY
        have cNq59 : Iq59 39 3 = N9 := (hqq59.2.2.1 39 3 rfl).trans hN
        have cVq59 : cVf Aq59 V9 := cVf_of hqq59 rfl hV
        have s38_2q59 : (cu (cu (cu (cu (cu I 38 6 0) 38 9 0) 38 7 1) 38 4 v7) 38 2 v57) 38 2 = v57 := rfl
        have s38_6q59 : (cu (cu (cu (cu (cu I 38 6 0) 38 9 0) 38 7 1) 38 4 v7) 38 2 v57) 38 6 = 0 := rfl
        have s38_7q59 : (cu (cu (cu (cu (cu I 38 6 0) 38 9 0) 38 7 1) 38 4 v7) 38 2 v57) 38 7 = 1 := rfl
        have s38_9q59 : (cu (cu (cu (cu (cu I 38 6 0) 38 9 0) 38 7 1) 38 4 v7) 38 2 v57) 38 9 = 0 := rfl
        have s38_4q59 : (cu (cu (cu (cu (cu I 38 6 0) 38 9 0) 38 7 1) 38 4 v7) 38 2 v57) 38 4 = v7 := rfl
        have m38_6q59 : Iq59 38 6 = 0 := hqq59.2.2.1 38 6 rfl
        have m38_9q59 : Iq59 38 9 = 0 := hqq59.2.2.1 38 9 rfl
        have m38_4q59 : Iq59 38 4 = v7 := hqq59.2.2.1 38 4 rfl
        have a375q59 : Aq59 375 = A 375 := hqq59.2.2.2 375 rfl (by decide)
        have kpq59 : cKp Aq59 ([] : List (Int → Int)) := cKp_fr (cKp_0 A) (by first | omega | (simp only [List.length_append, List.length_cons, List.length_nil]; omega)) (fr_x hqq59 rfl)
        have rrq59 : 0 ≤ Iq59 38 2 ∧ Iq59 38 2 ≤ 300 := hpq59.1 38 2
        by_cases gbq59 : yq59 = 0
        · skip
          obtain rfl : yq59 = 0 := by omega
          have hwq59 := hxq59.2 rfl
          clear hxq59
          show jt _ 118 [(0, .ref (b + 38)), (1, .int (jI 1))] [.int (jI 0)] (cmf b f0 Iq59 Aq59) _ _ _
          refine jt_if_eq (t := 132) d_RD_readStatement_118 rfl (by unfold jRi; omega) (fun c60 => ?_) (fun c60 => ?_)
          · skip
            refine jt_iconst d_RD_readStatement_132 ?_
            refine jt_istore_n (L' := [(0, .ref (b + 38)), (1, .int (jI 0))]) d_RD_readStatement_133 (Nat.le_of_ble_eq_true rfl) rfl ?_
            refine jt_goto (t := 165) d_RD_readStatement_134 rfl ?_
            refine jt_iload_n d_RD_readStatement_165 rfl ?_
            refine jt_if_eq (t := 182) d_RD_readStatement_166 rfl (by unfold jRi; omega) (fun c61 => ?_) (fun c61 => ?_)
            · skip
              refine jt_iconst d_RD_readStatement_182 ?_
              exact cm_ret d_RD_readStatement_183 rfl (jnz (by omega)) (⟨0, rfl, by omega, hpq59, fun z => absurd z (by omega), fun _ => by
        have h9 : rdXn N9 X9 Y9 V9 0 v57 ((1 : Int) = 1) (Iq59 38 3) (Iq59 38 2) := hwq59
        rw [ev57, eq_self] at h9
        exact .shwX (by first | exact tkk | omega) (EX_err h9)⟩)
            · skip
              exfalso
              omega
          · skip
            exfalso
            omega
        · skip
          obtain rfl : yq59 = 1 := by omega
          have hwq59 := hxq59.1 rfl
          clear hxq59
          show jt _ 118 [(0, .ref (b + 38)), (1, .int (jI 1))] [.int (jI 1)] (cmf b f0 Iq59 Aq59) _ _ _
          refine jt_if_eq (t := 132) d_RD_readStatement_118 rfl (by unfold jRi; omega) (fun c62 => ?_) (fun c62 => ?_)
          · skip
            exfalso
            omega
          · skip
            refine jt_aload_n d_RD_readStatement_121 rfl ?_
            refine cct_callV (Y := Y_RD_keep) (ci := 2) (k := 38) (As := []) (rest := []) d_RD_readStatement_122 RD_c78 yk_RD_keep yv_RD_keep rfl (Nat.le_of_ble_eq_true rfl) (by decide) cc_3 rfl rfl (Nat.le_of_ble_eq_true rfl) (v_RD_keep_x G _ b Iq59 Aq59 hpq59.1 hpq59.2.1 (show 0 ≤ Iq59 38 6 ∧ Iq59 38 6 < 150 by omega)) (fun rvq63 Iq63 Aq63 hq63 => ?_)
            obtain ⟨yq63, rfl, ryq63, hqq63, hxq63⟩ := hq63
            have hpq63 := cPf.trans hpq59 hqq63 rfl (fun _ h9 => h9)
            have cXq63 : Aq63 40 = X9 := (hqq63.2.2.2 40 rfl (by decide)).trans cXq59
            have cYq63 : Aq63 41 = Y9 := (hqq63.2.2.2 41 rfl (by decide)).trans cYq59
            have cNq63 : Iq63 39 3 = N9 := (hqq63.2.2.1 39 3 rfl).trans cNq59
            have cVq63 : cVf Aq63 V9 := cVf_f hqq63 rfl cVq59
            have m38_2q63 : Iq63 38 2 = Iq59 38 2 := hqq63.2.2.1 38 2 rfl
            have m38_7q63 : Iq63 38 7 = Iq59 38 7 := hqq63.2.2.1 38 7 rfl
            have m38_9q63 : Iq63 38 9 = Iq59 38 9 := hqq63.2.2.1 38 9 rfl
            have m38_4q63 : Iq63 38 4 = Iq59 38 4 := hqq63.2.2.1 38 4 rfl
            have kpq63 : cKp Aq63 (([] : List (Int → Int)) ++ [Aq59 378]) := cKp_keep kpq59 (show Iq59 38 6 = ((([] : List (Int → Int)).length : Nat) : Int) by first | omega | (simp only [List.length_append, List.length_cons, List.length_nil]; omega)) hxq63.2.1 hxq63.2.2
            have n6q63 := hxq63.1
            have a375q63 : Aq63 375 = Aq59 375 := hxq63.2.1 375 (ctn1 (by omega)) trivial
            clear hxq63
            obtain rfl : yq63 = 1 := ryq63
            show jt _ 125 [(0, .ref (b + 38)), (1, .int (jI 1))] [.int (jI 1)] (cmf b f0 Iq63 Aq63) _ _ _
            refine jt_if_eq (t := 132) d_RD_readStatement_125 rfl (by unfold jRi; omega) (fun c64 => ?_) (fun c64 => ?_)
            · skip
              exfalso
              omega
            · skip
              refine jt_iconst d_RD_readStatement_128 ?_
              refine jt_goto (t := 133) d_RD_readStatement_129 rfl ?_
              refine jt_istore_n (L' := [(0, .ref (b + 38)), (1, .int (jI 1))]) d_RD_readStatement_133 (Nat.le_of_ble_eq_true rfl) rfl ?_
              refine jt_goto (t := 165) d_RD_readStatement_134 rfl ?_
              refine jt_iload_n d_RD_readStatement_165 rfl ?_
              refine jt_if_eq (t := 182) d_RD_readStatement_166 rfl (by unfold jRi; omega) (fun c65 => ?_) (fun c65 => ?_)
              · skip
                exfalso
                omega
              · skip
                refine jt_aload_n d_RD_readStatement_169 rfl ?_
                refine jt_bipush d_RD_readStatement_170 (by omega) ?_
                refine cct_callV (Y := Y_RD_take) (ci := 2) (k := 38) (As := [.int (jI 6)]) (rest := []) d_RD_readStatement_172 RD_c88 yk_RD_take yv_RD_take rfl (Nat.le_of_ble_eq_true rfl) (by decide) cc_3 rfl rfl (Nat.le_of_ble_eq_true rfl) (v_RD_take_x G _ b 6 Iq63 Aq63 hpq63.1 hpq63.2.1 X9 cXq63 Y9 cYq63 N9 cNq63 (by omega)) (fun rvq66 Iq66 Aq66 hq66 => ?_)
                obtain ⟨yq66, rfl, ryq66, hqq66, hxq66⟩ := hq66
                have hpq66 := cPf.transx hpq63 hqq66 rfl rfl
                have cXq66 : Aq66 40 = X9 := (hqq66.2.2.2 40 rfl (by decide)).trans cXq63
                have cYq66 : Aq66 41 = Y9 := (hqq66.2.2.2 41 rfl (by decide)).trans cYq63
                have cNq66 : Iq66 39 3 = N9 := (hqq66.2.2.1 39 3 rfl).trans cNq63
                have cVq66 : cVf Aq66 V9 := cVf_of hqq66 rfl cVq63
                have m38_6q66 : Iq66 38 6 = Iq63 38 6 := hqq66.2.2.1 38 6 rfl
                have m38_7q66 : Iq66 38 7 = Iq63 38 7 := hqq66.2.2.1 38 7 rfl
                have m38_9q66 : Iq66 38 9 = Iq63 38 9 := hqq66.2.2.1 38 9 rfl
                have m38_4q66 : Iq66 38 4 = Iq63 38 4 := hqq66.2.2.1 38 4 rfl
                have a375q66 : Aq66 375 = Aq63 375 := hqq66.2.2.2 375 rfl (by decide)
                have kpq66 : cKp Aq66 (([] : List (Int → Int)) ++ [Aq59 378]) := cKp_fr kpq63 (by first | omega | (simp only [List.length_append, List.length_cons, List.length_nil]; omega)) (fr_x hqq66 rfl)
                have rrq66 : 0 ≤ Iq66 38 2 ∧ Iq66 38 2 ≤ 300 := hpq66.1 38 2
                by_cases gbq66 : yq66 = 0
                · skip
                  obtain rfl : yq66 = 0 := by omega
                  have hwq66 := hxq66.2 rfl
                  clear hxq66
                  show jt _ 175 [(0, .ref (b + 38)), (1, .int (jI 1))] [.int (jI 0)] (cmf b f0 Iq66 Aq66) _ _ _
                  refine jt_if_eq (t := 182) d_RD_readStatement_175 rfl (by unfold jRi; omega) (fun c67 => ?_) (fun c67 => ?_)
                  · skip
                    refine jt_iconst d_RD_readStatement_182 ?_
                    exact cm_ret d_RD_readStatement_183 rfl (jnz (by omega)) (⟨0, rfl, by omega, hpq66, fun z => absurd z (by omega), fun _ => by
        have h9 : rdE N9 X9 Y9 V9 0 v57 ((1 : Int) = 1) (Iq59 38 2) (Aq59 378) (Iq59 38 7 = 1) := hwq59.1
        rw [ev57, eq_self] at h9
        have w6 := hwq66.1
        rw [m38_2q63] at w6
        show ST N9 X9 Y9 V9 (I 38 2) (.err (Iq66 38 3) (Iq66 38 2))
        rw [hwq66.2.2, hwq66.2.1, m38_2q63]
        exact .shwE (by first | exact tkk | omega) (EX_ok h9) w6⟩)
                  · skip
                    exfalso
                    omega
                · skip
                  obtain rfl : yq66 = 1 := by omega
                  have hwq66 := hxq66.1 rfl
                  clear hxq66
                  show jt _ 175 [(0, .ref (b + 38)), (1, .int (jI 1))] [.int (jI 1)] (cmf b f0 Iq66 Aq66) _ _ _
                  refine jt_if_eq (t := 182) d_RD_readStatement_175 rfl (by unfold jRi; omega) (fun c68 => ?_) (fun c68 => ?_)
                  · skip
                    exfalso
                    omega
                  · skip
                    refine jt_iconst d_RD_readStatement_178 ?_
                    refine jt_goto (t := 183) d_RD_readStatement_179 rfl ?_
                    exact cm_ret d_RD_readStatement_183 rfl (jnz (by omega)) (⟨1, rfl, by omega, hpq66, fun _ => by
        have h9 : rdE N9 X9 Y9 V9 0 v57 ((1 : Int) = 1) (Iq59 38 2) (Aq59 378) (Iq59 38 7 = 1) := hwq59.1
        rw [ev57, eq_self] at h9
        have w6 := hwq66.1
        rw [m38_2q63] at w6
        refine Or.inr (Or.inl ⟨show Iq66 38 4 = 12 by omega, Aq59 378, ?_, ?_⟩)
        · show ST N9 X9 Y9 V9 (I 38 2) (.shw (Iq66 38 2) (Aq59 378) (Iq66 38 7 = 1))
          rw [hwq66.2, m38_2q63, m38_7q66, m38_7q63]
          exact .shw (by first | exact tkk | omega) (EX_ok h9) w6
        · exact kpq66 0 (Aq59 378) rfl, fun z => absurd z (by omega)⟩)
      exfalso
      omega
  · skip
    obtain rfl : yq5 = 0 := by omega
    have hwq5 : ¬ xK N9 X9 (I 38 2) 4 := fun z9 => hxq5.2 rfl ⟨by omega, z9.1, z9.2⟩
    clear hxq5
    show jt _ 28 [(0, .ref (b + 38))] [.int (jI 0), .ref (b + 38)] (cmf b f0 (cu (cu (cu I 38 6 0) 38 9 0) 38 7 1) A) _ _ _
    refine jt_if_eq (t := 46) d_RD_readStatement_28 rfl (by unfold jRi; omega) (fun c69 => ?_) (fun c69 => ?_)
    · skip
      refine jt_iconst d_RD_readStatement_46 ?_
      refine cm_put (k := 38) (j := 4) (v := 2) d_RD_readStatement_47 (RD_w71 _ rfl) (by decide) cc_3 rfl rfl (Nat.le_of_ble_eq_true rfl) rfl ?_
      have p70 := cPf.I 38 4 2 p3 rfl (show -2147483648 ≤ 2 ∧ 2 ≤ 2147483647 by omega)
      refine jt_iconst d_RD_readStatement_50 ?_
      refine jt_istore_n (L' := [(0, .ref (b + 38)), (1, .int (jI 1))]) d_RD_readStatement_51 (Nat.le_of_ble_eq_true rfl) rfl ?_
      refine jt_aload_n d_RD_readStatement_52 rfl ?_
      refine cm_get (k := 38) (v := .int (jI 2)) d_RD_readStatement_53 RD_f71 (by decide) cc_3 rfl ?_
      refine jt_tableOut (t := 155) d_RD_readStatement_56 (by unfold jRi; omega) (by omega) rfl ?_
      refine jt_aload_n d_RD_readStatement_155 rfl ?_
      refine jt_iconst d_RD_readStatement_156 ?_
      refine cm_put (k := 38) (j := 4) (v := 2) d_RD_readStatement_157 (RD_w71 _ rfl) (by decide) cc_3 rfl rfl (Nat.le_of_ble_eq_true rfl) rfl ?_
      have p71 := cPf.I 38 4 2 p70 rfl (show -2147483648 ≤ 2 ∧ 2 ≤ 2147483647 by omega)
      refine jt_aload_n d_RD_readStatement_160 rfl ?_
      refine cct_callV (Y := Y_RD_readEquation) (ci := 2) (k := 38) (As := []) (rest := []) d_RD_readStatement_161 RD_c85 yk_RD_readEquation yv_RD_readEquation rfl (Nat.le_of_ble_eq_true rfl) (by decide) cc_3 rfl rfl (Nat.le_of_ble_eq_true rfl) (v_RD_readEquation_x G _ b (cu (cu (cu (cu (cu I 38 6 0) 38 9 0) 38 7 1) 38 4 2) 38 4 2) A p71.1 p71.2.1 (cTok_f p71 hK rfl) X9 hX Y9 hY N9 hN V9 hV hVr rfl rfl) (fun rvq72 Iq72 Aq72 hq72 => ?_)
      obtain ⟨yq72, rfl, ryq72, hqq72, hxq72⟩ := hq72
      have hpq72 := cPf.trans p71 hqq72 rfl (fun _ h9 => h9)
      have cXq72 : Aq72 40 = X9 := (hqq72.2.2.2 40 rfl (by decide)).trans hX
      have cYq72 : Aq72 41 = Y9 := (hqq72.2.2.2 41 rfl (by decide)).trans hY
      have cNq72 : Iq72 39 3 = N9 := (hqq72.2.2.1 39 3 rfl).trans hN
      have cVq72 : cVf Aq72 V9 := cVf_f hqq72 rfl hV
      have s38_2q72 : (cu (cu (cu (cu (cu I 38 6 0) 38 9 0) 38 7 1) 38 4 2) 38 4 2) 38 2 = I 38 2 := rfl
      have s38_6q72 : (cu (cu (cu (cu (cu I 38 6 0) 38 9 0) 38 7 1) 38 4 2) 38 4 2) 38 6 = 0 := rfl
      have s38_7q72 : (cu (cu (cu (cu (cu I 38 6 0) 38 9 0) 38 7 1) 38 4 2) 38 4 2) 38 7 = 1 := rfl
      have s38_9q72 : (cu (cu (cu (cu (cu I 38 6 0) 38 9 0) 38 7 1) 38 4 2) 38 4 2) 38 9 = 0 := rfl
      have s38_4q72 : (cu (cu (cu (cu (cu I 38 6 0) 38 9 0) 38 7 1) 38 4 2) 38 4 2) 38 4 = 2 := rfl
      have m38_9q72 : Iq72 38 9 = 0 := hqq72.2.2.1 38 9 rfl
      have m38_4q72 : Iq72 38 4 = 2 := hqq72.2.2.1 38 4 rfl
      by_cases gbq72 : yq72 = 0
      · skip
        obtain rfl : yq72 = 0 := by omega
        have hwq72 := hxq72.2 rfl
        clear hxq72
        show jt _ 164 [(0, .ref (b + 38)), (1, .int (jI 1))] [.int (jI 0)] (cmf b f0 Iq72 Aq72) _ _ _
        refine jt_istore_n (L' := [(0, .ref (b + 38)), (1, .int (jI 0))]) d_RD_readStatement_164 (Nat.le_of_ble_eq_true rfl) rfl ?_
        refine jt_iload_n d_RD_readStatement_165 rfl ?_
        refine jt_if_eq (t := 182) d_RD_readStatement_166 rfl (by unfold jRi; omega) (fun c73 => ?_) (fun c73 => ?_)
        · skip
          refine jt_iconst d_RD_readStatement_182 ?_
          exact cm_ret d_RD_readStatement_183 rfl (jnz (by omega)) (⟨0, rfl, by omega, hpq72, fun z => absurd z (by omega), fun _ => by
        have h9 : EQ N9 X9 Y9 V9 (I 38 2) (.err (Iq72 38 3) (Iq72 38 2)) := hwq72
        exact .eqsX (fun z => hwq5 ⟨z.1, z.2.1⟩) (fun z => hwq5 ⟨z.1, z.2.1⟩) (fun z => hwq5 ⟨z.1, z.2.1⟩) (fun z => hwq5 ⟨z.1, z.2.1⟩) h9⟩)
        · skip
          exfalso
          omega
      · skip
        obtain rfl : yq72 = 1 := by omega
        have hwq72 := hxq72.1 rfl
        clear hxq72
        show jt _ 164 [(0, .ref (b + 38)), (1, .int (jI 1))] [.int (jI 1)] (cmf b f0 Iq72 Aq72) _ _ _
        refine jt_istore_n (L' := [(0, .ref (b + 38)), (1, .int (jI 1))]) d_RD_readStatement_164 (Nat.le_of_ble_eq_true rfl) rfl ?_
        refine jt_iload_n d_RD_readStatement_165 rfl ?_
        refine jt_if_eq (t := 182) d_RD_readStatement_166 rfl (by unfold jRi; omega) (fun c74 => ?_) (fun c74 => ?_)
        · skip
          exfalso
          omega
        · skip
          refine jt_aload_n d_RD_readStatement_169 rfl ?_
          refine jt_bipush d_RD_readStatement_170 (by omega) ?_
          refine cct_callV (Y := Y_RD_take) (ci := 2) (k := 38) (As := [.int (jI 6)]) (rest := []) d_RD_readStatement_172 RD_c88 yk_RD_take yv_RD_take rfl (Nat.le_of_ble_eq_true rfl) (by decide) cc_3 rfl rfl (Nat.le_of_ble_eq_true rfl) (v_RD_take_x G _ b 6 Iq72 Aq72 hpq72.1 hpq72.2.1 X9 cXq72 Y9 cYq72 N9 cNq72 (by omega)) (fun rvq75 Iq75 Aq75 hq75 => ?_)
          obtain ⟨yq75, rfl, ryq75, hqq75, hxq75⟩ := hq75
          have hpq75 := cPf.transx hpq72 hqq75 rfl rfl
          have cXq75 : Aq75 40 = X9 := (hqq75.2.2.2 40 rfl (by decide)).trans cXq72
          have cYq75 : Aq75 41 = Y9 := (hqq75.2.2.2 41 rfl (by decide)).trans cYq72
          have cNq75 : Iq75 39 3 = N9 := (hqq75.2.2.1 39 3 rfl).trans cNq72
          have cVq75 : cVf Aq75 V9 := cVf_of hqq75 rfl cVq72
          have m38_6q75 : Iq75 38 6 = Iq72 38 6 := hqq75.2.2.1 38 6 rfl
          have m38_7q75 : Iq75 38 7 = Iq72 38 7 := hqq75.2.2.1 38 7 rfl
          have m38_9q75 : Iq75 38 9 = Iq72 38 9 := hqq75.2.2.1 38 9 rfl
          have m38_4q75 : Iq75 38 4 = Iq72 38 4 := hqq75.2.2.1 38 4 rfl
          have a375q75 : Aq75 375 = Aq72 375 := hqq75.2.2.2 375 rfl (by decide)
          by_cases gbq75 : yq75 = 0
          · skip
            obtain rfl : yq75 = 0 := by omega
            have hwq75 := hxq75.2 rfl
            clear hxq75
            show jt _ 175 [(0, .ref (b + 38)), (1, .int (jI 1))] [.int (jI 0)] (cmf b f0 Iq75 Aq75) _ _ _
            refine jt_if_eq (t := 182) d_RD_readStatement_175 rfl (by unfold jRi; omega) (fun c76 => ?_) (fun c76 => ?_)
            · skip
              refine jt_iconst d_RD_readStatement_182 ?_
              exact cm_ret d_RD_readStatement_183 rfl (jnz (by omega)) (⟨0, rfl, by omega, hpq75, fun z => absurd z (by omega), fun _ => by
        obtain ⟨fs, hkp, hf6, hph⟩ := hwq72
        have h9 : EQ N9 X9 Y9 V9 (I 38 2) (.ok (Iq72 38 2) fs (Iq72 38 7 = 1)) := hph
        show ST N9 X9 Y9 V9 (I 38 2) (.err (Iq75 38 3) (Iq75 38 2))
        rw [hwq75.2.2, hwq75.2.1]
        exact .eqsE (fun z => hwq5 ⟨z.1, z.2.1⟩) (fun z => hwq5 ⟨z.1, z.2.1⟩) (fun z => hwq5 ⟨z.1, z.2.1⟩) (fun z => hwq5 ⟨z.1, z.2.1⟩) h9 hwq75.1⟩)
            · skip
              exfalso
              omega
          · skip
            obtain rfl : yq75 = 1 := by omega
            have hwq75 := hxq75.1 rfl
            clear hxq75
            show jt _ 175 [(0, .ref (b + 38)), (1, .int (jI 1))] [.int (jI 1)] (cmf b f0 Iq75 Aq75) _ _ _
            refine jt_if_eq (t := 182) d_RD_readStatement_175 rfl (by unfold jRi; omega) (fun c77 => ?_) (fun c77 => ?_)
            · skip
              exfalso
              omega
            · skip
              refine jt_iconst d_RD_readStatement_178 ?_
              refine jt_goto (t := 183) d_RD_readStatement_179 rfl ?_
              exact cm_ret d_RD_readStatement_183 rfl (jnz (by omega)) (⟨1, rfl, by omega, hpq75, fun _ => by
        obtain ⟨fs, hkp, hf6, hph⟩ := hwq72
        have h9 : EQ N9 X9 Y9 V9 (I 38 2) (.ok (Iq72 38 2) fs (Iq72 38 7 = 1)) := hph
        refine Or.inr (Or.inr (Or.inr ⟨?_, fs, ?_, cKp_fr hkp (by have := hpq72.1 38 6; have h9 : Iq72 38 6 ≤ 150 := this.2; omega) (fr_x hqq75 rfl), ?_⟩))
        · show Iq75 38 4 = 2
          omega
        · show ST N9 X9 Y9 V9 (I 38 2) (.eqs (Iq75 38 2) fs (Iq75 38 7 = 1))
          rw [hwq75.2, m38_7q75]
          exact .eqs (fun z => hwq5 ⟨z.1, z.2.1⟩) (fun z => hwq5 ⟨z.1, z.2.1⟩) (fun z => hwq5 ⟨z.1, z.2.1⟩) (fun z => hwq5 ⟨z.1, z.2.1⟩) h9 hwq75.1
        · show Iq75 38 6 = _
          omega, fun z => absurd z (by omega)⟩)
    · skip
      exfalso
      omega

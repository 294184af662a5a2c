set_option maxRecDepth 100000 in
set_option maxHeartbeats 4000000 in
theorem v_RD_keep_x (G : jG) (d b : Nat)  (I : Nat → Nat → Int) (A : Nat → Int → Int) (hI : cSI I) (hA : cSA A) (hc : 0 ≤ I 38 6 ∧ I 38 6 < 150) : cct G Y_RD_keep (d + 1) b [.ref (b + 38)] I A (fun (rv : Option Value) (I2 : Nat → Nat → Int) (A2 : Nat → Int → Int) => ∃ y : Int, rv = some (.int (jI y)) ∧ (y = 1) ∧ cPf [614] tKept I A I2 A2 ∧ (I2 38 6 = I 38 6 + 1 ∧ (∀ k, [76 + 2 * (I 38 6).toNat].contains k = false → True → A2 k = A k) ∧ ∀ z, 0 ≤ z → z < 13 → A2 (76 + 2 * (I 38 6).toNat) z = A 378 z)) := by
  refine cct_of (by decide) (Nat.le_of_ble_eq_true rfl) (fun f0 sz => ?_)
  show jt _ 0 [(0, .ref (b + 38))] [] _ _ _ _
  have hz0 : cPf [614] tKept I A I A := cPf.refl hI hA
  refine jt_aload_n d_RD_keep_0 rfl ?_
  refine cm_get (k := 38) (v := .int (jI (I 38 6))) d_RD_keep_1 RD_f49 (by decide) cc_3 rfl ?_
  have rb1 : 0 ≤ I 38 6 ∧ I 38 6 ≤ 150 := hz0.1 38 6
  refine jt_sipush d_RD_keep_4 (by omega) ?_
  refine jt_icmp_ge (t := 38) d_RD_keep_7 rfl (by unfold jRi; omega) (by unfold jRi; omega) (fun c2 => ?_) (fun c2 => ?_)
  · skip
    refine jt_iconst d_RD_keep_38 ?_
    exact cm_ret d_RD_keep_39 rfl (jnz (by omega)) (by exfalso; omega)
  · skip
    refine jt_aload_n d_RD_keep_10 rfl ?_
    refine cm_get (k := 38) (v := .ref (b + 74)) d_RD_keep_11 RD_f32 (by decide) cc_3 rfl ?_
    refine jt_aload_n d_RD_keep_14 rfl ?_
    refine cm_get (k := 38) (v := .int (jI (I 38 6))) d_RD_keep_15 RD_f49 (by decide) cc_3 rfl ?_
    refine cm_ldF (k := 74) (n := 150) (z := (I 38 6)) d_RD_keep_18 (by decide) rfl rfl (by omega) (by omega) (by omega) ?_
    have hfq3 := form_at 74 (by decide) rfl ((I 38 6) : Int).toNat (show ((I 38 6) : Int).toNat < 150 by omega)
    obtain ⟨q3, eqq3⟩ : ∃ q9 : Nat, q9 = 74 + 1 + 2 * ((I 38 6) : Int).toNat := ⟨_, rfl⟩
    rw [← eqq3] at hfq3 ⊢
    have fpq3 := form_parts q3 hfq3.2 hfq3.1
    have glq3 := eLong hfq3.2 hfq3.1
    refine jt_aload_n d_RD_keep_19 rfl ?_
    refine cm_get (k := 38) (v := .ref (b + 376)) d_RD_keep_20 RD_f40 (by decide) cc_3 rfl ?_
    refine jt_iconst d_RD_keep_23 ?_
    refine cm_ldF (k := 376) (n := 9) (z := 0) d_RD_keep_24 (by decide) rfl rfl (by omega) (by omega) (by omega) ?_
    show jt _ 25 [(0, .ref (b + 38))] [.ref (b + 377), .ref (b + q3)] (cmf b f0 I A) _ _ _
    refine cct_callV (Y := Y_FO_copy) (ci := 4) (k := q3) (As := [.ref (b + 377)]) (rest := []) d_RD_keep_25 RD_c101 yk_FO_copy yv_FO_copy rfl (Nat.le_of_ble_eq_true rfl) hfq3.2 (cc_5 hfq3.1) rfl rfl (Nat.le_of_ble_eq_true rfl) (v_FO_copy_x G _ b q3 377 I A hz0.1 hz0.2.1 hfq3.2 hfq3.1 (by decide) rfl (by omega)) (fun rvq4 Iq4 Aq4 hq4 => ?_)
    obtain ⟨rfl, hqq4, hxq4⟩ := hq4
    have hpq4 := cPf.transx hz0 hqq4 rfl (by rw [show q3 + 1 = 76 + 2 * (I 38 6).toNat by omega]; exact tk_in (by omega) (by omega))
    have m38_6q4 : Iq4 38 6 = I 38 6 := hqq4.2.2.1 38 6 rfl
    show jt _ 28 [(0, .ref (b + 38))] [] (cmf b f0 Iq4 Aq4) _ _ _
    refine jt_aload_n d_RD_keep_28 rfl ?_
    refine jt_dup d_RD_keep_29 rfl ?_
    refine cm_get (k := 38) (v := .int (jI (Iq4 38 6))) d_RD_keep_30 RD_f49 (by decide) cc_3 rfl ?_
    have rb5 : 0 ≤ Iq4 38 6 ∧ Iq4 38 6 ≤ 150 := hpq4.1 38 6
    refine jt_iconst d_RD_keep_33 ?_
    refine jt_iadd d_RD_keep_34 ?_
    refine jt_topi (fun v6 ev6 => ?_)
    refine cm_put (k := 38) (j := 6) (v := v6) d_RD_keep_35 (RD_w49 _ rfl) (by decide) cc_3 rfl rfl (Nat.le_of_ble_eq_true rfl) rfl ?_
    have p7 := cPf.I 38 6 v6 hpq4 rfl (show 0 ≤ v6 ∧ v6 ≤ 150 by omega)
    refine jt_iconst d_RD_keep_38 ?_
    exact cm_ret d_RD_keep_39 rfl (jnz (by omega)) (⟨1, rfl, rfl, p7, show v6 = I 38 6 + 1 by omega, fun k hk _ => hqq4.2.2.2 k (by rw [show q3 + 1 = 76 + 2 * (I 38 6).toNat by omega]; exact hk) trivial, fun z a d => by have h9 := hxq4 z a d; rw [show q3 + 1 = 76 + 2 * (I 38 6).toNat by omega] at h9; exact h9⟩)
set_option maxRecDepth 100000 in
set_option maxHeartbeats 4000000 in
theorem v_RD_countLeg_x (G : jG) (d b : Nat) (c : Int) (I : Nat → Nat → Int) (A : Nat → Int → Int) (hI : cSI I) (hA : cSA A) (hc : 0 ≤ c ∧ c ≤ 1) (hl : 0 ≤ I 38 9 ∧ I 38 9 < 2000) : cct G Y_RD_countLeg d b [.ref (b + 38), .int (jI c)] I A (fun (rv : Option Value) (I2 : Nat → Nat → Int) (A2 : Nat → Int → Int) => rv = none ∧ cPx [617] [375] I A I2 A2 ∧ (I2 38 9 = I 38 9 + 1 ∧ (I 38 9 < 12 → A2 375 = ju (A 375) (I 38 9) c) ∧ (¬ I 38 9 < 12 → A2 375 = A 375))) := by
  refine cct_of (by decide) (Nat.le_of_ble_eq_true rfl) (fun f0 sz => ?_)
  show jt _ 0 [(0, .ref (b + 38)), (1, .int (jI c))] [] _ _ _ _
  have hz0 : cPx [617] [375] I A I A := cPx.refl hI hA
  refine jt_aload_n d_RD_countLeg_0 rfl ?_
  refine cm_get (k := 38) (v := .int (jI (I 38 9))) d_RD_countLeg_1 RD_f53 (by decide) cc_3 rfl ?_
  have rb1 : 0 ≤ I 38 9 ∧ I 38 9 ≤ 2000 := hz0.1 38 9
  refine jt_bipush d_RD_countLeg_4 (by omega) ?_
  refine jt_icmp_ge (t := 19) d_RD_countLeg_6 rfl (by unfold jRi; omega) (by unfold jRi; omega) (fun c2 => ?_) (fun c2 => ?_)
  · skip
    refine jt_aload_n d_RD_countLeg_19 rfl ?_
    refine jt_dup d_RD_countLeg_20 rfl ?_
    refine cm_get (k := 38) (v := .int (jI (I 38 9))) d_RD_countLeg_21 RD_f53 (by decide) cc_3 rfl ?_
    refine jt_iconst d_RD_countLeg_24 ?_
    refine jt_iadd d_RD_countLeg_25 ?_
    refine jt_topi (fun v3 ev3 => ?_)
    refine cm_put (k := 38) (j := 9) (v := v3) d_RD_countLeg_26 (RD_w53 _ rfl) (by decide) cc_3 rfl rfl (Nat.le_of_ble_eq_true rfl) rfl ?_
    have p4 := cPx.I 38 9 v3 hz0 rfl (show 0 ≤ v3 ∧ v3 ≤ 2000 by omega)
    exact cm_vret d_RD_countLeg_29 rfl (⟨rfl, p4, show v3 = I 38 9 + 1 by omega, fun z => by omega, fun _ => rfl⟩)
  · skip
    refine jt_aload_n d_RD_countLeg_9 rfl ?_
    refine cm_get (k := 38) (v := .ref (b + 375)) d_RD_countLeg_10 RD_f36 (by decide) cc_3 rfl ?_
    refine jt_aload_n d_RD_countLeg_13 rfl ?_
    refine cm_get (k := 38) (v := .int (jI (I 38 9))) d_RD_countLeg_14 RD_f53 (by decide) cc_3 rfl ?_
    refine jt_iload_n d_RD_countLeg_17 rfl ?_
    refine cm_st2 (k := 375) (n := 12) (v := c) d_RD_countLeg_18 (by decide) rfl rfl (by omega) (by omega) (by omega) (by omega) ?_
    have p5 := cPx.A 375 (ju (A 375) (I 38 9) c) hz0 (Or.inl rfl) (gju (hz0.2.1 375) (show 0 ≤ c ∧ c ≤ 1 by omega))
    refine jt_aload_n d_RD_countLeg_19 rfl ?_
    refine jt_dup d_RD_countLeg_20 rfl ?_
    refine cm_get (k := 38) (v := .int (jI (I 38 9))) d_RD_countLeg_21 RD_f53 (by decide) cc_3 rfl ?_
    refine jt_iconst d_RD_countLeg_24 ?_
    refine jt_iadd d_RD_countLeg_25 ?_
    refine jt_topi (fun v6 ev6 => ?_)
    refine cm_put (k := 38) (j := 9) (v := v6) d_RD_countLeg_26 (RD_w53 _ rfl) (by decide) cc_3 rfl rfl (Nat.le_of_ble_eq_true rfl) rfl ?_
    have p7 := cPx.I 38 9 v6 p5 rfl (show 0 ≤ v6 ∧ v6 ≤ 2000 by omega)
    exact cm_vret d_RD_countLeg_29 rfl (⟨rfl, p7, show v6 = I 38 9 + 1 by omega, fun _ => rfl, fun z => absurd (by omega) z⟩)
set_option maxRecDepth 100000 in
set_option maxHeartbeats 4000000 in
theorem v_RD_readPair_x (G : jG) (d b : Nat)  (I : Nat → Nat → Int) (A : Nat → Int → Int) (hI : cSI I) (hA : cSA A) (hK : cTok A) (X9 : Int → Int) (hX : A 40 = X9) (Y9 : Int → Int) (hY : A 41 = Y9) (N9 : Int) (hN : I 39 3 = N9) (V9 : Int → Int → Int) (hV : cVf A V9) (hVr : ∀ v, 0 ≤ v → v < 12 → inr (V9 v)) (fs : List (Int → Int)) (hfs : cKp A fs) (hn6 : I 38 6 = (fs.length : Int)) (h26 : 2 * I 38 6 ≤ I 38 2) : cct G Y_RD_readPair (d + 28) b [.ref (b + 38)] I A (fun (rv : Option Value) (I2 : Nat → Nat → Int) (A2 : Nat → Int → Int) => ∃ y : Int, rv = some (.int (jI y)) ∧ (0 ≤ y ∧ y ≤ 1) ∧ cPf [610, 611, 614, 615] tKept I A I2 A2 ∧ (y = 1 → cPR N9 X9 Y9 V9 (I 38 2) (I 38 7 = 1) fs I2 A2 ∧ I2 38 6 = I 38 6 + 2 ∧ I 38 2 + 5 ≤ I2 38 2 ∧ A2 375 = A 375) ∧ (y = 0 → PA N9 X9 Y9 V9 (I 38 2) (I 38 7 = 1) (.err (I2 38 3) (I2 38 2)))) := by
  refine cct_of (by decide) (Nat.le_of_ble_eq_true rfl) (fun f0 sz => ?_)
  show jt _ 0 [(0, .ref (b + 38))] [] _ _ _ _
  have r39 : 0 ≤ I 39 3 ∧ I 39 3 ≤ 300 := hI 39 3
  have r38 : 0 ≤ I 38 2 ∧ I 38 2 ≤ 300 := hI 38 2
  have r386 : 0 ≤ I 38 6 ∧ I 38 6 ≤ 150 := hI 38 6
  have hz0 : cPf [610, 611, 614, 615] tKept I A I A := cPf.refl hI hA
  refine jt_aload_n d_RD_readPair_0 rfl ?_
  refine jt_iconst d_RD_readPair_1 ?_
  refine cct_callV (Y := Y_RD_take) (ci := 2) (k := 38) (As := [.int (jI 3)]) (rest := []) d_RD_readPair_2 RD_c88 yk_RD_take yv_RD_take rfl (Nat.le_of_ble_eq_true rfl) (by decide) cc_3 rfl rfl (Nat.le_of_ble_eq_true rfl) (v_RD_take_x G _ b 3 I A hz0.1 hz0.2.1 X9 hX Y9 hY N9 hN (by omega)) (fun rvq1 Iq1 Aq1 hq1 => ?_)
  obtain ⟨yq1, rfl, ryq1, hqq1, hxq1⟩ := hq1
  have hpq1 := cPf.transx hz0 hqq1 rfl rfl
  have cXq1 : Aq1 40 = X9 := (hqq1.2.2.2 40 rfl (by decide)).trans hX
  have cYq1 : Aq1 41 = Y9 := (hqq1.2.2.2 41 rfl (by decide)).trans hY
  have cNq1 : Iq1 39 3 = N9 := (hqq1.2.2.1 39 3 rfl).trans hN
  have cVq1 : cVf Aq1 V9 := cVf_of hqq1 rfl hV
  have m38_6q1 : Iq1 38 6 = I 38 6 := hqq1.2.2.1 38 6 rfl
  have m38_7q1 : Iq1 38 7 = I 38 7 := hqq1.2.2.1 38 7 rfl
  have m38_9q1 : Iq1 38 9 = I 38 9 := hqq1.2.2.1 38 9 rfl
  have a375q1 : Aq1 375 = A 375 := hqq1.2.2.2 375 rfl (by decide)
  have kpq1 : cKp Aq1 fs := cKp_fr hfs (by first | omega | (simp only [List.length_append, List.length_cons, List.length_nil]; omega)) (fr_x hqq1 rfl)
  have rrq1 : 0 ≤ Iq1 38 2 ∧ Iq1 38 2 ≤ 300 := hpq1.1 38 2
  by_cases gbq1 : yq1 = 0
  · skip
    obtain rfl : yq1 = 0 := by omega
    have hwq1 := hxq1.2 rfl
    clear hxq1
    show jt _ 5 [(0, .ref (b + 38))] [.int (jI 0)] (cmf b f0 Iq1 Aq1) _ _ _
    refine jt_if_eq (t := 58) d_RD_readPair_5 rfl (by unfold jRi; omega) (fun c2 => ?_) (fun c2 => ?_)
    · skip
      refine jt_iconst d_RD_readPair_58 ?_
      exact cm_ret d_RD_readPair_59 rfl (jnz (by omega)) (⟨0, rfl, by omega, hpq1, fun z => absurd z (by omega), fun _ => by
        show PA N9 X9 Y9 V9 (I 38 2) (I 38 7 = 1) (.err (Iq1 38 3) (Iq1 38 2))
        rw [hwq1.2.2, hwq1.2.1]
        exact .e0 hwq1.1⟩)
    · skip
      exfalso
      omega
  · skip
    obtain rfl : yq1 = 1 := by omega
    have hwq1 := hxq1.1 rfl
    clear hxq1
    show jt _ 5 [(0, .ref (b + 38))] [.int (jI 1)] (cmf b f0 Iq1 Aq1) _ _ _
    refine jt_if_eq (t := 58) d_RD_readPair_5 rfl (by unfold jRi; omega) (fun c3 => ?_) (fun c3 => ?_)
    · skip
      exfalso
      omega
    · skip
      refine jt_aload_n d_RD_readPair_8 rfl ?_
      refine jt_iconst d_RD_readPair_9 ?_
      refine cct_callV (Y := Y_RD_readExpression) (ci := 2) (k := 38) (As := [.int (jI 0)]) (rest := []) d_RD_readPair_10 RD_c74 yk_RD_readExpression yv_RD_readExpression rfl (Nat.le_of_ble_eq_true rfl) (by decide) cc_3 rfl rfl (Nat.le_of_ble_eq_true rfl) (v_RD_readExpression_x0 G _ b Iq1 Aq1 hpq1.1 hpq1.2.1 (cTok_f hpq1 hK rfl) X9 cXq1 Y9 cYq1 N9 cNq1 V9 cVq1 hVr) (fun rvq4 Iq4 Aq4 hq4 => ?_)
      obtain ⟨yq4, rfl, ryq4, hqq4, hxq4⟩ := hq4
      have hpq4 := cPf.transx hpq1 hqq4 rfl rfl
      have cXq4 : Aq4 40 = X9 := (hqq4.2.2.2 40 rfl (by decide)).trans cXq1
      have cYq4 : Aq4 41 = Y9 := (hqq4.2.2.2 41 rfl (by decide)).trans cYq1
      have cNq4 : Iq4 39 3 = N9 := (hqq4.2.2.1 39 3 rfl).trans cNq1
      have cVq4 : cVf Aq4 V9 := cVf_of hqq4 rfl cVq1
      have m38_6q4 : Iq4 38 6 = Iq1 38 6 := hqq4.2.2.1 38 6 rfl
      have m38_9q4 : Iq4 38 9 = Iq1 38 9 := hqq4.2.2.1 38 9 rfl
      have a375q4 : Aq4 375 = Aq1 375 := hqq4.2.2.2 375 rfl (by decide)
      have kpq4 : cKp Aq4 fs := cKp_fr kpq1 (by first | omega | (simp only [List.length_append, List.length_cons, List.length_nil]; omega)) (fr_x hqq4 rfl)
      have rrq4 : 0 ≤ Iq4 38 2 ∧ Iq4 38 2 ≤ 300 := hpq4.1 38 2
      by_cases gbq4 : yq4 = 0
      · skip
        obtain rfl : yq4 = 0 := by omega
        have hwq4 := hxq4.2 rfl
        clear hxq4
        show jt _ 13 [(0, .ref (b + 38))] [.int (jI 0)] (cmf b f0 Iq4 Aq4) _ _ _
        refine jt_if_eq (t := 58) d_RD_readPair_13 rfl (by unfold jRi; omega) (fun c5 => ?_) (fun c5 => ?_)
        · skip
          refine jt_iconst d_RD_readPair_58 ?_
          exact cm_ret d_RD_readPair_59 rfl (jnz (by omega)) (⟨0, rfl, by omega, hpq4, fun z => absurd z (by omega), fun _ => by
        have h9 := hwq4
        rw [hwq1.2, m38_7q1] at h9
        exact .e1 hwq1.1 (EX_err h9)⟩)
        · skip
          exfalso
          omega
      · skip
        obtain rfl : yq4 = 1 := by omega
        have hwq4 := hxq4.1 rfl
        clear hxq4
        show jt _ 13 [(0, .ref (b + 38))] [.int (jI 1)] (cmf b f0 Iq4 Aq4) _ _ _
        refine jt_if_eq (t := 58) d_RD_readPair_13 rfl (by unfold jRi; omega) (fun c6 => ?_) (fun c6 => ?_)
        · skip
          exfalso
          omega
        · skip
          refine jt_aload_n d_RD_readPair_16 rfl ?_
          refine cct_callV (Y := Y_RD_keep) (ci := 2) (k := 38) (As := []) (rest := []) d_RD_readPair_17 RD_c78 yk_RD_keep yv_RD_keep rfl (Nat.le_of_ble_eq_true rfl) (by decide) cc_3 rfl rfl (Nat.le_of_ble_eq_true rfl) (v_RD_keep_x G _ b Iq4 Aq4 hpq4.1 hpq4.2.1 (show 0 ≤ Iq4 38 6 ∧ Iq4 38 6 < 150 by omega)) (fun rvq7 Iq7 Aq7 hq7 => ?_)
          obtain ⟨yq7, rfl, ryq7, hqq7, hxq7⟩ := hq7
          have hpq7 := cPf.trans hpq4 hqq7 rfl (fun _ h9 => h9)
          have cXq7 : Aq7 40 = X9 := (hqq7.2.2.2 40 rfl (by decide)).trans cXq4
          have cYq7 : Aq7 41 = Y9 := (hqq7.2.2.2 41 rfl (by decide)).trans cYq4
          have cNq7 : Iq7 39 3 = N9 := (hqq7.2.2.1 39 3 rfl).trans cNq4
          have cVq7 : cVf Aq7 V9 := cVf_f hqq7 rfl cVq4
          have m38_2q7 : Iq7 38 2 = Iq4 38 2 := hqq7.2.2.1 38 2 rfl
          have m38_7q7 : Iq7 38 7 = Iq4 38 7 := hqq7.2.2.1 38 7 rfl
          have m38_9q7 : Iq7 38 9 = Iq4 38 9 := hqq7.2.2.1 38 9 rfl
          have kpq7 : cKp Aq7 (fs ++ [Aq4 378]) := cKp_keep kpq4 (show Iq4 38 6 = ((fs.length : Nat) : Int) by first | omega | (simp only [List.length_append, List.length_cons, List.length_nil]; omega)) hxq7.2.1 hxq7.2.2
          have n6q7 := hxq7.1
          have a375q7 : Aq7 375 = Aq4 375 := hxq7.2.1 375 (ctn1 (by omega)) trivial
          clear hxq7
          obtain rfl : yq7 = 1 := ryq7
          show jt _ 20 [(0, .ref (b + 38))] [.int (jI 1)] (cmf b f0 Iq7 Aq7) _ _ _
          refine jt_if_eq (t := 58) d_RD_readPair_20 rfl (by unfold jRi; omega) (fun c8 => ?_) (fun c8 => ?_)
          · skip
            exfalso
            omega
          · skip
            refine jt_aload_n d_RD_readPair_23 rfl ?_
            refine jt_iconst d_RD_readPair_24 ?_
            refine cct_callV (Y := Y_RD_take) (ci := 2) (k := 38) (As := [.int (jI 5)]) (rest := []) d_RD_readPair_25 RD_c88 yk_RD_take yv_RD_take rfl (Nat.le_of_ble_eq_true rfl) (by decide) cc_3 rfl rfl (Nat.le_of_ble_eq_true rfl) (v_RD_take_x G _ b 5 Iq7 Aq7 hpq7.1 hpq7.2.1 X9 cXq7 Y9 cYq7 N9 cNq7 (by omega)) (fun rvq9 Iq9 Aq9 hq9 => ?_)
            obtain ⟨yq9, rfl, ryq9, hqq9, hxq9⟩ := hq9
            have hpq9 := cPf.transx hpq7 hqq9 rfl rfl
            have cXq9 : Aq9 40 = X9 := (hqq9.2.2.2 40 rfl (by decide)).trans cXq7
            have cYq9 : Aq9 41 = Y9 := (hqq9.2.2.2 41 rfl (by decide)).trans cYq7
            have cNq9 : Iq9 39 3 = N9 := (hqq9.2.2.1 39 3 rfl).trans cNq7
            have cVq9 : cVf Aq9 V9 := cVf_of hqq9 rfl cVq7
            have m38_6q9 : Iq9 38 6 = Iq7 38 6 := hqq9.2.2.1 38 6 rfl
            have m38_7q9 : Iq9 38 7 = Iq7 38 7 := hqq9.2.2.1 38 7 rfl
            have m38_9q9 : Iq9 38 9 = Iq7 38 9 := hqq9.2.2.1 38 9 rfl
            have a375q9 : Aq9 375 = Aq7 375 := hqq9.2.2.2 375 rfl (by decide)
            have kpq9 : cKp Aq9 (fs ++ [Aq4 378]) := cKp_fr kpq7 (by first | omega | (simp only [List.length_append, List.length_cons, List.length_nil]; omega)) (fr_x hqq9 rfl)
            have rrq9 : 0 ≤ Iq9 38 2 ∧ Iq9 38 2 ≤ 300 := hpq9.1 38 2
            by_cases gbq9 : yq9 = 0
            · skip
              obtain rfl : yq9 = 0 := by omega
              have hwq9 := hxq9.2 rfl
              clear hxq9
              show jt _ 28 [(0, .ref (b + 38))] [.int (jI 0)] (cmf b f0 Iq9 Aq9) _ _ _
              refine jt_if_eq (t := 58) d_RD_readPair_28 rfl (by unfold jRi; omega) (fun c10 => ?_) (fun c10 => ?_)
              · skip
                refine jt_iconst d_RD_readPair_58 ?_
                exact cm_ret d_RD_readPair_59 rfl (jnz (by omega)) (⟨0, rfl, by omega, hpq9, fun z => absurd z (by omega), fun _ => by
        have h9 := hwq4.1
        rw [hwq1.2, m38_7q1] at h9
        have w5 := hwq9.1
        rw [m38_2q7] at w5
        show PA N9 X9 Y9 V9 (I 38 2) (I 38 7 = 1) (.err (Iq9 38 3) (Iq9 38 2))
        rw [hwq9.2.2, hwq9.2.1, m38_2q7]
        exact .e2 hwq1.1 (EX_ok h9) w5⟩)
              · skip
                exfalso
                omega
            · skip
              obtain rfl : yq9 = 1 := by omega
              have hwq9 := hxq9.1 rfl
              clear hxq9
              show jt _ 28 [(0, .ref (b + 38))] [.int (jI 1)] (cmf b f0 Iq9 Aq9) _ _ _
              refine jt_if_eq (t := 58) d_RD_readPair_28 rfl (by unfold jRi; omega) (fun c11 => ?_) (fun c11 => ?_)
              · skip
                exfalso
                omega
              · skip
                refine jt_aload_n d_RD_readPair_31 rfl ?_
                refine jt_iconst d_RD_readPair_32 ?_
                refine cct_callV (Y := Y_RD_readExpression) (ci := 2) (k := 38) (As := [.int (jI 0)]) (rest := []) d_RD_readPair_33 RD_c74 yk_RD_readExpression yv_RD_readExpression rfl (Nat.le_of_ble_eq_true rfl) (by decide) cc_3 rfl rfl (Nat.le_of_ble_eq_true rfl) (v_RD_readExpression_x0 G _ b Iq9 Aq9 hpq9.1 hpq9.2.1 (cTok_f hpq9 hK rfl) X9 cXq9 Y9 cYq9 N9 cNq9 V9 cVq9 hVr) (fun rvq12 Iq12 Aq12 hq12 => ?_)
                obtain ⟨yq12, rfl, ryq12, hqq12, hxq12⟩ := hq12
                have hpq12 := cPf.transx hpq9 hqq12 rfl rfl
                have cXq12 : Aq12 40 = X9 := (hqq12.2.2.2 40 rfl (by decide)).trans cXq9
                have cYq12 : Aq12 41 = Y9 := (hqq12.2.2.2 41 rfl (by decide)).trans cYq9
                have cNq12 : Iq12 39 3 = N9 := (hqq12.2.2.1 39 3 rfl).trans cNq9
                have cVq12 : cVf Aq12 V9 := cVf_of hqq12 rfl cVq9
                have m38_6q12 : Iq12 38 6 = Iq9 38 6 := hqq12.2.2.1 38 6 rfl
                have m38_9q12 : Iq12 38 9 = Iq9 38 9 := hqq12.2.2.1 38 9 rfl
                have a375q12 : Aq12 375 = Aq9 375 := hqq12.2.2.2 375 rfl (by decide)
                have kpq12 : cKp Aq12 (fs ++ [Aq4 378]) := cKp_fr kpq9 (by first | omega | (simp only [List.length_append, List.length_cons, List.length_nil]; omega)) (fr_x hqq12 rfl)
                have rrq12 : 0 ≤ Iq12 38 2 ∧ Iq12 38 2 ≤ 300 := hpq12.1 38 2
                by_cases gbq12 : yq12 = 0
                · skip
                  obtain rfl : yq12 = 0 := by omega
                  have hwq12 := hxq12.2 rfl
                  clear hxq12
                  show jt _ 36 [(0, .ref (b + 38))] [.int (jI 0)] (cmf b f0 Iq12 Aq12) _ _ _
                  refine jt_if_eq (t := 58) d_RD_readPair_36 rfl (by unfold jRi; omega) (fun c13 => ?_) (fun c13 => ?_)
                  · skip
                    refine jt_iconst d_RD_readPair_58 ?_
                    exact cm_ret d_RD_readPair_59 rfl (jnz (by omega)) (⟨0, rfl, by omega, hpq12, fun z => absurd z (by omega), fun _ => by
        have h9 := hwq4.1
        rw [hwq1.2, m38_7q1] at h9
        have w5 := hwq9.1
        rw [m38_2q7] at w5
        have h8 := hwq12
        rw [hwq9.2, m38_2q7, m38_7q9, m38_7q7] at h8
        exact .e3 hwq1.1 (EX_ok h9) w5 (EX_err h8)⟩)
                  · skip
                    exfalso
                    omega
                · skip
                  obtain rfl : yq12 = 1 := by omega
                  have hwq12 := hxq12.1 rfl
                  clear hxq12
                  show jt _ 36 [(0, .ref (b + 38))] [.int (jI 1)] (cmf b f0 Iq12 Aq12) _ _ _
                  refine jt_if_eq (t := 58) d_RD_readPair_36 rfl (by unfold jRi; omega) (fun c14 => ?_) (fun c14 => ?_)
                  · skip
                    exfalso
                    omega
                  · skip
                    refine jt_aload_n d_RD_readPair_39 rfl ?_
                    refine cct_callV (Y := Y_RD_keep) (ci := 2) (k := 38) (As := []) (rest := []) d_RD_readPair_40 RD_c78 yk_RD_keep yv_RD_keep rfl (Nat.le_of_ble_eq_true rfl) (by decide) cc_3 rfl rfl (Nat.le_of_ble_eq_true rfl) (v_RD_keep_x G _ b Iq12 Aq12 hpq12.1 hpq12.2.1 (show 0 ≤ Iq12 38 6 ∧ Iq12 38 6 < 150 by omega)) (fun rvq15 Iq15 Aq15 hq15 => ?_)
                    obtain ⟨yq15, rfl, ryq15, hqq15, hxq15⟩ := hq15
                    have hpq15 := cPf.trans hpq12 hqq15 rfl (fun _ h9 => h9)
                    have cXq15 : Aq15 40 = X9 := (hqq15.2.2.2 40 rfl (by decide)).trans cXq12
                    have cYq15 : Aq15 41 = Y9 := (hqq15.2.2.2 41 rfl (by decide)).trans cYq12
                    have cNq15 : Iq15 39 3 = N9 := (hqq15.2.2.1 39 3 rfl).trans cNq12
                    have cVq15 : cVf Aq15 V9 := cVf_f hqq15 rfl cVq12
                    have m38_2q15 : Iq15 38 2 = Iq12 38 2 := hqq15.2.2.1 38 2 rfl
                    have m38_7q15 : Iq15 38 7 = Iq12 38 7 := hqq15.2.2.1 38 7 rfl
                    have m38_9q15 : Iq15 38 9 = Iq12 38 9 := hqq15.2.2.1 38 9 rfl
                    have kpq15 : cKp Aq15 ((fs ++ [Aq4 378]) ++ [Aq12 378]) := cKp_keep kpq12 (show Iq12 38 6 = (((fs ++ [Aq4 378]).length : Nat) : Int) by first | omega | (simp only [List.length_append, List.length_cons, List.length_nil]; omega)) hxq15.2.1 hxq15.2.2
                    have n6q15 := hxq15.1
                    have a375q15 : Aq15 375 = Aq12 375 := hxq15.2.1 375 (ctn1 (by omega)) trivial
                    clear hxq15
                    obtain rfl : yq15 = 1 := ryq15
                    show jt _ 43 [(0, .ref (b + 38))] [.int (jI 1)] (cmf b f0 Iq15 Aq15) _ _ _
                    refine jt_if_eq (t := 58) d_RD_readPair_43 rfl (by unfold jRi; omega) (fun c16 => ?_) (fun c16 => ?_)
                    · skip
                      exfalso
                      omega
                    · skip
                      refine jt_aload_n d_RD_readPair_46 rfl ?_
                      refine jt_iconst d_RD_readPair_47 ?_
                      refine cct_callV (Y := Y_RD_take) (ci := 2) (k := 38) (As := [.int (jI 4)]) (rest := []) d_RD_readPair_48 RD_c88 yk_RD_take yv_RD_take rfl (Nat.le_of_ble_eq_true rfl) (by decide) cc_3 rfl rfl (Nat.le_of_ble_eq_true rfl) (v_RD_take_x G _ b 4 Iq15 Aq15 hpq15.1 hpq15.2.1 X9 cXq15 Y9 cYq15 N9 cNq15 (by omega)) (fun rvq17 Iq17 Aq17 hq17 => ?_)
                      obtain ⟨yq17, rfl, ryq17, hqq17, hxq17⟩ := hq17
                      have hpq17 := cPf.transx hpq15 hqq17 rfl rfl
                      have cXq17 : Aq17 40 = X9 := (hqq17.2.2.2 40 rfl (by decide)).trans cXq15
                      have cYq17 : Aq17 41 = Y9 := (hqq17.2.2.2 41 rfl (by decide)).trans cYq15
                      have cNq17 : Iq17 39 3 = N9 := (hqq17.2.2.1 39 3 rfl).trans cNq15
                      have cVq17 : cVf Aq17 V9 := cVf_of hqq17 rfl cVq15
                      have m38_6q17 : Iq17 38 6 = Iq15 38 6 := hqq17.2.2.1 38 6 rfl
                      have m38_7q17 : Iq17 38 7 = Iq15 38 7 := hqq17.2.2.1 38 7 rfl
                      have m38_9q17 : Iq17 38 9 = Iq15 38 9 := hqq17.2.2.1 38 9 rfl
                      have a375q17 : Aq17 375 = Aq15 375 := hqq17.2.2.2 375 rfl (by decide)
                      have kpq17 : cKp Aq17 ((fs ++ [Aq4 378]) ++ [Aq12 378]) := cKp_fr kpq15 (by first | omega | (simp only [List.length_append, List.length_cons, List.length_nil]; omega)) (fr_x hqq17 rfl)
                      have rrq17 : 0 ≤ Iq17 38 2 ∧ Iq17 38 2 ≤ 300 := hpq17.1 38 2
                      by_cases gbq17 : yq17 = 0
                      · skip
                        obtain rfl : yq17 = 0 := by omega
                        have hwq17 := hxq17.2 rfl
                        clear hxq17
                        show jt _ 51 [(0, .ref (b + 38))] [.int (jI 0)] (cmf b f0 Iq17 Aq17) _ _ _
                        refine jt_if_eq (t := 58) d_RD_readPair_51 rfl (by unfold jRi; omega) (fun c18 => ?_) (fun c18 => ?_)
                        · skip
                          refine jt_iconst d_RD_readPair_58 ?_
                          exact cm_ret d_RD_readPair_59 rfl (jnz (by omega)) (⟨0, rfl, by omega, hpq17, fun z => absurd z (by omega), fun _ => by
        have h9 := hwq4.1
        rw [hwq1.2, m38_7q1] at h9
        have w5 := hwq9.1
        rw [m38_2q7] at w5
        have h8 := hwq12.1
        rw [hwq9.2, m38_2q7, m38_7q9, m38_7q7] at h8
        have w4 := hwq17.1
        rw [m38_2q15] at w4
        show PA N9 X9 Y9 V9 (I 38 2) (I 38 7 = 1) (.err (Iq17 38 3) (Iq17 38 2))
        rw [hwq17.2.2, hwq17.2.1, m38_2q15]
        exact .e4 hwq1.1 (EX_ok h9) w5 (EX_ok h8) w4⟩)
                        · skip
                          exfalso
                          omega
                      · skip
                        obtain rfl : yq17 = 1 := by omega
                        have hwq17 := hxq17.1 rfl
                        clear hxq17
                        show jt _ 51 [(0, .ref (b + 38))] [.int (jI 1)] (cmf b f0 Iq17 Aq17) _ _ _
                        refine jt_if_eq (t := 58) d_RD_readPair_51 rfl (by unfold jRi; omega) (fun c19 => ?_) (fun c19 => ?_)
                        · skip
                          exfalso
                          omega
                        · skip
                          refine jt_iconst d_RD_readPair_54 ?_
                          refine jt_goto (t := 59) d_RD_readPair_55 rfl ?_
                          exact cm_ret d_RD_readPair_59 rfl (jnz (by omega)) (⟨1, rfl, by omega, hpq17, fun _ => ⟨⟨Aq4 378, Aq12 378, by
        have h9 := hwq4.1
        rw [hwq1.2, m38_7q1] at h9
        have w5 := hwq9.1
        rw [m38_2q7] at w5
        have h8 := hwq12.1
        rw [hwq9.2, m38_2q7, m38_7q9, m38_7q7] at h8
        have w4 := hwq17.1
        rw [m38_2q15] at w4
        show PA N9 X9 Y9 V9 (I 38 2) (I 38 7 = 1) (.ok (Iq17 38 2) (Aq4 378) (Aq12 378) (Iq17 38 7 = 1))
        rw [hwq17.2, m38_2q15, m38_7q17, m38_7q15]
        exact .ok hwq1.1 (EX_ok h9) w5 (EX_ok h8) w4, by have h9 := kpq17; rw [List.append_assoc] at h9; exact h9⟩, show Iq17 38 6 = I 38 6 + 2 by omega, show I 38 2 + 5 ≤ Iq17 38 2 by omega, show Aq17 375 = A 375 by rw [a375q17, a375q15, a375q12, a375q9, a375q7, a375q4, a375q1]⟩, fun z => absurd z (by omega)⟩)

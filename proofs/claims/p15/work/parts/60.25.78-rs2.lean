set_option maxRecDepth 100000 in
set_option maxHeartbeats 4000000 in
theorem l46_RD_readEquation_xv (G : jG) (d b : Nat)  (I : Nat → Nat → Int) (A : Nat → Int → Int) (hI : cSI I) (hA : cSA A) (hK : cTok A) (X9 : Int → Int) (hX : A 40 = X9) (Y9 : Int → Int) (hY : A 41 = Y9) (N9 : Int) (hN : I 39 3 = N9) (V9 : Int → Int → Int) (hV : cVf A V9) (hVr : ∀ v, 0 ≤ v → v < 12 → inr (V9 v)) (h6 : I 38 6 = 0) (h7 : I 38 7 = 1) (f0 : jF) (sz : Nat)   : ∀ (n9 : Nat) (u : Int) (k : Int) (J : Nat → Nat → Int) (B : Nat → Int → Int), cPf [610, 611, 614, 615] tKept I A J B → (0 ≤ u ∧ u ≤ 1) → (0 ≤ k ∧ k ≤ 150) → (u = 1 → J 38 6 = k + 2 ∧ 2 * (k + 2) ≤ J 38 2 + 1) → (u = 1 → cEG N9 X9 Y9 V9 (I 38 2) J B) → (u = 0 → EQ N9 X9 Y9 V9 (I 38 2) (.err (J 38 3) (J 38 2))) → (B 40 = X9) → (B 41 = Y9) → (J 39 3 = N9) → (cVf B V9) → 150 - k < (n9 : Int) → jt (jm G Y_RD_readEquation (gR (d + 28)) (cQ b f0 sz (fun (rv : Option Value) (I2 : Nat → Nat → Int) (A2 : Nat → Int → Int) => ∃ y : Int, rv = some (.int (jI y)) ∧ (0 ≤ y ∧ y ≤ 1) ∧ cPf [610, 611, 614, 615] tKept I A I2 A2 ∧ (y = 1 → cEF N9 X9 Y9 V9 (I 38 2) I2 A2) ∧ (y = 0 → EQ N9 X9 Y9 V9 (I 38 2) (.err (I2 38 3) (I2 38 2)))))) 46 [(0, .ref (b + 38)), (1, .int (jI u)), (2, .int (jI k))] [] (cmf b f0 J B) sz 0 0 := by
  have r39 : 0 ≤ I 39 3 ∧ I 39 3 ≤ 300 := hI 39 3
  have r38 : 0 ≤ I 38 2 ∧ I 38 2 ≤ 300 := hI 38 2
  have r386 : 0 ≤ I 38 6 ∧ I 38 6 ≤ 150 := hI 38 6
  have hT : (I 38 7 = 1) = True := eq_true h7
  intro n9
  induction n9 with
  | zero =>
    intro u k J B hJ u0 k0 n6 hG hE cX cY cN cV hmeas
    have q38 : 0 ≤ J 38 2 ∧ J 38 2 ≤ 300 := hJ.1 38 2
    exfalso
    omega
  | succ n9 ih =>
    intro u k J B hJ u0 k0 n6 hG hE cX cY cN cV hmeas
    have q38 : 0 ≤ J 38 2 ∧ J 38 2 ≤ 300 := hJ.1 38 2
    refine jt_iload_n d_RD_readEquation_46 rfl ?_
    refine jt_sipush d_RD_readEquation_47 (by omega) ?_
    refine jt_icmp_ge (t := 109) d_RD_readEquation_50 rfl (by unfold jRi; omega) (by unfold jRi; omega) (fun c101 => ?_) (fun c101 => ?_)
    · skip
      refine jt_iload_n d_RD_readEquation_109 rfl ?_
      exact cm_ret d_RD_readEquation_110 rfl (jnz (by omega)) (⟨u, rfl, by omega, hJ, fun u1 => by exfalso; have := n6 u1; omega, hE⟩)
    · skip
      refine jt_iload_n d_RD_readEquation_53 rfl ?_
      refine jt_if_eq (t := 109) d_RD_readEquation_54 rfl (by unfold jRi; omega) (fun c102 => ?_) (fun c102 => ?_)
      · skip
        refine jt_iload_n d_RD_readEquation_109 rfl ?_
        exact cm_ret d_RD_readEquation_110 rfl (jnz (by omega)) (⟨u, rfl, by omega, hJ, fun u1 => by exfalso; have := n6 u1; omega, hE⟩)
      · skip
        refine jt_aload_n d_RD_readEquation_57 rfl ?_
        refine cm_get (k := 38) (v := .ref (b + 39)) d_RD_readEquation_58 RD_f14 (by decide) cc_3 rfl ?_
        refine jt_aload_n d_RD_readEquation_61 rfl ?_
        refine cm_get (k := 38) (v := .int (jI (J 38 2))) d_RD_readEquation_62 RD_f60 (by decide) cc_3 rfl ?_
        have rb103 : 0 ≤ J 38 2 ∧ J 38 2 ≤ 300 := hJ.1 38 2
        refine jt_iconst d_RD_readEquation_65 ?_
        refine cct_callV (Y := Y_TR_isWord) (ci := 0) (k := 39) (As := [.int (jI (J 38 2)), .int (jI 2)]) (rest := []) d_RD_readEquation_66 RD_c91 yk_TR_isWord yv_TR_isWord rfl (Nat.le_of_ble_eq_true rfl) (by decide) (cc_1 rfl) rfl rfl (Nat.le_of_ble_eq_true rfl) (v_TR_isWord_x G _ b (J 38 2) 2 J B hJ.1 hJ.2.1 X9 cX Y9 cY N9 cN (by omega) (by omega)) (fun rvq104 Iq104 Aq104 hq104 => ?_)
        obtain ⟨yq104, rfl, ryq104, hIq104, hAq104, hxq104⟩ := hq104
        rw [hIq104, hAq104]
        by_cases gbq104 : yq104 = 1
        · skip
          obtain rfl : yq104 = 1 := by omega
          have hwq104 := hxq104.1 rfl
          clear hxq104
          show jt _ 69 [(0, .ref (b + 38)), (1, .int (jI u)), (2, .int (jI k))] [.int (jI 1)] (cmf b f0 J B) _ _ _
          refine jt_if_eq (t := 109) d_RD_readEquation_69 rfl (by unfold jRi; omega) (fun c105 => ?_) (fun c105 => ?_)
          · skip
            exfalso
            omega
          · skip
            obtain ⟨fs, hkp, hf6, hgo⟩ := hG (by omega)
            have hn6 := n6 (by omega)
            refine jt_aload_n d_RD_readEquation_72 rfl ?_
            refine jt_dup d_RD_readEquation_73 rfl ?_
            refine cm_get (k := 38) (v := .int (jI (J 38 2))) d_RD_readEquation_74 RD_f60 (by decide) cc_3 rfl ?_
            refine jt_iconst d_RD_readEquation_77 ?_
            refine jt_iadd d_RD_readEquation_78 ?_
            refine jt_topi (fun v106 ev106 => ?_)
            refine cm_put (k := 38) (j := 2) (v := v106) d_RD_readEquation_79 (RD_w60 _ rfl) (by decide) cc_3 rfl rfl (Nat.le_of_ble_eq_true rfl) rfl ?_
            have p107 := cPf.I 38 2 v106 hJ rfl (show 0 ≤ v106 ∧ v106 ≤ 300 by omega)
            refine jt_aload_n d_RD_readEquation_82 rfl ?_
            refine jt_iconst d_RD_readEquation_83 ?_
            refine cct_callV (Y := Y_RD_readExpression) (ci := 2) (k := 38) (As := [.int (jI 0)]) (rest := []) d_RD_readEquation_84 RD_c74 yk_RD_readExpression yv_RD_readExpression rfl (Nat.le_of_ble_eq_true rfl) (by decide) cc_3 rfl rfl (Nat.le_of_ble_eq_true rfl) (v_RD_readExpression_x0 G _ b (cu J 38 2 v106) B p107.1 p107.2.1 (cTok_f p107 hK rfl) X9 cX Y9 cY N9 cN V9 cV hVr) (fun rvq108 Iq108 Aq108 hq108 => ?_)
            obtain ⟨yq108, rfl, ryq108, hqq108, hxq108⟩ := hq108
            have hpq108 := cPf.transx p107 hqq108 rfl rfl
            have cXq108 : Aq108 40 = X9 := (hqq108.2.2.2 40 rfl (by decide)).trans cX
            have cYq108 : Aq108 41 = Y9 := (hqq108.2.2.2 41 rfl (by decide)).trans cY
            have cNq108 : Iq108 39 3 = N9 := (hqq108.2.2.1 39 3 rfl).trans cN
            have cVq108 : cVf Aq108 V9 := cVf_of hqq108 rfl cV
            have s38_2q108 : (cu J 38 2 v106) 38 2 = v106 := rfl
            have s38_6q108 : (cu J 38 2 v106) 38 6 = J 38 6 := rfl
            have s38_7q108 : (cu J 38 2 v106) 38 7 = J 38 7 := rfl
            have s38_9q108 : (cu J 38 2 v106) 38 9 = J 38 9 := rfl
            have m38_6q108 : Iq108 38 6 = J 38 6 := hqq108.2.2.1 38 6 rfl
            have m38_9q108 : Iq108 38 9 = J 38 9 := hqq108.2.2.1 38 9 rfl
            have kpq108 : cKp Aq108 fs := cKp_fr hkp (by first | omega | (simp only [List.length_append, List.length_cons, List.length_nil]; omega)) (fr_x hqq108 rfl)
            have rrq108 : 0 ≤ Iq108 38 2 ∧ Iq108 38 2 ≤ 300 := hpq108.1 38 2
            by_cases gbq108 : yq108 = 0
            · skip
              obtain rfl : yq108 = 0 := by omega
              have hwq108 := hxq108.2 rfl
              clear hxq108
              show jt _ 87 [(0, .ref (b + 38)), (1, .int (jI u)), (2, .int (jI k))] [.int (jI 0)] (cmf b f0 Iq108 Aq108) _ _ _
              refine jt_if_eq (t := 101) d_RD_readEquation_87 rfl (by unfold jRi; omega) (fun c109 => ?_) (fun c109 => ?_)
              · skip
                refine jt_iconst d_RD_readEquation_101 ?_
                refine jt_istore_n (L' := [(0, .ref (b + 38)), (1, .int (jI 0)), (2, .int (jI k))]) d_RD_readEquation_102 (Nat.le_of_ble_eq_true rfl) rfl ?_
                refine jt_iinc (L' := [(0, .ref (b + 38)), (1, .int (jI 0)), (2, .int (jI (k + 1)))]) d_RD_readEquation_103 rfl (Nat.le_of_ble_eq_true rfl) rfl ?_
                refine jt_goto (t := 46) d_RD_readEquation_106 rfl ?_
                exact ih 0 (k + 1) Iq108 Aq108 hpq108 (by omega) (by omega) (fun z9 => absurd z9 (by omega)) (fun z9 => absurd z9 (by omega)) (fun _ => by have h9 : rdXn N9 X9 Y9 V9 0 v106 (J 38 7 = 1) (Iq108 38 3) (Iq108 38 2) := hwq108; rw [ev106] at h9; exact hgo _ (.moreX hwq104.2 (EX_err h9))) cXq108 cYq108 cNq108 cVq108 (by omega)
              · skip
                exfalso
                omega
            · skip
              obtain rfl : yq108 = 1 := by omega
              have hwq108 := hxq108.1 rfl
              clear hxq108
              show jt _ 87 [(0, .ref (b + 38)), (1, .int (jI u)), (2, .int (jI k))] [.int (jI 1)] (cmf b f0 Iq108 Aq108) _ _ _
              refine jt_if_eq (t := 101) d_RD_readEquation_87 rfl (by unfold jRi; omega) (fun c110 => ?_) (fun c110 => ?_)
              · skip
                exfalso
                omega
              · skip
                refine jt_aload_n d_RD_readEquation_90 rfl ?_
                refine cct_callV (Y := Y_RD_keep) (ci := 2) (k := 38) (As := []) (rest := []) d_RD_readEquation_91 RD_c78 yk_RD_keep yv_RD_keep rfl (Nat.le_of_ble_eq_true rfl) (by decide) cc_3 rfl rfl (Nat.le_of_ble_eq_true rfl) (v_RD_keep_x G _ b Iq108 Aq108 hpq108.1 hpq108.2.1 (show 0 ≤ Iq108 38 6 ∧ Iq108 38 6 < 150 by omega)) (fun rvq111 Iq111 Aq111 hq111 => ?_)
                obtain ⟨yq111, rfl, ryq111, hqq111, hxq111⟩ := hq111
                have hpq111 := cPf.trans hpq108 hqq111 rfl (fun _ h9 => h9)
                have cXq111 : Aq111 40 = X9 := (hqq111.2.2.2 40 rfl (by decide)).trans cXq108
                have cYq111 : Aq111 41 = Y9 := (hqq111.2.2.2 41 rfl (by decide)).trans cYq108
                have cNq111 : Iq111 39 3 = N9 := (hqq111.2.2.1 39 3 rfl).trans cNq108
                have cVq111 : cVf Aq111 V9 := cVf_f hqq111 rfl cVq108
                have m38_2q111 : Iq111 38 2 = Iq108 38 2 := hqq111.2.2.1 38 2 rfl
                have m38_7q111 : Iq111 38 7 = Iq108 38 7 := hqq111.2.2.1 38 7 rfl
                have m38_9q111 : Iq111 38 9 = Iq108 38 9 := hqq111.2.2.1 38 9 rfl
                have kpq111 : cKp Aq111 (fs ++ [Aq108 378]) := cKp_keep kpq108 (show Iq108 38 6 = ((fs.length : Nat) : Int) by first | omega | (simp only [List.length_append, List.length_cons, List.length_nil]; omega)) hxq111.2.1 hxq111.2.2
                have n6q111 := hxq111.1
                have a375q111 : Aq111 375 = Aq108 375 := hxq111.2.1 375 (ctn1 (by omega)) trivial
                clear hxq111
                obtain rfl : yq111 = 1 := ryq111
                show jt _ 94 [(0, .ref (b + 38)), (1, .int (jI u)), (2, .int (jI k))] [.int (jI 1)] (cmf b f0 Iq111 Aq111) _ _ _
                refine jt_if_eq (t := 101) d_RD_readEquation_94 rfl (by unfold jRi; omega) (fun c112 => ?_) (fun c112 => ?_)
                · skip
                  exfalso
                  omega
                · skip
                  refine jt_iconst d_RD_readEquation_97 ?_
                  refine jt_goto (t := 102) d_RD_readEquation_98 rfl ?_
                  refine jt_istore_n (L' := [(0, .ref (b + 38)), (1, .int (jI 1)), (2, .int (jI k))]) d_RD_readEquation_102 (Nat.le_of_ble_eq_true rfl) rfl ?_
                  refine jt_iinc (L' := [(0, .ref (b + 38)), (1, .int (jI 1)), (2, .int (jI (k + 1)))]) d_RD_readEquation_103 rfl (Nat.le_of_ble_eq_true rfl) rfl ?_
                  refine jt_goto (t := 46) d_RD_readEquation_106 rfl ?_
                  exact ih 1 (k + 1) Iq111 Aq111 hpq111 (by omega) (by omega) (fun _ => show Iq111 38 6 = k + 1 + 2 ∧ 2 * (k + 1 + 2) ≤ Iq111 38 2 + 1 by omega) (fun _ => ⟨_, kpq111, (show Iq111 38 6 = (((fs ++ [Aq108 378]).length : Nat) : Int) by first | omega | (simp only [List.length_append, List.length_cons, List.length_nil]; omega)), fun r k9 => by have h9 : rdE N9 X9 Y9 V9 0 v106 (J 38 7 = 1) (Iq108 38 2) (Aq108 378) (Iq108 38 7 = 1) := hwq108.1; rw [ev106] at h9; rw [m38_2q111, m38_7q111] at k9; exact hgo r (.more hwq104.2 (EX_ok h9) k9)⟩) (fun z9 => absurd z9 (by omega)) cXq111 cYq111 cNq111 cVq111 (by omega)
        · skip
          obtain rfl : yq104 = 0 := by omega
          have hwq104 : ¬ xV N9 X9 Y9 (J 38 2) 2 := fun z9 => hxq104.2 rfl ⟨by omega, z9⟩
          clear hxq104
          show jt _ 69 [(0, .ref (b + 38)), (1, .int (jI u)), (2, .int (jI k))] [.int (jI 0)] (cmf b f0 J B) _ _ _
          refine jt_if_eq (t := 109) d_RD_readEquation_69 rfl (by unfold jRi; omega) (fun c113 => ?_) (fun c113 => ?_)
          · skip
            refine jt_iload_n d_RD_readEquation_109 rfl ?_
            exact cm_ret d_RD_readEquation_110 rfl (jnz (by omega)) (⟨u, rfl, by omega, hJ, fun u1 => by obtain ⟨fs, hkp, hf6, hgo⟩ := hG u1; have hn6 := n6 u1; exact ⟨fs, hkp, hf6, hgo _ (.done hwq104 (by omega))⟩, hE⟩)
          · skip
            exfalso
            omega
set_option maxRecDepth 100000 in
set_option maxHeartbeats 4000000 in
theorem v_RD_readEquation_x (G : jG) (d b : Nat)  (I : Nat → Nat → Int) (A : Nat → Int → Int) (hI : cSI I) (hA : cSA A) (hK : cTok A) (X9 : Int → Int) (hX : A 40 = X9) (Y9 : Int → Int) (hY : A 41 = Y9) (N9 : Int) (hN : I 39 3 = N9) (V9 : Int → Int → Int) (hV : cVf A V9) (hVr : ∀ v, 0 ≤ v → v < 12 → inr (V9 v)) (h6 : I 38 6 = 0) (h7 : I 38 7 = 1) : cct G Y_RD_readEquation (d + 28) b [.ref (b + 38)] I A (fun (rv : Option Value) (I2 : Nat → Nat → Int) (A2 : Nat → Int → Int) => ∃ y : Int, rv = some (.int (jI y)) ∧ (0 ≤ y ∧ y ≤ 1) ∧ cPf [610, 611, 614, 615] tKept I A I2 A2 ∧ (y = 1 → cEF N9 X9 Y9 V9 (I 38 2) I2 A2) ∧ (y = 0 → EQ N9 X9 Y9 V9 (I 38 2) (.err (I2 38 3) (I2 38 2)))) := by
  refine cct_of (by decide) (Nat.le_of_ble_eq_true rfl) (fun f0 sz => ?_)
  show jt _ 0 [(0, .ref (b + 38))] [] _ _ _ _
  have r39 : 0 ≤ I 39 3 ∧ I 39 3 ≤ 300 := hI 39 3
  have r38 : 0 ≤ I 38 2 ∧ I 38 2 ≤ 300 := hI 38 2
  have r386 : 0 ≤ I 38 6 ∧ I 38 6 ≤ 150 := hI 38 6
  have hT : (I 38 7 = 1) = True := eq_true h7
  have hz0 : cPf [610, 611, 614, 615] tKept I A I A := cPf.refl hI hA
  refine jt_aload_n d_RD_readEquation_0 rfl ?_
  refine jt_iconst d_RD_readEquation_1 ?_
  refine cct_callV (Y := Y_RD_readExpression) (ci := 2) (k := 38) (As := [.int (jI 0)]) (rest := []) d_RD_readEquation_2 RD_c74 yk_RD_readExpression yv_RD_readExpression rfl (Nat.le_of_ble_eq_true rfl) (by decide) cc_3 rfl rfl (Nat.le_of_ble_eq_true rfl) (v_RD_readExpression_x0 G _ b I A hz0.1 hz0.2.1 (cTok_f hz0 hK rfl) X9 hX Y9 hY N9 hN V9 hV hVr) (fun rvq1 Iq1 Aq1 hq1 => ?_)
  obtain ⟨yq1, rfl, ryq1, hqq1, hxq1⟩ := hq1
  have hpq1 := cPf.transx hz0 hqq1 rfl rfl
  have cXq1 : Aq1 40 = X9 := (hqq1.2.2.2 40 rfl (by decide)).trans hX
  have cYq1 : Aq1 41 = Y9 := (hqq1.2.2.2 41 rfl (by decide)).trans hY
  have cNq1 : Iq1 39 3 = N9 := (hqq1.2.2.1 39 3 rfl).trans hN
  have cVq1 : cVf Aq1 V9 := cVf_of hqq1 rfl hV
  have m38_6q1 : Iq1 38 6 = I 38 6 := hqq1.2.2.1 38 6 rfl
  have m38_9q1 : Iq1 38 9 = I 38 9 := hqq1.2.2.1 38 9 rfl
  have kpq1 : cKp Aq1 ([] : List (Int → Int)) := cKp_fr (cKp_0 A) (by first | omega | (simp only [List.length_append, List.length_cons, List.length_nil]; omega)) (fr_x hqq1 rfl)
  have rrq1 : 0 ≤ Iq1 38 2 ∧ Iq1 38 2 ≤ 300 := hpq1.1 38 2
  by_cases gbq1 : yq1 = 0
  · skip
    obtain rfl : yq1 = 0 := by omega
    have hwq1 := hxq1.2 rfl
    clear hxq1
    show jt _ 5 [(0, .ref (b + 38))] [.int (jI 0)] (cmf b f0 Iq1 Aq1) _ _ _
    refine jt_if_eq (t := 42) d_RD_readEquation_5 rfl (by unfold jRi; omega) (fun c2 => ?_) (fun c2 => ?_)
    · skip
      refine jt_iconst d_RD_readEquation_42 ?_
      refine jt_istore_n (L' := [(0, .ref (b + 38)), (1, .int (jI 0))]) d_RD_readEquation_43 (Nat.le_of_ble_eq_true rfl) rfl ?_
      refine jt_iconst d_RD_readEquation_44 ?_
      refine jt_istore_n (L' := [(0, .ref (b + 38)), (1, .int (jI 0)), (2, .int (jI 0))]) d_RD_readEquation_45 (Nat.le_of_ble_eq_true rfl) rfl ?_
      exact l46_RD_readEquation_xv G d b  I A hI hA hK X9 hX Y9 hY N9 hN V9 hV hVr h6 h7 f0 sz  151 0 0 Iq1 Aq1 hpq1 (by omega) (by omega) (fun z9 => absurd z9 (by omega)) (fun z9 => absurd z9 (by omega)) (fun _ => by show EQ N9 X9 Y9 V9 (I 38 2) (.err (Iq1 38 3) (Iq1 38 2)); have h9 := hwq1; rw [hT] at h9; exact .e0 (EX_err h9)) cXq1 cYq1 cNq1 cVq1 (by omega)
    · skip
      exfalso
      omega
  · skip
    obtain rfl : yq1 = 1 := by omega
    have hwq1 := hxq1.1 rfl
    clear hxq1
    show jt _ 5 [(0, .ref (b + 38))] [.int (jI 1)] (cmf b f0 Iq1 Aq1) _ _ _
    refine jt_if_eq (t := 42) d_RD_readEquation_5 rfl (by unfold jRi; omega) (fun c3 => ?_) (fun c3 => ?_)
    · skip
      exfalso
      omega
    · skip
      refine jt_aload_n d_RD_readEquation_8 rfl ?_
      refine cct_callV (Y := Y_RD_keep) (ci := 2) (k := 38) (As := []) (rest := []) d_RD_readEquation_9 RD_c78 yk_RD_keep yv_RD_keep rfl (Nat.le_of_ble_eq_true rfl) (by decide) cc_3 rfl rfl (Nat.le_of_ble_eq_true rfl) (v_RD_keep_x G _ b Iq1 Aq1 hpq1.1 hpq1.2.1 (show 0 ≤ Iq1 38 6 ∧ Iq1 38 6 < 150 by omega)) (fun rvq4 Iq4 Aq4 hq4 => ?_)
      obtain ⟨yq4, rfl, ryq4, hqq4, hxq4⟩ := hq4
      have hpq4 := cPf.trans hpq1 hqq4 rfl (fun _ h9 => h9)
      have cXq4 : Aq4 40 = X9 := (hqq4.2.2.2 40 rfl (by decide)).trans cXq1
      have cYq4 : Aq4 41 = Y9 := (hqq4.2.2.2 41 rfl (by decide)).trans cYq1
      have cNq4 : Iq4 39 3 = N9 := (hqq4.2.2.1 39 3 rfl).trans cNq1
      have cVq4 : cVf Aq4 V9 := cVf_f hqq4 rfl cVq1
      have m38_2q4 : Iq4 38 2 = Iq1 38 2 := hqq4.2.2.1 38 2 rfl
      have m38_7q4 : Iq4 38 7 = Iq1 38 7 := hqq4.2.2.1 38 7 rfl
      have m38_9q4 : Iq4 38 9 = Iq1 38 9 := hqq4.2.2.1 38 9 rfl
      have kpq4 : cKp Aq4 (([] : List (Int → Int)) ++ [Aq1 378]) := cKp_keep kpq1 (show Iq1 38 6 = ((([] : List (Int → Int)).length : Nat) : Int) by first | omega | (simp only [List.length_append, List.length_cons, List.length_nil]; omega)) hxq4.2.1 hxq4.2.2
      have n6q4 := hxq4.1
      have a375q4 : Aq4 375 = Aq1 375 := hxq4.2.1 375 (ctn1 (by omega)) trivial
      clear hxq4
      obtain rfl : yq4 = 1 := ryq4
      show jt _ 12 [(0, .ref (b + 38))] [.int (jI 1)] (cmf b f0 Iq4 Aq4) _ _ _
      refine jt_if_eq (t := 42) d_RD_readEquation_12 rfl (by unfold jRi; omega) (fun c5 => ?_) (fun c5 => ?_)
      · skip
        exfalso
        omega
      · skip
        refine jt_aload_n d_RD_readEquation_15 rfl ?_
        refine jt_iconst d_RD_readEquation_16 ?_
        refine cct_callV (Y := Y_RD_take) (ci := 2) (k := 38) (As := [.int (jI 2)]) (rest := []) d_RD_readEquation_17 RD_c88 yk_RD_take yv_RD_take rfl (Nat.le_of_ble_eq_true rfl) (by decide) cc_3 rfl rfl (Nat.le_of_ble_eq_true rfl) (v_RD_take_x G _ b 2 Iq4 Aq4 hpq4.1 hpq4.2.1 X9 cXq4 Y9 cYq4 N9 cNq4 (by omega)) (fun rvq6 Iq6 Aq6 hq6 => ?_)
        obtain ⟨yq6, rfl, ryq6, hqq6, hxq6⟩ := hq6
        have hpq6 := cPf.transx hpq4 hqq6 rfl rfl
        have cXq6 : Aq6 40 = X9 := (hqq6.2.2.2 40 rfl (by decide)).trans cXq4
        have cYq6 : Aq6 41 = Y9 := (hqq6.2.2.2 41 rfl (by decide)).trans cYq4
        have cNq6 : Iq6 39 3 = N9 := (hqq6.2.2.1 39 3 rfl).trans cNq4
        have cVq6 : cVf Aq6 V9 := cVf_of hqq6 rfl cVq4
        have m38_6q6 : Iq6 38 6 = Iq4 38 6 := hqq6.2.2.1 38 6 rfl
        have m38_7q6 : Iq6 38 7 = Iq4 38 7 := hqq6.2.2.1 38 7 rfl
        have m38_9q6 : Iq6 38 9 = Iq4 38 9 := hqq6.2.2.1 38 9 rfl
        have kpq6 : cKp Aq6 (([] : List (Int → Int)) ++ [Aq1 378]) := cKp_fr kpq4 (by first | omega | (simp only [List.length_append, List.length_cons, List.length_nil]; omega)) (fr_x hqq6 rfl)
        have rrq6 : 0 ≤ Iq6 38 2 ∧ Iq6 38 2 ≤ 300 := hpq6.1 38 2
        by_cases gbq6 : yq6 = 0
        · skip
          obtain rfl : yq6 = 0 := by omega
          have hwq6 := hxq6.2 rfl
          clear hxq6
          show jt _ 20 [(0, .ref (b + 38))] [.int (jI 0)] (cmf b f0 Iq6 Aq6) _ _ _
          refine jt_if_eq (t := 42) d_RD_readEquation_20 rfl (by unfold jRi; omega) (fun c7 => ?_) (fun c7 => ?_)
          · skip
            refine jt_iconst d_RD_readEquation_42 ?_
            refine jt_istore_n (L' := [(0, .ref (b + 38)), (1, .int (jI 0))]) d_RD_readEquation_43 (Nat.le_of_ble_eq_true rfl) rfl ?_
            refine jt_iconst d_RD_readEquation_44 ?_
            refine jt_istore_n (L' := [(0, .ref (b + 38)), (1, .int (jI 0)), (2, .int (jI 0))]) d_RD_readEquation_45 (Nat.le_of_ble_eq_true rfl) rfl ?_
            exact l46_RD_readEquation_xv G d b  I A hI hA hK X9 hX Y9 hY N9 hN V9 hV hVr h6 h7 f0 sz  151 0 0 Iq6 Aq6 hpq6 (by omega) (by omega) (fun z9 => absurd z9 (by omega)) (fun z9 => absurd z9 (by omega)) (fun _ => by show EQ N9 X9 Y9 V9 (I 38 2) (.err (Iq6 38 3) (Iq6 38 2)); have h9 := hwq1.1; rw [hT] at h9; have w2 := hwq6.1; rw [m38_2q4] at w2; rw [hwq6.2.2, hwq6.2.1, m38_2q4]; exact .go (EX_ok h9) (.need w2 rfl)) cXq6 cYq6 cNq6 cVq6 (by omega)
          · skip
            exfalso
            omega
        · skip
          obtain rfl : yq6 = 1 := by omega
          have hwq6 := hxq6.1 rfl
          clear hxq6
          show jt _ 20 [(0, .ref (b + 38))] [.int (jI 1)] (cmf b f0 Iq6 Aq6) _ _ _
          refine jt_if_eq (t := 42) d_RD_readEquation_20 rfl (by unfold jRi; omega) (fun c8 => ?_) (fun c8 => ?_)
          · skip
            exfalso
            omega
          · skip
            refine jt_aload_n d_RD_readEquation_23 rfl ?_
            refine jt_iconst d_RD_readEquation_24 ?_
            refine cct_callV (Y := Y_RD_readExpression) (ci := 2) (k := 38) (As := [.int (jI 0)]) (rest := []) d_RD_readEquation_25 RD_c74 yk_RD_readExpression yv_RD_readExpression rfl (Nat.le_of_ble_eq_true rfl) (by decide) cc_3 rfl rfl (Nat.le_of_ble_eq_true rfl) (v_RD_readExpression_x0 G _ b Iq6 Aq6 hpq6.1 hpq6.2.1 (cTok_f hpq6 hK rfl) X9 cXq6 Y9 cYq6 N9 cNq6 V9 cVq6 hVr) (fun rvq9 Iq9 Aq9 hq9 => ?_)
            obtain ⟨yq9, rfl, ryq9, hqq9, hxq9⟩ := hq9
            have hpq9 := cPf.transx hpq6 hqq9 rfl rfl
            have cXq9 : Aq9 40 = X9 := (hqq9.2.2.2 40 rfl (by decide)).trans cXq6
            have cYq9 : Aq9 41 = Y9 := (hqq9.2.2.2 41 rfl (by decide)).trans cYq6
            have cNq9 : Iq9 39 3 = N9 := (hqq9.2.2.1 39 3 rfl).trans cNq6
            have cVq9 : cVf Aq9 V9 := cVf_of hqq9 rfl cVq6
            have m38_6q9 : Iq9 38 6 = Iq6 38 6 := hqq9.2.2.1 38 6 rfl
            have m38_9q9 : Iq9 38 9 = Iq6 38 9 := hqq9.2.2.1 38 9 rfl
            have kpq9 : cKp Aq9 (([] : List (Int → Int)) ++ [Aq1 378]) := cKp_fr kpq6 (by first | omega | (simp only [List.length_append, List.length_cons, List.length_nil]; omega)) (fr_x hqq9 rfl)
            have rrq9 : 0 ≤ Iq9 38 2 ∧ Iq9 38 2 ≤ 300 := hpq9.1 38 2
            by_cases gbq9 : yq9 = 0
            · skip
              obtain rfl : yq9 = 0 := by omega
              have hwq9 := hxq9.2 rfl
              clear hxq9
              show jt _ 28 [(0, .ref (b + 38))] [.int (jI 0)] (cmf b f0 Iq9 Aq9) _ _ _
              refine jt_if_eq (t := 42) d_RD_readEquation_28 rfl (by unfold jRi; omega) (fun c10 => ?_) (fun c10 => ?_)
              · skip
                refine jt_iconst d_RD_readEquation_42 ?_
                refine jt_istore_n (L' := [(0, .ref (b + 38)), (1, .int (jI 0))]) d_RD_readEquation_43 (Nat.le_of_ble_eq_true rfl) rfl ?_
                refine jt_iconst d_RD_readEquation_44 ?_
                refine jt_istore_n (L' := [(0, .ref (b + 38)), (1, .int (jI 0)), (2, .int (jI 0))]) d_RD_readEquation_45 (Nat.le_of_ble_eq_true rfl) rfl ?_
                exact l46_RD_readEquation_xv G d b  I A hI hA hK X9 hX Y9 hY N9 hN V9 hV hVr h6 h7 f0 sz  151 0 0 Iq9 Aq9 hpq9 (by omega) (by omega) (fun z9 => absurd z9 (by omega)) (fun z9 => absurd z9 (by omega)) (fun _ => by show EQ N9 X9 Y9 V9 (I 38 2) (.err (Iq9 38 3) (Iq9 38 2)); have h9 := hwq1.1; rw [hT] at h9; have w2 := hwq6.1; rw [m38_2q4] at w2; have h8 := hwq9; rw [hwq6.2, m38_2q4, m38_7q6, m38_7q4] at h8; exact .go (EX_ok h9) (.moreX w2 (EX_err h8))) cXq9 cYq9 cNq9 cVq9 (by omega)
              · skip
                exfalso
                omega
            · skip
              obtain rfl : yq9 = 1 := by omega
              have hwq9 := hxq9.1 rfl
              clear hxq9
              show jt _ 28 [(0, .ref (b + 38))] [.int (jI 1)] (cmf b f0 Iq9 Aq9) _ _ _
              refine jt_if_eq (t := 42) d_RD_readEquation_28 rfl (by unfold jRi; omega) (fun c11 => ?_) (fun c11 => ?_)
              · skip
                exfalso
                omega
              · skip
                refine jt_aload_n d_RD_readEquation_31 rfl ?_
                refine cct_callV (Y := Y_RD_keep) (ci := 2) (k := 38) (As := []) (rest := []) d_RD_readEquation_32 RD_c78 yk_RD_keep yv_RD_keep rfl (Nat.le_of_ble_eq_true rfl) (by decide) cc_3 rfl rfl (Nat.le_of_ble_eq_true rfl) (v_RD_keep_x G _ b Iq9 Aq9 hpq9.1 hpq9.2.1 (show 0 ≤ Iq9 38 6 ∧ Iq9 38 6 < 150 by omega)) (fun rvq12 Iq12 Aq12 hq12 => ?_)
                obtain ⟨yq12, rfl, ryq12, hqq12, hxq12⟩ := hq12
                have hpq12 := cPf.trans hpq9 hqq12 rfl (fun _ h9 => h9)
                have cXq12 : Aq12 40 = X9 := (hqq12.2.2.2 40 rfl (by decide)).trans cXq9
                have cYq12 : Aq12 41 = Y9 := (hqq12.2.2.2 41 rfl (by decide)).trans cYq9
                have cNq12 : Iq12 39 3 = N9 := (hqq12.2.2.1 39 3 rfl).trans cNq9
                have cVq12 : cVf Aq12 V9 := cVf_f hqq12 rfl cVq9
                have m38_2q12 : Iq12 38 2 = Iq9 38 2 := hqq12.2.2.1 38 2 rfl
                have m38_7q12 : Iq12 38 7 = Iq9 38 7 := hqq12.2.2.1 38 7 rfl
                have m38_9q12 : Iq12 38 9 = Iq9 38 9 := hqq12.2.2.1 38 9 rfl
                have kpq12 : cKp Aq12 ((([] : List (Int → Int)) ++ [Aq1 378]) ++ [Aq9 378]) := cKp_keep kpq9 (show Iq9 38 6 = (((([] : List (Int → Int)) ++ [Aq1 378]).length : Nat) : Int) by first | omega | (simp only [List.length_append, List.length_cons, List.length_nil]; omega)) hxq12.2.1 hxq12.2.2
                have n6q12 := hxq12.1
                have a375q12 : Aq12 375 = Aq9 375 := hxq12.2.1 375 (ctn1 (by omega)) trivial
                clear hxq12
                obtain rfl : yq12 = 1 := ryq12
                show jt _ 35 [(0, .ref (b + 38))] [.int (jI 1)] (cmf b f0 Iq12 Aq12) _ _ _
                refine jt_if_eq (t := 42) d_RD_readEquation_35 rfl (by unfold jRi; omega) (fun c13 => ?_) (fun c13 => ?_)
                · skip
                  exfalso
                  omega
                · skip
                  refine jt_iconst d_RD_readEquation_38 ?_
                  refine jt_goto (t := 43) d_RD_readEquation_39 rfl ?_
                  refine jt_istore_n (L' := [(0, .ref (b + 38)), (1, .int (jI 1))]) d_RD_readEquation_43 (Nat.le_of_ble_eq_true rfl) rfl ?_
                  refine jt_iconst d_RD_readEquation_44 ?_
                  refine jt_istore_n (L' := [(0, .ref (b + 38)), (1, .int (jI 1)), (2, .int (jI 0))]) d_RD_readEquation_45 (Nat.le_of_ble_eq_true rfl) rfl ?_
                  exact l46_RD_readEquation_xv G d b  I A hI hA hK X9 hX Y9 hY N9 hN V9 hV hVr h6 h7 f0 sz  151 1 0 Iq12 Aq12 hpq12 (by omega) (by omega) (fun _ => show Iq12 38 6 = 0 + 2 ∧ 2 * (0 + 2) ≤ Iq12 38 2 + 1 by omega) (fun _ => ⟨_, kpq12, (show Iq12 38 6 = ((((([] : List (Int → Int)) ++ [Aq1 378]) ++ [Aq9 378]).length : Nat) : Int) by first | omega | (simp only [List.length_append, List.length_cons, List.length_nil]; omega)), fun r k9 => by have h9 := hwq1.1; rw [hT] at h9; have w2 := hwq6.1; rw [m38_2q4] at w2; have h8 := hwq9.1; rw [hwq6.2, m38_2q4, m38_7q6, m38_7q4] at h8; rw [m38_2q12, m38_7q12] at k9; exact .go (EX_ok h9) (.more w2 (EX_ok h8) k9)⟩) (fun z9 => absurd z9 (by omega)) cXq12 cYq12 cNq12 cVq12 (by omega)

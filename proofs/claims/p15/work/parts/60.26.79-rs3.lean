set_option maxRecDepth 100000 in
set_option maxHeartbeats 4000000 in
theorem l9_RD_readPath_xv (G : jG) (d b : Nat)  (I : Nat → Nat → Int) (A : Nat → Int → Int) (hI : cSI I) (hA : cSA A) (hK : cTok A) (X9 : Int → Int) (hX : A 40 = X9) (Y9 : Int → Int) (hY : A 41 = Y9) (N9 : Int) (hN : I 39 3 = N9) (V9 : Int → Int → Int) (hV : cVf A V9) (hVr : ∀ v, 0 ≤ v → v < 12 → inr (V9 v)) (h6 : I 38 6 = 0) (h7 : I 38 7 = 1) (h9l : I 38 9 = 0) (f0 : jF) (sz : Nat)   : ∀ (n9 : Nat) (u : Int) (c : Int) (k : Int) (J : Nat → Nat → Int) (B : Nat → Int → Int), cPf [610, 611, 614, 615, 617] tKept I A J B → (0 ≤ u ∧ u ≤ 1) → (0 ≤ c ∧ c ≤ 1) → (0 ≤ k ∧ k ≤ 300) → (J 38 9 ≤ k) → (u = 1 → c = 0 → 6 * k ≤ J 38 2) → (u = 1 → c = 0 → cPH N9 X9 Y9 V9 (I 38 2) J B) → (u = 1 → c = 1 → cPF N9 X9 Y9 V9 (I 38 2) J B) → (u = 0 → PH N9 X9 Y9 V9 (I 38 2) (.err (J 38 3) (J 38 2))) → (B 40 = X9) → (B 41 = Y9) → (J 39 3 = N9) → (cVf B V9) → 300 - k < (n9 : Int) → jt (jm G Y_RD_readPath (gR (d + 29)) (cQ b f0 sz (fun (rv : Option Value) (I2 : Nat → Nat → Int) (A2 : Nat → Int → Int) => ∃ y : Int, rv = some (.int (jI y)) ∧ (0 ≤ y ∧ y ≤ 1) ∧ cPf [610, 611, 614, 615, 617] tKept I A I2 A2 ∧ (y = 1 → cPF N9 X9 Y9 V9 (I 38 2) I2 A2) ∧ (y = 0 → PH N9 X9 Y9 V9 (I 38 2) (.err (I2 38 3) (I2 38 2)))))) 9 [(0, .ref (b + 38)), (1, .int (jI u)), (2, .int (jI c)), (3, .int (jI k))] [] (cmf b f0 J B) sz 0 0 := by
  have r39 : 0 ≤ I 39 3 ∧ I 39 3 ≤ 300 := hI 39 3
  have r38 : 0 ≤ I 38 2 ∧ I 38 2 ≤ 300 := hI 38 2
  have r386 : 0 ≤ I 38 6 ∧ I 38 6 ≤ 150 := hI 38 6
  have hT : (I 38 7 = 1) = True := eq_true h7
  intro n9
  induction n9 with
  | zero =>
    intro u c k J B hJ u0 c0 k0 l0 kp6 hP hF hE cX cY cN cV hmeas
    have q38 : 0 ≤ J 38 2 ∧ J 38 2 ≤ 300 := hJ.1 38 2
    have q9 : 0 ≤ J 38 9 ∧ J 38 9 ≤ 2000 := hJ.1 38 9
    have q6 : 0 ≤ J 38 6 ∧ J 38 6 ≤ 150 := hJ.1 38 6
    exfalso
    omega
  | succ n9 ih =>
    intro u c k J B hJ u0 c0 k0 l0 kp6 hP hF hE cX cY cN cV hmeas
    have q38 : 0 ≤ J 38 2 ∧ J 38 2 ≤ 300 := hJ.1 38 2
    have q9 : 0 ≤ J 38 9 ∧ J 38 9 ≤ 2000 := hJ.1 38 9
    have q6 : 0 ≤ J 38 6 ∧ J 38 6 ≤ 150 := hJ.1 38 6
    refine jt_iload_n d_RD_readPath_9 rfl ?_
    refine jt_sipush d_RD_readPath_10 (by omega) ?_
    refine jt_icmp_ge (t := 163) d_RD_readPath_13 rfl (by unfold jRi; omega) (by unfold jRi; omega) (fun c101 => ?_) (fun c101 => ?_)
    · skip
      refine jt_iload_n d_RD_readPath_163 rfl ?_
      exact cm_ret d_RD_readPath_164 rfl (jnz (by omega)) (⟨u, rfl, by omega, hJ, fun u1 => hF u1 (by omega), hE⟩)
    · skip
      refine jt_iload_n d_RD_readPath_16 rfl ?_
      refine jt_if_eq (t := 163) d_RD_readPath_17 rfl (by unfold jRi; omega) (fun c102 => ?_) (fun c102 => ?_)
      · skip
        refine jt_iload_n d_RD_readPath_163 rfl ?_
        exact cm_ret d_RD_readPath_164 rfl (jnz (by omega)) (⟨u, rfl, by omega, hJ, fun u1 => hF u1 (by omega), hE⟩)
      · skip
        refine jt_iload_n d_RD_readPath_20 rfl ?_
        refine jt_if_ne (t := 163) d_RD_readPath_21 rfl (by unfold jRi; omega) (fun c103 => ?_) (fun c103 => ?_)
        · skip
          refine jt_iload_n d_RD_readPath_163 rfl ?_
          exact cm_ret d_RD_readPath_164 rfl (jnz (by omega)) (⟨u, rfl, by omega, hJ, fun u1 => hF u1 (by omega), hE⟩)
        · skip
          obtain ⟨L9, fs, hkp, hlg, hf6, hf9, h26, hgo⟩ := hP (by omega) (by omega)
          have hk6 := kp6 (by omega) (by omega)
          refine jt_aload_n d_RD_readPath_24 rfl ?_
          refine cm_get (k := 38) (v := .ref (b + 39)) d_RD_readPath_25 RD_f14 (by decide) cc_3 rfl ?_
          refine jt_aload_n d_RD_readPath_28 rfl ?_
          refine cm_get (k := 38) (v := .int (jI (J 38 2))) d_RD_readPath_29 RD_f60 (by decide) cc_3 rfl ?_
          have rb104 : 0 ≤ J 38 2 ∧ J 38 2 ≤ 300 := hJ.1 38 2
          refine jt_bipush d_RD_readPath_32 (by omega) ?_
          refine cct_callV (Y := Y_TR_isWord) (ci := 0) (k := 39) (As := [.int (jI (J 38 2)), .int (jI 7)]) (rest := []) d_RD_readPath_34 RD_c91 yk_TR_isWord yv_TR_isWord rfl (Nat.le_of_ble_eq_true rfl) (by decide) (cc_1 rfl) rfl rfl (Nat.le_of_ble_eq_true rfl) (v_TR_isWord_x G _ b (J 38 2) 7 J B hJ.1 hJ.2.1 X9 cX Y9 cY N9 cN (by omega) (by omega)) (fun rvq105 Iq105 Aq105 hq105 => ?_)
          obtain ⟨yq105, rfl, ryq105, hIq105, hAq105, hxq105⟩ := hq105
          rw [hIq105, hAq105]
          by_cases gbq105 : yq105 = 1
          · skip
            obtain rfl : yq105 = 1 := by omega
            have hwq105 := hxq105.1 rfl
            clear hxq105
            show jt _ 37 [(0, .ref (b + 38)), (1, .int (jI u)), (2, .int (jI c)), (3, .int (jI k))] [.int (jI 1)] (cmf b f0 J B) _ _ _
            refine jt_if_eq (t := 102) d_RD_readPath_37 rfl (by unfold jRi; omega) (fun c106 => ?_) (fun c106 => ?_)
            · skip
              exfalso
              omega
            · skip
              refine jt_aload_n d_RD_readPath_40 rfl ?_
              refine jt_iconst d_RD_readPath_41 ?_
              refine cct_callV (Y := Y_RD_countLeg) (ci := 2) (k := 38) (As := [.int (jI 1)]) (rest := []) d_RD_readPath_42 RD_c97 yk_RD_countLeg yv_RD_countLeg rfl (Nat.le_of_ble_eq_true rfl) (by decide) cc_3 rfl rfl (Nat.le_of_ble_eq_true rfl) (v_RD_countLeg_x G _ b 1 J B hJ.1 hJ.2.1 (by omega) (show 0 ≤ J 38 9 ∧ J 38 9 < 2000 by omega)) (fun rvq107 Iq107 Aq107 hq107 => ?_)
              obtain ⟨rfl, hqq107, hxq107⟩ := hq107
              have hpq107 := cPf.transx hJ hqq107 rfl rfl
              have cXq107 : Aq107 40 = X9 := (hqq107.2.2.2 40 rfl (by decide)).trans cX
              have cYq107 : Aq107 41 = Y9 := (hqq107.2.2.2 41 rfl (by decide)).trans cY
              have cNq107 : Iq107 39 3 = N9 := (hqq107.2.2.1 39 3 rfl).trans cN
              have cVq107 : cVf Aq107 V9 := cVf_of hqq107 rfl cV
              have m38_2q107 : Iq107 38 2 = J 38 2 := hqq107.2.2.1 38 2 rfl
              have m38_6q107 : Iq107 38 6 = J 38 6 := hqq107.2.2.1 38 6 rfl
              have m38_7q107 : Iq107 38 7 = J 38 7 := hqq107.2.2.1 38 7 rfl
              have kpq107 : cKp Aq107 fs := cKp_fr hkp (by first | omega | (simp only [List.length_append, List.length_cons, List.length_nil]; omega)) (fr_x hqq107 rfl)
              have rrq107 : 0 ≤ Iq107 38 2 ∧ Iq107 38 2 ≤ 300 := hpq107.1 38 2
              have lgq107 : cLg Aq107 (L9 ++ [1]) := cLg_add hlg (show J 38 9 = ((L9.length : Nat) : Int) by omega) Aq107 hxq107.2.1 hxq107.2.2
              have n9q107 := hxq107.1
              clear hxq107
              show jt _ 45 [(0, .ref (b + 38)), (1, .int (jI u)), (2, .int (jI c)), (3, .int (jI k))] [] (cmf b f0 Iq107 Aq107) _ _ _
              refine jt_aload_n d_RD_readPath_45 rfl ?_
              refine jt_bipush d_RD_readPath_46 (by omega) ?_
              refine cct_callV (Y := Y_RD_take) (ci := 2) (k := 38) (As := [.int (jI 7)]) (rest := []) d_RD_readPath_48 RD_c88 yk_RD_take yv_RD_take rfl (Nat.le_of_ble_eq_true rfl) (by decide) cc_3 rfl rfl (Nat.le_of_ble_eq_true rfl) (v_RD_take_x G _ b 7 Iq107 Aq107 hpq107.1 hpq107.2.1 X9 cXq107 Y9 cYq107 N9 cNq107 (by omega)) (fun rvq108 Iq108 Aq108 hq108 => ?_)
              obtain ⟨yq108, rfl, ryq108, hqq108, hxq108⟩ := hq108
              have hpq108 := cPf.transx hpq107 hqq108 rfl rfl
              have cXq108 : Aq108 40 = X9 := (hqq108.2.2.2 40 rfl (by decide)).trans cXq107
              have cYq108 : Aq108 41 = Y9 := (hqq108.2.2.2 41 rfl (by decide)).trans cYq107
              have cNq108 : Iq108 39 3 = N9 := (hqq108.2.2.1 39 3 rfl).trans cNq107
              have cVq108 : cVf Aq108 V9 := cVf_of hqq108 rfl cVq107
              have m38_6q108 : Iq108 38 6 = Iq107 38 6 := hqq108.2.2.1 38 6 rfl
              have m38_7q108 : Iq108 38 7 = Iq107 38 7 := hqq108.2.2.1 38 7 rfl
              have m38_9q108 : Iq108 38 9 = Iq107 38 9 := hqq108.2.2.1 38 9 rfl
              have a375q108 : Aq108 375 = Aq107 375 := hqq108.2.2.2 375 rfl (by decide)
              have kpq108 : cKp Aq108 fs := cKp_fr kpq107 (by first | omega | (simp only [List.length_append, List.length_cons, List.length_nil]; omega)) (fr_x hqq108 rfl)
              have rrq108 : 0 ≤ Iq108 38 2 ∧ Iq108 38 2 ≤ 300 := hpq108.1 38 2
              by_cases gbq108 : yq108 = 0
              · skip
                obtain rfl : yq108 = 0 := by omega
                have hwq108 := hxq108.2 rfl
                clear hxq108
                show jt _ 51 [(0, .ref (b + 38)), (1, .int (jI u)), (2, .int (jI c)), (3, .int (jI k))] [.int (jI 0)] (cmf b f0 Iq108 Aq108) _ _ _
                exact absurd hwq105.2 (by have h9 := hwq108.1; rw [m38_2q107] at h9; exact h9)
              · skip
                obtain rfl : yq108 = 1 := by omega
                have hwq108 := hxq108.1 rfl
                clear hxq108
                show jt _ 51 [(0, .ref (b + 38)), (1, .int (jI u)), (2, .int (jI c)), (3, .int (jI k))] [.int (jI 1)] (cmf b f0 Iq108 Aq108) _ _ _
                refine jt_if_eq (t := 97) d_RD_readPath_51 rfl (by unfold jRi; omega) (fun c109 => ?_) (fun c109 => ?_)
                · skip
                  exfalso
                  omega
                · skip
                  refine jt_aload_n d_RD_readPath_54 rfl ?_
                  refine cct_callV (Y := Y_RD_readPair) (ci := 2) (k := 38) (As := []) (rest := []) d_RD_readPath_55 RD_c94 yk_RD_readPair yv_RD_readPair rfl (Nat.le_of_ble_eq_true rfl) (by decide) cc_3 rfl rfl (Nat.le_of_ble_eq_true rfl) (v_RD_readPair_x G _ b Iq108 Aq108 hpq108.1 hpq108.2.1 (cTok_f hpq108 hK rfl) X9 cXq108 Y9 cYq108 N9 cNq108 V9 cVq108 hVr fs kpq108 (show Iq108 38 6 = ((fs.length : Nat) : Int) by first | omega | (simp only [List.length_append, List.length_cons, List.length_nil]; omega)) (show 2 * Iq108 38 6 ≤ Iq108 38 2 by omega)) (fun rvq110 Iq110 Aq110 hq110 => ?_)
                  obtain ⟨yq110, rfl, ryq110, hqq110, hxq110⟩ := hq110
                  have hpq110 := cPf.trans hpq108 hqq110 rfl (fun _ h9 => h9)
                  have cXq110 : Aq110 40 = X9 := (hqq110.2.2.2 40 rfl (by decide)).trans cXq108
                  have cYq110 : Aq110 41 = Y9 := (hqq110.2.2.2 41 rfl (by decide)).trans cYq108
                  have cNq110 : Iq110 39 3 = N9 := (hqq110.2.2.1 39 3 rfl).trans cNq108
                  have cVq110 : cVf Aq110 V9 := cVf_f hqq110 rfl cVq108
                  have m38_9q110 : Iq110 38 9 = Iq108 38 9 := hqq110.2.2.1 38 9 rfl
                  have rrq110 : 0 ≤ Iq110 38 2 ∧ Iq110 38 2 ≤ 300 := hpq110.1 38 2
                  by_cases gbq110 : yq110 = 0
                  · skip
                    obtain rfl : yq110 = 0 := by omega
                    have hwq110 := hxq110.2 rfl
                    clear hxq110
                    show jt _ 58 [(0, .ref (b + 38)), (1, .int (jI u)), (2, .int (jI c)), (3, .int (jI k))] [.int (jI 0)] (cmf b f0 Iq110 Aq110) _ _ _
                    refine jt_if_eq (t := 97) d_RD_readPath_58 rfl (by unfold jRi; omega) (fun c111 => ?_) (fun c111 => ?_)
                    · skip
                      refine jt_iconst d_RD_readPath_97 ?_
                      refine jt_istore_n (L' := [(0, .ref (b + 38)), (1, .int (jI 0)), (2, .int (jI c)), (3, .int (jI k))]) d_RD_readPath_98 (Nat.le_of_ble_eq_true rfl) rfl ?_
                      refine jt_goto (t := 157) d_RD_readPath_99 rfl ?_
                      refine jt_iinc (L' := [(0, .ref (b + 38)), (1, .int (jI 0)), (2, .int (jI c)), (3, .int (jI (k + 1)))]) d_RD_readPath_157 rfl (Nat.le_of_ble_eq_true rfl) rfl ?_
                      refine jt_goto (t := 9) d_RD_readPath_160 rfl ?_
                      exact ih 0 c (k + 1) Iq110 Aq110 hpq110 (by omega) (by omega) (by omega) (show Iq110 38 9 ≤ k + 1 by omega) (fun z8 z9 => absurd z8 (by omega)) (fun z8 z9 => absurd z8 (by omega)) (fun z8 z9 => absurd z8 (by omega)) (fun _ => by show PH N9 X9 Y9 V9 (I 38 2) (.err (Iq110 38 3) (Iq110 38 2)); have q0 := hwq110; rw [hwq108.2, m38_2q107, m38_7q108, m38_7q107] at q0; exact hgo _ (PL.cur1 hwq105.2 q0)) cXq110 cYq110 cNq110 cVq110 (by omega)
                    · skip
                      exfalso
                      omega
                  · skip
                    obtain rfl : yq110 = 1 := by omega
                    have hwq110 := hxq110.1 rfl
                    clear hxq110
                    obtain ⟨⟨Faq110, Fbq110, paq110, kpq110⟩, n6q110, psq110, a375q110⟩ := hwq110
                    show jt _ 58 [(0, .ref (b + 38)), (1, .int (jI u)), (2, .int (jI c)), (3, .int (jI k))] [.int (jI 1)] (cmf b f0 Iq110 Aq110) _ _ _
                    refine jt_if_eq (t := 97) d_RD_readPath_58 rfl (by unfold jRi; omega) (fun c112 => ?_) (fun c112 => ?_)
                    · skip
                      exfalso
                      omega
                    · skip
                      refine jt_aload_n d_RD_readPath_61 rfl ?_
                      refine jt_bipush d_RD_readPath_62 (by omega) ?_
                      refine cct_callV (Y := Y_RD_take) (ci := 2) (k := 38) (As := [.int (jI 7)]) (rest := []) d_RD_readPath_64 RD_c88 yk_RD_take yv_RD_take rfl (Nat.le_of_ble_eq_true rfl) (by decide) cc_3 rfl rfl (Nat.le_of_ble_eq_true rfl) (v_RD_take_x G _ b 7 Iq110 Aq110 hpq110.1 hpq110.2.1 X9 cXq110 Y9 cYq110 N9 cNq110 (by omega)) (fun rvq113 Iq113 Aq113 hq113 => ?_)
                      obtain ⟨yq113, rfl, ryq113, hqq113, hxq113⟩ := hq113
                      have hpq113 := cPf.transx hpq110 hqq113 rfl rfl
                      have cXq113 : Aq113 40 = X9 := (hqq113.2.2.2 40 rfl (by decide)).trans cXq110
                      have cYq113 : Aq113 41 = Y9 := (hqq113.2.2.2 41 rfl (by decide)).trans cYq110
                      have cNq113 : Iq113 39 3 = N9 := (hqq113.2.2.1 39 3 rfl).trans cNq110
                      have cVq113 : cVf Aq113 V9 := cVf_of hqq113 rfl cVq110
                      have m38_6q113 : Iq113 38 6 = Iq110 38 6 := hqq113.2.2.1 38 6 rfl
                      have m38_7q113 : Iq113 38 7 = Iq110 38 7 := hqq113.2.2.1 38 7 rfl
                      have m38_9q113 : Iq113 38 9 = Iq110 38 9 := hqq113.2.2.1 38 9 rfl
                      have a375q113 : Aq113 375 = Aq110 375 := hqq113.2.2.2 375 rfl (by decide)
                      have kpq113 : cKp Aq113 (fs ++ [Faq110, Fbq110]) := cKp_fr kpq110 (by first | omega | (simp only [List.length_append, List.length_cons, List.length_nil]; omega)) (fr_x hqq113 rfl)
                      have rrq113 : 0 ≤ Iq113 38 2 ∧ Iq113 38 2 ≤ 300 := hpq113.1 38 2
                      by_cases gbq113 : yq113 = 0
                      · skip
                        obtain rfl : yq113 = 0 := by omega
                        have hwq113 := hxq113.2 rfl
                        clear hxq113
                        show jt _ 67 [(0, .ref (b + 38)), (1, .int (jI u)), (2, .int (jI c)), (3, .int (jI k))] [.int (jI 0)] (cmf b f0 Iq113 Aq113) _ _ _
                        refine jt_if_eq (t := 97) d_RD_readPath_67 rfl (by unfold jRi; omega) (fun c114 => ?_) (fun c114 => ?_)
                        · skip
                          refine jt_iconst d_RD_readPath_97 ?_
                          refine jt_istore_n (L' := [(0, .ref (b + 38)), (1, .int (jI 0)), (2, .int (jI c)), (3, .int (jI k))]) d_RD_readPath_98 (Nat.le_of_ble_eq_true rfl) rfl ?_
                          refine jt_goto (t := 157) d_RD_readPath_99 rfl ?_
                          refine jt_iinc (L' := [(0, .ref (b + 38)), (1, .int (jI 0)), (2, .int (jI c)), (3, .int (jI (k + 1)))]) d_RD_readPath_157 rfl (Nat.le_of_ble_eq_true rfl) rfl ?_
                          refine jt_goto (t := 9) d_RD_readPath_160 rfl ?_
                          exact ih 0 c (k + 1) Iq113 Aq113 hpq113 (by omega) (by omega) (by omega) (show Iq113 38 9 ≤ k + 1 by omega) (fun z8 z9 => absurd z8 (by omega)) (fun z8 z9 => absurd z8 (by omega)) (fun z8 z9 => absurd z8 (by omega)) (fun _ => by show PH N9 X9 Y9 V9 (I 38 2) (.err (Iq113 38 3) (Iq113 38 2)); have q0 := paq110; rw [hwq108.2, m38_2q107, m38_7q108, m38_7q107] at q0; rw [hwq113.2.2, hwq113.2.1]; exact hgo _ (PL.cur2 hwq105.2 q0 hwq113.1)) cXq113 cYq113 cNq113 cVq113 (by omega)
                        · skip
                          exfalso
                          omega
                      · skip
                        obtain rfl : yq113 = 1 := by omega
                        have hwq113 := hxq113.1 rfl
                        clear hxq113
                        show jt _ 67 [(0, .ref (b + 38)), (1, .int (jI u)), (2, .int (jI c)), (3, .int (jI k))] [.int (jI 1)] (cmf b f0 Iq113 Aq113) _ _ _
                        refine jt_if_eq (t := 97) d_RD_readPath_67 rfl (by unfold jRi; omega) (fun c115 => ?_) (fun c115 => ?_)
                        · skip
                          exfalso
                          omega
                        · skip
                          refine jt_aload_n d_RD_readPath_70 rfl ?_
                          refine cct_callV (Y := Y_RD_readPair) (ci := 2) (k := 38) (As := []) (rest := []) d_RD_readPath_71 RD_c94 yk_RD_readPair yv_RD_readPair rfl (Nat.le_of_ble_eq_true rfl) (by decide) cc_3 rfl rfl (Nat.le_of_ble_eq_true rfl) (v_RD_readPair_x G _ b Iq113 Aq113 hpq113.1 hpq113.2.1 (cTok_f hpq113 hK rfl) X9 cXq113 Y9 cYq113 N9 cNq113 V9 cVq113 hVr (fs ++ [Faq110, Fbq110]) kpq113 (show Iq113 38 6 = (((fs ++ [Faq110, Fbq110]).length : Nat) : Int) by first | omega | (simp only [List.length_append, List.length_cons, List.length_nil]; omega)) (show 2 * Iq113 38 6 ≤ Iq113 38 2 by omega)) (fun rvq116 Iq116 Aq116 hq116 => ?_)
                          obtain ⟨yq116, rfl, ryq116, hqq116, hxq116⟩ := hq116
                          have hpq116 := cPf.trans hpq113 hqq116 rfl (fun _ h9 => h9)
                          have cXq116 : Aq116 40 = X9 := (hqq116.2.2.2 40 rfl (by decide)).trans cXq113
                          have cYq116 : Aq116 41 = Y9 := (hqq116.2.2.2 41 rfl (by decide)).trans cYq113
                          have cNq116 : Iq116 39 3 = N9 := (hqq116.2.2.1 39 3 rfl).trans cNq113
                          have cVq116 : cVf Aq116 V9 := cVf_f hqq116 rfl cVq113
                          have m38_9q116 : Iq116 38 9 = Iq113 38 9 := hqq116.2.2.1 38 9 rfl
                          have rrq116 : 0 ≤ Iq116 38 2 ∧ Iq116 38 2 ≤ 300 := hpq116.1 38 2
                          by_cases gbq116 : yq116 = 0
                          · skip
                            obtain rfl : yq116 = 0 := by omega
                            have hwq116 := hxq116.2 rfl
                            clear hxq116
                            show jt _ 74 [(0, .ref (b + 38)), (1, .int (jI u)), (2, .int (jI c)), (3, .int (jI k))] [.int (jI 0)] (cmf b f0 Iq116 Aq116) _ _ _
                            refine jt_if_eq (t := 97) d_RD_readPath_74 rfl (by unfold jRi; omega) (fun c117 => ?_) (fun c117 => ?_)
                            · skip
                              refine jt_iconst d_RD_readPath_97 ?_
                              refine jt_istore_n (L' := [(0, .ref (b + 38)), (1, .int (jI 0)), (2, .int (jI c)), (3, .int (jI k))]) d_RD_readPath_98 (Nat.le_of_ble_eq_true rfl) rfl ?_
                              refine jt_goto (t := 157) d_RD_readPath_99 rfl ?_
                              refine jt_iinc (L' := [(0, .ref (b + 38)), (1, .int (jI 0)), (2, .int (jI c)), (3, .int (jI (k + 1)))]) d_RD_readPath_157 rfl (Nat.le_of_ble_eq_true rfl) rfl ?_
                              refine jt_goto (t := 9) d_RD_readPath_160 rfl ?_
                              exact ih 0 c (k + 1) Iq116 Aq116 hpq116 (by omega) (by omega) (by omega) (show Iq116 38 9 ≤ k + 1 by omega) (fun z8 z9 => absurd z8 (by omega)) (fun z8 z9 => absurd z8 (by omega)) (fun z8 z9 => absurd z8 (by omega)) (fun _ => by show PH N9 X9 Y9 V9 (I 38 2) (.err (Iq116 38 3) (Iq116 38 2)); have q0 := paq110; rw [hwq108.2, m38_2q107, m38_7q108, m38_7q107] at q0; have q1 := hwq116; rw [hwq113.2, m38_7q113] at q1; exact hgo _ (PL.cur3 hwq105.2 q0 hwq113.1 q1)) cXq116 cYq116 cNq116 cVq116 (by omega)
                            · skip
                              exfalso
                              omega
                          · skip
                            obtain rfl : yq116 = 1 := by omega
                            have hwq116 := hxq116.1 rfl
                            clear hxq116
                            obtain ⟨⟨Faq116, Fbq116, paq116, kpq116⟩, n6q116, psq116, a375q116⟩ := hwq116
                            show jt _ 74 [(0, .ref (b + 38)), (1, .int (jI u)), (2, .int (jI c)), (3, .int (jI k))] [.int (jI 1)] (cmf b f0 Iq116 Aq116) _ _ _
                            refine jt_if_eq (t := 97) d_RD_readPath_74 rfl (by unfold jRi; omega) (fun c118 => ?_) (fun c118 => ?_)
                            · skip
                              exfalso
                              omega
                            · skip
                              refine jt_aload_n d_RD_readPath_77 rfl ?_
                              refine jt_bipush d_RD_readPath_78 (by omega) ?_
                              refine cct_callV (Y := Y_RD_take) (ci := 2) (k := 38) (As := [.int (jI 7)]) (rest := []) d_RD_readPath_80 RD_c88 yk_RD_take yv_RD_take rfl (Nat.le_of_ble_eq_true rfl) (by decide) cc_3 rfl rfl (Nat.le_of_ble_eq_true rfl) (v_RD_take_x G _ b 7 Iq116 Aq116 hpq116.1 hpq116.2.1 X9 cXq116 Y9 cYq116 N9 cNq116 (by omega)) (fun rvq119 Iq119 Aq119 hq119 => ?_)
                              obtain ⟨yq119, rfl, ryq119, hqq119, hxq119⟩ := hq119
                              have hpq119 := cPf.transx hpq116 hqq119 rfl rfl
                              have cXq119 : Aq119 40 = X9 := (hqq119.2.2.2 40 rfl (by decide)).trans cXq116
                              have cYq119 : Aq119 41 = Y9 := (hqq119.2.2.2 41 rfl (by decide)).trans cYq116
                              have cNq119 : Iq119 39 3 = N9 := (hqq119.2.2.1 39 3 rfl).trans cNq116
                              have cVq119 : cVf Aq119 V9 := cVf_of hqq119 rfl cVq116
                              have m38_6q119 : Iq119 38 6 = Iq116 38 6 := hqq119.2.2.1 38 6 rfl
                              have m38_7q119 : Iq119 38 7 = Iq116 38 7 := hqq119.2.2.1 38 7 rfl
                              have m38_9q119 : Iq119 38 9 = Iq116 38 9 := hqq119.2.2.1 38 9 rfl
                              have a375q119 : Aq119 375 = Aq116 375 := hqq119.2.2.2 375 rfl (by decide)
                              have kpq119 : cKp Aq119 ((fs ++ [Faq110, Fbq110]) ++ [Faq116, Fbq116]) := cKp_fr kpq116 (by first | omega | (simp only [List.length_append, List.length_cons, List.length_nil]; omega)) (fr_x hqq119 rfl)
                              have rrq119 : 0 ≤ Iq119 38 2 ∧ Iq119 38 2 ≤ 300 := hpq119.1 38 2
                              by_cases gbq119 : yq119 = 0
                              · skip
                                obtain rfl : yq119 = 0 := by omega
                                have hwq119 := hxq119.2 rfl
                                clear hxq119
                                show jt _ 83 [(0, .ref (b + 38)), (1, .int (jI u)), (2, .int (jI c)), (3, .int (jI k))] [.int (jI 0)] (cmf b f0 Iq119 Aq119) _ _ _
                                refine jt_if_eq (t := 97) d_RD_readPath_83 rfl (by unfold jRi; omega) (fun c120 => ?_) (fun c120 => ?_)
                                · skip
                                  refine jt_iconst d_RD_readPath_97 ?_
                                  refine jt_istore_n (L' := [(0, .ref (b + 38)), (1, .int (jI 0)), (2, .int (jI c)), (3, .int (jI k))]) d_RD_readPath_98 (Nat.le_of_ble_eq_true rfl) rfl ?_
                                  refine jt_goto (t := 157) d_RD_readPath_99 rfl ?_
                                  refine jt_iinc (L' := [(0, .ref (b + 38)), (1, .int (jI 0)), (2, .int (jI c)), (3, .int (jI (k + 1)))]) d_RD_readPath_157 rfl (Nat.le_of_ble_eq_true rfl) rfl ?_
                                  refine jt_goto (t := 9) d_RD_readPath_160 rfl ?_
                                  exact ih 0 c (k + 1) Iq119 Aq119 hpq119 (by omega) (by omega) (by omega) (show Iq119 38 9 ≤ k + 1 by omega) (fun z8 z9 => absurd z8 (by omega)) (fun z8 z9 => absurd z8 (by omega)) (fun z8 z9 => absurd z8 (by omega)) (fun _ => by show PH N9 X9 Y9 V9 (I 38 2) (.err (Iq119 38 3) (Iq119 38 2)); have q0 := paq110; rw [hwq108.2, m38_2q107, m38_7q108, m38_7q107] at q0; have q1 := paq116; rw [hwq113.2, m38_7q113] at q1; rw [hwq119.2.2, hwq119.2.1]; exact hgo _ (PL.cur4 hwq105.2 q0 hwq113.1 q1 hwq119.1)) cXq119 cYq119 cNq119 cVq119 (by omega)
                                · skip
                                  exfalso
                                  omega
                              · skip
                                obtain rfl : yq119 = 1 := by omega
                                have hwq119 := hxq119.1 rfl
                                clear hxq119
                                show jt _ 83 [(0, .ref (b + 38)), (1, .int (jI u)), (2, .int (jI c)), (3, .int (jI k))] [.int (jI 1)] (cmf b f0 Iq119 Aq119) _ _ _
                                refine jt_if_eq (t := 97) d_RD_readPath_83 rfl (by unfold jRi; omega) (fun c121 => ?_) (fun c121 => ?_)
                                · skip
                                  exfalso
                                  omega
                                · skip
                                  refine jt_aload_n d_RD_readPath_86 rfl ?_
                                  refine cct_callV (Y := Y_RD_readPair) (ci := 2) (k := 38) (As := []) (rest := []) d_RD_readPath_87 RD_c94 yk_RD_readPair yv_RD_readPair rfl (Nat.le_of_ble_eq_true rfl) (by decide) cc_3 rfl rfl (Nat.le_of_ble_eq_true rfl) (v_RD_readPair_x G _ b Iq119 Aq119 hpq119.1 hpq119.2.1 (cTok_f hpq119 hK rfl) X9 cXq119 Y9 cYq119 N9 cNq119 V9 cVq119 hVr ((fs ++ [Faq110, Fbq110]) ++ [Faq116, Fbq116]) kpq119 (show Iq119 38 6 = ((((fs ++ [Faq110, Fbq110]) ++ [Faq116, Fbq116]).length : Nat) : Int) by first | omega | (simp only [List.length_append, List.length_cons, List.length_nil]; omega)) (show 2 * Iq119 38 6 ≤ Iq119 38 2 by omega)) (fun rvq122 Iq122 Aq122 hq122 => ?_)
                                  obtain ⟨yq122, rfl, ryq122, hqq122, hxq122⟩ := hq122
                                  have hpq122 := cPf.trans hpq119 hqq122 rfl (fun _ h9 => h9)
                                  have cXq122 : Aq122 40 = X9 := (hqq122.2.2.2 40 rfl (by decide)).trans cXq119
                                  have cYq122 : Aq122 41 = Y9 := (hqq122.2.2.2 41 rfl (by decide)).trans cYq119
                                  have cNq122 : Iq122 39 3 = N9 := (hqq122.2.2.1 39 3 rfl).trans cNq119
                                  have cVq122 : cVf Aq122 V9 := cVf_f hqq122 rfl cVq119
                                  have m38_9q122 : Iq122 38 9 = Iq119 38 9 := hqq122.2.2.1 38 9 rfl
                                  have rrq122 : 0 ≤ Iq122 38 2 ∧ Iq122 38 2 ≤ 300 := hpq122.1 38 2
                                  by_cases gbq122 : yq122 = 0
                                  · skip
                                    obtain rfl : yq122 = 0 := by omega
                                    have hwq122 := hxq122.2 rfl
                                    clear hxq122
                                    show jt _ 90 [(0, .ref (b + 38)), (1, .int (jI u)), (2, .int (jI c)), (3, .int (jI k))] [.int (jI 0)] (cmf b f0 Iq122 Aq122) _ _ _
                                    refine jt_if_eq (t := 97) d_RD_readPath_90 rfl (by unfold jRi; omega) (fun c123 => ?_) (fun c123 => ?_)
                                    · skip
                                      refine jt_iconst d_RD_readPath_97 ?_
                                      refine jt_istore_n (L' := [(0, .ref (b + 38)), (1, .int (jI 0)), (2, .int (jI c)), (3, .int (jI k))]) d_RD_readPath_98 (Nat.le_of_ble_eq_true rfl) rfl ?_
                                      refine jt_goto (t := 157) d_RD_readPath_99 rfl ?_
                                      refine jt_iinc (L' := [(0, .ref (b + 38)), (1, .int (jI 0)), (2, .int (jI c)), (3, .int (jI (k + 1)))]) d_RD_readPath_157 rfl (Nat.le_of_ble_eq_true rfl) rfl ?_
                                      refine jt_goto (t := 9) d_RD_readPath_160 rfl ?_
                                      exact ih 0 c (k + 1) Iq122 Aq122 hpq122 (by omega) (by omega) (by omega) (show Iq122 38 9 ≤ k + 1 by omega) (fun z8 z9 => absurd z8 (by omega)) (fun z8 z9 => absurd z8 (by omega)) (fun z8 z9 => absurd z8 (by omega)) (fun _ => by show PH N9 X9 Y9 V9 (I 38 2) (.err (Iq122 38 3) (Iq122 38 2)); have q0 := paq110; rw [hwq108.2, m38_2q107, m38_7q108, m38_7q107] at q0; have q1 := paq116; rw [hwq113.2, m38_7q113] at q1; have q2 := hwq122; rw [hwq119.2, m38_7q119] at q2; exact hgo _ (PL.cur5 hwq105.2 q0 hwq113.1 q1 hwq119.1 q2)) cXq122 cYq122 cNq122 cVq122 (by omega)
                                    · skip
                                      exfalso
                                      omega
                                  · skip
                                    obtain rfl : yq122 = 1 := by omega
                                    have hwq122 := hxq122.1 rfl
                                    clear hxq122
                                    obtain ⟨⟨Faq122, Fbq122, paq122, kpq122⟩, n6q122, psq122, a375q122⟩ := hwq122
                                    show jt _ 90 [(0, .ref (b + 38)), (1, .int (jI u)), (2, .int (jI c)), (3, .int (jI k))] [.int (jI 1)] (cmf b f0 Iq122 Aq122) _ _ _
                                    refine jt_if_eq (t := 97) d_RD_readPath_90 rfl (by unfold jRi; omega) (fun c124 => ?_) (fun c124 => ?_)
                                    · skip
                                      exfalso
                                      omega
                                    · skip
                                      refine jt_iconst d_RD_readPath_93 ?_
                                      refine jt_goto (t := 98) d_RD_readPath_94 rfl ?_
                                      refine jt_istore_n (L' := [(0, .ref (b + 38)), (1, .int (jI 1)), (2, .int (jI c)), (3, .int (jI k))]) d_RD_readPath_98 (Nat.le_of_ble_eq_true rfl) rfl ?_
                                      refine jt_goto (t := 157) d_RD_readPath_99 rfl ?_
                                      refine jt_iinc (L' := [(0, .ref (b + 38)), (1, .int (jI 1)), (2, .int (jI c)), (3, .int (jI (k + 1)))]) d_RD_readPath_157 rfl (Nat.le_of_ble_eq_true rfl) rfl ?_
                                      refine jt_goto (t := 9) d_RD_readPath_160 rfl ?_
                                      exact ih 1 c (k + 1) Iq122 Aq122 hpq122 (by omega) (by omega) (by omega) (show Iq122 38 9 ≤ k + 1 by omega) (fun _ _ => show 6 * (k + 1) ≤ Iq122 38 2 by omega) (fun _ _ => ⟨_, _, kpq122, (cLg_fr lgq107 (show Aq122 375 = Aq107 375 by rw [a375q122, a375q119, a375q116, a375q113, a375q110, a375q108])), (show Iq122 38 6 = (((((fs ++ [Faq110, Fbq110]) ++ [Faq116, Fbq116]) ++ [Faq122, Fbq122]).length : Nat) : Int) by first | omega | (simp only [List.length_append, List.length_cons, List.length_nil]; omega)), (show Iq122 38 9 = (((L9 ++ [1]).length : Nat) : Int) by first | omega | (simp only [List.length_append, List.length_cons, List.length_nil]; omega)), (show 2 * Iq122 38 6 ≤ Iq122 38 2 by omega), fun r k9 => by have q0 := paq110; rw [hwq108.2, m38_2q107, m38_7q108, m38_7q107] at q0; have q1 := paq116; rw [hwq113.2, m38_7q113] at q1; have q2 := paq122; rw [hwq119.2, m38_7q119] at q2; exact hgo r (PL.cur hwq105.2 q0 hwq113.1 q1 hwq119.1 q2 k9)⟩) (fun z8 z9 => absurd z9 (by omega)) (fun z9 => absurd z9 (by omega)) cXq122 cYq122 cNq122 cVq122 (by omega)
          · skip
            obtain rfl : yq105 = 0 := by omega
            have hwq105 : ¬ xV N9 X9 Y9 (J 38 2) 7 := fun z9 => hxq105.2 rfl ⟨by omega, z9⟩
            clear hxq105
            show jt _ 37 [(0, .ref (b + 38)), (1, .int (jI u)), (2, .int (jI c)), (3, .int (jI k))] [.int (jI 0)] (cmf b f0 J B) _ _ _
            refine jt_if_eq (t := 102) d_RD_readPath_37 rfl (by unfold jRi; omega) (fun c125 => ?_) (fun c125 => ?_)
            · skip
              refine jt_aload_n d_RD_readPath_102 rfl ?_
              refine jt_bipush d_RD_readPath_103 (by omega) ?_
              refine cct_callV (Y := Y_RD_take) (ci := 2) (k := 38) (As := [.int (jI 8)]) (rest := []) d_RD_readPath_105 RD_c88 yk_RD_take yv_RD_take rfl (Nat.le_of_ble_eq_true rfl) (by decide) cc_3 rfl rfl (Nat.le_of_ble_eq_true rfl) (v_RD_take_x G _ b 8 J B hJ.1 hJ.2.1 X9 cX Y9 cY N9 cN (by omega)) (fun rvq126 Iq126 Aq126 hq126 => ?_)
              obtain ⟨yq126, rfl, ryq126, hqq126, hxq126⟩ := hq126
              have hpq126 := cPf.transx hJ hqq126 rfl rfl
              have cXq126 : Aq126 40 = X9 := (hqq126.2.2.2 40 rfl (by decide)).trans cX
              have cYq126 : Aq126 41 = Y9 := (hqq126.2.2.2 41 rfl (by decide)).trans cY
              have cNq126 : Iq126 39 3 = N9 := (hqq126.2.2.1 39 3 rfl).trans cN
              have cVq126 : cVf Aq126 V9 := cVf_of hqq126 rfl cV
              have m38_6q126 : Iq126 38 6 = J 38 6 := hqq126.2.2.1 38 6 rfl
              have m38_7q126 : Iq126 38 7 = J 38 7 := hqq126.2.2.1 38 7 rfl
              have m38_9q126 : Iq126 38 9 = J 38 9 := hqq126.2.2.1 38 9 rfl
              have a375q126 : Aq126 375 = B 375 := hqq126.2.2.2 375 rfl (by decide)
              have kpq126 : cKp Aq126 fs := cKp_fr hkp (by first | omega | (simp only [List.length_append, List.length_cons, List.length_nil]; omega)) (fr_x hqq126 rfl)
              have rrq126 : 0 ≤ Iq126 38 2 ∧ Iq126 38 2 ≤ 300 := hpq126.1 38 2
              by_cases gbq126 : yq126 = 0
              · skip
                obtain rfl : yq126 = 0 := by omega
                have hwq126 := hxq126.2 rfl
                clear hxq126
                show jt _ 108 [(0, .ref (b + 38)), (1, .int (jI u)), (2, .int (jI c)), (3, .int (jI k))] [.int (jI 0)] (cmf b f0 Iq126 Aq126) _ _ _
                refine jt_if_ne (t := 116) d_RD_readPath_108 rfl (by unfold jRi; omega) (fun c127 => ?_) (fun c127 => ?_)
                · skip
                  exfalso
                  omega
                · skip
                  refine jt_iconst d_RD_readPath_111 ?_
                  refine jt_istore_n (L' := [(0, .ref (b + 38)), (1, .int (jI 0)), (2, .int (jI c)), (3, .int (jI k))]) d_RD_readPath_112 (Nat.le_of_ble_eq_true rfl) rfl ?_
                  refine jt_goto (t := 157) d_RD_readPath_113 rfl ?_
                  refine jt_iinc (L' := [(0, .ref (b + 38)), (1, .int (jI 0)), (2, .int (jI c)), (3, .int (jI (k + 1)))]) d_RD_readPath_157 rfl (Nat.le_of_ble_eq_true rfl) rfl ?_
                  refine jt_goto (t := 9) d_RD_readPath_160 rfl ?_
                  exact ih 0 c (k + 1) Iq126 Aq126 hpq126 (by omega) (by omega) (by omega) (show Iq126 38 9 ≤ k + 1 by omega) (fun z8 z9 => absurd z8 (by omega)) (fun z8 z9 => absurd z8 (by omega)) (fun z8 z9 => absurd z8 (by omega)) (fun _ => by show PH N9 X9 Y9 V9 (I 38 2) (.err (Iq126 38 3) (Iq126 38 2)); rw [hwq126.2.2, hwq126.2.1]; exact hgo _ (PL.bad hwq126.1 hwq105)) cXq126 cYq126 cNq126 cVq126 (by omega)
              · skip
                obtain rfl : yq126 = 1 := by omega
                have hwq126 := hxq126.1 rfl
                clear hxq126
                show jt _ 108 [(0, .ref (b + 38)), (1, .int (jI u)), (2, .int (jI c)), (3, .int (jI k))] [.int (jI 1)] (cmf b f0 Iq126 Aq126) _ _ _
                refine jt_if_ne (t := 116) d_RD_readPath_108 rfl (by unfold jRi; omega) (fun c128 => ?_) (fun c128 => ?_)
                · skip
                  refine jt_aload_n d_RD_readPath_116 rfl ?_
                  refine cm_get (k := 38) (v := .ref (b + 39)) d_RD_readPath_117 RD_f14 (by decide) cc_3 rfl ?_
                  refine jt_aload_n d_RD_readPath_120 rfl ?_
                  refine cm_get (k := 38) (v := .int (jI (Iq126 38 2))) d_RD_readPath_121 RD_f60 (by decide) cc_3 rfl ?_
                  have rb129 : 0 ≤ Iq126 38 2 ∧ Iq126 38 2 ≤ 300 := hpq126.1 38 2
                  refine jt_bipush d_RD_readPath_124 (by omega) ?_
                  refine cct_callV (Y := Y_TR_isWord) (ci := 0) (k := 39) (As := [.int (jI (Iq126 38 2)), .int (jI 9)]) (rest := []) d_RD_readPath_126 RD_c91 yk_TR_isWord yv_TR_isWord rfl (Nat.le_of_ble_eq_true rfl) (by decide) (cc_1 rfl) rfl rfl (Nat.le_of_ble_eq_true rfl) (v_TR_isWord_x G _ b (Iq126 38 2) 9 Iq126 Aq126 hpq126.1 hpq126.2.1 X9 cXq126 Y9 cYq126 N9 cNq126 (by omega) (by omega)) (fun rvq130 Iq130 Aq130 hq130 => ?_)
                  obtain ⟨yq130, rfl, ryq130, hIq130, hAq130, hxq130⟩ := hq130
                  rw [hIq130, hAq130]
                  by_cases gbq130 : yq130 = 1
                  · skip
                    obtain rfl : yq130 = 1 := by omega
                    have hwq130 := hxq130.1 rfl
                    clear hxq130
                    show jt _ 129 [(0, .ref (b + 38)), (1, .int (jI u)), (2, .int (jI c)), (3, .int (jI k))] [.int (jI 1)] (cmf b f0 Iq126 Aq126) _ _ _
                    refine jt_if_eq (t := 147) d_RD_readPath_129 rfl (by unfold jRi; omega) (fun c131 => ?_) (fun c131 => ?_)
                    · skip
                      exfalso
                      omega
                    · skip
                      refine jt_aload_n d_RD_readPath_132 rfl ?_
                      refine jt_dup d_RD_readPath_133 rfl ?_
                      refine cm_get (k := 38) (v := .int (jI (Iq126 38 2))) d_RD_readPath_134 RD_f60 (by decide) cc_3 rfl ?_
                      refine jt_iconst d_RD_readPath_137 ?_
                      refine jt_iadd d_RD_readPath_138 ?_
                      refine jt_topi (fun v132 ev132 => ?_)
                      refine cm_put (k := 38) (j := 2) (v := v132) d_RD_readPath_139 (RD_w60 _ rfl) (by decide) cc_3 rfl rfl (Nat.le_of_ble_eq_true rfl) rfl ?_
                      have p133 := cPf.I 38 2 v132 hpq126 rfl (show 0 ≤ v132 ∧ v132 ≤ 300 by omega)
                      refine jt_iconst d_RD_readPath_142 ?_
                      refine jt_istore_n (L' := [(0, .ref (b + 38)), (1, .int (jI u)), (2, .int (jI 1)), (3, .int (jI k))]) d_RD_readPath_143 (Nat.le_of_ble_eq_true rfl) rfl ?_
                      refine jt_goto (t := 157) d_RD_readPath_144 rfl ?_
                      refine jt_iinc (L' := [(0, .ref (b + 38)), (1, .int (jI u)), (2, .int (jI 1)), (3, .int (jI (k + 1)))]) d_RD_readPath_157 rfl (Nat.le_of_ble_eq_true rfl) rfl ?_
                      refine jt_goto (t := 9) d_RD_readPath_160 rfl ?_
                      exact ih u 1 (k + 1) (cu Iq126 38 2 v132) Aq126 p133 (by omega) (by omega) (by omega) (show Iq126 38 9 ≤ k + 1 by omega) (fun z8 z9 => absurd z9 (by omega)) (fun z8 z9 => absurd z9 (by omega)) (fun _ _ => ⟨L9, fs, kpq126, cLg_fr hlg a375q126, (show Iq126 38 6 = (fs.length : Int) by omega), (show Iq126 38 9 = (L9.length : Int) by omega), by show PH N9 X9 Y9 V9 (I 38 2) (.ok v132 L9 fs (Iq126 38 7 = 1)); rw [show v132 = J 38 2 + 2 by omega, m38_7q126]; exact hgo _ (PL.fin hwq126.1 (by have h9 := hwq130.2; rw [hwq126.2] at h9; exact h9))⟩) (fun z9 => absurd z9 (by omega)) cXq126 cYq126 cNq126 cVq126 (by omega)
                  · skip
                    obtain rfl : yq130 = 0 := by omega
                    have hwq130 : ¬ xV N9 X9 Y9 (Iq126 38 2) 9 := fun z9 => hxq130.2 rfl ⟨by omega, z9⟩
                    clear hxq130
                    show jt _ 129 [(0, .ref (b + 38)), (1, .int (jI u)), (2, .int (jI c)), (3, .int (jI k))] [.int (jI 0)] (cmf b f0 Iq126 Aq126) _ _ _
                    refine jt_if_eq (t := 147) d_RD_readPath_129 rfl (by unfold jRi; omega) (fun c134 => ?_) (fun c134 => ?_)
                    · skip
                      refine jt_aload_n d_RD_readPath_147 rfl ?_
                      refine jt_iconst d_RD_readPath_148 ?_
                      refine cct_callV (Y := Y_RD_countLeg) (ci := 2) (k := 38) (As := [.int (jI 0)]) (rest := []) d_RD_readPath_149 RD_c97 yk_RD_countLeg yv_RD_countLeg rfl (Nat.le_of_ble_eq_true rfl) (by decide) cc_3 rfl rfl (Nat.le_of_ble_eq_true rfl) (v_RD_countLeg_x G _ b 0 Iq126 Aq126 hpq126.1 hpq126.2.1 (by omega) (show 0 ≤ Iq126 38 9 ∧ Iq126 38 9 < 2000 by omega)) (fun rvq135 Iq135 Aq135 hq135 => ?_)
                      obtain ⟨rfl, hqq135, hxq135⟩ := hq135
                      have hpq135 := cPf.transx hpq126 hqq135 rfl rfl
                      have cXq135 : Aq135 40 = X9 := (hqq135.2.2.2 40 rfl (by decide)).trans cXq126
                      have cYq135 : Aq135 41 = Y9 := (hqq135.2.2.2 41 rfl (by decide)).trans cYq126
                      have cNq135 : Iq135 39 3 = N9 := (hqq135.2.2.1 39 3 rfl).trans cNq126
                      have cVq135 : cVf Aq135 V9 := cVf_of hqq135 rfl cVq126
                      have m38_2q135 : Iq135 38 2 = Iq126 38 2 := hqq135.2.2.1 38 2 rfl
                      have m38_6q135 : Iq135 38 6 = Iq126 38 6 := hqq135.2.2.1 38 6 rfl
                      have m38_7q135 : Iq135 38 7 = Iq126 38 7 := hqq135.2.2.1 38 7 rfl
                      have kpq135 : cKp Aq135 fs := cKp_fr kpq126 (by first | omega | (simp only [List.length_append, List.length_cons, List.length_nil]; omega)) (fr_x hqq135 rfl)
                      have rrq135 : 0 ≤ Iq135 38 2 ∧ Iq135 38 2 ≤ 300 := hpq135.1 38 2
                      have lgq135 : cLg Aq135 (L9 ++ [0]) := cLg_add (cLg_fr hlg a375q126) (show Iq126 38 9 = ((L9.length : Nat) : Int) by omega) Aq135 hxq135.2.1 hxq135.2.2
                      have n9q135 := hxq135.1
                      clear hxq135
                      show jt _ 152 [(0, .ref (b + 38)), (1, .int (jI u)), (2, .int (jI c)), (3, .int (jI k))] [] (cmf b f0 Iq135 Aq135) _ _ _
                      refine jt_aload_n d_RD_readPath_152 rfl ?_
                      refine cct_callV (Y := Y_RD_readPair) (ci := 2) (k := 38) (As := []) (rest := []) d_RD_readPath_153 RD_c94 yk_RD_readPair yv_RD_readPair rfl (Nat.le_of_ble_eq_true rfl) (by decide) cc_3 rfl rfl (Nat.le_of_ble_eq_true rfl) (v_RD_readPair_x G _ b Iq135 Aq135 hpq135.1 hpq135.2.1 (cTok_f hpq135 hK rfl) X9 cXq135 Y9 cYq135 N9 cNq135 V9 cVq135 hVr fs kpq135 (show Iq135 38 6 = ((fs.length : Nat) : Int) by first | omega | (simp only [List.length_append, List.length_cons, List.length_nil]; omega)) (show 2 * Iq135 38 6 ≤ Iq135 38 2 by omega)) (fun rvq136 Iq136 Aq136 hq136 => ?_)
                      obtain ⟨yq136, rfl, ryq136, hqq136, hxq136⟩ := hq136
                      have hpq136 := cPf.trans hpq135 hqq136 rfl (fun _ h9 => h9)
                      have cXq136 : Aq136 40 = X9 := (hqq136.2.2.2 40 rfl (by decide)).trans cXq135
                      have cYq136 : Aq136 41 = Y9 := (hqq136.2.2.2 41 rfl (by decide)).trans cYq135
                      have cNq136 : Iq136 39 3 = N9 := (hqq136.2.2.1 39 3 rfl).trans cNq135
                      have cVq136 : cVf Aq136 V9 := cVf_f hqq136 rfl cVq135
                      have m38_9q136 : Iq136 38 9 = Iq135 38 9 := hqq136.2.2.1 38 9 rfl
                      have rrq136 : 0 ≤ Iq136 38 2 ∧ Iq136 38 2 ≤ 300 := hpq136.1 38 2
                      by_cases gbq136 : yq136 = 0
                      · skip
                        obtain rfl : yq136 = 0 := by omega
                        have hwq136 := hxq136.2 rfl
                        clear hxq136
                        show jt _ 156 [(0, .ref (b + 38)), (1, .int (jI u)), (2, .int (jI c)), (3, .int (jI k))] [.int (jI 0)] (cmf b f0 Iq136 Aq136) _ _ _
                        refine jt_istore_n (L' := [(0, .ref (b + 38)), (1, .int (jI 0)), (2, .int (jI c)), (3, .int (jI k))]) d_RD_readPath_156 (Nat.le_of_ble_eq_true rfl) rfl ?_
                        refine jt_iinc (L' := [(0, .ref (b + 38)), (1, .int (jI 0)), (2, .int (jI c)), (3, .int (jI (k + 1)))]) d_RD_readPath_157 rfl (Nat.le_of_ble_eq_true rfl) rfl ?_
                        refine jt_goto (t := 9) d_RD_readPath_160 rfl ?_
                        exact ih 0 c (k + 1) Iq136 Aq136 hpq136 (by omega) (by omega) (by omega) (show Iq136 38 9 ≤ k + 1 by omega) (fun z8 z9 => absurd z8 (by omega)) (fun z8 z9 => absurd z8 (by omega)) (fun z8 z9 => absurd z8 (by omega)) (fun _ => by show PH N9 X9 Y9 V9 (I 38 2) (.err (Iq136 38 3) (Iq136 38 2)); have q0 := hwq136; rw [m38_2q135, hwq126.2, m38_7q135, m38_7q126] at q0; exact hgo _ (PL.lineX hwq126.1 (by have h9 := hwq130; rw [hwq126.2] at h9; exact h9) q0)) cXq136 cYq136 cNq136 cVq136 (by omega)
                      · skip
                        obtain rfl : yq136 = 1 := by omega
                        have hwq136 := hxq136.1 rfl
                        clear hxq136
                        obtain ⟨⟨Faq136, Fbq136, paq136, kpq136⟩, n6q136, psq136, a375q136⟩ := hwq136
                        show jt _ 156 [(0, .ref (b + 38)), (1, .int (jI u)), (2, .int (jI c)), (3, .int (jI k))] [.int (jI 1)] (cmf b f0 Iq136 Aq136) _ _ _
                        refine jt_istore_n (L' := [(0, .ref (b + 38)), (1, .int (jI 1)), (2, .int (jI c)), (3, .int (jI k))]) d_RD_readPath_156 (Nat.le_of_ble_eq_true rfl) rfl ?_
                        refine jt_iinc (L' := [(0, .ref (b + 38)), (1, .int (jI 1)), (2, .int (jI c)), (3, .int (jI (k + 1)))]) d_RD_readPath_157 rfl (Nat.le_of_ble_eq_true rfl) rfl ?_
                        refine jt_goto (t := 9) d_RD_readPath_160 rfl ?_
                        exact ih 1 c (k + 1) Iq136 Aq136 hpq136 (by omega) (by omega) (by omega) (show Iq136 38 9 ≤ k + 1 by omega) (fun _ _ => show 6 * (k + 1) ≤ Iq136 38 2 by omega) (fun _ _ => ⟨_, _, kpq136, (cLg_fr lgq135 (show Aq136 375 = Aq135 375 by rw [a375q136])), (show Iq136 38 6 = (((fs ++ [Faq136, Fbq136]).length : Nat) : Int) by first | omega | (simp only [List.length_append, List.length_cons, List.length_nil]; omega)), (show Iq136 38 9 = (((L9 ++ [0]).length : Nat) : Int) by first | omega | (simp only [List.length_append, List.length_cons, List.length_nil]; omega)), (show 2 * Iq136 38 6 ≤ Iq136 38 2 by omega), fun r k9 => by have q0 := paq136; rw [m38_2q135, hwq126.2, m38_7q135, m38_7q126] at q0; exact hgo r (PL.line hwq126.1 (by have h9 := hwq130; rw [hwq126.2] at h9; exact h9) q0 k9)⟩) (fun z8 z9 => absurd z9 (by omega)) (fun z9 => absurd z9 (by omega)) cXq136 cYq136 cNq136 cVq136 (by omega)
                    · skip
                      exfalso
                      omega
                · skip
                  exfalso
                  omega
            · skip
              exfalso
              omega
set_option maxRecDepth 100000 in
set_option maxHeartbeats 4000000 in
theorem v_RD_readPath_x (G : jG) (d b : Nat)  (I : Nat → Nat → Int) (A : Nat → Int → Int) (hI : cSI I) (hA : cSA A) (hK : cTok A) (X9 : Int → Int) (hX : A 40 = X9) (Y9 : Int → Int) (hY : A 41 = Y9) (N9 : Int) (hN : I 39 3 = N9) (V9 : Int → Int → Int) (hV : cVf A V9) (hVr : ∀ v, 0 ≤ v → v < 12 → inr (V9 v)) (h6 : I 38 6 = 0) (h7 : I 38 7 = 1) (h9l : I 38 9 = 0) : cct G Y_RD_readPath (d + 29) b [.ref (b + 38)] I A (fun (rv : Option Value) (I2 : Nat → Nat → Int) (A2 : Nat → Int → Int) => ∃ y : Int, rv = some (.int (jI y)) ∧ (0 ≤ y ∧ y ≤ 1) ∧ cPf [610, 611, 614, 615, 617] tKept I A I2 A2 ∧ (y = 1 → cPF N9 X9 Y9 V9 (I 38 2) I2 A2) ∧ (y = 0 → PH N9 X9 Y9 V9 (I 38 2) (.err (I2 38 3) (I2 38 2)))) := by
  refine cct_of (by decide) (Nat.le_of_ble_eq_true rfl) (fun f0 sz => ?_)
  show jt _ 0 [(0, .ref (b + 38))] [] _ _ _ _
  have r39 : 0 ≤ I 39 3 ∧ I 39 3 ≤ 300 := hI 39 3
  have r38 : 0 ≤ I 38 2 ∧ I 38 2 ≤ 300 := hI 38 2
  have r386 : 0 ≤ I 38 6 ∧ I 38 6 ≤ 150 := hI 38 6
  have hT : (I 38 7 = 1) = True := eq_true h7
  have hz0 : cPf [610, 611, 614, 615, 617] tKept I A I A := cPf.refl hI hA
  refine jt_aload_n d_RD_readPath_0 rfl ?_
  refine cct_callV (Y := Y_RD_readPair) (ci := 2) (k := 38) (As := []) (rest := []) d_RD_readPath_1 RD_c94 yk_RD_readPair yv_RD_readPair rfl (Nat.le_of_ble_eq_true rfl) (by decide) cc_3 rfl rfl (Nat.le_of_ble_eq_true rfl) (v_RD_readPair_x G _ b I A hz0.1 hz0.2.1 (cTok_f hz0 hK rfl) X9 hX Y9 hY N9 hN V9 hV hVr ([] : List (Int → Int)) (cKp_0 A) (show I 38 6 = ((([] : List (Int → Int)).length : Nat) : Int) by first | omega | (simp only [List.length_append, List.length_cons, List.length_nil]; omega)) (show 2 * I 38 6 ≤ I 38 2 by omega)) (fun rvq1 Iq1 Aq1 hq1 => ?_)
  obtain ⟨yq1, rfl, ryq1, hqq1, hxq1⟩ := hq1
  have hpq1 := cPf.trans hz0 hqq1 rfl (fun _ h9 => h9)
  have cXq1 : Aq1 40 = X9 := (hqq1.2.2.2 40 rfl (by decide)).trans hX
  have cYq1 : Aq1 41 = Y9 := (hqq1.2.2.2 41 rfl (by decide)).trans hY
  have cNq1 : Iq1 39 3 = N9 := (hqq1.2.2.1 39 3 rfl).trans hN
  have cVq1 : cVf Aq1 V9 := cVf_f hqq1 rfl hV
  have m38_9q1 : Iq1 38 9 = I 38 9 := hqq1.2.2.1 38 9 rfl
  have rrq1 : 0 ≤ Iq1 38 2 ∧ Iq1 38 2 ≤ 300 := hpq1.1 38 2
  by_cases gbq1 : yq1 = 0
  · skip
    obtain rfl : yq1 = 0 := by omega
    have hwq1 := hxq1.2 rfl
    clear hxq1
    show jt _ 4 [(0, .ref (b + 38))] [.int (jI 0)] (cmf b f0 Iq1 Aq1) _ _ _
    refine jt_istore_n (L' := [(0, .ref (b + 38)), (1, .int (jI 0))]) d_RD_readPath_4 (Nat.le_of_ble_eq_true rfl) rfl ?_
    refine jt_iconst d_RD_readPath_5 ?_
    refine jt_istore_n (L' := [(0, .ref (b + 38)), (1, .int (jI 0)), (2, .int (jI 0))]) d_RD_readPath_6 (Nat.le_of_ble_eq_true rfl) rfl ?_
    refine jt_iconst d_RD_readPath_7 ?_
    refine jt_istore_n (L' := [(0, .ref (b + 38)), (1, .int (jI 0)), (2, .int (jI 0)), (3, .int (jI 0))]) d_RD_readPath_8 (Nat.le_of_ble_eq_true rfl) rfl ?_
    exact l9_RD_readPath_xv G d b  I A hI hA hK X9 hX Y9 hY N9 hN V9 hV hVr h6 h7 h9l f0 sz  301 0 0 0 Iq1 Aq1 hpq1 (by omega) (by omega) (by omega) (show Iq1 38 9 ≤ 0 by omega) (fun _ _ => show 6 * 0 ≤ Iq1 38 2 by omega) (fun z8 _ => absurd z8 (by omega)) (fun _ z9 => absurd z9 (by omega)) (fun _ => by have q0 := hwq1; rw [hT] at q0; exact .e0 q0) cXq1 cYq1 cNq1 cVq1 (by omega)
  · skip
    obtain rfl : yq1 = 1 := by omega
    have hwq1 := hxq1.1 rfl
    clear hxq1
    obtain ⟨⟨Faq1, Fbq1, paq1, kpq1⟩, n6q1, psq1, a375q1⟩ := hwq1
    show jt _ 4 [(0, .ref (b + 38))] [.int (jI 1)] (cmf b f0 Iq1 Aq1) _ _ _
    refine jt_istore_n (L' := [(0, .ref (b + 38)), (1, .int (jI 1))]) d_RD_readPath_4 (Nat.le_of_ble_eq_true rfl) rfl ?_
    refine jt_iconst d_RD_readPath_5 ?_
    refine jt_istore_n (L' := [(0, .ref (b + 38)), (1, .int (jI 1)), (2, .int (jI 0))]) d_RD_readPath_6 (Nat.le_of_ble_eq_true rfl) rfl ?_
    refine jt_iconst d_RD_readPath_7 ?_
    refine jt_istore_n (L' := [(0, .ref (b + 38)), (1, .int (jI 1)), (2, .int (jI 0)), (3, .int (jI 0))]) d_RD_readPath_8 (Nat.le_of_ble_eq_true rfl) rfl ?_
    exact l9_RD_readPath_xv G d b  I A hI hA hK X9 hX Y9 hY N9 hN V9 hV hVr h6 h7 h9l f0 sz  301 1 0 0 Iq1 Aq1 hpq1 (by omega) (by omega) (by omega) (show Iq1 38 9 ≤ 0 by omega) (fun _ _ => show 6 * 0 ≤ Iq1 38 2 by omega) (fun _ _ => ⟨[], _, kpq1, (fun i x h => by simp at h), (show Iq1 38 6 = (((([] : List (Int → Int)) ++ [Faq1, Fbq1]).length : Nat) : Int) by first | omega | (simp only [List.length_append, List.length_cons, List.length_nil]; omega)), (show Iq1 38 9 = 0 by omega), (show 2 * Iq1 38 6 ≤ Iq1 38 2 by omega), fun r k9 => by have q0 := paq1; rw [hT] at q0; exact .go q0 k9⟩) (fun _ z9 => absurd z9 (by omega)) (fun z9 => absurd z9 (by omega)) cXq1 cYq1 cNq1 cVq1 (by omega)

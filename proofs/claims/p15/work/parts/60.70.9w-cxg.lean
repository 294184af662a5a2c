set_option maxRecDepth 100000 in
set_option maxHeartbeats 4000000 in
theorem l54_GC_run_xv (G : jG) (d b : Nat)  (I : Nat → Nat → Int) (A : Nat → Int → Int) (hI : cSI I) (hA : cSA A) (hK : cTok A) (hn : I 0 7 ≤ 2147480000) (h8n : 0 ≤ I 0 8 ∧ I 0 8 ≤ 2147480000) (hD0 : ∀ j, 0 ≤ j → j < I 1 3 → A 4 j = 0) (hM : cMac I A) (hI9 : VI (A 44) (cV A)) (f0 : jF) (sz : Nat)  (N9 : Int) (R9 : Int) (X9 : Int → Int) (Y9 : Int → Int) (hXE : ∃ X0 Y0 D0 : Int → Int, gH X0 Y0 D0 (xs (A 2) (A 3) (A 4) 0 (I 1 3)) ∧ cXE I A (I 1 3) X0 Y0 D0 0 0 ⟨0, N9, R9, N9, X9, Y9⟩) : ∀ (n9 : Nat) (e : Int) (s : Int) (J : Nat → Nat → Int) (B : Nat → Int → Int), cPf [7, 8, 9, 19, 85, 86, 131, 627, 610, 611, 612, 614, 615, 617, 7427] tRun I A J B → (-2147483648 ≤ e ∧ e ≤ 2147483647) → (0 ≤ s ∧ s ≤ 300) → (s ≤ J 38 2) → (J 1 3 = 0) → (J 0 7 ≤ I 0 7 + s) → (0 ≤ J 0 8 ∧ J 0 8 ≤ I 0 8 + s) → (J 0 9 = N9) → (J 5 6 = R9) → (J 39 3 = N9) → (cTok B) → (B 40 = X9) → (B 41 = Y9) → (VI (B 44) (cV B)) → (∀ zz : RR, RN N9 X9 Y9 (J 38 2) (B 44) (cV B) (J 0 7) (cN J B) (J 0 8) zz → RN N9 X9 Y9 0 (A 44) (cV A) (I 0 7) (cN I A) (I 0 8) zz) → 300 - s < (n9 : Int) → jt (jm G Y_GC_run (gR (d + 36)) (cQ b f0 sz (fun (rv : Option Value) (I2 : Nat → Nat → Int) (A2 : Nat → Int → Int) => ∃ y : Int, rv = some (.int (jI y)) ∧ (-2147483648 ≤ y ∧ y ≤ 2147483647) ∧ cPf [7, 8, 9, 19, 85, 86, 131, 627, 610, 611, 612, 614, 615, 617, 7427] tRun I A I2 A2 ∧ cTok A2 ∧ I2 1 3 = 0 ∧ I2 0 7 ≤ I 0 7 + 300 ∧ (0 ≤ I2 0 8 ∧ I2 0 8 ≤ I 0 8 + 300) ∧ ∃ (X0 Y0 D0 : Int → Int) (z : XR), gH X0 Y0 D0 (xs (A 2) (A 3) (A 4) 0 (I 1 3)) ∧ cXE I A (I 1 3) X0 Y0 D0 0 0 z ∧ I2 5 6 = z.r ∧ (z.e ≠ 0 → y = z.e ∧ I2 0 9 = z.pl ∧ A2 44 = A 44 ∧ cV A2 = cV A ∧ I2 0 7 = I 0 7 ∧ A2 471 = A 471 ∧ I2 0 8 = I 0 8 ∧ A2 469 = A 469) ∧ (z.e = 0 → ∃ zz : RR, RN z.n z.X z.Y 0 (A 44) (cV A) (I 0 7) (cN I A) (I 0 8) zz ∧ y = zz.e ∧ I2 0 9 = zz.pl ∧ A2 44 = zz.s ∧ cV A2 = zz.V ∧ I2 0 7 = zz.c ∧ cN I2 A2 = zz.nt ∧ I2 0 8 = zz.d)))) 54 [(0, .ref (b + 0)), (1, .int (jI e)), (2, .int (jI s))] [] (cmf b f0 J B) sz 0 0 := by
  have r13 : 0 ≤ I 1 3 ∧ I 1 3 ≤ 120 := hI 1 3
  intro n9
  induction n9 with
  | zero =>
    intro e s J B hJ e0 s0 sp j13 j07 j08 j09 j56 jN hKJ bX bY hVI hgo hmeas
    have r07 : 0 ≤ J 0 7 ∧ J 0 7 ≤ 2147483647 := hJ.1 0 7
    have r39 : 0 ≤ J 39 3 ∧ J 39 3 ≤ 300 := hJ.1 39 3
    have r38 : 0 ≤ J 38 2 ∧ J 38 2 ≤ 300 := hJ.1 38 2
    exfalso
    omega
  | succ n9 ih =>
    intro e s J B hJ e0 s0 sp j13 j07 j08 j09 j56 jN hKJ bX bY hVI hgo hmeas
    have r07 : 0 ≤ J 0 7 ∧ J 0 7 ≤ 2147483647 := hJ.1 0 7
    have r39 : 0 ≤ J 39 3 ∧ J 39 3 ≤ 300 := hJ.1 39 3
    have r38 : 0 ≤ J 38 2 ∧ J 38 2 ≤ 300 := hJ.1 38 2
    refine jt_iload_n d_GC_run_54 rfl ?_
    refine jt_sipush d_GC_run_55 (by omega) ?_
    refine jt_icmp_ge (t := 150) d_GC_run_58 rfl (by unfold jRi; omega) (by unfold jRi; omega) (fun c101 => ?_) (fun c101 => ?_)
    · skip
      refine jt_iconst d_GC_run_150 ?_
      exact cm_ret d_GC_run_151 rfl rfl (by
        obtain ⟨X0, Y0, D0, g1, g2⟩ := hXE
        exact ⟨0, rfl, by omega, hJ, hKJ, (show J 1 3 = 0 by omega), (show J 0 7 ≤ I 0 7 + 300 by omega), (show 0 ≤ J 0 8 ∧ J 0 8 ≤ I 0 8 + 300 by omega), X0, Y0, D0, ⟨0, N9, R9, N9, X9, Y9⟩, g1, g2, (show J 5 6 = R9 by omega), fun z => absurd rfl z, fun _ => ⟨⟨0, N9, B 44, cV B, J 0 7, cN J B, J 0 8⟩, hgo _ (RN.done (by omega)), rfl, (show J 0 9 = N9 by omega), rfl, rfl, rfl, rfl, rfl⟩⟩)
    · skip
      refine jt_aload_n d_GC_run_61 rfl ?_
      refine cm_get (k := 0) (v := .ref (b + 38)) d_GC_run_62 GC_f28 (by decide) cc_0 rfl ?_
      refine cm_get (k := 38) (v := .int (jI (J 38 2))) d_GC_run_65 GC_f93 (by decide) cc_3 rfl ?_
      have rb102 : 0 ≤ J 38 2 ∧ J 38 2 ≤ 300 := hJ.1 38 2
      refine jt_aload_n d_GC_run_68 rfl ?_
      refine cm_get (k := 0) (v := .ref (b + 38)) d_GC_run_69 GC_f28 (by decide) cc_0 rfl ?_
      refine cm_get (k := 38) (v := .ref (b + 39)) d_GC_run_72 GC_f83 (by decide) cc_3 rfl ?_
      refine cm_get (k := 39) (v := .int (jI (J 39 3))) d_GC_run_75 GC_f65 (by decide) (cc_1 rfl) rfl ?_
      have rb103 : 0 ≤ J 39 3 ∧ J 39 3 ≤ 300 := hJ.1 39 3
      refine jt_icmp_ge (t := 150) d_GC_run_78 rfl (by unfold jRi; omega) (by unfold jRi; omega) (fun c104 => ?_) (fun c104 => ?_)
      · skip
        refine jt_iconst d_GC_run_150 ?_
        exact cm_ret d_GC_run_151 rfl rfl (by
        obtain ⟨X0, Y0, D0, g1, g2⟩ := hXE
        exact ⟨0, rfl, by omega, hJ, hKJ, (show J 1 3 = 0 by omega), (show J 0 7 ≤ I 0 7 + 300 by omega), (show 0 ≤ J 0 8 ∧ J 0 8 ≤ I 0 8 + 300 by omega), X0, Y0, D0, ⟨0, N9, R9, N9, X9, Y9⟩, g1, g2, (show J 5 6 = R9 by omega), fun z => absurd rfl z, fun _ => ⟨⟨0, N9, B 44, cV B, J 0 7, cN J B, J 0 8⟩, hgo _ (RN.done (by omega)), rfl, (show J 0 9 = N9 by omega), rfl, rfl, rfl, rfl, rfl⟩⟩)
      · skip
        refine jt_aload_n d_GC_run_81 rfl ?_
        refine cm_get (k := 0) (v := .ref (b + 38)) d_GC_run_82 GC_f28 (by decide) cc_0 rfl ?_
        refine cct_callV (Y := Y_RD_readStatement) (ci := 2) (k := 38) (As := []) (rest := []) d_GC_run_85 GC_c94 yk_RD_readStatement yv_RD_readStatement rfl (Nat.le_of_ble_eq_true rfl) (by decide) cc_3 rfl rfl (Nat.le_of_ble_eq_true rfl) (v_RD_readStatement_x G _ b J B hJ.1 hJ.2.1 hKJ X9 bX Y9 bY N9 jN (cV B) (cVf_V _) (fun v a c => (hVI v a c).1)) (fun rvq105 Iq105 Aq105 hq105 => ?_)
        obtain ⟨yq105, rfl, ryq105, hqq105, hxq105⟩ := hq105
        have hpq105 := cPf.trans hJ hqq105 rfl (fun _ h9 => tRun_k h9)
        have m0_7q105 : Iq105 0 7 = J 0 7 := hqq105.2.2.1 0 7 rfl
        have m0_8q105 : Iq105 0 8 = J 0 8 := hqq105.2.2.1 0 8 rfl
        have m0_9q105 : Iq105 0 9 = J 0 9 := hqq105.2.2.1 0 9 rfl
        have m1_3q105 : Iq105 1 3 = J 1 3 := hqq105.2.2.1 1 3 rfl
        have m5_6q105 : Iq105 5 6 = J 5 6 := hqq105.2.2.1 5 6 rfl
        have m39_3q105 : Iq105 39 3 = J 39 3 := hqq105.2.2.1 39 3 rfl
        have a40q105 : Aq105 40 = B 40 := hqq105.2.2.2 40 rfl (by decide)
        have a41q105 : Aq105 41 = B 41 := hqq105.2.2.2 41 rfl (by decide)
        have f44 : Aq105 44 = B 44 := hqq105.2.2.2 44 (tKept_f (by decide)) trivial
        have fcv : cV Aq105 = cV B := cV_fr (fun k a c => hqq105.2.2.2 k (tKept_f (by omega)) trivial)
        have fcn : cN Iq105 Aq105 = cN J B := cN_e (hqq105.2.2.1 0 7 rfl) (hqq105.2.2.2 471 (tKept_f (by decide)) trivial) (hqq105.2.2.2 469 (tKept_f (by decide)) trivial)
        by_cases gbq105 : yq105 = 0
        · skip
          obtain rfl : yq105 = 0 := by omega
          have hwq105 := hxq105.2 rfl
          clear hxq105
          show jt _ 88 [(0, .ref (b + 0)), (1, .int (jI e)), (2, .int (jI s))] [.int (jI 0)] (cmf b f0 Iq105 Aq105) _ _ _
          refine jt_if_ne (t := 110) d_GC_run_88 rfl (by unfold jRi; omega) (fun c106 => ?_) (fun c106 => ?_)
          · skip
            exfalso
            omega
          · skip
            refine jt_aload_n d_GC_run_91 rfl ?_
            refine jt_aload_n d_GC_run_92 rfl ?_
            refine cm_get (k := 0) (v := .ref (b + 38)) d_GC_run_93 GC_f28 (by decide) cc_0 rfl ?_
            refine cm_get (k := 38) (v := .int (jI (Iq105 38 2))) d_GC_run_96 GC_f93 (by decide) cc_3 rfl ?_
            have rb107 : 0 ≤ Iq105 38 2 ∧ Iq105 38 2 ≤ 300 := hpq105.1 38 2
            refine cm_put (k := 0) (j := 9) (v := (Iq105 38 2)) d_GC_run_99 (GC_w57 _ rfl) (by decide) cc_0 rfl rfl (Nat.le_of_ble_eq_true rfl) rfl ?_
            have p108 := cPf.I 0 9 (Iq105 38 2) hpq105 rfl (show -2147483648 ≤ Iq105 38 2 ∧ Iq105 38 2 ≤ 2147483647 by omega)
            refine jt_aload_n d_GC_run_102 rfl ?_
            refine cm_get (k := 0) (v := .ref (b + 38)) d_GC_run_103 GC_f28 (by decide) cc_0 rfl ?_
            refine cm_get (k := 38) (v := .int (jI (Iq105 38 3))) d_GC_run_106 GC_f98 (by decide) cc_3 rfl ?_
            have rb109 : -2147483648 ≤ Iq105 38 3 ∧ Iq105 38 3 ≤ 2147483647 := p108.1 38 3
            exact cm_ret d_GC_run_109 rfl rfl (by
        obtain ⟨X0, Y0, D0, g1, g2⟩ := hXE
        exact ⟨Iq105 38 3, rfl, by omega, p108, (cTok_f hqq105 hKJ rfl), (show Iq105 1 3 = 0 by omega), (show Iq105 0 7 ≤ I 0 7 + 300 by omega), (show 0 ≤ Iq105 0 8 ∧ Iq105 0 8 ≤ I 0 8 + 300 by omega), X0, Y0, D0, ⟨0, N9, R9, N9, X9, Y9⟩, g1, g2, (show Iq105 5 6 = R9 by omega), fun z => absurd rfl z, fun _ => ⟨⟨Iq105 38 3, Iq105 38 2, B 44, cV B, J 0 7, cN J B, J 0 8⟩, hgo _ (RN.syn (by omega) hwq105), rfl, rfl, f44, fcv, (show Iq105 0 7 = J 0 7 by omega), fcn, (show Iq105 0 8 = J 0 8 by omega)⟩⟩)
        · skip
          obtain rfl : yq105 = 1 := by omega
          have hwq105 := hxq105.1 rfl
          clear hxq105
          show jt _ 88 [(0, .ref (b + 0)), (1, .int (jI e)), (2, .int (jI s))] [.int (jI 1)] (cmf b f0 Iq105 Aq105) _ _ _
          refine jt_if_ne (t := 110) d_GC_run_88 rfl (by unfold jRi; omega) (fun c110 => ?_) (fun c110 => ?_)
          · skip
            refine jt_aload_n d_GC_run_110 rfl ?_
            refine cct_callV (Y := Y_GC_carryOut) (ci := 7) (k := 0) (As := []) (rest := []) d_GC_run_111 GC_c101 yk_GC_carryOut yv_GC_carryOut rfl (Nat.le_of_ble_eq_true rfl) (by decide) cc_0 rfl rfl (Nat.le_of_ble_eq_true rfl) (v_GC_carryOut_x G _ b Iq105 Aq105 hpq105.1 hpq105.2.1 (by omega) N9 X9 Y9 (J 38 2) (by rw [fcv]; exact hwq105) (by rw [f44, fcv]; exact hVI)) (fun rvq111 Iq111 Aq111 hq111 => ?_)
            obtain ⟨yq111, rfl, ryq111, hqq111, hxq111⟩ := hq111
            have hpq111 := cPf.trans hpq105 hqq111 rfl (fun _ h9 => tRun_c h9)
            have m0_8q111 : Iq111 0 8 = Iq105 0 8 := hqq111.2.2.1 0 8 rfl
            have m0_9q111 : Iq111 0 9 = Iq105 0 9 := hqq111.2.2.1 0 9 rfl
            have m1_3q111 : Iq111 1 3 = Iq105 1 3 := hqq111.2.2.1 1 3 rfl
            have m5_6q111 : Iq111 5 6 = Iq105 5 6 := hqq111.2.2.1 5 6 rfl
            have m39_3q111 : Iq111 39 3 = Iq105 39 3 := hqq111.2.2.1 39 3 rfl
            have m38_2q111 : Iq111 38 2 = Iq105 38 2 := hqq111.2.2.1 38 2 rfl
            have a40q111 : Aq111 40 = Aq105 40 := hqq111.2.2.2 40 rfl (by decide)
            have a41q111 : Aq111 41 = Aq105 41 := hqq111.2.2.2 41 rfl (by decide)
            obtain ⟨hleq111, r9, hst9, hco9⟩ := hxq111
            rw [fcv] at hst9
            rw [f44, fcv, fcn, m0_7q105] at hco9
            have hmv := CO_m hco9 hst9
            show jt _ 114 [(0, .ref (b + 0)), (1, .int (jI e)), (2, .int (jI s))] [.int (jI yq111)] (cmf b f0 Iq111 Aq111) _ _ _
            refine jt_istore_n (L' := [(0, .ref (b + 0)), (1, .int (jI yq111)), (2, .int (jI s))]) d_GC_run_114 (Nat.le_of_ble_eq_true rfl) rfl ?_
            refine jt_iload_n d_GC_run_115 rfl ?_
            refine jt_if_eq (t := 134) d_GC_run_116 rfl (by unfold jRi; omega) (fun c112 => ?_) (fun c112 => ?_)
            · skip
              refine jt_aload_n d_GC_run_134 rfl ?_
              refine jt_dup d_GC_run_135 rfl ?_
              refine cm_get (k := 0) (v := .int (jI (Iq111 0 8))) d_GC_run_136 GC_f104 (by decide) cc_0 rfl ?_
              have rb113 : -2147483648 ≤ Iq111 0 8 ∧ Iq111 0 8 ≤ 2147483647 := hpq111.1 0 8
              refine jt_iconst d_GC_run_139 ?_
              refine jt_iadd d_GC_run_140 ?_
              refine jt_topin (fun v114 bv114 kv114 => ?_)
              have ev114 := kv114 (by omega) (by omega)
              clear kv114
              refine cm_put (k := 0) (j := 8) (v := v114) d_GC_run_141 (GC_w104 _ rfl) (by decide) cc_0 rfl rfl (Nat.le_of_ble_eq_true rfl) rfl ?_
              have p115 := cPf.I 0 8 v114 hpq111 rfl (show -2147483648 ≤ v114 ∧ v114 ≤ 2147483647 by omega)
              refine jt_iinc (L' := [(0, .ref (b + 0)), (1, .int (jI yq111)), (2, .int (jI (s + 1)))]) d_GC_run_144 rfl (Nat.le_of_ble_eq_true rfl) rfl ?_
              refine jt_goto (t := 54) d_GC_run_147 rfl ?_
              exact ih yq111 (s + 1) (cu Iq111 0 8 v114) Aq111 p115 (by omega) (by omega) (show s + 1 ≤ Iq111 38 2 by omega) (show Iq111 1 3 = 0 by omega) (show Iq111 0 7 ≤ I 0 7 + (s + 1) by omega) (show 0 ≤ v114 ∧ v114 ≤ I 0 8 + (s + 1) by omega) (show Iq111 0 9 = N9 by omega) (show Iq111 5 6 = R9 by omega) (show Iq111 39 3 = N9 by omega) (cTok_f hqq111 (cTok_f hqq105 hKJ rfl) rfl) (a40q111.trans (a40q105.trans bX)) (a41q111.trans (a41q105.trans bY)) (CO_VI hVI hco9) (fun zz h9 => hgo zz (RN.ok (by omega) hst9 (by rw [show yq111 = 0 by omega] at hco9; exact hco9) (by have h8 : RN N9 X9 Y9 (Iq111 38 2) (Aq111 44) (cV Aq111) (Iq111 0 7) (cN Iq111 Aq111) v114 zz := h9; rw [m38_2q111, show v114 = J 0 8 + 1 by omega] at h8; exact h8))) (by omega)
            · skip
              refine jt_aload_n d_GC_run_119 rfl ?_
              refine jt_aload_n d_GC_run_120 rfl ?_
              refine cm_get (k := 0) (v := .ref (b + 38)) d_GC_run_121 GC_f28 (by decide) cc_0 rfl ?_
              refine cm_get (k := 38) (v := .int (jI (Iq111 38 2))) d_GC_run_124 GC_f93 (by decide) cc_3 rfl ?_
              have rb116 : 0 ≤ Iq111 38 2 ∧ Iq111 38 2 ≤ 300 := hpq111.1 38 2
              refine jt_iconst d_GC_run_127 ?_
              refine jt_isub d_GC_run_128 ?_
              refine jt_topin (fun v117 bv117 kv117 => ?_)
              have ev117 := kv117 (by omega) (by omega)
              clear kv117
              refine cm_put (k := 0) (j := 9) (v := v117) d_GC_run_129 (GC_w57 _ rfl) (by decide) cc_0 rfl rfl (Nat.le_of_ble_eq_true rfl) rfl ?_
              have p118 := cPf.I 0 9 v117 hpq111 rfl (show -2147483648 ≤ v117 ∧ v117 ≤ 2147483647 by omega)
              refine jt_iload_n d_GC_run_132 rfl ?_
              exact cm_ret d_GC_run_133 rfl rfl (by
        obtain ⟨X0, Y0, D0, g1, g2⟩ := hXE
        exact ⟨yq111, rfl, by omega, p118, (cTok_f hqq111 (cTok_f hqq105 hKJ rfl) rfl), (show Iq111 1 3 = 0 by omega), (show Iq111 0 7 ≤ I 0 7 + 300 by omega), (show 0 ≤ Iq111 0 8 ∧ Iq111 0 8 ≤ I 0 8 + 300 by omega), X0, Y0, D0, ⟨0, N9, R9, N9, X9, Y9⟩, g1, g2, (show Iq111 5 6 = R9 by omega), fun z => absurd rfl z, fun _ => ⟨⟨yq111, Iq105 38 2 - 1, Aq111 44, cV Aq111, Iq111 0 7, cN Iq111 Aq111, J 0 8⟩, hgo _ (RN.bad (by omega) hst9 hco9 (by omega)), rfl, (show v117 = Iq105 38 2 - 1 by omega), rfl, rfl, rfl, rfl, (show Iq111 0 8 = J 0 8 by omega)⟩⟩)
          · skip
            exfalso
            omega
set_option maxRecDepth 100000 in
set_option maxHeartbeats 4000000 in
theorem v_GC_run_x (G : jG) (d b : Nat)  (I : Nat → Nat → Int) (A : Nat → Int → Int) (hI : cSI I) (hA : cSA A) (hK : cTok A) (hn : I 0 7 ≤ 2147480000) (h8n : 0 ≤ I 0 8 ∧ I 0 8 ≤ 2147480000) (hD0 : ∀ j, 0 ≤ j → j < I 1 3 → A 4 j = 0) (hM : cMac I A) (hI9 : VI (A 44) (cV A)) : cct G Y_GC_run (d + 36) b [.ref (b + 0)] I A (fun (rv : Option Value) (I2 : Nat → Nat → Int) (A2 : Nat → Int → Int) => ∃ y : Int, rv = some (.int (jI y)) ∧ (-2147483648 ≤ y ∧ y ≤ 2147483647) ∧ cPf [7, 8, 9, 19, 85, 86, 131, 627, 610, 611, 612, 614, 615, 617, 7427] tRun I A I2 A2 ∧ cTok A2 ∧ I2 1 3 = 0 ∧ I2 0 7 ≤ I 0 7 + 300 ∧ (0 ≤ I2 0 8 ∧ I2 0 8 ≤ I 0 8 + 300) ∧ ∃ (X0 Y0 D0 : Int → Int) (z : XR), gH X0 Y0 D0 (xs (A 2) (A 3) (A 4) 0 (I 1 3)) ∧ cXE I A (I 1 3) X0 Y0 D0 0 0 z ∧ I2 5 6 = z.r ∧ (z.e ≠ 0 → y = z.e ∧ I2 0 9 = z.pl ∧ A2 44 = A 44 ∧ cV A2 = cV A ∧ I2 0 7 = I 0 7 ∧ A2 471 = A 471 ∧ I2 0 8 = I 0 8 ∧ A2 469 = A 469) ∧ (z.e = 0 → ∃ zz : RR, RN z.n z.X z.Y 0 (A 44) (cV A) (I 0 7) (cN I A) (I 0 8) zz ∧ y = zz.e ∧ I2 0 9 = zz.pl ∧ A2 44 = zz.s ∧ cV A2 = zz.V ∧ I2 0 7 = zz.c ∧ cN I2 A2 = zz.nt ∧ I2 0 8 = zz.d)) := by
  refine cct_of (by decide) (Nat.le_of_ble_eq_true rfl) (fun f0 sz => ?_)
  show jt _ 0 [(0, .ref (b + 0))] [] _ _ _ _
  have r13 : 0 ≤ I 1 3 ∧ I 1 3 ≤ 120 := hI 1 3
  have hz0 : cPf [7, 8, 9, 19, 85, 86, 131, 627, 610, 611, 612, 614, 615, 617, 7427] tRun I A I A := cPf.refl hI hA
  refine jt_aload_n d_GC_run_0 rfl ?_
  refine cm_get (k := 0) (v := .ref (b + 5)) d_GC_run_1 GC_f21 (by decide) cc_0 rfl ?_
  refine jt_aload_n d_GC_run_4 rfl ?_
  refine cm_get (k := 0) (v := .ref (b + 1)) d_GC_run_5 GC_f14 (by decide) cc_0 rfl ?_
  refine jt_aload_n d_GC_run_8 rfl ?_
  refine cm_get (k := 0) (v := .ref (b + 38)) d_GC_run_9 GC_f28 (by decide) cc_0 rfl ?_
  refine cm_get (k := 38) (v := .ref (b + 39)) d_GC_run_12 GC_f83 (by decide) cc_3 rfl ?_
  refine cct_callV (Y := Y_EX_expand) (ci := 1) (k := 5) (As := [.ref (b + 1), .ref (b + 39)]) (rest := []) d_GC_run_15 GC_c86 yk_EX_expand yv_EX_expand rfl (Nat.le_of_ble_eq_true rfl) (by decide) cc_2 rfl rfl (Nat.le_of_ble_eq_true rfl) (v_EX_expand_x G _ b I A hz0.1 hz0.2.1 hK hD0 hM) (fun rvq1 Iq1 Aq1 hq1 => ?_)
  obtain ⟨yq1, rfl, ryq1, hqq1, hxq1⟩ := hq1
  have hpq1 := cPf.transx hz0 hqq1 rfl rfl
  have m0_7q1 : Iq1 0 7 = I 0 7 := hqq1.2.2.1 0 7 rfl
  have m0_8q1 : Iq1 0 8 = I 0 8 := hqq1.2.2.1 0 8 rfl
  have m0_9q1 : Iq1 0 9 = I 0 9 := hqq1.2.2.1 0 9 rfl
  have m1_3q1 : Iq1 1 3 = I 1 3 := hqq1.2.2.1 1 3 rfl
  have m38_2q1 : Iq1 38 2 = I 38 2 := hqq1.2.2.1 38 2 rfl
  have f44 : Aq1 44 = A 44 := hqq1.2.2.2 44 (ctX (by decide)) trivial
  have fcv : cV Aq1 = cV A := cV_fr (fun k a c => hqq1.2.2.2 k (ctX (by omega)) trivial)
  have fcn : cN Iq1 Aq1 = cN I A := cN_e (hqq1.2.2.1 0 7 rfl) (hqq1.2.2.2 471 (ctX (by decide)) trivial) (hqq1.2.2.2 469 (ctX (by decide)) trivial)
  show jt _ 18 [(0, .ref (b + 0))] [.int (jI yq1)] (cmf b f0 Iq1 Aq1) _ _ _
  refine jt_istore_n (L' := [(0, .ref (b + 0)), (1, .int (jI yq1))]) d_GC_run_18 (Nat.le_of_ble_eq_true rfl) rfl ?_
  refine jt_aload_n d_GC_run_19 rfl ?_
  refine cm_get (k := 0) (v := .ref (b + 1)) d_GC_run_20 GC_f14 (by decide) cc_0 rfl ?_
  refine jt_iconst d_GC_run_23 ?_
  refine cm_put (k := 1) (j := 3) (v := 0) d_GC_run_24 (GC_w65 _ rfl) (by decide) (cc_1 rfl) rfl rfl (Nat.le_of_ble_eq_true rfl) rfl ?_
  have p2 := cPf.I 1 3 0 hpq1 rfl (show 0 ≤ 0 ∧ 0 ≤ 120 by omega)
  refine jt_aload_n d_GC_run_27 rfl ?_
  refine jt_aload_n d_GC_run_28 rfl ?_
  refine cm_get (k := 0) (v := .ref (b + 5)) d_GC_run_29 GC_f21 (by decide) cc_0 rfl ?_
  refine cm_get (k := 5) (v := .int (jI (Iq1 5 5))) d_GC_run_32 GC_f90 (by decide) cc_2 rfl ?_
  have rb3 : 0 ≤ Iq1 5 5 ∧ Iq1 5 5 ≤ 300 := p2.1 5 5
  refine cm_put (k := 0) (j := 9) (v := (Iq1 5 5)) d_GC_run_35 (GC_w57 _ rfl) (by decide) cc_0 rfl rfl (Nat.le_of_ble_eq_true rfl) rfl ?_
  have p4 := cPf.I 0 9 (Iq1 5 5) p2 rfl (show -2147483648 ≤ Iq1 5 5 ∧ Iq1 5 5 ≤ 2147483647 by omega)
  refine jt_iload_n d_GC_run_38 rfl ?_
  refine jt_if_eq (t := 44) d_GC_run_39 rfl (by unfold jRi; omega) (fun c5 => ?_) (fun c5 => ?_)
  · skip
    obtain ⟨X0, Y0, D0, hgH, h0x, _⟩ := hxq1.2
    have hXE := h0x (by omega)
    clear h0x
    have hy0 : yq1 = 0 := by omega
    rw [hy0] at hXE
    have hpl : Iq1 5 5 = Iq1 39 3 := cXE_pl hXE (by omega) rfl
    rw [hpl] at hXE
    refine jt_aload_n d_GC_run_44 rfl ?_
    refine cm_get (k := 0) (v := .ref (b + 38)) d_GC_run_45 GC_f28 (by decide) cc_0 rfl ?_
    refine jt_iconst d_GC_run_48 ?_
    refine cm_put (k := 38) (j := 2) (v := 0) d_GC_run_49 (GC_w93 _ rfl) (by decide) cc_3 rfl rfl (Nat.le_of_ble_eq_true rfl) rfl ?_
    have p6 := cPf.I 38 2 0 p4 rfl (show 0 ≤ 0 ∧ 0 ≤ 300 by omega)
    refine jt_iconst d_GC_run_52 ?_
    refine jt_istore_n (L' := [(0, .ref (b + 0)), (1, .int (jI yq1)), (2, .int (jI 0))]) d_GC_run_53 (Nat.le_of_ble_eq_true rfl) rfl ?_
    exact l54_GC_run_xv G d b  I A hI hA hK hn h8n hD0 hM hI9 f0 sz (Iq1 39 3) (Iq1 5 6) (Aq1 40) (Aq1 41) (⟨X0, Y0, D0, hgH, hXE⟩) 301 yq1 0 (cu (cu (cu Iq1 1 3 0) 0 9 (Iq1 5 5)) 38 2 0) Aq1 p6 (by omega) (by omega) (show 0 ≤ 0 by omega) (show 0 = 0 by omega) (show Iq1 0 7 ≤ I 0 7 + (0) by omega) (show 0 ≤ Iq1 0 8 ∧ Iq1 0 8 ≤ I 0 8 + (0) by omega) (show Iq1 5 5 = Iq1 39 3 by omega) rfl rfl hxq1.1 rfl rfl (by rw [f44, fcv]; exact hI9) (fun zz h9 => by have h8 : RN (Iq1 39 3) (Aq1 40) (Aq1 41) 0 (Aq1 44) (cV Aq1) (Iq1 0 7) (cN Iq1 Aq1) (Iq1 0 8) zz := h9; rw [f44, fcv, fcn, m0_7q1, m0_8q1] at h8; exact h8) (by omega)
  · skip
    refine jt_iload_n d_GC_run_42 rfl ?_
    exact cm_ret d_GC_run_43 rfl rfl (by
        obtain ⟨X0, Y0, D0, hgH, _, h1x⟩ := hxq1.2
        obtain ⟨n8, X8, Y8, hXE⟩ := h1x (by omega)
        exact ⟨yq1, rfl, by omega, p4, hxq1.1, (show 0 = 0 by omega), (show Iq1 0 7 ≤ I 0 7 + 300 by omega), (show 0 ≤ Iq1 0 8 ∧ Iq1 0 8 ≤ I 0 8 + 300 by omega), X0, Y0, D0, ⟨yq1, Iq1 5 5, Iq1 5 6, n8, X8, Y8⟩, hgH, hXE, rfl, fun _ => ⟨rfl, rfl, f44, fcv, (show Iq1 0 7 = I 0 7 by omega), hqq1.2.2.2 471 (ctX (by decide)) trivial, (show Iq1 0 8 = I 0 8 by omega), hqq1.2.2.2 469 (ctX (by decide)) trivial⟩, fun z => by exfalso; have z9 : yq1 = 0 := z; omega⟩)

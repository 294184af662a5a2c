set_option maxRecDepth 100000 in
set_option maxHeartbeats 1000000 in
theorem w_GM_pair (G : jG) (d m : Nat)  (I : Nat → Int) (A : Nat → Int → Int) (hT : gT I A) (hI : gSI I) (hA : gSA A) (hp : 0 ≤ I 11 ∧ I 11 ≤ 74) (he : I 5 = 0 → I 13 = 0) : gct G Y_GM_pair (d + 5) m [] I A (fun (rv : Option Value) (I2 : Nat → Int) (A2 : Nat → Int → Int) => rv = none ∧ gPo [4, 5, 6, 9, 11, 13, 14, 15] [35, 36, 37, 38] I A I2 A2 ∧ I 11 ≤ I2 11 ∧ I2 11 ≤ I 11 + 2 ∧ (¬ I 12 < 13 → I2 11 = I 11) ∧ (I2 5 = 0 → I 5 = 0 ∧ I 4 < I2 4 ∧ I2 13 = I 13)) := by
  refine gct_of (by decide) (Nat.le_of_ble_eq_true rfl) (fun f0 sz => ?_)
  show jt _ 0 [(0, .ref m)] [] _ _ _ _
  have r4 : 0 ≤ I 4 ∧ I 4 ≤ 300 := hI 4
  have r5 : -13 ≤ I 5 ∧ I 5 ≤ 0 := hI 5
  have r13 : 0 ≤ I 13 ∧ I 13 ≤ 320 := hI 13
  have hz0 : gPo [4, 5, 6, 9, 11, 13, 14, 15] [35, 36, 37, 38] I A I A := gPo.refl hI hA
  have t0 := hT.1
  have t1 := hT.2.1
  refine jt_aload_n d_GM_pair_0 rfl ?_
  refine jt_iconst d_GM_pair_1 ?_
  refine gct_call (Y := Y_GM_need) (As := [.int (jI 3)]) (rest := []) d_GM_pair_2 GM_c241 yk_GM_need yv_GM_need rfl (Nat.le_of_ble_eq_true rfl) rfl rfl (Nat.le_of_ble_eq_true rfl) (w_GM_need G _ m 3 I A (gT_of hz0 hT rfl rfl rfl) hz0.1 hz0.2.1 (by unfold jRi; omega)) (fun rvq1 Iq1 Aq1 hq1 => ?_)
  obtain ⟨rfl, hqq1, hxq1⟩ := hq1
  have hpq1 := gPo.trans hz0 hqq1 rfl rfl
  have f1q1 : Iq1 1 = I 1 := hpq1.2.2.1 1 rfl
  have m11q1 : Iq1 11 = I 11 := hqq1.2.2.1 11 rfl
  have m12q1 : Iq1 12 = I 12 := hqq1.2.2.1 12 rfl
  have m13q1 : Iq1 13 = I 13 := hqq1.2.2.1 13 rfl
  show jt _ 5 [(0, .ref m)] [] (gmf m f0 Iq1 Aq1) _ _ _
  refine jt_aload_n d_GM_pair_5 rfl ?_
  refine jt_aload_n d_GM_pair_6 rfl ?_
  refine gm_gI (k := 11) (v := Iq1 11) d_GM_pair_7 GM_f43 (by decide) rfl ?_
  have rb2 : 0 ≤ Iq1 11 ∧ Iq1 11 ≤ 76 := hpq1.1 11
  refine gct_call (Y := Y_GM_expr) (As := [.int (jI (Iq1 11))]) (rest := []) d_GM_pair_10 GM_c250 yk_GM_expr yv_GM_expr rfl (Nat.le_of_ble_eq_true rfl) rfl rfl (Nat.le_of_ble_eq_true rfl) (w_GM_expr G _ m (Iq1 11) Iq1 Aq1 (gT_of hpq1 hT rfl rfl rfl) hpq1.1 hpq1.2.1 (by omega) (by omega) (fun z => by have z5 : Iq1 5 = 0 := z; show Iq1 13 = 0; omega)) (fun rvq3 Iq3 Aq3 hq3 => ?_)
  obtain ⟨rfl, hqq3, hxq3⟩ := hq3
  have hpq3 := gPo.trans hpq1 hqq3 rfl rfl
  have f1q3 : Iq3 1 = I 1 := hpq3.2.2.1 1 rfl
  have m11q3 : Iq3 11 = Iq1 11 := hqq3.2.2.1 11 rfl
  have m12q3 : Iq3 12 = Iq1 12 := hqq3.2.2.1 12 rfl
  show jt _ 13 [(0, .ref m)] [] (gmf m f0 Iq3 Aq3) _ _ _
  refine jt_aload_n d_GM_pair_13 rfl ?_
  refine jt_iconst d_GM_pair_14 ?_
  refine gct_call (Y := Y_GM_need) (As := [.int (jI 5)]) (rest := []) d_GM_pair_15 GM_c241 yk_GM_need yv_GM_need rfl (Nat.le_of_ble_eq_true rfl) rfl rfl (Nat.le_of_ble_eq_true rfl) (w_GM_need G _ m 5 Iq3 Aq3 (gT_of hpq3 hT rfl rfl rfl) hpq3.1 hpq3.2.1 (by unfold jRi; omega)) (fun rvq4 Iq4 Aq4 hq4 => ?_)
  obtain ⟨rfl, hqq4, hxq4⟩ := hq4
  have hpq4 := gPo.trans hpq3 hqq4 rfl rfl
  have f1q4 : Iq4 1 = I 1 := hpq4.2.2.1 1 rfl
  have m11q4 : Iq4 11 = Iq3 11 := hqq4.2.2.1 11 rfl
  have m12q4 : Iq4 12 = Iq3 12 := hqq4.2.2.1 12 rfl
  have m13q4 : Iq4 13 = Iq3 13 := hqq4.2.2.1 13 rfl
  show jt _ 18 [(0, .ref m)] [] (gmf m f0 Iq4 Aq4) _ _ _
  refine jt_aload_n d_GM_pair_18 rfl ?_
  refine gm_gI (k := 5) (v := Iq4 5) d_GM_pair_19 GM_f25 (by decide) rfl ?_
  have rb5 : -13 ≤ Iq4 5 ∧ Iq4 5 ≤ 0 := hpq4.1 5
  refine jt_if_ne (t := 35) d_GM_pair_22 rfl (by unfold jRi; omega) (fun c6 => ?_) (fun c6 => ?_)
  · skip
    refine jt_aload_n d_GM_pair_35 rfl ?_
    refine jt_iconst d_GM_pair_36 ?_
    refine gct_call (Y := Y_GM_need) (As := [.int (jI 4)]) (rest := []) d_GM_pair_37 GM_c241 yk_GM_need yv_GM_need rfl (Nat.le_of_ble_eq_true rfl) rfl rfl (Nat.le_of_ble_eq_true rfl) (w_GM_need G _ m 4 Iq4 Aq4 (gT_of hpq4 hT rfl rfl rfl) hpq4.1 hpq4.2.1 (by unfold jRi; omega)) (fun rvq7 Iq7 Aq7 hq7 => ?_)
    obtain ⟨rfl, hqq7, hxq7⟩ := hq7
    have hpq7 := gPo.trans hpq4 hqq7 rfl rfl
    have f1q7 : Iq7 1 = I 1 := hpq7.2.2.1 1 rfl
    have m11q7 : Iq7 11 = Iq4 11 := hqq7.2.2.1 11 rfl
    have m12q7 : Iq7 12 = Iq4 12 := hqq7.2.2.1 12 rfl
    have m13q7 : Iq7 13 = Iq4 13 := hqq7.2.2.1 13 rfl
    show jt _ 40 [(0, .ref m)] [] (gmf m f0 Iq7 Aq7) _ _ _
    refine jt_aload_n d_GM_pair_40 rfl ?_
    refine gm_gI (k := 5) (v := Iq7 5) d_GM_pair_41 GM_f25 (by decide) rfl ?_
    have rb8 : -13 ≤ Iq7 5 ∧ Iq7 5 ≤ 0 := hpq7.1 5
    refine jt_if_eq (t := 48) d_GM_pair_44 rfl (by unfold jRi; omega) (fun c9 => ?_) (fun c9 => ?_)
    · skip
      refine jt_aload_n d_GM_pair_48 rfl ?_
      refine gm_gI (k := 12) (v := Iq7 12) d_GM_pair_49 GM_f46 (by decide) rfl ?_
      have rb10 : 0 ≤ Iq7 12 ∧ Iq7 12 ≤ 300 := hpq7.1 12
      refine jt_bipush d_GM_pair_52 (by omega) ?_
      refine jt_icmp_ge (t := 67) d_GM_pair_54 rfl (by unfold jRi; omega) (by unfold jRi; omega) (fun c11 => ?_) (fun c11 => ?_)
      · skip
        exact gm_vret d_GM_pair_67 rfl (⟨rfl, hpq7, show I 11 ≤ Iq7 11 by omega, show Iq7 11 ≤ I 11 + 2 by omega, show ¬ I 12 < 13 → Iq7 11 = I 11 by omega, show Iq7 5 = 0 → I 5 = 0 ∧ I 4 < Iq7 4 ∧ Iq7 13 = I 13 by omega⟩)
      · skip
        refine jt_aload_n d_GM_pair_57 rfl ?_
        refine jt_dup d_GM_pair_58 rfl ?_
        refine gm_gI (k := 11) (v := Iq7 11) d_GM_pair_59 GM_f43 (by decide) rfl ?_
        have rb12 : 0 ≤ Iq7 11 ∧ Iq7 11 ≤ 76 := hpq7.1 11
        refine jt_iconst d_GM_pair_62 ?_
        refine jt_iadd d_GM_pair_63 ?_
        refine jt_topi (fun v13 ev13 => ?_)
        refine gm_pI (k := 11) (v := v13) (J := va_up Iq7 11 v13) d_GM_pair_64 (GM_w43 _ rfl) (by decide) rfl rfl rfl ?_
        have p14 := gPo.I 11 v13 hpq7 rfl (show 0 ≤ v13 ∧ v13 ≤ 76 by omega)
        exact gm_vret d_GM_pair_67 rfl (⟨rfl, p14, show I 11 ≤ v13 by omega, show v13 ≤ I 11 + 2 by omega, show ¬ I 12 < 13 → v13 = I 11 by omega, show Iq7 5 = 0 → I 5 = 0 ∧ I 4 < Iq7 4 ∧ Iq7 13 = I 13 by omega⟩)
    · skip
      exact gm_vret d_GM_pair_47 rfl (⟨rfl, hpq7, show I 11 ≤ Iq7 11 by omega, show Iq7 11 ≤ I 11 + 2 by omega, show ¬ I 12 < 13 → Iq7 11 = I 11 by omega, show Iq7 5 = 0 → I 5 = 0 ∧ I 4 < Iq7 4 ∧ Iq7 13 = I 13 by omega⟩)
  · skip
    refine jt_aload_n d_GM_pair_25 rfl ?_
    refine jt_aload_n d_GM_pair_26 rfl ?_
    refine gm_gI (k := 11) (v := Iq4 11) d_GM_pair_27 GM_f43 (by decide) rfl ?_
    have rb15 : 0 ≤ Iq4 11 ∧ Iq4 11 ≤ 76 := hpq4.1 11
    refine jt_iconst d_GM_pair_30 ?_
    refine jt_iadd d_GM_pair_31 ?_
    refine gct_call (Y := Y_GM_expr) (As := [.int (jI ((Iq4 11) + 1))]) (rest := []) d_GM_pair_32 GM_c250 yk_GM_expr yv_GM_expr rfl (Nat.le_of_ble_eq_true rfl) rfl rfl (Nat.le_of_ble_eq_true rfl) (w_GM_expr G _ m ((Iq4 11) + 1) Iq4 Aq4 (gT_of hpq4 hT rfl rfl rfl) hpq4.1 hpq4.2.1 (by omega) (by omega) (fun z => by have z5 : Iq4 5 = 0 := z; show Iq4 13 = 0; omega)) (fun rvq16 Iq16 Aq16 hq16 => ?_)
    obtain ⟨rfl, hqq16, hxq16⟩ := hq16
    have hpq16 := gPo.trans hpq4 hqq16 rfl rfl
    have f1q16 : Iq16 1 = I 1 := hpq16.2.2.1 1 rfl
    have m11q16 : Iq16 11 = Iq4 11 := hqq16.2.2.1 11 rfl
    have m12q16 : Iq16 12 = Iq4 12 := hqq16.2.2.1 12 rfl
    show jt _ 35 [(0, .ref m)] [] (gmf m f0 Iq16 Aq16) _ _ _
    refine jt_aload_n d_GM_pair_35 rfl ?_
    refine jt_iconst d_GM_pair_36 ?_
    refine gct_call (Y := Y_GM_need) (As := [.int (jI 4)]) (rest := []) d_GM_pair_37 GM_c241 yk_GM_need yv_GM_need rfl (Nat.le_of_ble_eq_true rfl) rfl rfl (Nat.le_of_ble_eq_true rfl) (w_GM_need G _ m 4 Iq16 Aq16 (gT_of hpq16 hT rfl rfl rfl) hpq16.1 hpq16.2.1 (by unfold jRi; omega)) (fun rvq17 Iq17 Aq17 hq17 => ?_)
    obtain ⟨rfl, hqq17, hxq17⟩ := hq17
    have hpq17 := gPo.trans hpq16 hqq17 rfl rfl
    have f1q17 : Iq17 1 = I 1 := hpq17.2.2.1 1 rfl
    have m11q17 : Iq17 11 = Iq16 11 := hqq17.2.2.1 11 rfl
    have m12q17 : Iq17 12 = Iq16 12 := hqq17.2.2.1 12 rfl
    have m13q17 : Iq17 13 = Iq16 13 := hqq17.2.2.1 13 rfl
    show jt _ 40 [(0, .ref m)] [] (gmf m f0 Iq17 Aq17) _ _ _
    refine jt_aload_n d_GM_pair_40 rfl ?_
    refine gm_gI (k := 5) (v := Iq17 5) d_GM_pair_41 GM_f25 (by decide) rfl ?_
    have rb18 : -13 ≤ Iq17 5 ∧ Iq17 5 ≤ 0 := hpq17.1 5
    refine jt_if_eq (t := 48) d_GM_pair_44 rfl (by unfold jRi; omega) (fun c19 => ?_) (fun c19 => ?_)
    · skip
      refine jt_aload_n d_GM_pair_48 rfl ?_
      refine gm_gI (k := 12) (v := Iq17 12) d_GM_pair_49 GM_f46 (by decide) rfl ?_
      have rb20 : 0 ≤ Iq17 12 ∧ Iq17 12 ≤ 300 := hpq17.1 12
      refine jt_bipush d_GM_pair_52 (by omega) ?_
      refine jt_icmp_ge (t := 67) d_GM_pair_54 rfl (by unfold jRi; omega) (by unfold jRi; omega) (fun c21 => ?_) (fun c21 => ?_)
      · skip
        exact gm_vret d_GM_pair_67 rfl (⟨rfl, hpq17, show I 11 ≤ Iq17 11 by omega, show Iq17 11 ≤ I 11 + 2 by omega, show ¬ I 12 < 13 → Iq17 11 = I 11 by omega, show Iq17 5 = 0 → I 5 = 0 ∧ I 4 < Iq17 4 ∧ Iq17 13 = I 13 by omega⟩)
      · skip
        refine jt_aload_n d_GM_pair_57 rfl ?_
        refine jt_dup d_GM_pair_58 rfl ?_
        refine gm_gI (k := 11) (v := Iq17 11) d_GM_pair_59 GM_f43 (by decide) rfl ?_
        have rb22 : 0 ≤ Iq17 11 ∧ Iq17 11 ≤ 76 := hpq17.1 11
        refine jt_iconst d_GM_pair_62 ?_
        refine jt_iadd d_GM_pair_63 ?_
        refine jt_topi (fun v23 ev23 => ?_)
        refine gm_pI (k := 11) (v := v23) (J := va_up Iq17 11 v23) d_GM_pair_64 (GM_w43 _ rfl) (by decide) rfl rfl rfl ?_
        have p24 := gPo.I 11 v23 hpq17 rfl (show 0 ≤ v23 ∧ v23 ≤ 76 by omega)
        exact gm_vret d_GM_pair_67 rfl (⟨rfl, p24, show I 11 ≤ v23 by omega, show v23 ≤ I 11 + 2 by omega, show ¬ I 12 < 13 → v23 = I 11 by omega, show Iq17 5 = 0 → I 5 = 0 ∧ I 4 < Iq17 4 ∧ Iq17 13 = I 13 by omega⟩)
    · skip
      exact gm_vret d_GM_pair_47 rfl (⟨rfl, hpq17, show I 11 ≤ Iq17 11 by omega, show Iq17 11 ≤ I 11 + 2 by omega, show ¬ I 12 < 13 → Iq17 11 = I 11 by omega, show Iq17 5 = 0 → I 5 = 0 ∧ I 4 < Iq17 4 ∧ Iq17 13 = I 13 by omega⟩)
set_option maxRecDepth 100000 in
set_option maxHeartbeats 1000000 in
theorem l42_GM_areaw (G : jG) (d m : Nat) (f : Int) (I : Nat → Int) (A : Nat → Int → Int) (hI : gSI I) (hA : gSA A) (hf : 0 ≤ f ∧ f ≤ 1) (hl : 0 ≤ I 12) (hz : I 5 = 0) (f0 : jF) (sz : Nat) (e : Int) (e0 : -2147483648 ≤ e ∧ e ≤ 2147483647) : ∀ (n9 : Nat) (i : Int) (J : Nat → Int) (B : Nat → Int → Int), gPo [5, 6, 10] [39, 40, 41, 42, 43, 45] I A J B → (0 ≤ i) → (i ≤ 76) → (J 5 = 0 → I 12 ≤ 12) → 77 - i < (n9 : Int) → jt (jm G Y_GM_area (gR (d + 3)) (gQ m f0 sz (fun (rv : Option Value) (I2 : Nat → Int) (A2 : Nat → Int → Int) => rv = none ∧ gPo [5, 6, 10] [39, 40, 41, 42, 43, 45] I A I2 A2))) 42 [(0, .ref m), (1, .int (jI f)), (2, .int (jI e)), (3, .int (jI i))] [] (gmf m f0 J B) sz 0 0 := by
  have r4 : 0 ≤ I 4 ∧ I 4 ≤ 300 := hI 4
  have r5 : -13 ≤ I 5 ∧ I 5 ≤ 0 := hI 5
  have r12 : 0 ≤ I 12 ∧ I 12 ≤ 300 := hI 12
  have r11 : 0 ≤ I 11 ∧ I 11 ≤ 76 := hI 11
  intro n9
  induction n9 with
  | zero =>
    intro i J B hJ i0 i1 k5 hmeas
    have j11 : J 11 = I 11 := hJ.2.2.1 11 rfl
    have j12 : J 12 = I 12 := hJ.2.2.1 12 rfl
    have j5 : -13 ≤ J 5 ∧ J 5 ≤ 0 := hJ.1 5
    exfalso
    omega
  | succ n9 ih =>
    intro i J B hJ i0 i1 k5 hmeas
    have j11 : J 11 = I 11 := hJ.2.2.1 11 rfl
    have j12 : J 12 = I 12 := hJ.2.2.1 12 rfl
    have j5 : -13 ≤ J 5 ∧ J 5 ≤ 0 := hJ.1 5
    refine jt_iload_n d_GM_area_42 rfl ?_
    refine jt_aload_n d_GM_area_43 rfl ?_
    refine gm_gI (k := 11) (v := J 11) d_GM_area_44 GM_f43 (by decide) rfl ?_
    have rb101 : 0 ≤ J 11 ∧ J 11 ≤ 76 := hJ.1 11
    refine jt_icmp_ge (t := 156) d_GM_area_47 rfl (by unfold jRi; omega) (by unfold jRi; omega) (fun c102 => ?_) (fun c102 => ?_)
    · skip
      refine jt_aload_n d_GM_area_156 rfl ?_
      refine gm_gI (k := 5) (v := J 5) d_GM_area_157 GM_f25 (by decide) rfl ?_
      have rb103 : -13 ≤ J 5 ∧ J 5 ≤ 0 := hJ.1 5
      refine jt_if_ne (t := 168) d_GM_area_160 rfl (by unfold jRi; omega) (fun c104 => ?_) (fun c104 => ?_)
      · skip
        exact gm_vret d_GM_area_168 rfl (⟨rfl, hJ⟩)
      · skip
        refine jt_aload_n d_GM_area_163 rfl ?_
        refine jt_iload_n d_GM_area_164 rfl ?_
        refine gct_call (Y := Y_GM_paint) (As := [.int (jI f)]) (rest := []) d_GM_area_165 GM_c267 yk_GM_paint yv_GM_paint rfl (Nat.le_of_ble_eq_true rfl) rfl rfl (Nat.le_of_ble_eq_true rfl) (w_GM_paint G _ m f J B hJ.1 hJ.2.1 (by omega) (show 0 ≤ J 12 ∧ J 12 ≤ 12 by omega)) (fun rvq105 Iq105 Aq105 hq105 => ?_)
        obtain ⟨rfl, hqq105⟩ := hq105
        have hpq105 := gPo.trans hJ hqq105 rfl rfl
        have f1q105 : Iq105 1 = I 1 := hpq105.2.2.1 1 rfl
        have m5q105 : Iq105 5 = J 5 := hqq105.2.2.1 5 rfl
        have m11q105 : Iq105 11 = J 11 := hqq105.2.2.1 11 rfl
        have m12q105 : Iq105 12 = J 12 := hqq105.2.2.1 12 rfl
        show jt _ 168 [(0, .ref m), (1, .int (jI f)), (2, .int (jI e)), (3, .int (jI i))] [] (gmf m f0 Iq105 Aq105) _ _ _
        exact gm_vret d_GM_area_168 rfl (⟨rfl, hpq105⟩)
    · skip
      refine jt_aload_n d_GM_area_50 rfl ?_
      refine gm_gI (k := 5) (v := J 5) d_GM_area_51 GM_f25 (by decide) rfl ?_
      have rb106 : -13 ≤ J 5 ∧ J 5 ≤ 0 := hJ.1 5
      refine jt_if_ne (t := 156) d_GM_area_54 rfl (by unfold jRi; omega) (fun c107 => ?_) (fun c107 => ?_)
      · skip
        refine jt_aload_n d_GM_area_156 rfl ?_
        refine gm_gI (k := 5) (v := J 5) d_GM_area_157 GM_f25 (by decide) rfl ?_
        refine jt_if_ne (t := 168) d_GM_area_160 rfl (by unfold jRi; omega) (fun c108 => ?_) (fun c108 => ?_)
        · skip
          exact gm_vret d_GM_area_168 rfl (⟨rfl, hJ⟩)
        · skip
          refine jt_aload_n d_GM_area_163 rfl ?_
          refine jt_iload_n d_GM_area_164 rfl ?_
          refine gct_call (Y := Y_GM_paint) (As := [.int (jI f)]) (rest := []) d_GM_area_165 GM_c267 yk_GM_paint yv_GM_paint rfl (Nat.le_of_ble_eq_true rfl) rfl rfl (Nat.le_of_ble_eq_true rfl) (w_GM_paint G _ m f J B hJ.1 hJ.2.1 (by omega) (show 0 ≤ J 12 ∧ J 12 ≤ 12 by omega)) (fun rvq109 Iq109 Aq109 hq109 => ?_)
          obtain ⟨rfl, hqq109⟩ := hq109
          have hpq109 := gPo.trans hJ hqq109 rfl rfl
          have f1q109 : Iq109 1 = I 1 := hpq109.2.2.1 1 rfl
          have m5q109 : Iq109 5 = J 5 := hqq109.2.2.1 5 rfl
          have m11q109 : Iq109 11 = J 11 := hqq109.2.2.1 11 rfl
          have m12q109 : Iq109 12 = J 12 := hqq109.2.2.1 12 rfl
          show jt _ 168 [(0, .ref m), (1, .int (jI f)), (2, .int (jI e)), (3, .int (jI i))] [] (gmf m f0 Iq109 Aq109) _ _ _
          exact gm_vret d_GM_area_168 rfl (⟨rfl, hpq109⟩)
      · skip
        refine jt_aload_n d_GM_area_57 rfl ?_
        refine gm_gA (k := 35) (a := m + 20) d_GM_area_58 GM_f118 (by decide) (by decide) rfl ?_
        refine jt_iload_n d_GM_area_61 rfl ?_
        refine jt_bipush d_GM_area_62 (by omega) ?_
        refine jt_imul d_GM_area_64 ?_
        refine jt_bipush d_GM_area_65 (by omega) ?_
        refine jt_iadd d_GM_area_67 ?_
        refine gm_ld1 (k := 35) (n := 5200) (v := (B 35) ((i * 13) + 12)) d_GM_area_68 rfl (by decide) (by decide) rfl rfl (by omega) (by omega) (by omega) rfl ?_
        refine jt_topl (fun v110 ev110 => ?_)
        have bv110 : (-9223372036854775808) ≤ v110 ∧ v110 ≤ 9223372036854775807 := by rw [ev110]; exact hJ.2.1 35 ((i * 13) + 12)
        refine jt_lstore (L' := [(0, .ref m), (1, .int (jI f)), (2, .int (jI e)), (3, .int (jI i)), (4, .long (jL v110))]) d_GM_area_69 (Nat.le_of_ble_eq_true rfl) rfl ?_
        refine jt_aload_n d_GM_area_71 rfl ?_
        refine jt_iload_n d_GM_area_72 rfl ?_
        refine gct_call (Y := Y_GM_isNumber) (As := [.int (jI i)]) (rest := []) d_GM_area_73 GM_c260 yk_GM_isNumber yv_GM_isNumber rfl (Nat.le_of_ble_eq_true rfl) rfl rfl (Nat.le_of_ble_eq_true rfl) (c_GM_isNumber G _ m i J B (by omega) (by omega) (fun j _ _ => hJ.2.1 35 _)) (fun rvq111 Iq111 Aq111 hq111 => ?_)
        obtain ⟨haq111, hbq111, hIq111, hAq111⟩ := hq111
        rw [hIq111, hAq111]
        by_cases gq111 : ∀ j, 0 ≤ j → j < 12 → (B 35) (i * 13 + j) = 0
        · skip
          obtain rfl := haq111 gq111
          clear haq111 hbq111 hIq111 hAq111
          show jt _ 76 [(0, .ref m), (1, .int (jI f)), (2, .int (jI e)), (3, .int (jI i)), (4, .long (jL v110))] [.int (jI 1)] (gmf m f0 J B) _ _ _
          refine jt_if_ne (t := 89) d_GM_area_76 rfl (by unfold jRi; omega) (fun c112 => ?_) (fun c112 => ?_)
          · skip
            refine jt_lload d_GM_area_89 rfl ?_
            refine jt_ldc2 (z := 4096) d_GM_area_91 GM_k211 ?_
            refine jt_lrem d_GM_area_94 (by unfold jRl; omega) (by unfold jRl; omega) (by omega) ?_
            have td113 := gtd v110 4096 (by omega)
            refine jt_toplw (fun v114 bv114 => ?_)
            refine jt_lconst (z := 0) d_GM_area_95 (by decide) ?_
            refine jt_lif_eq (t := 110) d_GM_area_96 d_GM_area_97 rfl (by unfold jRl; omega) (by unfold jRl; omega) (fun c115 => ?_) (fun c115 => ?_)
            · skip
              refine jt_lload d_GM_area_110 rfl ?_
              refine jt_ldc2 (z := -2097152) d_GM_area_112 GM_k263 ?_
              refine jt_lif_lt (t := 128) d_GM_area_115 d_GM_area_116 rfl (by unfold jRl; omega) (by unfold jRl; omega) (fun c116 => ?_) (fun c116 => ?_)
              · skip
                refine jt_aload_n d_GM_area_128 rfl ?_
                refine jt_bipush d_GM_area_129 (by omega) ?_
                refine jt_iload_n d_GM_area_131 rfl ?_
                refine gct_call (Y := Y_GM_stop) (As := [.int (jI (-9)), .int (jI e)]) (rest := []) d_GM_area_132 GM_c164 yk_GM_stop yv_GM_stop rfl (Nat.le_of_ble_eq_true rfl) rfl rfl (Nat.le_of_ble_eq_true rfl) (c_GM_stop G _ m (-9) e J B) (fun rvq117 Iq117 Aq117 hq117 => ?_)
                obtain ⟨rfl, hIq117, hAq117⟩ := hq117
                rw [hIq117, hAq117]
                have p118 := gPo.I 5 (-9) hJ rfl (show -13 ≤ -9 ∧ -9 ≤ 0 by omega)
                have p119 := gPo.I 6 e p118 rfl (show -2147483648 ≤ e ∧ e ≤ 2147483647 by omega)
                show jt _ 135 [(0, .ref m), (1, .int (jI f)), (2, .int (jI e)), (3, .int (jI i)), (4, .long (jL v110))] [] (gmf m f0 (va_up (va_up J 5 (-9)) 6 e) B) _ _ _
                refine jt_goto (t := 150) d_GM_area_135 rfl ?_
                refine jt_iinc (L' := [(0, .ref m), (1, .int (jI f)), (2, .int (jI e)), (3, .int (jI (i + 1))), (4, .long (jL v110))]) d_GM_area_150 rfl (Nat.le_of_ble_eq_true rfl) rfl ?_
                refine jt_goto (t := 42) d_GM_area_153 rfl ?_
                refine jt_sub (L' := [(0, .ref m), (1, .int (jI f)), (2, .int (jI e)), (3, .int (jI (i + 1)))]) (fun _ h => List.mem_append_left [(4, Value.long (jL v110))] h) ?_
                exact ih (i + 1) (va_up (va_up J 5 (-9)) 6 e) B p119 (by omega) (by omega) (show -9 = 0 → I 12 ≤ 12 by omega) (by omega)
              · skip
                refine jt_lload d_GM_area_119 rfl ?_
                refine jt_ldc2 (z := 6291456) d_GM_area_121 GM_k265 ?_
                refine jt_lif_le (t := 138) d_GM_area_124 d_GM_area_125 rfl (by unfold jRl; omega) (by unfold jRl; omega) (fun c120 => ?_) (fun c120 => ?_)
                · skip
                  refine jt_aload_n d_GM_area_138 rfl ?_
                  refine gm_gA (k := 39) (a := m + 24) d_GM_area_139 GM_f130 (by decide) (by decide) rfl ?_
                  refine jt_iload_n d_GM_area_142 rfl ?_
                  refine jt_lload d_GM_area_143 rfl ?_
                  refine jt_ldc2 (z := 4096) d_GM_area_145 GM_k211 ?_
                  refine jt_ldiv d_GM_area_148 (by unfold jRl; omega) (by unfold jRl; omega) (by omega) ?_
                  have td121 := gtd v110 4096 (by omega)
                  refine jt_toplw (fun v122 bv122 => ?_)
                  refine gm_st1 (k := 39) (n := 80) (B := va_up B 39 (ju (B 39) i v122)) d_GM_area_149 rfl (by decide) (by decide) rfl rfl (by omega) (by omega) (by omega) rfl ?_
                  have p123 := gPo.A 39 (ju (B 39) i v122) hJ rfl (gju (hJ.2.1 39) (show -9223372036854775808 ≤ v122 ∧ v122 ≤ 9223372036854775807 by omega))
                  refine jt_iinc (L' := [(0, .ref m), (1, .int (jI f)), (2, .int (jI e)), (3, .int (jI (i + 1))), (4, .long (jL v110))]) d_GM_area_150 rfl (Nat.le_of_ble_eq_true rfl) rfl ?_
                  refine jt_goto (t := 42) d_GM_area_153 rfl ?_
                  refine jt_sub (L' := [(0, .ref m), (1, .int (jI f)), (2, .int (jI e)), (3, .int (jI (i + 1)))]) (fun _ h => List.mem_append_left [(4, Value.long (jL v110))] h) ?_
                  exact ih (i + 1) J (va_up B 39 (ju (B 39) i v122)) p123 (by omega) (by omega) (show J 5 = 0 → I 12 ≤ 12 by omega) (by omega)
                · skip
                  refine jt_aload_n d_GM_area_128 rfl ?_
                  refine jt_bipush d_GM_area_129 (by omega) ?_
                  refine jt_iload_n d_GM_area_131 rfl ?_
                  refine gct_call (Y := Y_GM_stop) (As := [.int (jI (-9)), .int (jI e)]) (rest := []) d_GM_area_132 GM_c164 yk_GM_stop yv_GM_stop rfl (Nat.le_of_ble_eq_true rfl) rfl rfl (Nat.le_of_ble_eq_true rfl) (c_GM_stop G _ m (-9) e J B) (fun rvq124 Iq124 Aq124 hq124 => ?_)
                  obtain ⟨rfl, hIq124, hAq124⟩ := hq124
                  rw [hIq124, hAq124]
                  have p125 := gPo.I 5 (-9) hJ rfl (show -13 ≤ -9 ∧ -9 ≤ 0 by omega)
                  have p126 := gPo.I 6 e p125 rfl (show -2147483648 ≤ e ∧ e ≤ 2147483647 by omega)
                  show jt _ 135 [(0, .ref m), (1, .int (jI f)), (2, .int (jI e)), (3, .int (jI i)), (4, .long (jL v110))] [] (gmf m f0 (va_up (va_up J 5 (-9)) 6 e) B) _ _ _
                  refine jt_goto (t := 150) d_GM_area_135 rfl ?_
                  refine jt_iinc (L' := [(0, .ref m), (1, .int (jI f)), (2, .int (jI e)), (3, .int (jI (i + 1))), (4, .long (jL v110))]) d_GM_area_150 rfl (Nat.le_of_ble_eq_true rfl) rfl ?_
                  refine jt_goto (t := 42) d_GM_area_153 rfl ?_
                  refine jt_sub (L' := [(0, .ref m), (1, .int (jI f)), (2, .int (jI e)), (3, .int (jI (i + 1)))]) (fun _ h => List.mem_append_left [(4, Value.long (jL v110))] h) ?_
                  exact ih (i + 1) (va_up (va_up J 5 (-9)) 6 e) B p126 (by omega) (by omega) (show -9 = 0 → I 12 ≤ 12 by omega) (by omega)
            · skip
              refine jt_aload_n d_GM_area_100 rfl ?_
              refine jt_bipush d_GM_area_101 (by omega) ?_
              refine jt_iload_n d_GM_area_103 rfl ?_
              refine gct_call (Y := Y_GM_stop) (As := [.int (jI (-13)), .int (jI e)]) (rest := []) d_GM_area_104 GM_c164 yk_GM_stop yv_GM_stop rfl (Nat.le_of_ble_eq_true rfl) rfl rfl (Nat.le_of_ble_eq_true rfl) (c_GM_stop G _ m (-13) e J B) (fun rvq127 Iq127 Aq127 hq127 => ?_)
              obtain ⟨rfl, hIq127, hAq127⟩ := hq127
              rw [hIq127, hAq127]
              have p128 := gPo.I 5 (-13) hJ rfl (show -13 ≤ -13 ∧ -13 ≤ 0 by omega)
              have p129 := gPo.I 6 e p128 rfl (show -2147483648 ≤ e ∧ e ≤ 2147483647 by omega)
              show jt _ 107 [(0, .ref m), (1, .int (jI f)), (2, .int (jI e)), (3, .int (jI i)), (4, .long (jL v110))] [] (gmf m f0 (va_up (va_up J 5 (-13)) 6 e) B) _ _ _
              refine jt_goto (t := 150) d_GM_area_107 rfl ?_
              refine jt_iinc (L' := [(0, .ref m), (1, .int (jI f)), (2, .int (jI e)), (3, .int (jI (i + 1))), (4, .long (jL v110))]) d_GM_area_150 rfl (Nat.le_of_ble_eq_true rfl) rfl ?_
              refine jt_goto (t := 42) d_GM_area_153 rfl ?_
              refine jt_sub (L' := [(0, .ref m), (1, .int (jI f)), (2, .int (jI e)), (3, .int (jI (i + 1)))]) (fun _ h => List.mem_append_left [(4, Value.long (jL v110))] h) ?_
              exact ih (i + 1) (va_up (va_up J 5 (-13)) 6 e) B p129 (by omega) (by omega) (show -13 = 0 → I 12 ≤ 12 by omega) (by omega)
          · skip
            exfalso
            omega
        · skip
          obtain rfl := hbq111 gq111
          clear haq111 hbq111 hIq111 hAq111
          show jt _ 76 [(0, .ref m), (1, .int (jI f)), (2, .int (jI e)), (3, .int (jI i)), (4, .long (jL v110))] [.int (jI 0)] (gmf m f0 J B) _ _ _
          refine jt_if_ne (t := 89) d_GM_area_76 rfl (by unfold jRi; omega) (fun c130 => ?_) (fun c130 => ?_)
          · skip
            exfalso
            omega
          · skip
            refine jt_aload_n d_GM_area_79 rfl ?_
            refine jt_bipush d_GM_area_80 (by omega) ?_
            refine jt_iload_n d_GM_area_82 rfl ?_
            refine gct_call (Y := Y_GM_stop) (As := [.int (jI (-12)), .int (jI e)]) (rest := []) d_GM_area_83 GM_c164 yk_GM_stop yv_GM_stop rfl (Nat.le_of_ble_eq_true rfl) rfl rfl (Nat.le_of_ble_eq_true rfl) (c_GM_stop G _ m (-12) e J B) (fun rvq131 Iq131 Aq131 hq131 => ?_)
            obtain ⟨rfl, hIq131, hAq131⟩ := hq131
            rw [hIq131, hAq131]
            have p132 := gPo.I 5 (-12) hJ rfl (show -13 ≤ -12 ∧ -12 ≤ 0 by omega)
            have p133 := gPo.I 6 e p132 rfl (show -2147483648 ≤ e ∧ e ≤ 2147483647 by omega)
            show jt _ 86 [(0, .ref m), (1, .int (jI f)), (2, .int (jI e)), (3, .int (jI i)), (4, .long (jL v110))] [] (gmf m f0 (va_up (va_up J 5 (-12)) 6 e) B) _ _ _
            refine jt_goto (t := 150) d_GM_area_86 rfl ?_
            refine jt_iinc (L' := [(0, .ref m), (1, .int (jI f)), (2, .int (jI e)), (3, .int (jI (i + 1))), (4, .long (jL v110))]) d_GM_area_150 rfl (Nat.le_of_ble_eq_true rfl) rfl ?_
            refine jt_goto (t := 42) d_GM_area_153 rfl ?_
            refine jt_sub (L' := [(0, .ref m), (1, .int (jI f)), (2, .int (jI e)), (3, .int (jI (i + 1)))]) (fun _ h => List.mem_append_left [(4, Value.long (jL v110))] h) ?_
            exact ih (i + 1) (va_up (va_up J 5 (-12)) 6 e) B p133 (by omega) (by omega) (show -12 = 0 → I 12 ≤ 12 by omega) (by omega)
set_option maxRecDepth 100000 in
set_option maxHeartbeats 1000000 in
theorem w_GM_area (G : jG) (d m : Nat) (f : Int) (I : Nat → Int) (A : Nat → Int → Int) (hI : gSI I) (hA : gSA A) (hf : 0 ≤ f ∧ f ≤ 1) (hl : 0 ≤ I 12) (hz : I 5 = 0) : gct G Y_GM_area (d + 3) m [.int (jI f)] I A (fun (rv : Option Value) (I2 : Nat → Int) (A2 : Nat → Int → Int) => rv = none ∧ gPo [5, 6, 10] [39, 40, 41, 42, 43, 45] I A I2 A2) := by
  refine gct_of (by decide) (Nat.le_of_ble_eq_true rfl) (fun f0 sz => ?_)
  show jt _ 0 [(0, .ref m), (1, .int (jI f))] [] _ _ _ _
  have r4 : 0 ≤ I 4 ∧ I 4 ≤ 300 := hI 4
  have r5 : -13 ≤ I 5 ∧ I 5 ≤ 0 := hI 5
  have r12 : 0 ≤ I 12 ∧ I 12 ≤ 300 := hI 12
  have r11 : 0 ≤ I 11 ∧ I 11 ≤ 76 := hI 11
  have hz0 : gPo [5, 6, 10] [39, 40, 41, 42, 43, 45] I A I A := gPo.refl hI hA
  refine jt_aload_n d_GM_area_0 rfl ?_
  refine gm_gI (k := 4) (v := I 4) d_GM_area_1 GM_f22 (by decide) rfl ?_
  have rb1 : 0 ≤ I 4 ∧ I 4 ≤ 300 := hz0.1 4
  refine jt_iconst d_GM_area_4 ?_
  refine jt_isub d_GM_area_5 ?_
  refine jt_topi (fun v2 ev2 => ?_)
  refine jt_istore_n (L' := [(0, .ref m), (1, .int (jI f)), (2, .int (jI v2))]) d_GM_area_6 (Nat.le_of_ble_eq_true rfl) rfl ?_
  refine jt_aload_n d_GM_area_7 rfl ?_
  refine gm_gI (k := 15) (v := I 15) d_GM_area_8 GM_f55 (by decide) rfl ?_
  have rb3 : 0 ≤ I 15 ∧ I 15 ≤ 1 := hz0.1 15
  refine jt_if_eq (t := 24) d_GM_area_11 rfl (by unfold jRi; omega) (fun c4 => ?_) (fun c4 => ?_)
  · skip
    refine jt_aload_n d_GM_area_24 rfl ?_
    refine gm_gI (k := 12) (v := I 12) d_GM_area_25 GM_f46 (by decide) rfl ?_
    have rb5 : 0 ≤ I 12 ∧ I 12 ≤ 300 := hz0.1 12
    refine jt_bipush d_GM_area_28 (by omega) ?_
    refine jt_icmp_le (t := 40) d_GM_area_30 rfl (by unfold jRi; omega) (by unfold jRi; omega) (fun c6 => ?_) (fun c6 => ?_)
    · skip
      refine jt_iconst d_GM_area_40 ?_
      refine jt_istore_n (L' := [(0, .ref m), (1, .int (jI f)), (2, .int (jI v2)), (3, .int (jI 0))]) d_GM_area_41 (Nat.le_of_ble_eq_true rfl) rfl ?_
      exact l42_GM_areaw G d m f I A hI hA hf hl hz f0 sz v2 ((by omega)) 78 0 I A hz0 (by omega) (by omega) (show I 5 = 0 → I 12 ≤ 12 by omega) (by omega)
    · skip
      refine jt_aload_n d_GM_area_33 rfl ?_
      refine jt_bipush d_GM_area_34 (by omega) ?_
      refine jt_iload_n d_GM_area_36 rfl ?_
      refine gct_call (Y := Y_GM_stop) (As := [.int (jI (-7)), .int (jI v2)]) (rest := []) d_GM_area_37 GM_c164 yk_GM_stop yv_GM_stop rfl (Nat.le_of_ble_eq_true rfl) rfl rfl (Nat.le_of_ble_eq_true rfl) (c_GM_stop G _ m (-7) v2 I A) (fun rvq7 Iq7 Aq7 hq7 => ?_)
      obtain ⟨rfl, hIq7, hAq7⟩ := hq7
      rw [hIq7, hAq7]
      have p8 := gPo.I 5 (-7) hz0 rfl (show -13 ≤ -7 ∧ -7 ≤ 0 by omega)
      have p9 := gPo.I 6 v2 p8 rfl (show -2147483648 ≤ v2 ∧ v2 ≤ 2147483647 by omega)
      show jt _ 40 [(0, .ref m), (1, .int (jI f)), (2, .int (jI v2))] [] (gmf m f0 (va_up (va_up I 5 (-7)) 6 v2) A) _ _ _
      refine jt_iconst d_GM_area_40 ?_
      refine jt_istore_n (L' := [(0, .ref m), (1, .int (jI f)), (2, .int (jI v2)), (3, .int (jI 0))]) d_GM_area_41 (Nat.le_of_ble_eq_true rfl) rfl ?_
      exact l42_GM_areaw G d m f I A hI hA hf hl hz f0 sz v2 ((by omega)) 78 0 (va_up (va_up I 5 (-7)) 6 v2) A p9 (by omega) (by omega) (show -7 = 0 → I 12 ≤ 12 by omega) (by omega)
  · skip
    refine jt_aload_n d_GM_area_14 rfl ?_
    refine jt_bipush d_GM_area_15 (by omega) ?_
    refine jt_iload_n d_GM_area_17 rfl ?_
    refine gct_call (Y := Y_GM_stop) (As := [.int (jI (-9)), .int (jI v2)]) (rest := []) d_GM_area_18 GM_c164 yk_GM_stop yv_GM_stop rfl (Nat.le_of_ble_eq_true rfl) rfl rfl (Nat.le_of_ble_eq_true rfl) (c_GM_stop G _ m (-9) v2 I A) (fun rvq10 Iq10 Aq10 hq10 => ?_)
    obtain ⟨rfl, hIq10, hAq10⟩ := hq10
    rw [hIq10, hAq10]
    have p11 := gPo.I 5 (-9) hz0 rfl (show -13 ≤ -9 ∧ -9 ≤ 0 by omega)
    have p12 := gPo.I 6 v2 p11 rfl (show -2147483648 ≤ v2 ∧ v2 ≤ 2147483647 by omega)
    show jt _ 21 [(0, .ref m), (1, .int (jI f)), (2, .int (jI v2))] [] (gmf m f0 (va_up (va_up I 5 (-9)) 6 v2) A) _ _ _
    refine jt_goto (t := 40) d_GM_area_21 rfl ?_
    refine jt_iconst d_GM_area_40 ?_
    refine jt_istore_n (L' := [(0, .ref m), (1, .int (jI f)), (2, .int (jI v2)), (3, .int (jI 0))]) d_GM_area_41 (Nat.le_of_ble_eq_true rfl) rfl ?_
    exact l42_GM_areaw G d m f I A hI hA hf hl hz f0 sz v2 ((by omega)) 78 0 (va_up (va_up I 5 (-9)) 6 v2) A p12 (by omega) (by omega) (show -9 = 0 → I 12 ≤ 12 by omega) (by omega)
set_option maxRecDepth 100000 in
set_option maxHeartbeats 1000000 in
theorem l122_GM_pathw (G : jG) (d m : Nat) (f : Int) (I : Nat → Int) (A : Nat → Int → Int) (hT : gT I A) (hI : gSI I) (hA : gSA A) (hf : 0 ≤ f ∧ f ≤ 1) (hw : I 4 < I 1) (he : I 5 = 0) (h13 : I 13 = 0) (f0 : jF) (sz : Nat) (b : Int) (b0 : 0 ≤ b ∧ b ≤ 1) (K12 : Int) (P4 : Int) (kp : 1 ≤ K12 ∧ K12 ≤ P4 + 1) (hout : ∀ (i : Int) (J : Nat → Int) (B : Nat → Int → Int), gPo [4, 5, 6, 9, 10, 11, 12, 13, 14, 15] [35, 36, 37, 38, 39, 40, 41, 42, 43, 44, 45] I A J B → (J 12 = K12) → (0 ≤ J 11 ∧ J 11 ≤ 74) → (J 12 ≤ 12 → J 11 ≤ 2 + 6 * (J 12 - 1) + 2 * i) → (J 5 = 0 → I 5 = 0 ∧ J 13 = 0 ∧ I 4 < J 4 ∧ P4 + i ≤ J 4) → (0 ≤ i ∧ i ≤ 3 ∧ (b = 0 → i ≤ 1)) → (J 5 = 0 → 1 ≤ i) → jt (jm G Y_GM_path (gR (d + 6)) (gQ m f0 sz (fun (rv : Option Value) (I2 : Nat → Int) (A2 : Nat → Int → Int) => rv = none ∧ gPo [4, 5, 6, 9, 10, 11, 12, 13, 14, 15] [35, 36, 37, 38, 39, 40, 41, 42, 43, 44, 45] I A I2 A2 ∧ (I2 5 = 0 → I 4 < I2 4)))) 201 [(0, .ref m), (1, .int (jI f)), (2, .int (jI b)), (3, .int (jI i))] [] (gmf m f0 J B) sz 0 0) : ∀ (n9 : Nat) (i : Int) (J : Nat → Int) (B : Nat → Int → Int), gPo [4, 5, 6, 9, 10, 11, 12, 13, 14, 15] [35, 36, 37, 38, 39, 40, 41, 42, 43, 44, 45] I A J B → (J 12 = K12) → (0 ≤ J 11 ∧ J 11 ≤ 74) → (J 12 ≤ 12 → J 11 ≤ 2 + 6 * (J 12 - 1) + 2 * i) → (J 5 = 0 → I 5 = 0 ∧ J 13 = 0 ∧ I 4 < J 4 ∧ P4 + i ≤ J 4) → (0 ≤ i ∧ i ≤ 3 ∧ (b = 0 → i ≤ 1)) → 4 - i < (n9 : Int) → jt (jm G Y_GM_path (gR (d + 6)) (gQ m f0 sz (fun (rv : Option Value) (I2 : Nat → Int) (A2 : Nat → Int → Int) => rv = none ∧ gPo [4, 5, 6, 9, 10, 11, 12, 13, 14, 15] [35, 36, 37, 38, 39, 40, 41, 42, 43, 44, 45] I A I2 A2 ∧ (I2 5 = 0 → I 4 < I2 4)))) 122 [(0, .ref m), (1, .int (jI f)), (2, .int (jI b)), (3, .int (jI i))] [] (gmf m f0 J B) sz 0 0 := by
  have r4 : 0 ≤ I 4 ∧ I 4 ≤ 300 := hI 4
  have r5 : -13 ≤ I 5 ∧ I 5 ≤ 0 := hI 5
  have r13 : 0 ≤ I 13 ∧ I 13 ≤ 320 := hI 13
  have t0 := hT.1
  have t1 := hT.2.1
  intro n9
  induction n9 with
  | zero =>
    intro i J B hJ l0 q0 q1 k5 i0 hmeas
    have q4 : 0 ≤ J 4 ∧ J 4 ≤ 300 := hJ.1 4
    have q5 : -13 ≤ J 5 ∧ J 5 ≤ 0 := hJ.1 5
    have q12 : 0 ≤ J 12 ∧ J 12 ≤ 300 := hJ.1 12
    have q13 : 0 ≤ J 13 ∧ J 13 ≤ 320 := hJ.1 13
    exfalso
    omega
  | succ n9 ih =>
    intro i J B hJ l0 q0 q1 k5 i0 hmeas
    have f1 : J 1 = I 1 := hJ.2.2.1 1 rfl
    have q4 : 0 ≤ J 4 ∧ J 4 ≤ 300 := hJ.1 4
    have q5 : -13 ≤ J 5 ∧ J 5 ≤ 0 := hJ.1 5
    have q12 : 0 ≤ J 12 ∧ J 12 ≤ 300 := hJ.1 12
    have q13 : 0 ≤ J 13 ∧ J 13 ≤ 320 := hJ.1 13
    refine jt_iload_n d_GM_path_122 rfl ?_
    refine jt_iload_n d_GM_path_123 rfl ?_
    refine jt_if_eq (t := 131) d_GM_path_124 rfl (by unfold jRi; omega) (fun c101 => ?_) (fun c101 => ?_)
    · skip
      refine jt_iconst d_GM_path_131 ?_
      refine jt_icmp_ge (t := 201) d_GM_path_132 rfl (by unfold jRi; omega) (by unfold jRi; omega) (fun c102 => ?_) (fun c102 => ?_)
      · skip
        exact hout i J B hJ l0 q0 q1 k5 i0 (by omega)
      · skip
        refine jt_aload_n d_GM_path_135 rfl ?_
        refine gm_gI (k := 5) (v := J 5) d_GM_path_136 GM_f25 (by decide) rfl ?_
        have rb103 : -13 ≤ J 5 ∧ J 5 ≤ 0 := hJ.1 5
        refine jt_if_ne (t := 201) d_GM_path_139 rfl (by unfold jRi; omega) (fun c104 => ?_) (fun c104 => ?_)
        · skip
          exact hout i J B hJ l0 q0 q1 k5 i0 (by omega)
        · skip
          refine jt_aload_n d_GM_path_142 rfl ?_
          refine jt_iload_n d_GM_path_143 rfl ?_
          refine jt_if_eq (t := 152) d_GM_path_144 rfl (by unfold jRi; omega) (fun c105 => ?_) (fun c105 => ?_)
          · skip
            refine jt_bipush d_GM_path_152 (by omega) ?_
            refine gct_call (Y := Y_GM_word) (As := [.int (jI 8)]) (rest := []) d_GM_path_154 GM_c201 yk_GM_word yv_GM_word rfl (Nat.le_of_ble_eq_true rfl) rfl rfl (Nat.le_of_ble_eq_true rfl) (c_GM_word G _ m 8 J B (gP_of hJ.1 (gT_of hJ hT rfl rfl rfl)) (by unfold jRi; omega)) (fun rvq106 Iq106 Aq106 hq106 => ?_)
            obtain ⟨haq106, hbq106, hIq106, hAq106⟩ := hq106
            rw [hIq106, hAq106]
            by_cases gq106 : (J 4) < J 1 ∧ B 22 (J 4) = 4 ∧ B 23 (J 4) = 8
            · skip
              obtain rfl := haq106 gq106
              have tq106 : J 1 ≤ 300 := (gT_of hJ hT rfl rfl rfl).2.1
              clear haq106 hbq106 hIq106 hAq106
              show jt _ 157 [(0, .ref m), (1, .int (jI f)), (2, .int (jI b)), (3, .int (jI i))] [.int (jI 1)] (gmf m f0 J B) _ _ _
              refine jt_if_eq (t := 173) d_GM_path_157 rfl (by unfold jRi; omega) (fun c107 => ?_) (fun c107 => ?_)
              · skip
                exfalso
                omega
              · skip
                refine jt_aload_n d_GM_path_160 rfl ?_
                refine jt_dup d_GM_path_161 rfl ?_
                refine gm_gI (k := 4) (v := J 4) d_GM_path_162 GM_f22 (by decide) rfl ?_
                have rb108 : 0 ≤ J 4 ∧ J 4 ≤ 300 := hJ.1 4
                refine jt_iconst d_GM_path_165 ?_
                refine jt_iadd d_GM_path_166 ?_
                refine jt_topi (fun v109 ev109 => ?_)
                refine gm_pI (k := 4) (v := v109) (J := va_up J 4 v109) d_GM_path_167 (GM_w22 _ rfl) (by decide) rfl rfl rfl ?_
                have p110 := gPo.I 4 v109 hJ rfl (show 0 ≤ v109 ∧ v109 ≤ 300 by omega)
                refine jt_goto (t := 184) d_GM_path_170 rfl ?_
                refine jt_aload_n d_GM_path_184 rfl ?_
                refine gm_gI (k := 5) (v := J 5) d_GM_path_185 GM_f25 (by decide) rfl ?_
                refine jt_if_ne (t := 195) d_GM_path_188 rfl (by unfold jRi; omega) (fun c111 => ?_) (fun c111 => ?_)
                · skip
                  refine jt_iinc (L' := [(0, .ref m), (1, .int (jI f)), (2, .int (jI b)), (3, .int (jI (i + 1)))]) d_GM_path_195 rfl (Nat.le_of_ble_eq_true rfl) rfl ?_
                  refine jt_goto (t := 122) d_GM_path_198 rfl ?_
                  exact ih (i + 1) (va_up J 4 v109) B p110 (show J 12 = K12 by omega) (show 0 ≤ J 11 ∧ J 11 ≤ 74 by omega) (show J 12 ≤ 12 → J 11 ≤ 2 + 6 * (J 12 - 1) + 2 * (i + 1) by omega) (show J 5 = 0 → I 5 = 0 ∧ J 13 = 0 ∧ I 4 < v109 ∧ P4 + (i + 1) ≤ v109 by omega) (show 0 ≤ (i + 1) ∧ (i + 1) ≤ 3 ∧ (b = 0 → (i + 1) ≤ 1) by omega) (by omega)
                · skip
                  refine jt_aload_n d_GM_path_191 rfl ?_
                  refine gct_call (Y := Y_GM_pair) (As := []) (rest := []) d_GM_path_192 GM_c253 yk_GM_pair yv_GM_pair rfl (Nat.le_of_ble_eq_true rfl) rfl rfl (Nat.le_of_ble_eq_true rfl) (w_GM_pair G _ m  (va_up J 4 v109) B (gT_of p110 hT rfl rfl rfl) p110.1 p110.2.1 (show 0 ≤ J 11 ∧ J 11 ≤ 74 by omega) (fun z => by have z5 : J 5 = 0 := z; show J 13 = 0; omega)) (fun rvq112 Iq112 Aq112 hq112 => ?_)
                  obtain ⟨rfl, hqq112, hxq112⟩ := hq112
                  have hpq112 := gPo.trans p110 hqq112 rfl rfl
                  have f1q112 : Iq112 1 = I 1 := hpq112.2.2.1 1 rfl
                  have s4q112 : (va_up J 4 v109) 4 = v109 := rfl
                  have s5q112 : (va_up J 4 v109) 5 = J 5 := rfl
                  have s11q112 : (va_up J 4 v109) 11 = J 11 := rfl
                  have s12q112 : (va_up J 4 v109) 12 = J 12 := rfl
                  have s13q112 : (va_up J 4 v109) 13 = J 13 := rfl
                  have m12q112 : Iq112 12 = J 12 := hqq112.2.2.1 12 rfl
                  show jt _ 195 [(0, .ref m), (1, .int (jI f)), (2, .int (jI b)), (3, .int (jI i))] [] (gmf m f0 Iq112 Aq112) _ _ _
                  refine jt_iinc (L' := [(0, .ref m), (1, .int (jI f)), (2, .int (jI b)), (3, .int (jI (i + 1)))]) d_GM_path_195 rfl (Nat.le_of_ble_eq_true rfl) rfl ?_
                  refine jt_goto (t := 122) d_GM_path_198 rfl ?_
                  exact ih (i + 1) Iq112 Aq112 hpq112 (show Iq112 12 = K12 by omega) (show 0 ≤ Iq112 11 ∧ Iq112 11 ≤ 74 by omega) (show Iq112 12 ≤ 12 → Iq112 11 ≤ 2 + 6 * (Iq112 12 - 1) + 2 * (i + 1) by omega) (show Iq112 5 = 0 → I 5 = 0 ∧ Iq112 13 = 0 ∧ I 4 < Iq112 4 ∧ P4 + (i + 1) ≤ Iq112 4 by omega) (show 0 ≤ (i + 1) ∧ (i + 1) ≤ 3 ∧ (b = 0 → (i + 1) ≤ 1) by omega) (by omega)
            · skip
              obtain rfl := hbq106 gq106
              clear haq106 hbq106 hIq106 hAq106
              clear gq106
              show jt _ 157 [(0, .ref m), (1, .int (jI f)), (2, .int (jI b)), (3, .int (jI i))] [.int (jI 0)] (gmf m f0 J B) _ _ _
              refine jt_if_eq (t := 173) d_GM_path_157 rfl (by unfold jRi; omega) (fun c113 => ?_) (fun c113 => ?_)
              · skip
                refine jt_aload_n d_GM_path_173 rfl ?_
                refine gm_gI (k := 5) (v := J 5) d_GM_path_174 GM_f25 (by decide) rfl ?_
                refine jt_if_ne (t := 184) d_GM_path_177 rfl (by unfold jRi; omega) (fun c114 => ?_) (fun c114 => ?_)
                · skip
                  refine jt_aload_n d_GM_path_184 rfl ?_
                  refine gm_gI (k := 5) (v := J 5) d_GM_path_185 GM_f25 (by decide) rfl ?_
                  refine jt_if_ne (t := 195) d_GM_path_188 rfl (by unfold jRi; omega) (fun c115 => ?_) (fun c115 => ?_)
                  · skip
                    refine jt_iinc (L' := [(0, .ref m), (1, .int (jI f)), (2, .int (jI b)), (3, .int (jI (i + 1)))]) d_GM_path_195 rfl (Nat.le_of_ble_eq_true rfl) rfl ?_
                    refine jt_goto (t := 122) d_GM_path_198 rfl ?_
                    exact ih (i + 1) J B hJ (show J 12 = K12 by omega) (show 0 ≤ J 11 ∧ J 11 ≤ 74 by omega) (show J 12 ≤ 12 → J 11 ≤ 2 + 6 * (J 12 - 1) + 2 * (i + 1) by omega) (show J 5 = 0 → I 5 = 0 ∧ J 13 = 0 ∧ I 4 < J 4 ∧ P4 + (i + 1) ≤ J 4 by omega) (show 0 ≤ (i + 1) ∧ (i + 1) ≤ 3 ∧ (b = 0 → (i + 1) ≤ 1) by omega) (by omega)
                  · skip
                    refine jt_aload_n d_GM_path_191 rfl ?_
                    refine gct_call (Y := Y_GM_pair) (As := []) (rest := []) d_GM_path_192 GM_c253 yk_GM_pair yv_GM_pair rfl (Nat.le_of_ble_eq_true rfl) rfl rfl (Nat.le_of_ble_eq_true rfl) (w_GM_pair G _ m  J B (gT_of hJ hT rfl rfl rfl) hJ.1 hJ.2.1 (show 0 ≤ J 11 ∧ J 11 ≤ 74 by omega) (fun z => by have z5 : J 5 = 0 := z; show J 13 = 0; omega)) (fun rvq116 Iq116 Aq116 hq116 => ?_)
                    obtain ⟨rfl, hqq116, hxq116⟩ := hq116
                    have hpq116 := gPo.trans hJ hqq116 rfl rfl
                    have f1q116 : Iq116 1 = I 1 := hpq116.2.2.1 1 rfl
                    have m12q116 : Iq116 12 = J 12 := hqq116.2.2.1 12 rfl
                    show jt _ 195 [(0, .ref m), (1, .int (jI f)), (2, .int (jI b)), (3, .int (jI i))] [] (gmf m f0 Iq116 Aq116) _ _ _
                    refine jt_iinc (L' := [(0, .ref m), (1, .int (jI f)), (2, .int (jI b)), (3, .int (jI (i + 1)))]) d_GM_path_195 rfl (Nat.le_of_ble_eq_true rfl) rfl ?_
                    refine jt_goto (t := 122) d_GM_path_198 rfl ?_
                    exact ih (i + 1) Iq116 Aq116 hpq116 (show Iq116 12 = K12 by omega) (show 0 ≤ Iq116 11 ∧ Iq116 11 ≤ 74 by omega) (show Iq116 12 ≤ 12 → Iq116 11 ≤ 2 + 6 * (Iq116 12 - 1) + 2 * (i + 1) by omega) (show Iq116 5 = 0 → I 5 = 0 ∧ Iq116 13 = 0 ∧ I 4 < Iq116 4 ∧ P4 + (i + 1) ≤ Iq116 4 by omega) (show 0 ≤ (i + 1) ∧ (i + 1) ≤ 3 ∧ (b = 0 → (i + 1) ≤ 1) by omega) (by omega)
                · skip
                  refine jt_aload_n d_GM_path_180 rfl ?_
                  refine gct_call (Y := Y_GM_syntax) (As := []) (rest := []) d_GM_path_181 GM_c205 yk_GM_syntax yv_GM_syntax rfl (Nat.le_of_ble_eq_true rfl) rfl rfl (Nat.le_of_ble_eq_true rfl) (w_GM_syntax G _ m  J B hJ.1 hJ.2.1 ) (fun rvq117 Iq117 Aq117 hq117 => ?_)
                  obtain ⟨rfl, hqq117, hxq117⟩ := hq117
                  have hpq117 := gPo.trans hJ hqq117 rfl rfl
                  have f1q117 : Iq117 1 = I 1 := hpq117.2.2.1 1 rfl
                  have m4q117 : Iq117 4 = J 4 := hqq117.2.2.1 4 rfl
                  have m11q117 : Iq117 11 = J 11 := hqq117.2.2.1 11 rfl
                  have m12q117 : Iq117 12 = J 12 := hqq117.2.2.1 12 rfl
                  have m13q117 : Iq117 13 = J 13 := hqq117.2.2.1 13 rfl
                  show jt _ 184 [(0, .ref m), (1, .int (jI f)), (2, .int (jI b)), (3, .int (jI i))] [] (gmf m f0 Iq117 Aq117) _ _ _
                  refine jt_aload_n d_GM_path_184 rfl ?_
                  refine gm_gI (k := 5) (v := Iq117 5) d_GM_path_185 GM_f25 (by decide) rfl ?_
                  have rb118 : -13 ≤ Iq117 5 ∧ Iq117 5 ≤ 0 := hpq117.1 5
                  refine jt_if_ne (t := 195) d_GM_path_188 rfl (by unfold jRi; omega) (fun c119 => ?_) (fun c119 => ?_)
                  · skip
                    refine jt_iinc (L' := [(0, .ref m), (1, .int (jI f)), (2, .int (jI b)), (3, .int (jI (i + 1)))]) d_GM_path_195 rfl (Nat.le_of_ble_eq_true rfl) rfl ?_
                    refine jt_goto (t := 122) d_GM_path_198 rfl ?_
                    exact ih (i + 1) Iq117 Aq117 hpq117 (show Iq117 12 = K12 by omega) (show 0 ≤ Iq117 11 ∧ Iq117 11 ≤ 74 by omega) (show Iq117 12 ≤ 12 → Iq117 11 ≤ 2 + 6 * (Iq117 12 - 1) + 2 * (i + 1) by omega) (show Iq117 5 = 0 → I 5 = 0 ∧ Iq117 13 = 0 ∧ I 4 < Iq117 4 ∧ P4 + (i + 1) ≤ Iq117 4 by omega) (show 0 ≤ (i + 1) ∧ (i + 1) ≤ 3 ∧ (b = 0 → (i + 1) ≤ 1) by omega) (by omega)
                  · skip
                    refine jt_aload_n d_GM_path_191 rfl ?_
                    refine gct_call (Y := Y_GM_pair) (As := []) (rest := []) d_GM_path_192 GM_c253 yk_GM_pair yv_GM_pair rfl (Nat.le_of_ble_eq_true rfl) rfl rfl (Nat.le_of_ble_eq_true rfl) (w_GM_pair G _ m  Iq117 Aq117 (gT_of hpq117 hT rfl rfl rfl) hpq117.1 hpq117.2.1 (show 0 ≤ Iq117 11 ∧ Iq117 11 ≤ 74 by omega) (fun z => by have z5 : Iq117 5 = 0 := z; show Iq117 13 = 0; omega)) (fun rvq120 Iq120 Aq120 hq120 => ?_)
                    obtain ⟨rfl, hqq120, hxq120⟩ := hq120
                    have hpq120 := gPo.trans hpq117 hqq120 rfl rfl
                    have f1q120 : Iq120 1 = I 1 := hpq120.2.2.1 1 rfl
                    have m12q120 : Iq120 12 = Iq117 12 := hqq120.2.2.1 12 rfl
                    show jt _ 195 [(0, .ref m), (1, .int (jI f)), (2, .int (jI b)), (3, .int (jI i))] [] (gmf m f0 Iq120 Aq120) _ _ _
                    refine jt_iinc (L' := [(0, .ref m), (1, .int (jI f)), (2, .int (jI b)), (3, .int (jI (i + 1)))]) d_GM_path_195 rfl (Nat.le_of_ble_eq_true rfl) rfl ?_
                    refine jt_goto (t := 122) d_GM_path_198 rfl ?_
                    exact ih (i + 1) Iq120 Aq120 hpq120 (show Iq120 12 = K12 by omega) (show 0 ≤ Iq120 11 ∧ Iq120 11 ≤ 74 by omega) (show Iq120 12 ≤ 12 → Iq120 11 ≤ 2 + 6 * (Iq120 12 - 1) + 2 * (i + 1) by omega) (show Iq120 5 = 0 → I 5 = 0 ∧ Iq120 13 = 0 ∧ I 4 < Iq120 4 ∧ P4 + (i + 1) ≤ Iq120 4 by omega) (show 0 ≤ (i + 1) ∧ (i + 1) ≤ 3 ∧ (b = 0 → (i + 1) ≤ 1) by omega) (by omega)
              · skip
                exfalso
                omega
          · skip
            refine jt_bipush d_GM_path_147 (by omega) ?_
            refine jt_goto (t := 154) d_GM_path_149 rfl ?_
            refine gct_call (Y := Y_GM_word) (As := [.int (jI 7)]) (rest := []) d_GM_path_154 GM_c201 yk_GM_word yv_GM_word rfl (Nat.le_of_ble_eq_true rfl) rfl rfl (Nat.le_of_ble_eq_true rfl) (c_GM_word G _ m 7 J B (gP_of hJ.1 (gT_of hJ hT rfl rfl rfl)) (by unfold jRi; omega)) (fun rvq121 Iq121 Aq121 hq121 => ?_)
            obtain ⟨haq121, hbq121, hIq121, hAq121⟩ := hq121
            rw [hIq121, hAq121]
            by_cases gq121 : (J 4) < J 1 ∧ B 22 (J 4) = 4 ∧ B 23 (J 4) = 7
            · skip
              obtain rfl := haq121 gq121
              have tq121 : J 1 ≤ 300 := (gT_of hJ hT rfl rfl rfl).2.1
              clear haq121 hbq121 hIq121 hAq121
              show jt _ 157 [(0, .ref m), (1, .int (jI f)), (2, .int (jI b)), (3, .int (jI i))] [.int (jI 1)] (gmf m f0 J B) _ _ _
              refine jt_if_eq (t := 173) d_GM_path_157 rfl (by unfold jRi; omega) (fun c122 => ?_) (fun c122 => ?_)
              · skip
                exfalso
                omega
              · skip
                refine jt_aload_n d_GM_path_160 rfl ?_
                refine jt_dup d_GM_path_161 rfl ?_
                refine gm_gI (k := 4) (v := J 4) d_GM_path_162 GM_f22 (by decide) rfl ?_
                have rb123 : 0 ≤ J 4 ∧ J 4 ≤ 300 := hJ.1 4
                refine jt_iconst d_GM_path_165 ?_
                refine jt_iadd d_GM_path_166 ?_
                refine jt_topi (fun v124 ev124 => ?_)
                refine gm_pI (k := 4) (v := v124) (J := va_up J 4 v124) d_GM_path_167 (GM_w22 _ rfl) (by decide) rfl rfl rfl ?_
                have p125 := gPo.I 4 v124 hJ rfl (show 0 ≤ v124 ∧ v124 ≤ 300 by omega)
                refine jt_goto (t := 184) d_GM_path_170 rfl ?_
                refine jt_aload_n d_GM_path_184 rfl ?_
                refine gm_gI (k := 5) (v := J 5) d_GM_path_185 GM_f25 (by decide) rfl ?_
                refine jt_if_ne (t := 195) d_GM_path_188 rfl (by unfold jRi; omega) (fun c126 => ?_) (fun c126 => ?_)
                · skip
                  refine jt_iinc (L' := [(0, .ref m), (1, .int (jI f)), (2, .int (jI b)), (3, .int (jI (i + 1)))]) d_GM_path_195 rfl (Nat.le_of_ble_eq_true rfl) rfl ?_
                  refine jt_goto (t := 122) d_GM_path_198 rfl ?_
                  exact ih (i + 1) (va_up J 4 v124) B p125 (show J 12 = K12 by omega) (show 0 ≤ J 11 ∧ J 11 ≤ 74 by omega) (show J 12 ≤ 12 → J 11 ≤ 2 + 6 * (J 12 - 1) + 2 * (i + 1) by omega) (show J 5 = 0 → I 5 = 0 ∧ J 13 = 0 ∧ I 4 < v124 ∧ P4 + (i + 1) ≤ v124 by omega) (show 0 ≤ (i + 1) ∧ (i + 1) ≤ 3 ∧ (b = 0 → (i + 1) ≤ 1) by omega) (by omega)
                · skip
                  refine jt_aload_n d_GM_path_191 rfl ?_
                  refine gct_call (Y := Y_GM_pair) (As := []) (rest := []) d_GM_path_192 GM_c253 yk_GM_pair yv_GM_pair rfl (Nat.le_of_ble_eq_true rfl) rfl rfl (Nat.le_of_ble_eq_true rfl) (w_GM_pair G _ m  (va_up J 4 v124) B (gT_of p125 hT rfl rfl rfl) p125.1 p125.2.1 (show 0 ≤ J 11 ∧ J 11 ≤ 74 by omega) (fun z => by have z5 : J 5 = 0 := z; show J 13 = 0; omega)) (fun rvq127 Iq127 Aq127 hq127 => ?_)
                  obtain ⟨rfl, hqq127, hxq127⟩ := hq127
                  have hpq127 := gPo.trans p125 hqq127 rfl rfl
                  have f1q127 : Iq127 1 = I 1 := hpq127.2.2.1 1 rfl
                  have s4q127 : (va_up J 4 v124) 4 = v124 := rfl
                  have s5q127 : (va_up J 4 v124) 5 = J 5 := rfl
                  have s11q127 : (va_up J 4 v124) 11 = J 11 := rfl
                  have s12q127 : (va_up J 4 v124) 12 = J 12 := rfl
                  have s13q127 : (va_up J 4 v124) 13 = J 13 := rfl
                  have m12q127 : Iq127 12 = J 12 := hqq127.2.2.1 12 rfl
                  show jt _ 195 [(0, .ref m), (1, .int (jI f)), (2, .int (jI b)), (3, .int (jI i))] [] (gmf m f0 Iq127 Aq127) _ _ _
                  refine jt_iinc (L' := [(0, .ref m), (1, .int (jI f)), (2, .int (jI b)), (3, .int (jI (i + 1)))]) d_GM_path_195 rfl (Nat.le_of_ble_eq_true rfl) rfl ?_
                  refine jt_goto (t := 122) d_GM_path_198 rfl ?_
                  exact ih (i + 1) Iq127 Aq127 hpq127 (show Iq127 12 = K12 by omega) (show 0 ≤ Iq127 11 ∧ Iq127 11 ≤ 74 by omega) (show Iq127 12 ≤ 12 → Iq127 11 ≤ 2 + 6 * (Iq127 12 - 1) + 2 * (i + 1) by omega) (show Iq127 5 = 0 → I 5 = 0 ∧ Iq127 13 = 0 ∧ I 4 < Iq127 4 ∧ P4 + (i + 1) ≤ Iq127 4 by omega) (show 0 ≤ (i + 1) ∧ (i + 1) ≤ 3 ∧ (b = 0 → (i + 1) ≤ 1) by omega) (by omega)
            · skip
              obtain rfl := hbq121 gq121
              clear haq121 hbq121 hIq121 hAq121
              clear gq121
              show jt _ 157 [(0, .ref m), (1, .int (jI f)), (2, .int (jI b)), (3, .int (jI i))] [.int (jI 0)] (gmf m f0 J B) _ _ _
              refine jt_if_eq (t := 173) d_GM_path_157 rfl (by unfold jRi; omega) (fun c128 => ?_) (fun c128 => ?_)
              · skip
                refine jt_aload_n d_GM_path_173 rfl ?_
                refine gm_gI (k := 5) (v := J 5) d_GM_path_174 GM_f25 (by decide) rfl ?_
                refine jt_if_ne (t := 184) d_GM_path_177 rfl (by unfold jRi; omega) (fun c129 => ?_) (fun c129 => ?_)
                · skip
                  refine jt_aload_n d_GM_path_184 rfl ?_
                  refine gm_gI (k := 5) (v := J 5) d_GM_path_185 GM_f25 (by decide) rfl ?_
                  refine jt_if_ne (t := 195) d_GM_path_188 rfl (by unfold jRi; omega) (fun c130 => ?_) (fun c130 => ?_)
                  · skip
                    refine jt_iinc (L' := [(0, .ref m), (1, .int (jI f)), (2, .int (jI b)), (3, .int (jI (i + 1)))]) d_GM_path_195 rfl (Nat.le_of_ble_eq_true rfl) rfl ?_
                    refine jt_goto (t := 122) d_GM_path_198 rfl ?_
                    exact ih (i + 1) J B hJ (show J 12 = K12 by omega) (show 0 ≤ J 11 ∧ J 11 ≤ 74 by omega) (show J 12 ≤ 12 → J 11 ≤ 2 + 6 * (J 12 - 1) + 2 * (i + 1) by omega) (show J 5 = 0 → I 5 = 0 ∧ J 13 = 0 ∧ I 4 < J 4 ∧ P4 + (i + 1) ≤ J 4 by omega) (show 0 ≤ (i + 1) ∧ (i + 1) ≤ 3 ∧ (b = 0 → (i + 1) ≤ 1) by omega) (by omega)
                  · skip
                    refine jt_aload_n d_GM_path_191 rfl ?_
                    refine gct_call (Y := Y_GM_pair) (As := []) (rest := []) d_GM_path_192 GM_c253 yk_GM_pair yv_GM_pair rfl (Nat.le_of_ble_eq_true rfl) rfl rfl (Nat.le_of_ble_eq_true rfl) (w_GM_pair G _ m  J B (gT_of hJ hT rfl rfl rfl) hJ.1 hJ.2.1 (show 0 ≤ J 11 ∧ J 11 ≤ 74 by omega) (fun z => by have z5 : J 5 = 0 := z; show J 13 = 0; omega)) (fun rvq131 Iq131 Aq131 hq131 => ?_)
                    obtain ⟨rfl, hqq131, hxq131⟩ := hq131
                    have hpq131 := gPo.trans hJ hqq131 rfl rfl
                    have f1q131 : Iq131 1 = I 1 := hpq131.2.2.1 1 rfl
                    have m12q131 : Iq131 12 = J 12 := hqq131.2.2.1 12 rfl
                    show jt _ 195 [(0, .ref m), (1, .int (jI f)), (2, .int (jI b)), (3, .int (jI i))] [] (gmf m f0 Iq131 Aq131) _ _ _
                    refine jt_iinc (L' := [(0, .ref m), (1, .int (jI f)), (2, .int (jI b)), (3, .int (jI (i + 1)))]) d_GM_path_195 rfl (Nat.le_of_ble_eq_true rfl) rfl ?_
                    refine jt_goto (t := 122) d_GM_path_198 rfl ?_
                    exact ih (i + 1) Iq131 Aq131 hpq131 (show Iq131 12 = K12 by omega) (show 0 ≤ Iq131 11 ∧ Iq131 11 ≤ 74 by omega) (show Iq131 12 ≤ 12 → Iq131 11 ≤ 2 + 6 * (Iq131 12 - 1) + 2 * (i + 1) by omega) (show Iq131 5 = 0 → I 5 = 0 ∧ Iq131 13 = 0 ∧ I 4 < Iq131 4 ∧ P4 + (i + 1) ≤ Iq131 4 by omega) (show 0 ≤ (i + 1) ∧ (i + 1) ≤ 3 ∧ (b = 0 → (i + 1) ≤ 1) by omega) (by omega)
                · skip
                  refine jt_aload_n d_GM_path_180 rfl ?_
                  refine gct_call (Y := Y_GM_syntax) (As := []) (rest := []) d_GM_path_181 GM_c205 yk_GM_syntax yv_GM_syntax rfl (Nat.le_of_ble_eq_true rfl) rfl rfl (Nat.le_of_ble_eq_true rfl) (w_GM_syntax G _ m  J B hJ.1 hJ.2.1 ) (fun rvq132 Iq132 Aq132 hq132 => ?_)
                  obtain ⟨rfl, hqq132, hxq132⟩ := hq132
                  have hpq132 := gPo.trans hJ hqq132 rfl rfl
                  have f1q132 : Iq132 1 = I 1 := hpq132.2.2.1 1 rfl
                  have m4q132 : Iq132 4 = J 4 := hqq132.2.2.1 4 rfl
                  have m11q132 : Iq132 11 = J 11 := hqq132.2.2.1 11 rfl
                  have m12q132 : Iq132 12 = J 12 := hqq132.2.2.1 12 rfl
                  have m13q132 : Iq132 13 = J 13 := hqq132.2.2.1 13 rfl
                  show jt _ 184 [(0, .ref m), (1, .int (jI f)), (2, .int (jI b)), (3, .int (jI i))] [] (gmf m f0 Iq132 Aq132) _ _ _
                  refine jt_aload_n d_GM_path_184 rfl ?_
                  refine gm_gI (k := 5) (v := Iq132 5) d_GM_path_185 GM_f25 (by decide) rfl ?_
                  have rb133 : -13 ≤ Iq132 5 ∧ Iq132 5 ≤ 0 := hpq132.1 5
                  refine jt_if_ne (t := 195) d_GM_path_188 rfl (by unfold jRi; omega) (fun c134 => ?_) (fun c134 => ?_)
                  · skip
                    refine jt_iinc (L' := [(0, .ref m), (1, .int (jI f)), (2, .int (jI b)), (3, .int (jI (i + 1)))]) d_GM_path_195 rfl (Nat.le_of_ble_eq_true rfl) rfl ?_
                    refine jt_goto (t := 122) d_GM_path_198 rfl ?_
                    exact ih (i + 1) Iq132 Aq132 hpq132 (show Iq132 12 = K12 by omega) (show 0 ≤ Iq132 11 ∧ Iq132 11 ≤ 74 by omega) (show Iq132 12 ≤ 12 → Iq132 11 ≤ 2 + 6 * (Iq132 12 - 1) + 2 * (i + 1) by omega) (show Iq132 5 = 0 → I 5 = 0 ∧ Iq132 13 = 0 ∧ I 4 < Iq132 4 ∧ P4 + (i + 1) ≤ Iq132 4 by omega) (show 0 ≤ (i + 1) ∧ (i + 1) ≤ 3 ∧ (b = 0 → (i + 1) ≤ 1) by omega) (by omega)
                  · skip
                    refine jt_aload_n d_GM_path_191 rfl ?_
                    refine gct_call (Y := Y_GM_pair) (As := []) (rest := []) d_GM_path_192 GM_c253 yk_GM_pair yv_GM_pair rfl (Nat.le_of_ble_eq_true rfl) rfl rfl (Nat.le_of_ble_eq_true rfl) (w_GM_pair G _ m  Iq132 Aq132 (gT_of hpq132 hT rfl rfl rfl) hpq132.1 hpq132.2.1 (show 0 ≤ Iq132 11 ∧ Iq132 11 ≤ 74 by omega) (fun z => by have z5 : Iq132 5 = 0 := z; show Iq132 13 = 0; omega)) (fun rvq135 Iq135 Aq135 hq135 => ?_)
                    obtain ⟨rfl, hqq135, hxq135⟩ := hq135
                    have hpq135 := gPo.trans hpq132 hqq135 rfl rfl
                    have f1q135 : Iq135 1 = I 1 := hpq135.2.2.1 1 rfl
                    have m12q135 : Iq135 12 = Iq132 12 := hqq135.2.2.1 12 rfl
                    show jt _ 195 [(0, .ref m), (1, .int (jI f)), (2, .int (jI b)), (3, .int (jI i))] [] (gmf m f0 Iq135 Aq135) _ _ _
                    refine jt_iinc (L' := [(0, .ref m), (1, .int (jI f)), (2, .int (jI b)), (3, .int (jI (i + 1)))]) d_GM_path_195 rfl (Nat.le_of_ble_eq_true rfl) rfl ?_
                    refine jt_goto (t := 122) d_GM_path_198 rfl ?_
                    exact ih (i + 1) Iq135 Aq135 hpq135 (show Iq135 12 = K12 by omega) (show 0 ≤ Iq135 11 ∧ Iq135 11 ≤ 74 by omega) (show Iq135 12 ≤ 12 → Iq135 11 ≤ 2 + 6 * (Iq135 12 - 1) + 2 * (i + 1) by omega) (show Iq135 5 = 0 → I 5 = 0 ∧ Iq135 13 = 0 ∧ I 4 < Iq135 4 ∧ P4 + (i + 1) ≤ Iq135 4 by omega) (show 0 ≤ (i + 1) ∧ (i + 1) ≤ 3 ∧ (b = 0 → (i + 1) ≤ 1) by omega) (by omega)
              · skip
                exfalso
                omega
    · skip
      refine jt_iconst d_GM_path_127 ?_
      refine jt_goto (t := 132) d_GM_path_128 rfl ?_
      refine jt_icmp_ge (t := 201) d_GM_path_132 rfl (by unfold jRi; omega) (by unfold jRi; omega) (fun c136 => ?_) (fun c136 => ?_)
      · skip
        exact hout i J B hJ l0 q0 q1 k5 i0 (by omega)
      · skip
        refine jt_aload_n d_GM_path_135 rfl ?_
        refine gm_gI (k := 5) (v := J 5) d_GM_path_136 GM_f25 (by decide) rfl ?_
        have rb137 : -13 ≤ J 5 ∧ J 5 ≤ 0 := hJ.1 5
        refine jt_if_ne (t := 201) d_GM_path_139 rfl (by unfold jRi; omega) (fun c138 => ?_) (fun c138 => ?_)
        · skip
          exact hout i J B hJ l0 q0 q1 k5 i0 (by omega)
        · skip
          refine jt_aload_n d_GM_path_142 rfl ?_
          refine jt_iload_n d_GM_path_143 rfl ?_
          refine jt_if_eq (t := 152) d_GM_path_144 rfl (by unfold jRi; omega) (fun c139 => ?_) (fun c139 => ?_)
          · skip
            refine jt_bipush d_GM_path_152 (by omega) ?_
            refine gct_call (Y := Y_GM_word) (As := [.int (jI 8)]) (rest := []) d_GM_path_154 GM_c201 yk_GM_word yv_GM_word rfl (Nat.le_of_ble_eq_true rfl) rfl rfl (Nat.le_of_ble_eq_true rfl) (c_GM_word G _ m 8 J B (gP_of hJ.1 (gT_of hJ hT rfl rfl rfl)) (by unfold jRi; omega)) (fun rvq140 Iq140 Aq140 hq140 => ?_)
            obtain ⟨haq140, hbq140, hIq140, hAq140⟩ := hq140
            rw [hIq140, hAq140]
            by_cases gq140 : (J 4) < J 1 ∧ B 22 (J 4) = 4 ∧ B 23 (J 4) = 8
            · skip
              obtain rfl := haq140 gq140
              have tq140 : J 1 ≤ 300 := (gT_of hJ hT rfl rfl rfl).2.1
              clear haq140 hbq140 hIq140 hAq140
              show jt _ 157 [(0, .ref m), (1, .int (jI f)), (2, .int (jI b)), (3, .int (jI i))] [.int (jI 1)] (gmf m f0 J B) _ _ _
              refine jt_if_eq (t := 173) d_GM_path_157 rfl (by unfold jRi; omega) (fun c141 => ?_) (fun c141 => ?_)
              · skip
                exfalso
                omega
              · skip
                refine jt_aload_n d_GM_path_160 rfl ?_
                refine jt_dup d_GM_path_161 rfl ?_
                refine gm_gI (k := 4) (v := J 4) d_GM_path_162 GM_f22 (by decide) rfl ?_
                have rb142 : 0 ≤ J 4 ∧ J 4 ≤ 300 := hJ.1 4
                refine jt_iconst d_GM_path_165 ?_
                refine jt_iadd d_GM_path_166 ?_
                refine jt_topi (fun v143 ev143 => ?_)
                refine gm_pI (k := 4) (v := v143) (J := va_up J 4 v143) d_GM_path_167 (GM_w22 _ rfl) (by decide) rfl rfl rfl ?_
                have p144 := gPo.I 4 v143 hJ rfl (show 0 ≤ v143 ∧ v143 ≤ 300 by omega)
                refine jt_goto (t := 184) d_GM_path_170 rfl ?_
                refine jt_aload_n d_GM_path_184 rfl ?_
                refine gm_gI (k := 5) (v := J 5) d_GM_path_185 GM_f25 (by decide) rfl ?_
                refine jt_if_ne (t := 195) d_GM_path_188 rfl (by unfold jRi; omega) (fun c145 => ?_) (fun c145 => ?_)
                · skip
                  refine jt_iinc (L' := [(0, .ref m), (1, .int (jI f)), (2, .int (jI b)), (3, .int (jI (i + 1)))]) d_GM_path_195 rfl (Nat.le_of_ble_eq_true rfl) rfl ?_
                  refine jt_goto (t := 122) d_GM_path_198 rfl ?_
                  exact ih (i + 1) (va_up J 4 v143) B p144 (show J 12 = K12 by omega) (show 0 ≤ J 11 ∧ J 11 ≤ 74 by omega) (show J 12 ≤ 12 → J 11 ≤ 2 + 6 * (J 12 - 1) + 2 * (i + 1) by omega) (show J 5 = 0 → I 5 = 0 ∧ J 13 = 0 ∧ I 4 < v143 ∧ P4 + (i + 1) ≤ v143 by omega) (show 0 ≤ (i + 1) ∧ (i + 1) ≤ 3 ∧ (b = 0 → (i + 1) ≤ 1) by omega) (by omega)
                · skip
                  refine jt_aload_n d_GM_path_191 rfl ?_
                  refine gct_call (Y := Y_GM_pair) (As := []) (rest := []) d_GM_path_192 GM_c253 yk_GM_pair yv_GM_pair rfl (Nat.le_of_ble_eq_true rfl) rfl rfl (Nat.le_of_ble_eq_true rfl) (w_GM_pair G _ m  (va_up J 4 v143) B (gT_of p144 hT rfl rfl rfl) p144.1 p144.2.1 (show 0 ≤ J 11 ∧ J 11 ≤ 74 by omega) (fun z => by have z5 : J 5 = 0 := z; show J 13 = 0; omega)) (fun rvq146 Iq146 Aq146 hq146 => ?_)
                  obtain ⟨rfl, hqq146, hxq146⟩ := hq146
                  have hpq146 := gPo.trans p144 hqq146 rfl rfl
                  have f1q146 : Iq146 1 = I 1 := hpq146.2.2.1 1 rfl
                  have s4q146 : (va_up J 4 v143) 4 = v143 := rfl
                  have s5q146 : (va_up J 4 v143) 5 = J 5 := rfl
                  have s11q146 : (va_up J 4 v143) 11 = J 11 := rfl
                  have s12q146 : (va_up J 4 v143) 12 = J 12 := rfl
                  have s13q146 : (va_up J 4 v143) 13 = J 13 := rfl
                  have m12q146 : Iq146 12 = J 12 := hqq146.2.2.1 12 rfl
                  show jt _ 195 [(0, .ref m), (1, .int (jI f)), (2, .int (jI b)), (3, .int (jI i))] [] (gmf m f0 Iq146 Aq146) _ _ _
                  refine jt_iinc (L' := [(0, .ref m), (1, .int (jI f)), (2, .int (jI b)), (3, .int (jI (i + 1)))]) d_GM_path_195 rfl (Nat.le_of_ble_eq_true rfl) rfl ?_
                  refine jt_goto (t := 122) d_GM_path_198 rfl ?_
                  exact ih (i + 1) Iq146 Aq146 hpq146 (show Iq146 12 = K12 by omega) (show 0 ≤ Iq146 11 ∧ Iq146 11 ≤ 74 by omega) (show Iq146 12 ≤ 12 → Iq146 11 ≤ 2 + 6 * (Iq146 12 - 1) + 2 * (i + 1) by omega) (show Iq146 5 = 0 → I 5 = 0 ∧ Iq146 13 = 0 ∧ I 4 < Iq146 4 ∧ P4 + (i + 1) ≤ Iq146 4 by omega) (show 0 ≤ (i + 1) ∧ (i + 1) ≤ 3 ∧ (b = 0 → (i + 1) ≤ 1) by omega) (by omega)
            · skip
              obtain rfl := hbq140 gq140
              clear haq140 hbq140 hIq140 hAq140
              clear gq140
              show jt _ 157 [(0, .ref m), (1, .int (jI f)), (2, .int (jI b)), (3, .int (jI i))] [.int (jI 0)] (gmf m f0 J B) _ _ _
              refine jt_if_eq (t := 173) d_GM_path_157 rfl (by unfold jRi; omega) (fun c147 => ?_) (fun c147 => ?_)
              · skip
                refine jt_aload_n d_GM_path_173 rfl ?_
                refine gm_gI (k := 5) (v := J 5) d_GM_path_174 GM_f25 (by decide) rfl ?_
                refine jt_if_ne (t := 184) d_GM_path_177 rfl (by unfold jRi; omega) (fun c148 => ?_) (fun c148 => ?_)
                · skip
                  refine jt_aload_n d_GM_path_184 rfl ?_
                  refine gm_gI (k := 5) (v := J 5) d_GM_path_185 GM_f25 (by decide) rfl ?_
                  refine jt_if_ne (t := 195) d_GM_path_188 rfl (by unfold jRi; omega) (fun c149 => ?_) (fun c149 => ?_)
                  · skip
                    refine jt_iinc (L' := [(0, .ref m), (1, .int (jI f)), (2, .int (jI b)), (3, .int (jI (i + 1)))]) d_GM_path_195 rfl (Nat.le_of_ble_eq_true rfl) rfl ?_
                    refine jt_goto (t := 122) d_GM_path_198 rfl ?_
                    exact ih (i + 1) J B hJ (show J 12 = K12 by omega) (show 0 ≤ J 11 ∧ J 11 ≤ 74 by omega) (show J 12 ≤ 12 → J 11 ≤ 2 + 6 * (J 12 - 1) + 2 * (i + 1) by omega) (show J 5 = 0 → I 5 = 0 ∧ J 13 = 0 ∧ I 4 < J 4 ∧ P4 + (i + 1) ≤ J 4 by omega) (show 0 ≤ (i + 1) ∧ (i + 1) ≤ 3 ∧ (b = 0 → (i + 1) ≤ 1) by omega) (by omega)
                  · skip
                    refine jt_aload_n d_GM_path_191 rfl ?_
                    refine gct_call (Y := Y_GM_pair) (As := []) (rest := []) d_GM_path_192 GM_c253 yk_GM_pair yv_GM_pair rfl (Nat.le_of_ble_eq_true rfl) rfl rfl (Nat.le_of_ble_eq_true rfl) (w_GM_pair G _ m  J B (gT_of hJ hT rfl rfl rfl) hJ.1 hJ.2.1 (show 0 ≤ J 11 ∧ J 11 ≤ 74 by omega) (fun z => by have z5 : J 5 = 0 := z; show J 13 = 0; omega)) (fun rvq150 Iq150 Aq150 hq150 => ?_)
                    obtain ⟨rfl, hqq150, hxq150⟩ := hq150
                    have hpq150 := gPo.trans hJ hqq150 rfl rfl
                    have f1q150 : Iq150 1 = I 1 := hpq150.2.2.1 1 rfl
                    have m12q150 : Iq150 12 = J 12 := hqq150.2.2.1 12 rfl
                    show jt _ 195 [(0, .ref m), (1, .int (jI f)), (2, .int (jI b)), (3, .int (jI i))] [] (gmf m f0 Iq150 Aq150) _ _ _
                    refine jt_iinc (L' := [(0, .ref m), (1, .int (jI f)), (2, .int (jI b)), (3, .int (jI (i + 1)))]) d_GM_path_195 rfl (Nat.le_of_ble_eq_true rfl) rfl ?_
                    refine jt_goto (t := 122) d_GM_path_198 rfl ?_
                    exact ih (i + 1) Iq150 Aq150 hpq150 (show Iq150 12 = K12 by omega) (show 0 ≤ Iq150 11 ∧ Iq150 11 ≤ 74 by omega) (show Iq150 12 ≤ 12 → Iq150 11 ≤ 2 + 6 * (Iq150 12 - 1) + 2 * (i + 1) by omega) (show Iq150 5 = 0 → I 5 = 0 ∧ Iq150 13 = 0 ∧ I 4 < Iq150 4 ∧ P4 + (i + 1) ≤ Iq150 4 by omega) (show 0 ≤ (i + 1) ∧ (i + 1) ≤ 3 ∧ (b = 0 → (i + 1) ≤ 1) by omega) (by omega)
                · skip
                  refine jt_aload_n d_GM_path_180 rfl ?_
                  refine gct_call (Y := Y_GM_syntax) (As := []) (rest := []) d_GM_path_181 GM_c205 yk_GM_syntax yv_GM_syntax rfl (Nat.le_of_ble_eq_true rfl) rfl rfl (Nat.le_of_ble_eq_true rfl) (w_GM_syntax G _ m  J B hJ.1 hJ.2.1 ) (fun rvq151 Iq151 Aq151 hq151 => ?_)
                  obtain ⟨rfl, hqq151, hxq151⟩ := hq151
                  have hpq151 := gPo.trans hJ hqq151 rfl rfl
                  have f1q151 : Iq151 1 = I 1 := hpq151.2.2.1 1 rfl
                  have m4q151 : Iq151 4 = J 4 := hqq151.2.2.1 4 rfl
                  have m11q151 : Iq151 11 = J 11 := hqq151.2.2.1 11 rfl
                  have m12q151 : Iq151 12 = J 12 := hqq151.2.2.1 12 rfl
                  have m13q151 : Iq151 13 = J 13 := hqq151.2.2.1 13 rfl
                  show jt _ 184 [(0, .ref m), (1, .int (jI f)), (2, .int (jI b)), (3, .int (jI i))] [] (gmf m f0 Iq151 Aq151) _ _ _
                  refine jt_aload_n d_GM_path_184 rfl ?_
                  refine gm_gI (k := 5) (v := Iq151 5) d_GM_path_185 GM_f25 (by decide) rfl ?_
                  have rb152 : -13 ≤ Iq151 5 ∧ Iq151 5 ≤ 0 := hpq151.1 5
                  refine jt_if_ne (t := 195) d_GM_path_188 rfl (by unfold jRi; omega) (fun c153 => ?_) (fun c153 => ?_)
                  · skip
                    refine jt_iinc (L' := [(0, .ref m), (1, .int (jI f)), (2, .int (jI b)), (3, .int (jI (i + 1)))]) d_GM_path_195 rfl (Nat.le_of_ble_eq_true rfl) rfl ?_
                    refine jt_goto (t := 122) d_GM_path_198 rfl ?_
                    exact ih (i + 1) Iq151 Aq151 hpq151 (show Iq151 12 = K12 by omega) (show 0 ≤ Iq151 11 ∧ Iq151 11 ≤ 74 by omega) (show Iq151 12 ≤ 12 → Iq151 11 ≤ 2 + 6 * (Iq151 12 - 1) + 2 * (i + 1) by omega) (show Iq151 5 = 0 → I 5 = 0 ∧ Iq151 13 = 0 ∧ I 4 < Iq151 4 ∧ P4 + (i + 1) ≤ Iq151 4 by omega) (show 0 ≤ (i + 1) ∧ (i + 1) ≤ 3 ∧ (b = 0 → (i + 1) ≤ 1) by omega) (by omega)
                  · skip
                    refine jt_aload_n d_GM_path_191 rfl ?_
                    refine gct_call (Y := Y_GM_pair) (As := []) (rest := []) d_GM_path_192 GM_c253 yk_GM_pair yv_GM_pair rfl (Nat.le_of_ble_eq_true rfl) rfl rfl (Nat.le_of_ble_eq_true rfl) (w_GM_pair G _ m  Iq151 Aq151 (gT_of hpq151 hT rfl rfl rfl) hpq151.1 hpq151.2.1 (show 0 ≤ Iq151 11 ∧ Iq151 11 ≤ 74 by omega) (fun z => by have z5 : Iq151 5 = 0 := z; show Iq151 13 = 0; omega)) (fun rvq154 Iq154 Aq154 hq154 => ?_)
                    obtain ⟨rfl, hqq154, hxq154⟩ := hq154
                    have hpq154 := gPo.trans hpq151 hqq154 rfl rfl
                    have f1q154 : Iq154 1 = I 1 := hpq154.2.2.1 1 rfl
                    have m12q154 : Iq154 12 = Iq151 12 := hqq154.2.2.1 12 rfl
                    show jt _ 195 [(0, .ref m), (1, .int (jI f)), (2, .int (jI b)), (3, .int (jI i))] [] (gmf m f0 Iq154 Aq154) _ _ _
                    refine jt_iinc (L' := [(0, .ref m), (1, .int (jI f)), (2, .int (jI b)), (3, .int (jI (i + 1)))]) d_GM_path_195 rfl (Nat.le_of_ble_eq_true rfl) rfl ?_
                    refine jt_goto (t := 122) d_GM_path_198 rfl ?_
                    exact ih (i + 1) Iq154 Aq154 hpq154 (show Iq154 12 = K12 by omega) (show 0 ≤ Iq154 11 ∧ Iq154 11 ≤ 74 by omega) (show Iq154 12 ≤ 12 → Iq154 11 ≤ 2 + 6 * (Iq154 12 - 1) + 2 * (i + 1) by omega) (show Iq154 5 = 0 → I 5 = 0 ∧ Iq154 13 = 0 ∧ I 4 < Iq154 4 ∧ P4 + (i + 1) ≤ Iq154 4 by omega) (show 0 ≤ (i + 1) ∧ (i + 1) ≤ 3 ∧ (b = 0 → (i + 1) ≤ 1) by omega) (by omega)
              · skip
                exfalso
                omega
          · skip
            refine jt_bipush d_GM_path_147 (by omega) ?_
            refine jt_goto (t := 154) d_GM_path_149 rfl ?_
            refine gct_call (Y := Y_GM_word) (As := [.int (jI 7)]) (rest := []) d_GM_path_154 GM_c201 yk_GM_word yv_GM_word rfl (Nat.le_of_ble_eq_true rfl) rfl rfl (Nat.le_of_ble_eq_true rfl) (c_GM_word G _ m 7 J B (gP_of hJ.1 (gT_of hJ hT rfl rfl rfl)) (by unfold jRi; omega)) (fun rvq155 Iq155 Aq155 hq155 => ?_)
            obtain ⟨haq155, hbq155, hIq155, hAq155⟩ := hq155
            rw [hIq155, hAq155]
            by_cases gq155 : (J 4) < J 1 ∧ B 22 (J 4) = 4 ∧ B 23 (J 4) = 7
            · skip
              obtain rfl := haq155 gq155
              have tq155 : J 1 ≤ 300 := (gT_of hJ hT rfl rfl rfl).2.1
              clear haq155 hbq155 hIq155 hAq155
              show jt _ 157 [(0, .ref m), (1, .int (jI f)), (2, .int (jI b)), (3, .int (jI i))] [.int (jI 1)] (gmf m f0 J B) _ _ _
              refine jt_if_eq (t := 173) d_GM_path_157 rfl (by unfold jRi; omega) (fun c156 => ?_) (fun c156 => ?_)
              · skip
                exfalso
                omega
              · skip
                refine jt_aload_n d_GM_path_160 rfl ?_
                refine jt_dup d_GM_path_161 rfl ?_
                refine gm_gI (k := 4) (v := J 4) d_GM_path_162 GM_f22 (by decide) rfl ?_
                have rb157 : 0 ≤ J 4 ∧ J 4 ≤ 300 := hJ.1 4
                refine jt_iconst d_GM_path_165 ?_
                refine jt_iadd d_GM_path_166 ?_
                refine jt_topi (fun v158 ev158 => ?_)
                refine gm_pI (k := 4) (v := v158) (J := va_up J 4 v158) d_GM_path_167 (GM_w22 _ rfl) (by decide) rfl rfl rfl ?_
                have p159 := gPo.I 4 v158 hJ rfl (show 0 ≤ v158 ∧ v158 ≤ 300 by omega)
                refine jt_goto (t := 184) d_GM_path_170 rfl ?_
                refine jt_aload_n d_GM_path_184 rfl ?_
                refine gm_gI (k := 5) (v := J 5) d_GM_path_185 GM_f25 (by decide) rfl ?_
                refine jt_if_ne (t := 195) d_GM_path_188 rfl (by unfold jRi; omega) (fun c160 => ?_) (fun c160 => ?_)
                · skip
                  refine jt_iinc (L' := [(0, .ref m), (1, .int (jI f)), (2, .int (jI b)), (3, .int (jI (i + 1)))]) d_GM_path_195 rfl (Nat.le_of_ble_eq_true rfl) rfl ?_
                  refine jt_goto (t := 122) d_GM_path_198 rfl ?_
                  exact ih (i + 1) (va_up J 4 v158) B p159 (show J 12 = K12 by omega) (show 0 ≤ J 11 ∧ J 11 ≤ 74 by omega) (show J 12 ≤ 12 → J 11 ≤ 2 + 6 * (J 12 - 1) + 2 * (i + 1) by omega) (show J 5 = 0 → I 5 = 0 ∧ J 13 = 0 ∧ I 4 < v158 ∧ P4 + (i + 1) ≤ v158 by omega) (show 0 ≤ (i + 1) ∧ (i + 1) ≤ 3 ∧ (b = 0 → (i + 1) ≤ 1) by omega) (by omega)
                · skip
                  refine jt_aload_n d_GM_path_191 rfl ?_
                  refine gct_call (Y := Y_GM_pair) (As := []) (rest := []) d_GM_path_192 GM_c253 yk_GM_pair yv_GM_pair rfl (Nat.le_of_ble_eq_true rfl) rfl rfl (Nat.le_of_ble_eq_true rfl) (w_GM_pair G _ m  (va_up J 4 v158) B (gT_of p159 hT rfl rfl rfl) p159.1 p159.2.1 (show 0 ≤ J 11 ∧ J 11 ≤ 74 by omega) (fun z => by have z5 : J 5 = 0 := z; show J 13 = 0; omega)) (fun rvq161 Iq161 Aq161 hq161 => ?_)
                  obtain ⟨rfl, hqq161, hxq161⟩ := hq161
                  have hpq161 := gPo.trans p159 hqq161 rfl rfl
                  have f1q161 : Iq161 1 = I 1 := hpq161.2.2.1 1 rfl
                  have s4q161 : (va_up J 4 v158) 4 = v158 := rfl
                  have s5q161 : (va_up J 4 v158) 5 = J 5 := rfl
                  have s11q161 : (va_up J 4 v158) 11 = J 11 := rfl
                  have s12q161 : (va_up J 4 v158) 12 = J 12 := rfl
                  have s13q161 : (va_up J 4 v158) 13 = J 13 := rfl
                  have m12q161 : Iq161 12 = J 12 := hqq161.2.2.1 12 rfl
                  show jt _ 195 [(0, .ref m), (1, .int (jI f)), (2, .int (jI b)), (3, .int (jI i))] [] (gmf m f0 Iq161 Aq161) _ _ _
                  refine jt_iinc (L' := [(0, .ref m), (1, .int (jI f)), (2, .int (jI b)), (3, .int (jI (i + 1)))]) d_GM_path_195 rfl (Nat.le_of_ble_eq_true rfl) rfl ?_
                  refine jt_goto (t := 122) d_GM_path_198 rfl ?_
                  exact ih (i + 1) Iq161 Aq161 hpq161 (show Iq161 12 = K12 by omega) (show 0 ≤ Iq161 11 ∧ Iq161 11 ≤ 74 by omega) (show Iq161 12 ≤ 12 → Iq161 11 ≤ 2 + 6 * (Iq161 12 - 1) + 2 * (i + 1) by omega) (show Iq161 5 = 0 → I 5 = 0 ∧ Iq161 13 = 0 ∧ I 4 < Iq161 4 ∧ P4 + (i + 1) ≤ Iq161 4 by omega) (show 0 ≤ (i + 1) ∧ (i + 1) ≤ 3 ∧ (b = 0 → (i + 1) ≤ 1) by omega) (by omega)
            · skip
              obtain rfl := hbq155 gq155
              clear haq155 hbq155 hIq155 hAq155
              clear gq155
              show jt _ 157 [(0, .ref m), (1, .int (jI f)), (2, .int (jI b)), (3, .int (jI i))] [.int (jI 0)] (gmf m f0 J B) _ _ _
              refine jt_if_eq (t := 173) d_GM_path_157 rfl (by unfold jRi; omega) (fun c162 => ?_) (fun c162 => ?_)
              · skip
                refine jt_aload_n d_GM_path_173 rfl ?_
                refine gm_gI (k := 5) (v := J 5) d_GM_path_174 GM_f25 (by decide) rfl ?_
                refine jt_if_ne (t := 184) d_GM_path_177 rfl (by unfold jRi; omega) (fun c163 => ?_) (fun c163 => ?_)
                · skip
                  refine jt_aload_n d_GM_path_184 rfl ?_
                  refine gm_gI (k := 5) (v := J 5) d_GM_path_185 GM_f25 (by decide) rfl ?_
                  refine jt_if_ne (t := 195) d_GM_path_188 rfl (by unfold jRi; omega) (fun c164 => ?_) (fun c164 => ?_)
                  · skip
                    refine jt_iinc (L' := [(0, .ref m), (1, .int (jI f)), (2, .int (jI b)), (3, .int (jI (i + 1)))]) d_GM_path_195 rfl (Nat.le_of_ble_eq_true rfl) rfl ?_
                    refine jt_goto (t := 122) d_GM_path_198 rfl ?_
                    exact ih (i + 1) J B hJ (show J 12 = K12 by omega) (show 0 ≤ J 11 ∧ J 11 ≤ 74 by omega) (show J 12 ≤ 12 → J 11 ≤ 2 + 6 * (J 12 - 1) + 2 * (i + 1) by omega) (show J 5 = 0 → I 5 = 0 ∧ J 13 = 0 ∧ I 4 < J 4 ∧ P4 + (i + 1) ≤ J 4 by omega) (show 0 ≤ (i + 1) ∧ (i + 1) ≤ 3 ∧ (b = 0 → (i + 1) ≤ 1) by omega) (by omega)
                  · skip
                    refine jt_aload_n d_GM_path_191 rfl ?_
                    refine gct_call (Y := Y_GM_pair) (As := []) (rest := []) d_GM_path_192 GM_c253 yk_GM_pair yv_GM_pair rfl (Nat.le_of_ble_eq_true rfl) rfl rfl (Nat.le_of_ble_eq_true rfl) (w_GM_pair G _ m  J B (gT_of hJ hT rfl rfl rfl) hJ.1 hJ.2.1 (show 0 ≤ J 11 ∧ J 11 ≤ 74 by omega) (fun z => by have z5 : J 5 = 0 := z; show J 13 = 0; omega)) (fun rvq165 Iq165 Aq165 hq165 => ?_)
                    obtain ⟨rfl, hqq165, hxq165⟩ := hq165
                    have hpq165 := gPo.trans hJ hqq165 rfl rfl
                    have f1q165 : Iq165 1 = I 1 := hpq165.2.2.1 1 rfl
                    have m12q165 : Iq165 12 = J 12 := hqq165.2.2.1 12 rfl
                    show jt _ 195 [(0, .ref m), (1, .int (jI f)), (2, .int (jI b)), (3, .int (jI i))] [] (gmf m f0 Iq165 Aq165) _ _ _
                    refine jt_iinc (L' := [(0, .ref m), (1, .int (jI f)), (2, .int (jI b)), (3, .int (jI (i + 1)))]) d_GM_path_195 rfl (Nat.le_of_ble_eq_true rfl) rfl ?_
                    refine jt_goto (t := 122) d_GM_path_198 rfl ?_
                    exact ih (i + 1) Iq165 Aq165 hpq165 (show Iq165 12 = K12 by omega) (show 0 ≤ Iq165 11 ∧ Iq165 11 ≤ 74 by omega) (show Iq165 12 ≤ 12 → Iq165 11 ≤ 2 + 6 * (Iq165 12 - 1) + 2 * (i + 1) by omega) (show Iq165 5 = 0 → I 5 = 0 ∧ Iq165 13 = 0 ∧ I 4 < Iq165 4 ∧ P4 + (i + 1) ≤ Iq165 4 by omega) (show 0 ≤ (i + 1) ∧ (i + 1) ≤ 3 ∧ (b = 0 → (i + 1) ≤ 1) by omega) (by omega)
                · skip
                  refine jt_aload_n d_GM_path_180 rfl ?_
                  refine gct_call (Y := Y_GM_syntax) (As := []) (rest := []) d_GM_path_181 GM_c205 yk_GM_syntax yv_GM_syntax rfl (Nat.le_of_ble_eq_true rfl) rfl rfl (Nat.le_of_ble_eq_true rfl) (w_GM_syntax G _ m  J B hJ.1 hJ.2.1 ) (fun rvq166 Iq166 Aq166 hq166 => ?_)
                  obtain ⟨rfl, hqq166, hxq166⟩ := hq166
                  have hpq166 := gPo.trans hJ hqq166 rfl rfl
                  have f1q166 : Iq166 1 = I 1 := hpq166.2.2.1 1 rfl
                  have m4q166 : Iq166 4 = J 4 := hqq166.2.2.1 4 rfl
                  have m11q166 : Iq166 11 = J 11 := hqq166.2.2.1 11 rfl
                  have m12q166 : Iq166 12 = J 12 := hqq166.2.2.1 12 rfl
                  have m13q166 : Iq166 13 = J 13 := hqq166.2.2.1 13 rfl
                  show jt _ 184 [(0, .ref m), (1, .int (jI f)), (2, .int (jI b)), (3, .int (jI i))] [] (gmf m f0 Iq166 Aq166) _ _ _
                  refine jt_aload_n d_GM_path_184 rfl ?_
                  refine gm_gI (k := 5) (v := Iq166 5) d_GM_path_185 GM_f25 (by decide) rfl ?_
                  have rb167 : -13 ≤ Iq166 5 ∧ Iq166 5 ≤ 0 := hpq166.1 5
                  refine jt_if_ne (t := 195) d_GM_path_188 rfl (by unfold jRi; omega) (fun c168 => ?_) (fun c168 => ?_)
                  · skip
                    refine jt_iinc (L' := [(0, .ref m), (1, .int (jI f)), (2, .int (jI b)), (3, .int (jI (i + 1)))]) d_GM_path_195 rfl (Nat.le_of_ble_eq_true rfl) rfl ?_
                    refine jt_goto (t := 122) d_GM_path_198 rfl ?_
                    exact ih (i + 1) Iq166 Aq166 hpq166 (show Iq166 12 = K12 by omega) (show 0 ≤ Iq166 11 ∧ Iq166 11 ≤ 74 by omega) (show Iq166 12 ≤ 12 → Iq166 11 ≤ 2 + 6 * (Iq166 12 - 1) + 2 * (i + 1) by omega) (show Iq166 5 = 0 → I 5 = 0 ∧ Iq166 13 = 0 ∧ I 4 < Iq166 4 ∧ P4 + (i + 1) ≤ Iq166 4 by omega) (show 0 ≤ (i + 1) ∧ (i + 1) ≤ 3 ∧ (b = 0 → (i + 1) ≤ 1) by omega) (by omega)
                  · skip
                    refine jt_aload_n d_GM_path_191 rfl ?_
                    refine gct_call (Y := Y_GM_pair) (As := []) (rest := []) d_GM_path_192 GM_c253 yk_GM_pair yv_GM_pair rfl (Nat.le_of_ble_eq_true rfl) rfl rfl (Nat.le_of_ble_eq_true rfl) (w_GM_pair G _ m  Iq166 Aq166 (gT_of hpq166 hT rfl rfl rfl) hpq166.1 hpq166.2.1 (show 0 ≤ Iq166 11 ∧ Iq166 11 ≤ 74 by omega) (fun z => by have z5 : Iq166 5 = 0 := z; show Iq166 13 = 0; omega)) (fun rvq169 Iq169 Aq169 hq169 => ?_)
                    obtain ⟨rfl, hqq169, hxq169⟩ := hq169
                    have hpq169 := gPo.trans hpq166 hqq169 rfl rfl
                    have f1q169 : Iq169 1 = I 1 := hpq169.2.2.1 1 rfl
                    have m12q169 : Iq169 12 = Iq166 12 := hqq169.2.2.1 12 rfl
                    show jt _ 195 [(0, .ref m), (1, .int (jI f)), (2, .int (jI b)), (3, .int (jI i))] [] (gmf m f0 Iq169 Aq169) _ _ _
                    refine jt_iinc (L' := [(0, .ref m), (1, .int (jI f)), (2, .int (jI b)), (3, .int (jI (i + 1)))]) d_GM_path_195 rfl (Nat.le_of_ble_eq_true rfl) rfl ?_
                    refine jt_goto (t := 122) d_GM_path_198 rfl ?_
                    exact ih (i + 1) Iq169 Aq169 hpq169 (show Iq169 12 = K12 by omega) (show 0 ≤ Iq169 11 ∧ Iq169 11 ≤ 74 by omega) (show Iq169 12 ≤ 12 → Iq169 11 ≤ 2 + 6 * (Iq169 12 - 1) + 2 * (i + 1) by omega) (show Iq169 5 = 0 → I 5 = 0 ∧ Iq169 13 = 0 ∧ I 4 < Iq169 4 ∧ P4 + (i + 1) ≤ Iq169 4 by omega) (show 0 ≤ (i + 1) ∧ (i + 1) ≤ 3 ∧ (b = 0 → (i + 1) ≤ 1) by omega) (by omega)
              · skip
                exfalso
                omega
set_option maxRecDepth 100000 in
set_option maxHeartbeats 1000000 in
theorem l24_GM_pathw (G : jG) (d m : Nat) (f : Int) (I : Nat → Int) (A : Nat → Int → Int) (hT : gT I A) (hI : gSI I) (hA : gSA A) (hf : 0 ≤ f ∧ f ≤ 1) (hw : I 4 < I 1) (he : I 5 = 0) (h13 : I 13 = 0) (f0 : jF) (sz : Nat)  : ∀ (n9 : Nat) (t : Int) (J : Nat → Int) (B : Nat → Int → Int), gPo [4, 5, 6, 9, 10, 11, 12, 13, 14, 15] [35, 36, 37, 38, 39, 40, 41, 42, 43, 44, 45] I A J B → (J 5 = 0 → J 12 ≤ J 4) → (0 ≤ J 11 ∧ J 11 ≤ 74) → (J 12 ≤ 12 → J 11 ≤ 2 + 6 * J 12) → (J 5 = 0 → I 5 = 0 ∧ J 13 = 0 ∧ I 4 < J 4) → (J 5 = 0 → 301 - J 4 ≤ t) → (0 ≤ t) → t < (n9 : Int) → jt (jm G Y_GM_path (gR (d + 6)) (gQ m f0 sz (fun (rv : Option Value) (I2 : Nat → Int) (A2 : Nat → Int → Int) => rv = none ∧ gPo [4, 5, 6, 9, 10, 11, 12, 13, 14, 15] [35, 36, 37, 38, 39, 40, 41, 42, 43, 44, 45] I A I2 A2 ∧ (I2 5 = 0 → I 4 < I2 4)))) 24 [(0, .ref m), (1, .int (jI f))] [] (gmf m f0 J B) sz 0 0 := by
  have r4 : 0 ≤ I 4 ∧ I 4 ≤ 300 := hI 4
  have r5 : -13 ≤ I 5 ∧ I 5 ≤ 0 := hI 5
  have r13 : 0 ≤ I 13 ∧ I 13 ≤ 320 := hI 13
  have t0 := hT.1
  have t1 := hT.2.1
  intro n9
  induction n9 with
  | zero =>
    intro t J B hJ l0 q0 q1 k5 ht t9 hmeas
    have q4 : 0 ≤ J 4 ∧ J 4 ≤ 300 := hJ.1 4
    have q5 : -13 ≤ J 5 ∧ J 5 ≤ 0 := hJ.1 5
    have q12 : 0 ≤ J 12 ∧ J 12 ≤ 300 := hJ.1 12
    have q13 : 0 ≤ J 13 ∧ J 13 ≤ 320 := hJ.1 13
    exfalso
    omega
  | succ n9 ih =>
    intro t J B hJ l0 q0 q1 k5 ht t9 hmeas
    have f1 : J 1 = I 1 := hJ.2.2.1 1 rfl
    have q4 : 0 ≤ J 4 ∧ J 4 ≤ 300 := hJ.1 4
    have q5 : -13 ≤ J 5 ∧ J 5 ≤ 0 := hJ.1 5
    have q12 : 0 ≤ J 12 ∧ J 12 ≤ 300 := hJ.1 12
    have q13 : 0 ≤ J 13 ∧ J 13 ≤ 320 := hJ.1 13
    refine jt_aload_n d_GM_path_24 rfl ?_
    refine gm_gI (k := 5) (v := J 5) d_GM_path_25 GM_f25 (by decide) rfl ?_
    have rb201 : -13 ≤ J 5 ∧ J 5 ≤ 0 := hJ.1 5
    refine jt_if_ne (t := 204) d_GM_path_28 rfl (by unfold jRi; omega) (fun c202 => ?_) (fun c202 => ?_)
    · skip
      refine jt_aload_n d_GM_path_204 rfl ?_
      refine gm_gI (k := 5) (v := J 5) d_GM_path_205 GM_f25 (by decide) rfl ?_
      refine jt_if_eq (t := 212) d_GM_path_208 rfl (by unfold jRi; omega) (fun c203 => ?_) (fun c203 => ?_)
      · skip
        refine jt_aload_n d_GM_path_212 rfl ?_
        refine jt_dup d_GM_path_213 rfl ?_
        refine gm_gI (k := 4) (v := J 4) d_GM_path_214 GM_f22 (by decide) rfl ?_
        have rb204 : 0 ≤ J 4 ∧ J 4 ≤ 300 := hJ.1 4
        refine jt_iconst d_GM_path_217 ?_
        refine jt_iadd d_GM_path_218 ?_
        refine jt_topi (fun v205 ev205 => ?_)
        refine gm_pI (k := 4) (v := v205) (J := va_up J 4 v205) d_GM_path_219 (GM_w22 _ rfl) (by decide) rfl rfl rfl ?_
        have p206 := gPo.I 4 v205 hJ rfl (show 0 ≤ v205 ∧ v205 ≤ 300 by omega)
        refine jt_aload_n d_GM_path_222 rfl ?_
        refine jt_bipush d_GM_path_223 (by omega) ?_
        refine gct_call (Y := Y_GM_need) (As := [.int (jI 6)]) (rest := []) d_GM_path_225 GM_c241 yk_GM_need yv_GM_need rfl (Nat.le_of_ble_eq_true rfl) rfl rfl (Nat.le_of_ble_eq_true rfl) (w_GM_need G _ m 6 (va_up J 4 v205) B (gT_of p206 hT rfl rfl rfl) p206.1 p206.2.1 (by unfold jRi; omega)) (fun rvq207 Iq207 Aq207 hq207 => ?_)
        obtain ⟨rfl, hqq207, hxq207⟩ := hq207
        have hpq207 := gPo.trans p206 hqq207 rfl rfl
        have f1q207 : Iq207 1 = I 1 := hpq207.2.2.1 1 rfl
        have s4q207 : (va_up J 4 v205) 4 = v205 := rfl
        have s5q207 : (va_up J 4 v205) 5 = J 5 := rfl
        have s11q207 : (va_up J 4 v205) 11 = J 11 := rfl
        have s12q207 : (va_up J 4 v205) 12 = J 12 := rfl
        have s13q207 : (va_up J 4 v205) 13 = J 13 := rfl
        have m11q207 : Iq207 11 = J 11 := hqq207.2.2.1 11 rfl
        have m12q207 : Iq207 12 = J 12 := hqq207.2.2.1 12 rfl
        have m13q207 : Iq207 13 = J 13 := hqq207.2.2.1 13 rfl
        show jt _ 228 [(0, .ref m), (1, .int (jI f))] [] (gmf m f0 Iq207 Aq207) _ _ _
        refine jt_aload_n d_GM_path_228 rfl ?_
        refine gm_gI (k := 5) (v := Iq207 5) d_GM_path_229 GM_f25 (by decide) rfl ?_
        have rb208 : -13 ≤ Iq207 5 ∧ Iq207 5 ≤ 0 := hpq207.1 5
        refine jt_if_ne (t := 240) d_GM_path_232 rfl (by unfold jRi; omega) (fun c209 => ?_) (fun c209 => ?_)
        · skip
          exact gm_vret d_GM_path_240 rfl (⟨rfl, hpq207, show Iq207 5 = 0 → I 4 < Iq207 4 by omega⟩)
        · skip
          refine jt_aload_n d_GM_path_235 rfl ?_
          refine jt_iload_n d_GM_path_236 rfl ?_
          refine gct_call (Y := Y_GM_area) (As := [.int (jI f)]) (rest := []) d_GM_path_237 GM_c256 yk_GM_area yv_GM_area rfl (Nat.le_of_ble_eq_true rfl) rfl rfl (Nat.le_of_ble_eq_true rfl) (w_GM_area G _ m f Iq207 Aq207 hpq207.1 hpq207.2.1 (by omega) (show 0 ≤ Iq207 12 by omega) (show Iq207 5 = 0 by omega)) (fun rvq210 Iq210 Aq210 hq210 => ?_)
          obtain ⟨rfl, hqq210⟩ := hq210
          have hpq210 := gPo.trans hpq207 hqq210 rfl rfl
          have f1q210 : Iq210 1 = I 1 := hpq210.2.2.1 1 rfl
          have m4q210 : Iq210 4 = Iq207 4 := hqq210.2.2.1 4 rfl
          have m11q210 : Iq210 11 = Iq207 11 := hqq210.2.2.1 11 rfl
          have m12q210 : Iq210 12 = Iq207 12 := hqq210.2.2.1 12 rfl
          have m13q210 : Iq210 13 = Iq207 13 := hqq210.2.2.1 13 rfl
          show jt _ 240 [(0, .ref m), (1, .int (jI f))] [] (gmf m f0 Iq210 Aq210) _ _ _
          exact gm_vret d_GM_path_240 rfl (⟨rfl, hpq210, show Iq210 5 = 0 → I 4 < Iq210 4 by omega⟩)
      · skip
        exact gm_vret d_GM_path_211 rfl (⟨rfl, hJ, show J 5 = 0 → I 4 < J 4 by omega⟩)
    · skip
      refine jt_aload_n d_GM_path_31 rfl ?_
      refine jt_bipush d_GM_path_32 (by omega) ?_
      refine gct_call (Y := Y_GM_word) (As := [.int (jI 8)]) (rest := []) d_GM_path_34 GM_c201 yk_GM_word yv_GM_word rfl (Nat.le_of_ble_eq_true rfl) rfl rfl (Nat.le_of_ble_eq_true rfl) (c_GM_word G _ m 8 J B (gP_of hJ.1 (gT_of hJ hT rfl rfl rfl)) (by unfold jRi; omega)) (fun rvq211 Iq211 Aq211 hq211 => ?_)
      obtain ⟨haq211, hbq211, hIq211, hAq211⟩ := hq211
      rw [hIq211, hAq211]
      by_cases gq211 : (J 4) < J 1 ∧ B 22 (J 4) = 4 ∧ B 23 (J 4) = 8
      · skip
        obtain rfl := haq211 gq211
        have tq211 : J 1 ≤ 300 := (gT_of hJ hT rfl rfl rfl).2.1
        clear haq211 hbq211 hIq211 hAq211
        show jt _ 37 [(0, .ref m), (1, .int (jI f))] [.int (jI 1)] (gmf m f0 J B) _ _ _
        refine jt_if_eq (t := 58) d_GM_path_37 rfl (by unfold jRi; omega) (fun c212 => ?_) (fun c212 => ?_)
        · skip
          exfalso
          omega
        · skip
          refine jt_aload_n d_GM_path_40 rfl ?_
          refine jt_aload_n d_GM_path_41 rfl ?_
          refine gm_gI (k := 4) (v := J 4) d_GM_path_42 GM_f22 (by decide) rfl ?_
          have rb213 : 0 ≤ J 4 ∧ J 4 ≤ 300 := hJ.1 4
          refine jt_iconst d_GM_path_45 ?_
          refine jt_iadd d_GM_path_46 ?_
          refine jt_bipush d_GM_path_47 (by omega) ?_
          refine gct_call (Y := Y_GM_isWord) (As := [.int (jI ((J 4) + 1)), .int (jI 9)]) (rest := []) d_GM_path_49 GM_c156 yk_GM_isWord yv_GM_isWord rfl (Nat.le_of_ble_eq_true rfl) rfl rfl (Nat.le_of_ble_eq_true rfl) (c_GM_isWord G _ m ((J 4) + 1) 9 J B (by omega) (by unfold jRi; omega) (by unfold jRi; omega) (by have z9 := (gT_of hJ hT rfl rfl rfl).1; have z8 := (gT_of hJ hT rfl rfl rfl).2.1; unfold jRi; omega) (fun z => by have z8 := (gT_of hJ hT rfl rfl rfl).2.1; have z7 := (gT_of hJ hT rfl rfl rfl).2.2 ((J 4) + 1) (by omega) z; unfold gtok at z7; unfold jRi; omega)) (fun rvq214 Iq214 Aq214 hq214 => ?_)
          obtain ⟨haq214, hbq214, hIq214, hAq214⟩ := hq214
          rw [hIq214, hAq214]
          by_cases gq214 : ((J 4) + 1) < J 1 ∧ B 22 ((J 4) + 1) = 4 ∧ B 23 ((J 4) + 1) = 9
          · skip
            obtain rfl := haq214 gq214
            have tq214 : J 1 ≤ 300 := (gT_of hJ hT rfl rfl rfl).2.1
            clear haq214 hbq214 hIq214 hAq214
            show jt _ 52 [(0, .ref m), (1, .int (jI f))] [.int (jI 1)] (gmf m f0 J B) _ _ _
            refine jt_if_eq (t := 58) d_GM_path_52 rfl (by unfold jRi; omega) (fun c215 => ?_) (fun c215 => ?_)
            · skip
              exfalso
              omega
            · skip
              refine jt_goto (t := 204) d_GM_path_55 rfl ?_
              refine jt_aload_n d_GM_path_204 rfl ?_
              refine gm_gI (k := 5) (v := J 5) d_GM_path_205 GM_f25 (by decide) rfl ?_
              refine jt_if_eq (t := 212) d_GM_path_208 rfl (by unfold jRi; omega) (fun c216 => ?_) (fun c216 => ?_)
              · skip
                refine jt_aload_n d_GM_path_212 rfl ?_
                refine jt_dup d_GM_path_213 rfl ?_
                refine gm_gI (k := 4) (v := J 4) d_GM_path_214 GM_f22 (by decide) rfl ?_
                refine jt_iconst d_GM_path_217 ?_
                refine jt_iadd d_GM_path_218 ?_
                refine jt_topi (fun v217 ev217 => ?_)
                refine gm_pI (k := 4) (v := v217) (J := va_up J 4 v217) d_GM_path_219 (GM_w22 _ rfl) (by decide) rfl rfl rfl ?_
                have p218 := gPo.I 4 v217 hJ rfl (show 0 ≤ v217 ∧ v217 ≤ 300 by omega)
                refine jt_aload_n d_GM_path_222 rfl ?_
                refine jt_bipush d_GM_path_223 (by omega) ?_
                refine gct_call (Y := Y_GM_need) (As := [.int (jI 6)]) (rest := []) d_GM_path_225 GM_c241 yk_GM_need yv_GM_need rfl (Nat.le_of_ble_eq_true rfl) rfl rfl (Nat.le_of_ble_eq_true rfl) (w_GM_need G _ m 6 (va_up J 4 v217) B (gT_of p218 hT rfl rfl rfl) p218.1 p218.2.1 (by unfold jRi; omega)) (fun rvq219 Iq219 Aq219 hq219 => ?_)
                obtain ⟨rfl, hqq219, hxq219⟩ := hq219
                have hpq219 := gPo.trans p218 hqq219 rfl rfl
                have f1q219 : Iq219 1 = I 1 := hpq219.2.2.1 1 rfl
                have s4q219 : (va_up J 4 v217) 4 = v217 := rfl
                have s5q219 : (va_up J 4 v217) 5 = J 5 := rfl
                have s11q219 : (va_up J 4 v217) 11 = J 11 := rfl
                have s12q219 : (va_up J 4 v217) 12 = J 12 := rfl
                have s13q219 : (va_up J 4 v217) 13 = J 13 := rfl
                have m11q219 : Iq219 11 = J 11 := hqq219.2.2.1 11 rfl
                have m12q219 : Iq219 12 = J 12 := hqq219.2.2.1 12 rfl
                have m13q219 : Iq219 13 = J 13 := hqq219.2.2.1 13 rfl
                show jt _ 228 [(0, .ref m), (1, .int (jI f))] [] (gmf m f0 Iq219 Aq219) _ _ _
                refine jt_aload_n d_GM_path_228 rfl ?_
                refine gm_gI (k := 5) (v := Iq219 5) d_GM_path_229 GM_f25 (by decide) rfl ?_
                have rb220 : -13 ≤ Iq219 5 ∧ Iq219 5 ≤ 0 := hpq219.1 5
                refine jt_if_ne (t := 240) d_GM_path_232 rfl (by unfold jRi; omega) (fun c221 => ?_) (fun c221 => ?_)
                · skip
                  exact gm_vret d_GM_path_240 rfl (⟨rfl, hpq219, show Iq219 5 = 0 → I 4 < Iq219 4 by omega⟩)
                · skip
                  refine jt_aload_n d_GM_path_235 rfl ?_
                  refine jt_iload_n d_GM_path_236 rfl ?_
                  refine gct_call (Y := Y_GM_area) (As := [.int (jI f)]) (rest := []) d_GM_path_237 GM_c256 yk_GM_area yv_GM_area rfl (Nat.le_of_ble_eq_true rfl) rfl rfl (Nat.le_of_ble_eq_true rfl) (w_GM_area G _ m f Iq219 Aq219 hpq219.1 hpq219.2.1 (by omega) (show 0 ≤ Iq219 12 by omega) (show Iq219 5 = 0 by omega)) (fun rvq222 Iq222 Aq222 hq222 => ?_)
                  obtain ⟨rfl, hqq222⟩ := hq222
                  have hpq222 := gPo.trans hpq219 hqq222 rfl rfl
                  have f1q222 : Iq222 1 = I 1 := hpq222.2.2.1 1 rfl
                  have m4q222 : Iq222 4 = Iq219 4 := hqq222.2.2.1 4 rfl
                  have m11q222 : Iq222 11 = Iq219 11 := hqq222.2.2.1 11 rfl
                  have m12q222 : Iq222 12 = Iq219 12 := hqq222.2.2.1 12 rfl
                  have m13q222 : Iq222 13 = Iq219 13 := hqq222.2.2.1 13 rfl
                  show jt _ 240 [(0, .ref m), (1, .int (jI f))] [] (gmf m f0 Iq222 Aq222) _ _ _
                  exact gm_vret d_GM_path_240 rfl (⟨rfl, hpq222, show Iq222 5 = 0 → I 4 < Iq222 4 by omega⟩)
              · skip
                exact gm_vret d_GM_path_211 rfl (⟨rfl, hJ, show J 5 = 0 → I 4 < J 4 by omega⟩)
          · skip
            obtain rfl := hbq214 gq214
            clear haq214 hbq214 hIq214 hAq214
            clear gq214
            show jt _ 52 [(0, .ref m), (1, .int (jI f))] [.int (jI 0)] (gmf m f0 J B) _ _ _
            refine jt_if_eq (t := 58) d_GM_path_52 rfl (by unfold jRi; omega) (fun c223 => ?_) (fun c223 => ?_)
            · skip
              refine jt_aload_n d_GM_path_58 rfl ?_
              refine jt_bipush d_GM_path_59 (by omega) ?_
              refine gct_call (Y := Y_GM_word) (As := [.int (jI 7)]) (rest := []) d_GM_path_61 GM_c201 yk_GM_word yv_GM_word rfl (Nat.le_of_ble_eq_true rfl) rfl rfl (Nat.le_of_ble_eq_true rfl) (c_GM_word G _ m 7 J B (gP_of hJ.1 (gT_of hJ hT rfl rfl rfl)) (by unfold jRi; omega)) (fun rvq224 Iq224 Aq224 hq224 => ?_)
              obtain ⟨haq224, hbq224, hIq224, hAq224⟩ := hq224
              rw [hIq224, hAq224]
              by_cases gq224 : (J 4) < J 1 ∧ B 22 (J 4) = 4 ∧ B 23 (J 4) = 7
              · skip
                obtain rfl := haq224 gq224
                have tq224 : J 1 ≤ 300 := (gT_of hJ hT rfl rfl rfl).2.1
                clear haq224 hbq224 hIq224 hAq224
                show jt _ 64 [(0, .ref m), (1, .int (jI f))] [.int (jI 1)] (gmf m f0 J B) _ _ _
                refine jt_istore_n (L' := [(0, .ref m), (1, .int (jI f)), (2, .int (jI 1))]) d_GM_path_64 (Nat.le_of_ble_eq_true rfl) rfl ?_
                refine jt_iload_n d_GM_path_65 rfl ?_
                refine jt_if_ne (t := 83) d_GM_path_66 rfl (by unfold jRi; omega) (fun c225 => ?_) (fun c225 => ?_)
                · skip
                  refine jt_aload_n d_GM_path_83 rfl ?_
                  refine jt_dup d_GM_path_84 rfl ?_
                  refine gm_gI (k := 12) (v := J 12) d_GM_path_85 GM_f46 (by decide) rfl ?_
                  have rb226 : 0 ≤ J 12 ∧ J 12 ≤ 300 := hJ.1 12
                  refine jt_iconst d_GM_path_88 ?_
                  refine jt_iadd d_GM_path_89 ?_
                  refine jt_topi (fun v227 ev227 => ?_)
                  refine gm_pI (k := 12) (v := v227) (J := va_up J 12 v227) d_GM_path_90 (GM_w46 _ rfl) (by decide) rfl rfl rfl ?_
                  have p228 := gPo.I 12 v227 hJ rfl (show 0 ≤ v227 ∧ v227 ≤ 300 by omega)
                  refine jt_aload_n d_GM_path_93 rfl ?_
                  refine gm_gI (k := 12) (v := v227) d_GM_path_94 GM_f46 (by decide) rfl ?_
                  refine jt_bipush d_GM_path_97 (by omega) ?_
                  refine jt_icmp_ge (t := 120) d_GM_path_99 rfl (by unfold jRi; omega) (by unfold jRi; omega) (fun c229 => ?_) (fun c229 => ?_)
                  · skip
                    refine jt_iconst d_GM_path_120 ?_
                    refine jt_istore_n (L' := [(0, .ref m), (1, .int (jI f)), (2, .int (jI 1)), (3, .int (jI 0))]) d_GM_path_121 (Nat.le_of_ble_eq_true rfl) rfl ?_
                    refine l122_GM_pathw G d m f I A hT hI hA hf hw he h13 f0 sz 1 ((by omega)) v227 (J 4) ((by omega)) (fun io230 Jo230 Bo230 hJo230 l0o230 q0o230 q1o230 k5o230 i0o230 x9o230 => ?_) 5 0 (va_up J 12 v227) B p228 (show v227 = v227 by omega) (show 0 ≤ J 11 ∧ J 11 ≤ 74 by omega) (show v227 ≤ 12 → J 11 ≤ 2 + 6 * (v227 - 1) + 2 * (0) by omega) (show J 5 = 0 → I 5 = 0 ∧ J 13 = 0 ∧ I 4 < J 4 ∧ J 4 + (0) ≤ J 4 by omega) (show 0 ≤ 0 ∧ 0 ≤ 3 ∧ (1 = 0 → 0 ≤ 1) by omega) (by omega)
                    have f1o230 : Jo230 1 = I 1 := hJo230.2.2.1 1 rfl
                    refine jt_goto (t := 24) d_GM_path_201 rfl ?_
                    refine jt_sub (L' := [(0, .ref m), (1, .int (jI f))]) (fun _ h => List.mem_append_left [(2, Value.int (jI 1)), (3, Value.int (jI io230))] h) ?_
                    exact ih (t - 1) Jo230 Bo230 hJo230 (show Jo230 5 = 0 → Jo230 12 ≤ Jo230 4 by omega) (show 0 ≤ Jo230 11 ∧ Jo230 11 ≤ 74 by omega) (show Jo230 12 ≤ 12 → Jo230 11 ≤ 2 + 6 * Jo230 12 by omega) (show Jo230 5 = 0 → I 5 = 0 ∧ Jo230 13 = 0 ∧ I 4 < Jo230 4 by omega) (show Jo230 5 = 0 → 301 - Jo230 4 ≤ t - 1 by omega) (by omega) (by omega)
                  · skip
                    refine jt_aload_n d_GM_path_102 rfl ?_
                    refine gm_gA (k := 44) (a := m + 29) d_GM_path_103 GM_f145 (by decide) (by decide) rfl ?_
                    refine jt_aload_n d_GM_path_106 rfl ?_
                    refine gm_gI (k := 12) (v := v227) d_GM_path_107 GM_f46 (by decide) rfl ?_
                    refine jt_iload_n d_GM_path_110 rfl ?_
                    refine jt_if_eq (t := 118) d_GM_path_111 rfl (by unfold jRi; omega) (fun c231 => ?_) (fun c231 => ?_)
                    · skip
                      exfalso
                      omega
                    · skip
                      refine jt_iconst d_GM_path_114 ?_
                      refine jt_goto (t := 119) d_GM_path_115 rfl ?_
                      refine gm_st0 (k := 44) (n := 14) (B := va_up B 44 (ju (B 44) v227 1)) d_GM_path_119 rfl (by decide) (by decide) rfl rfl (by omega) (by omega) (by omega) rfl ?_
                      have p232 := gPo.A 44 (ju (B 44) v227 1) p228 rfl (gju (p228.2.1 44) (show 0 ≤ 1 ∧ 1 ≤ 1 by omega))
                      refine jt_iconst d_GM_path_120 ?_
                      refine jt_istore_n (L' := [(0, .ref m), (1, .int (jI f)), (2, .int (jI 1)), (3, .int (jI 0))]) d_GM_path_121 (Nat.le_of_ble_eq_true rfl) rfl ?_
                      refine l122_GM_pathw G d m f I A hT hI hA hf hw he h13 f0 sz 1 ((by omega)) v227 (J 4) ((by omega)) (fun io233 Jo233 Bo233 hJo233 l0o233 q0o233 q1o233 k5o233 i0o233 x9o233 => ?_) 5 0 (va_up J 12 v227) (va_up B 44 (ju (B 44) v227 1)) p232 (show v227 = v227 by omega) (show 0 ≤ J 11 ∧ J 11 ≤ 74 by omega) (show v227 ≤ 12 → J 11 ≤ 2 + 6 * (v227 - 1) + 2 * (0) by omega) (show J 5 = 0 → I 5 = 0 ∧ J 13 = 0 ∧ I 4 < J 4 ∧ J 4 + (0) ≤ J 4 by omega) (show 0 ≤ 0 ∧ 0 ≤ 3 ∧ (1 = 0 → 0 ≤ 1) by omega) (by omega)
                      have f1o233 : Jo233 1 = I 1 := hJo233.2.2.1 1 rfl
                      refine jt_goto (t := 24) d_GM_path_201 rfl ?_
                      refine jt_sub (L' := [(0, .ref m), (1, .int (jI f))]) (fun _ h => List.mem_append_left [(2, Value.int (jI 1)), (3, Value.int (jI io233))] h) ?_
                      exact ih (t - 1) Jo233 Bo233 hJo233 (show Jo233 5 = 0 → Jo233 12 ≤ Jo233 4 by omega) (show 0 ≤ Jo233 11 ∧ Jo233 11 ≤ 74 by omega) (show Jo233 12 ≤ 12 → Jo233 11 ≤ 2 + 6 * Jo233 12 by omega) (show Jo233 5 = 0 → I 5 = 0 ∧ Jo233 13 = 0 ∧ I 4 < Jo233 4 by omega) (show Jo233 5 = 0 → 301 - Jo233 4 ≤ t - 1 by omega) (by omega) (by omega)
                · skip
                  exfalso
                  omega
              · skip
                obtain rfl := hbq224 gq224
                clear haq224 hbq224 hIq224 hAq224
                clear gq224
                show jt _ 64 [(0, .ref m), (1, .int (jI f))] [.int (jI 0)] (gmf m f0 J B) _ _ _
                refine jt_istore_n (L' := [(0, .ref m), (1, .int (jI f)), (2, .int (jI 0))]) d_GM_path_64 (Nat.le_of_ble_eq_true rfl) rfl ?_
                refine jt_iload_n d_GM_path_65 rfl ?_
                refine jt_if_ne (t := 83) d_GM_path_66 rfl (by unfold jRi; omega) (fun c234 => ?_) (fun c234 => ?_)
                · skip
                  exfalso
                  omega
                · skip
                  refine jt_aload_n d_GM_path_69 rfl ?_
                  refine jt_bipush d_GM_path_70 (by omega) ?_
                  refine gct_call (Y := Y_GM_word) (As := [.int (jI 8)]) (rest := []) d_GM_path_72 GM_c201 yk_GM_word yv_GM_word rfl (Nat.le_of_ble_eq_true rfl) rfl rfl (Nat.le_of_ble_eq_true rfl) (c_GM_word G _ m 8 J B (gP_of hJ.1 (gT_of hJ hT rfl rfl rfl)) (by unfold jRi; omega)) (fun rvq235 Iq235 Aq235 hq235 => ?_)
                  obtain ⟨haq235, hbq235, hIq235, hAq235⟩ := hq235
                  rw [hIq235, hAq235]
                  by_cases gq235 : (J 4) < J 1 ∧ B 22 (J 4) = 4 ∧ B 23 (J 4) = 8
                  · skip
                    obtain rfl := haq235 gq235
                    have tq235 : J 1 ≤ 300 := (gT_of hJ hT rfl rfl rfl).2.1
                    clear haq235 hbq235 hIq235 hAq235
                    show jt _ 75 [(0, .ref m), (1, .int (jI f)), (2, .int (jI 0))] [.int (jI 1)] (gmf m f0 J B) _ _ _
                    refine jt_if_ne (t := 83) d_GM_path_75 rfl (by unfold jRi; omega) (fun c236 => ?_) (fun c236 => ?_)
                    · skip
                      refine jt_aload_n d_GM_path_83 rfl ?_
                      refine jt_dup d_GM_path_84 rfl ?_
                      refine gm_gI (k := 12) (v := J 12) d_GM_path_85 GM_f46 (by decide) rfl ?_
                      have rb237 : 0 ≤ J 12 ∧ J 12 ≤ 300 := hJ.1 12
                      refine jt_iconst d_GM_path_88 ?_
                      refine jt_iadd d_GM_path_89 ?_
                      refine jt_topi (fun v238 ev238 => ?_)
                      refine gm_pI (k := 12) (v := v238) (J := va_up J 12 v238) d_GM_path_90 (GM_w46 _ rfl) (by decide) rfl rfl rfl ?_
                      have p239 := gPo.I 12 v238 hJ rfl (show 0 ≤ v238 ∧ v238 ≤ 300 by omega)
                      refine jt_aload_n d_GM_path_93 rfl ?_
                      refine gm_gI (k := 12) (v := v238) d_GM_path_94 GM_f46 (by decide) rfl ?_
                      refine jt_bipush d_GM_path_97 (by omega) ?_
                      refine jt_icmp_ge (t := 120) d_GM_path_99 rfl (by unfold jRi; omega) (by unfold jRi; omega) (fun c240 => ?_) (fun c240 => ?_)
                      · skip
                        refine jt_iconst d_GM_path_120 ?_
                        refine jt_istore_n (L' := [(0, .ref m), (1, .int (jI f)), (2, .int (jI 0)), (3, .int (jI 0))]) d_GM_path_121 (Nat.le_of_ble_eq_true rfl) rfl ?_
                        refine l122_GM_pathw G d m f I A hT hI hA hf hw he h13 f0 sz 0 ((by omega)) v238 (J 4) ((by omega)) (fun io241 Jo241 Bo241 hJo241 l0o241 q0o241 q1o241 k5o241 i0o241 x9o241 => ?_) 5 0 (va_up J 12 v238) B p239 (show v238 = v238 by omega) (show 0 ≤ J 11 ∧ J 11 ≤ 74 by omega) (show v238 ≤ 12 → J 11 ≤ 2 + 6 * (v238 - 1) + 2 * (0) by omega) (show J 5 = 0 → I 5 = 0 ∧ J 13 = 0 ∧ I 4 < J 4 ∧ J 4 + (0) ≤ J 4 by omega) (show 0 ≤ 0 ∧ 0 ≤ 3 ∧ (0 = 0 → 0 ≤ 1) by omega) (by omega)
                        have f1o241 : Jo241 1 = I 1 := hJo241.2.2.1 1 rfl
                        refine jt_goto (t := 24) d_GM_path_201 rfl ?_
                        refine jt_sub (L' := [(0, .ref m), (1, .int (jI f))]) (fun _ h => List.mem_append_left [(2, Value.int (jI 0)), (3, Value.int (jI io241))] h) ?_
                        exact ih (t - 1) Jo241 Bo241 hJo241 (show Jo241 5 = 0 → Jo241 12 ≤ Jo241 4 by omega) (show 0 ≤ Jo241 11 ∧ Jo241 11 ≤ 74 by omega) (show Jo241 12 ≤ 12 → Jo241 11 ≤ 2 + 6 * Jo241 12 by omega) (show Jo241 5 = 0 → I 5 = 0 ∧ Jo241 13 = 0 ∧ I 4 < Jo241 4 by omega) (show Jo241 5 = 0 → 301 - Jo241 4 ≤ t - 1 by omega) (by omega) (by omega)
                      · skip
                        refine jt_aload_n d_GM_path_102 rfl ?_
                        refine gm_gA (k := 44) (a := m + 29) d_GM_path_103 GM_f145 (by decide) (by decide) rfl ?_
                        refine jt_aload_n d_GM_path_106 rfl ?_
                        refine gm_gI (k := 12) (v := v238) d_GM_path_107 GM_f46 (by decide) rfl ?_
                        refine jt_iload_n d_GM_path_110 rfl ?_
                        refine jt_if_eq (t := 118) d_GM_path_111 rfl (by unfold jRi; omega) (fun c242 => ?_) (fun c242 => ?_)
                        · skip
                          refine jt_iconst d_GM_path_118 ?_
                          refine gm_st0 (k := 44) (n := 14) (B := va_up B 44 (ju (B 44) v238 0)) d_GM_path_119 rfl (by decide) (by decide) rfl rfl (by omega) (by omega) (by omega) rfl ?_
                          have p243 := gPo.A 44 (ju (B 44) v238 0) p239 rfl (gju (p239.2.1 44) (show 0 ≤ 0 ∧ 0 ≤ 1 by omega))
                          refine jt_iconst d_GM_path_120 ?_
                          refine jt_istore_n (L' := [(0, .ref m), (1, .int (jI f)), (2, .int (jI 0)), (3, .int (jI 0))]) d_GM_path_121 (Nat.le_of_ble_eq_true rfl) rfl ?_
                          refine l122_GM_pathw G d m f I A hT hI hA hf hw he h13 f0 sz 0 ((by omega)) v238 (J 4) ((by omega)) (fun io244 Jo244 Bo244 hJo244 l0o244 q0o244 q1o244 k5o244 i0o244 x9o244 => ?_) 5 0 (va_up J 12 v238) (va_up B 44 (ju (B 44) v238 0)) p243 (show v238 = v238 by omega) (show 0 ≤ J 11 ∧ J 11 ≤ 74 by omega) (show v238 ≤ 12 → J 11 ≤ 2 + 6 * (v238 - 1) + 2 * (0) by omega) (show J 5 = 0 → I 5 = 0 ∧ J 13 = 0 ∧ I 4 < J 4 ∧ J 4 + (0) ≤ J 4 by omega) (show 0 ≤ 0 ∧ 0 ≤ 3 ∧ (0 = 0 → 0 ≤ 1) by omega) (by omega)
                          have f1o244 : Jo244 1 = I 1 := hJo244.2.2.1 1 rfl
                          refine jt_goto (t := 24) d_GM_path_201 rfl ?_
                          refine jt_sub (L' := [(0, .ref m), (1, .int (jI f))]) (fun _ h => List.mem_append_left [(2, Value.int (jI 0)), (3, Value.int (jI io244))] h) ?_
                          exact ih (t - 1) Jo244 Bo244 hJo244 (show Jo244 5 = 0 → Jo244 12 ≤ Jo244 4 by omega) (show 0 ≤ Jo244 11 ∧ Jo244 11 ≤ 74 by omega) (show Jo244 12 ≤ 12 → Jo244 11 ≤ 2 + 6 * Jo244 12 by omega) (show Jo244 5 = 0 → I 5 = 0 ∧ Jo244 13 = 0 ∧ I 4 < Jo244 4 by omega) (show Jo244 5 = 0 → 301 - Jo244 4 ≤ t - 1 by omega) (by omega) (by omega)
                        · skip
                          exfalso
                          omega
                    · skip
                      exfalso
                      omega
                  · skip
                    obtain rfl := hbq235 gq235
                    clear haq235 hbq235 hIq235 hAq235
                    clear gq235
                    show jt _ 75 [(0, .ref m), (1, .int (jI f)), (2, .int (jI 0))] [.int (jI 0)] (gmf m f0 J B) _ _ _
                    refine jt_if_ne (t := 83) d_GM_path_75 rfl (by unfold jRi; omega) (fun c245 => ?_) (fun c245 => ?_)
                    · skip
                      exfalso
                      omega
                    · skip
                      refine jt_aload_n d_GM_path_78 rfl ?_
                      refine gct_call (Y := Y_GM_syntax) (As := []) (rest := []) d_GM_path_79 GM_c205 yk_GM_syntax yv_GM_syntax rfl (Nat.le_of_ble_eq_true rfl) rfl rfl (Nat.le_of_ble_eq_true rfl) (w_GM_syntax G _ m  J B hJ.1 hJ.2.1 ) (fun rvq246 Iq246 Aq246 hq246 => ?_)
                      obtain ⟨rfl, hqq246, hxq246⟩ := hq246
                      have hpq246 := gPo.trans hJ hqq246 rfl rfl
                      have f1q246 : Iq246 1 = I 1 := hpq246.2.2.1 1 rfl
                      have m4q246 : Iq246 4 = J 4 := hqq246.2.2.1 4 rfl
                      have m11q246 : Iq246 11 = J 11 := hqq246.2.2.1 11 rfl
                      have m12q246 : Iq246 12 = J 12 := hqq246.2.2.1 12 rfl
                      have m13q246 : Iq246 13 = J 13 := hqq246.2.2.1 13 rfl
                      show jt _ 82 [(0, .ref m), (1, .int (jI f)), (2, .int (jI 0))] [] (gmf m f0 Iq246 Aq246) _ _ _
                      exact gm_vret d_GM_path_82 rfl (⟨rfl, hpq246, show Iq246 5 = 0 → I 4 < Iq246 4 by omega⟩)
            · skip
              exfalso
              omega
      · skip
        obtain rfl := hbq211 gq211
        clear haq211 hbq211 hIq211 hAq211
        clear gq211
        show jt _ 37 [(0, .ref m), (1, .int (jI f))] [.int (jI 0)] (gmf m f0 J B) _ _ _
        refine jt_if_eq (t := 58) d_GM_path_37 rfl (by unfold jRi; omega) (fun c247 => ?_) (fun c247 => ?_)
        · skip
          refine jt_aload_n d_GM_path_58 rfl ?_
          refine jt_bipush d_GM_path_59 (by omega) ?_
          refine gct_call (Y := Y_GM_word) (As := [.int (jI 7)]) (rest := []) d_GM_path_61 GM_c201 yk_GM_word yv_GM_word rfl (Nat.le_of_ble_eq_true rfl) rfl rfl (Nat.le_of_ble_eq_true rfl) (c_GM_word G _ m 7 J B (gP_of hJ.1 (gT_of hJ hT rfl rfl rfl)) (by unfold jRi; omega)) (fun rvq248 Iq248 Aq248 hq248 => ?_)
          obtain ⟨haq248, hbq248, hIq248, hAq248⟩ := hq248
          rw [hIq248, hAq248]
          by_cases gq248 : (J 4) < J 1 ∧ B 22 (J 4) = 4 ∧ B 23 (J 4) = 7
          · skip
            obtain rfl := haq248 gq248
            have tq248 : J 1 ≤ 300 := (gT_of hJ hT rfl rfl rfl).2.1
            clear haq248 hbq248 hIq248 hAq248
            show jt _ 64 [(0, .ref m), (1, .int (jI f))] [.int (jI 1)] (gmf m f0 J B) _ _ _
            refine jt_istore_n (L' := [(0, .ref m), (1, .int (jI f)), (2, .int (jI 1))]) d_GM_path_64 (Nat.le_of_ble_eq_true rfl) rfl ?_
            refine jt_iload_n d_GM_path_65 rfl ?_
            refine jt_if_ne (t := 83) d_GM_path_66 rfl (by unfold jRi; omega) (fun c249 => ?_) (fun c249 => ?_)
            · skip
              refine jt_aload_n d_GM_path_83 rfl ?_
              refine jt_dup d_GM_path_84 rfl ?_
              refine gm_gI (k := 12) (v := J 12) d_GM_path_85 GM_f46 (by decide) rfl ?_
              have rb250 : 0 ≤ J 12 ∧ J 12 ≤ 300 := hJ.1 12
              refine jt_iconst d_GM_path_88 ?_
              refine jt_iadd d_GM_path_89 ?_
              refine jt_topi (fun v251 ev251 => ?_)
              refine gm_pI (k := 12) (v := v251) (J := va_up J 12 v251) d_GM_path_90 (GM_w46 _ rfl) (by decide) rfl rfl rfl ?_
              have p252 := gPo.I 12 v251 hJ rfl (show 0 ≤ v251 ∧ v251 ≤ 300 by omega)
              refine jt_aload_n d_GM_path_93 rfl ?_
              refine gm_gI (k := 12) (v := v251) d_GM_path_94 GM_f46 (by decide) rfl ?_
              refine jt_bipush d_GM_path_97 (by omega) ?_
              refine jt_icmp_ge (t := 120) d_GM_path_99 rfl (by unfold jRi; omega) (by unfold jRi; omega) (fun c253 => ?_) (fun c253 => ?_)
              · skip
                refine jt_iconst d_GM_path_120 ?_
                refine jt_istore_n (L' := [(0, .ref m), (1, .int (jI f)), (2, .int (jI 1)), (3, .int (jI 0))]) d_GM_path_121 (Nat.le_of_ble_eq_true rfl) rfl ?_
                refine l122_GM_pathw G d m f I A hT hI hA hf hw he h13 f0 sz 1 ((by omega)) v251 (J 4) ((by omega)) (fun io254 Jo254 Bo254 hJo254 l0o254 q0o254 q1o254 k5o254 i0o254 x9o254 => ?_) 5 0 (va_up J 12 v251) B p252 (show v251 = v251 by omega) (show 0 ≤ J 11 ∧ J 11 ≤ 74 by omega) (show v251 ≤ 12 → J 11 ≤ 2 + 6 * (v251 - 1) + 2 * (0) by omega) (show J 5 = 0 → I 5 = 0 ∧ J 13 = 0 ∧ I 4 < J 4 ∧ J 4 + (0) ≤ J 4 by omega) (show 0 ≤ 0 ∧ 0 ≤ 3 ∧ (1 = 0 → 0 ≤ 1) by omega) (by omega)
                have f1o254 : Jo254 1 = I 1 := hJo254.2.2.1 1 rfl
                refine jt_goto (t := 24) d_GM_path_201 rfl ?_
                refine jt_sub (L' := [(0, .ref m), (1, .int (jI f))]) (fun _ h => List.mem_append_left [(2, Value.int (jI 1)), (3, Value.int (jI io254))] h) ?_
                exact ih (t - 1) Jo254 Bo254 hJo254 (show Jo254 5 = 0 → Jo254 12 ≤ Jo254 4 by omega) (show 0 ≤ Jo254 11 ∧ Jo254 11 ≤ 74 by omega) (show Jo254 12 ≤ 12 → Jo254 11 ≤ 2 + 6 * Jo254 12 by omega) (show Jo254 5 = 0 → I 5 = 0 ∧ Jo254 13 = 0 ∧ I 4 < Jo254 4 by omega) (show Jo254 5 = 0 → 301 - Jo254 4 ≤ t - 1 by omega) (by omega) (by omega)
              · skip
                refine jt_aload_n d_GM_path_102 rfl ?_
                refine gm_gA (k := 44) (a := m + 29) d_GM_path_103 GM_f145 (by decide) (by decide) rfl ?_
                refine jt_aload_n d_GM_path_106 rfl ?_
                refine gm_gI (k := 12) (v := v251) d_GM_path_107 GM_f46 (by decide) rfl ?_
                refine jt_iload_n d_GM_path_110 rfl ?_
                refine jt_if_eq (t := 118) d_GM_path_111 rfl (by unfold jRi; omega) (fun c255 => ?_) (fun c255 => ?_)
                · skip
                  exfalso
                  omega
                · skip
                  refine jt_iconst d_GM_path_114 ?_
                  refine jt_goto (t := 119) d_GM_path_115 rfl ?_
                  refine gm_st0 (k := 44) (n := 14) (B := va_up B 44 (ju (B 44) v251 1)) d_GM_path_119 rfl (by decide) (by decide) rfl rfl (by omega) (by omega) (by omega) rfl ?_
                  have p256 := gPo.A 44 (ju (B 44) v251 1) p252 rfl (gju (p252.2.1 44) (show 0 ≤ 1 ∧ 1 ≤ 1 by omega))
                  refine jt_iconst d_GM_path_120 ?_
                  refine jt_istore_n (L' := [(0, .ref m), (1, .int (jI f)), (2, .int (jI 1)), (3, .int (jI 0))]) d_GM_path_121 (Nat.le_of_ble_eq_true rfl) rfl ?_
                  refine l122_GM_pathw G d m f I A hT hI hA hf hw he h13 f0 sz 1 ((by omega)) v251 (J 4) ((by omega)) (fun io257 Jo257 Bo257 hJo257 l0o257 q0o257 q1o257 k5o257 i0o257 x9o257 => ?_) 5 0 (va_up J 12 v251) (va_up B 44 (ju (B 44) v251 1)) p256 (show v251 = v251 by omega) (show 0 ≤ J 11 ∧ J 11 ≤ 74 by omega) (show v251 ≤ 12 → J 11 ≤ 2 + 6 * (v251 - 1) + 2 * (0) by omega) (show J 5 = 0 → I 5 = 0 ∧ J 13 = 0 ∧ I 4 < J 4 ∧ J 4 + (0) ≤ J 4 by omega) (show 0 ≤ 0 ∧ 0 ≤ 3 ∧ (1 = 0 → 0 ≤ 1) by omega) (by omega)
                  have f1o257 : Jo257 1 = I 1 := hJo257.2.2.1 1 rfl
                  refine jt_goto (t := 24) d_GM_path_201 rfl ?_
                  refine jt_sub (L' := [(0, .ref m), (1, .int (jI f))]) (fun _ h => List.mem_append_left [(2, Value.int (jI 1)), (3, Value.int (jI io257))] h) ?_
                  exact ih (t - 1) Jo257 Bo257 hJo257 (show Jo257 5 = 0 → Jo257 12 ≤ Jo257 4 by omega) (show 0 ≤ Jo257 11 ∧ Jo257 11 ≤ 74 by omega) (show Jo257 12 ≤ 12 → Jo257 11 ≤ 2 + 6 * Jo257 12 by omega) (show Jo257 5 = 0 → I 5 = 0 ∧ Jo257 13 = 0 ∧ I 4 < Jo257 4 by omega) (show Jo257 5 = 0 → 301 - Jo257 4 ≤ t - 1 by omega) (by omega) (by omega)
            · skip
              exfalso
              omega
          · skip
            obtain rfl := hbq248 gq248
            clear haq248 hbq248 hIq248 hAq248
            clear gq248
            show jt _ 64 [(0, .ref m), (1, .int (jI f))] [.int (jI 0)] (gmf m f0 J B) _ _ _
            refine jt_istore_n (L' := [(0, .ref m), (1, .int (jI f)), (2, .int (jI 0))]) d_GM_path_64 (Nat.le_of_ble_eq_true rfl) rfl ?_
            refine jt_iload_n d_GM_path_65 rfl ?_
            refine jt_if_ne (t := 83) d_GM_path_66 rfl (by unfold jRi; omega) (fun c258 => ?_) (fun c258 => ?_)
            · skip
              exfalso
              omega
            · skip
              refine jt_aload_n d_GM_path_69 rfl ?_
              refine jt_bipush d_GM_path_70 (by omega) ?_
              refine gct_call (Y := Y_GM_word) (As := [.int (jI 8)]) (rest := []) d_GM_path_72 GM_c201 yk_GM_word yv_GM_word rfl (Nat.le_of_ble_eq_true rfl) rfl rfl (Nat.le_of_ble_eq_true rfl) (c_GM_word G _ m 8 J B (gP_of hJ.1 (gT_of hJ hT rfl rfl rfl)) (by unfold jRi; omega)) (fun rvq259 Iq259 Aq259 hq259 => ?_)
              obtain ⟨haq259, hbq259, hIq259, hAq259⟩ := hq259
              rw [hIq259, hAq259]
              by_cases gq259 : (J 4) < J 1 ∧ B 22 (J 4) = 4 ∧ B 23 (J 4) = 8
              · skip
                obtain rfl := haq259 gq259
                have tq259 : J 1 ≤ 300 := (gT_of hJ hT rfl rfl rfl).2.1
                clear haq259 hbq259 hIq259 hAq259
                show jt _ 75 [(0, .ref m), (1, .int (jI f)), (2, .int (jI 0))] [.int (jI 1)] (gmf m f0 J B) _ _ _
                refine jt_if_ne (t := 83) d_GM_path_75 rfl (by unfold jRi; omega) (fun c260 => ?_) (fun c260 => ?_)
                · skip
                  refine jt_aload_n d_GM_path_83 rfl ?_
                  refine jt_dup d_GM_path_84 rfl ?_
                  refine gm_gI (k := 12) (v := J 12) d_GM_path_85 GM_f46 (by decide) rfl ?_
                  have rb261 : 0 ≤ J 12 ∧ J 12 ≤ 300 := hJ.1 12
                  refine jt_iconst d_GM_path_88 ?_
                  refine jt_iadd d_GM_path_89 ?_
                  refine jt_topi (fun v262 ev262 => ?_)
                  refine gm_pI (k := 12) (v := v262) (J := va_up J 12 v262) d_GM_path_90 (GM_w46 _ rfl) (by decide) rfl rfl rfl ?_
                  have p263 := gPo.I 12 v262 hJ rfl (show 0 ≤ v262 ∧ v262 ≤ 300 by omega)
                  refine jt_aload_n d_GM_path_93 rfl ?_
                  refine gm_gI (k := 12) (v := v262) d_GM_path_94 GM_f46 (by decide) rfl ?_
                  refine jt_bipush d_GM_path_97 (by omega) ?_
                  refine jt_icmp_ge (t := 120) d_GM_path_99 rfl (by unfold jRi; omega) (by unfold jRi; omega) (fun c264 => ?_) (fun c264 => ?_)
                  · skip
                    refine jt_iconst d_GM_path_120 ?_
                    refine jt_istore_n (L' := [(0, .ref m), (1, .int (jI f)), (2, .int (jI 0)), (3, .int (jI 0))]) d_GM_path_121 (Nat.le_of_ble_eq_true rfl) rfl ?_
                    refine l122_GM_pathw G d m f I A hT hI hA hf hw he h13 f0 sz 0 ((by omega)) v262 (J 4) ((by omega)) (fun io265 Jo265 Bo265 hJo265 l0o265 q0o265 q1o265 k5o265 i0o265 x9o265 => ?_) 5 0 (va_up J 12 v262) B p263 (show v262 = v262 by omega) (show 0 ≤ J 11 ∧ J 11 ≤ 74 by omega) (show v262 ≤ 12 → J 11 ≤ 2 + 6 * (v262 - 1) + 2 * (0) by omega) (show J 5 = 0 → I 5 = 0 ∧ J 13 = 0 ∧ I 4 < J 4 ∧ J 4 + (0) ≤ J 4 by omega) (show 0 ≤ 0 ∧ 0 ≤ 3 ∧ (0 = 0 → 0 ≤ 1) by omega) (by omega)
                    have f1o265 : Jo265 1 = I 1 := hJo265.2.2.1 1 rfl
                    refine jt_goto (t := 24) d_GM_path_201 rfl ?_
                    refine jt_sub (L' := [(0, .ref m), (1, .int (jI f))]) (fun _ h => List.mem_append_left [(2, Value.int (jI 0)), (3, Value.int (jI io265))] h) ?_
                    exact ih (t - 1) Jo265 Bo265 hJo265 (show Jo265 5 = 0 → Jo265 12 ≤ Jo265 4 by omega) (show 0 ≤ Jo265 11 ∧ Jo265 11 ≤ 74 by omega) (show Jo265 12 ≤ 12 → Jo265 11 ≤ 2 + 6 * Jo265 12 by omega) (show Jo265 5 = 0 → I 5 = 0 ∧ Jo265 13 = 0 ∧ I 4 < Jo265 4 by omega) (show Jo265 5 = 0 → 301 - Jo265 4 ≤ t - 1 by omega) (by omega) (by omega)
                  · skip
                    refine jt_aload_n d_GM_path_102 rfl ?_
                    refine gm_gA (k := 44) (a := m + 29) d_GM_path_103 GM_f145 (by decide) (by decide) rfl ?_
                    refine jt_aload_n d_GM_path_106 rfl ?_
                    refine gm_gI (k := 12) (v := v262) d_GM_path_107 GM_f46 (by decide) rfl ?_
                    refine jt_iload_n d_GM_path_110 rfl ?_
                    refine jt_if_eq (t := 118) d_GM_path_111 rfl (by unfold jRi; omega) (fun c266 => ?_) (fun c266 => ?_)
                    · skip
                      refine jt_iconst d_GM_path_118 ?_
                      refine gm_st0 (k := 44) (n := 14) (B := va_up B 44 (ju (B 44) v262 0)) d_GM_path_119 rfl (by decide) (by decide) rfl rfl (by omega) (by omega) (by omega) rfl ?_
                      have p267 := gPo.A 44 (ju (B 44) v262 0) p263 rfl (gju (p263.2.1 44) (show 0 ≤ 0 ∧ 0 ≤ 1 by omega))
                      refine jt_iconst d_GM_path_120 ?_
                      refine jt_istore_n (L' := [(0, .ref m), (1, .int (jI f)), (2, .int (jI 0)), (3, .int (jI 0))]) d_GM_path_121 (Nat.le_of_ble_eq_true rfl) rfl ?_
                      refine l122_GM_pathw G d m f I A hT hI hA hf hw he h13 f0 sz 0 ((by omega)) v262 (J 4) ((by omega)) (fun io268 Jo268 Bo268 hJo268 l0o268 q0o268 q1o268 k5o268 i0o268 x9o268 => ?_) 5 0 (va_up J 12 v262) (va_up B 44 (ju (B 44) v262 0)) p267 (show v262 = v262 by omega) (show 0 ≤ J 11 ∧ J 11 ≤ 74 by omega) (show v262 ≤ 12 → J 11 ≤ 2 + 6 * (v262 - 1) + 2 * (0) by omega) (show J 5 = 0 → I 5 = 0 ∧ J 13 = 0 ∧ I 4 < J 4 ∧ J 4 + (0) ≤ J 4 by omega) (show 0 ≤ 0 ∧ 0 ≤ 3 ∧ (0 = 0 → 0 ≤ 1) by omega) (by omega)
                      have f1o268 : Jo268 1 = I 1 := hJo268.2.2.1 1 rfl
                      refine jt_goto (t := 24) d_GM_path_201 rfl ?_
                      refine jt_sub (L' := [(0, .ref m), (1, .int (jI f))]) (fun _ h => List.mem_append_left [(2, Value.int (jI 0)), (3, Value.int (jI io268))] h) ?_
                      exact ih (t - 1) Jo268 Bo268 hJo268 (show Jo268 5 = 0 → Jo268 12 ≤ Jo268 4 by omega) (show 0 ≤ Jo268 11 ∧ Jo268 11 ≤ 74 by omega) (show Jo268 12 ≤ 12 → Jo268 11 ≤ 2 + 6 * Jo268 12 by omega) (show Jo268 5 = 0 → I 5 = 0 ∧ Jo268 13 = 0 ∧ I 4 < Jo268 4 by omega) (show Jo268 5 = 0 → 301 - Jo268 4 ≤ t - 1 by omega) (by omega) (by omega)
                    · skip
                      exfalso
                      omega
                · skip
                  exfalso
                  omega
              · skip
                obtain rfl := hbq259 gq259
                clear haq259 hbq259 hIq259 hAq259
                clear gq259
                show jt _ 75 [(0, .ref m), (1, .int (jI f)), (2, .int (jI 0))] [.int (jI 0)] (gmf m f0 J B) _ _ _
                refine jt_if_ne (t := 83) d_GM_path_75 rfl (by unfold jRi; omega) (fun c269 => ?_) (fun c269 => ?_)
                · skip
                  exfalso
                  omega
                · skip
                  refine jt_aload_n d_GM_path_78 rfl ?_
                  refine gct_call (Y := Y_GM_syntax) (As := []) (rest := []) d_GM_path_79 GM_c205 yk_GM_syntax yv_GM_syntax rfl (Nat.le_of_ble_eq_true rfl) rfl rfl (Nat.le_of_ble_eq_true rfl) (w_GM_syntax G _ m  J B hJ.1 hJ.2.1 ) (fun rvq270 Iq270 Aq270 hq270 => ?_)
                  obtain ⟨rfl, hqq270, hxq270⟩ := hq270
                  have hpq270 := gPo.trans hJ hqq270 rfl rfl
                  have f1q270 : Iq270 1 = I 1 := hpq270.2.2.1 1 rfl
                  have m4q270 : Iq270 4 = J 4 := hqq270.2.2.1 4 rfl
                  have m11q270 : Iq270 11 = J 11 := hqq270.2.2.1 11 rfl
                  have m12q270 : Iq270 12 = J 12 := hqq270.2.2.1 12 rfl
                  have m13q270 : Iq270 13 = J 13 := hqq270.2.2.1 13 rfl
                  show jt _ 82 [(0, .ref m), (1, .int (jI f)), (2, .int (jI 0))] [] (gmf m f0 Iq270 Aq270) _ _ _
                  exact gm_vret d_GM_path_82 rfl (⟨rfl, hpq270, show Iq270 5 = 0 → I 4 < Iq270 4 by omega⟩)
        · skip
          exfalso
          omega
set_option maxRecDepth 100000 in
set_option maxHeartbeats 1000000 in
theorem w_GM_path (G : jG) (d m : Nat) (f : Int) (I : Nat → Int) (A : Nat → Int → Int) (hT : gT I A) (hI : gSI I) (hA : gSA A) (hf : 0 ≤ f ∧ f ≤ 1) (hw : I 4 < I 1) (he : I 5 = 0) (h13 : I 13 = 0) : gct G Y_GM_path (d + 6) m [.int (jI f)] I A (fun (rv : Option Value) (I2 : Nat → Int) (A2 : Nat → Int → Int) => rv = none ∧ gPo [4, 5, 6, 9, 10, 11, 12, 13, 14, 15] [35, 36, 37, 38, 39, 40, 41, 42, 43, 44, 45] I A I2 A2 ∧ (I2 5 = 0 → I 4 < I2 4)) := by
  refine gct_of (by decide) (Nat.le_of_ble_eq_true rfl) (fun f0 sz => ?_)
  show jt _ 0 [(0, .ref m), (1, .int (jI f))] [] _ _ _ _
  have r4 : 0 ≤ I 4 ∧ I 4 ≤ 300 := hI 4
  have r5 : -13 ≤ I 5 ∧ I 5 ≤ 0 := hI 5
  have r13 : 0 ≤ I 13 ∧ I 13 ≤ 320 := hI 13
  have hz0 : gPo [4, 5, 6, 9, 10, 11, 12, 13, 14, 15] [35, 36, 37, 38, 39, 40, 41, 42, 43, 44, 45] I A I A := gPo.refl hI hA
  have t0 := hT.1
  have t1 := hT.2.1
  refine jt_aload_n d_GM_path_0 rfl ?_
  refine jt_dup d_GM_path_1 rfl ?_
  refine gm_gI (k := 4) (v := I 4) d_GM_path_2 GM_f22 (by decide) rfl ?_
  have rb1 : 0 ≤ I 4 ∧ I 4 ≤ 300 := hz0.1 4
  refine jt_iconst d_GM_path_5 ?_
  refine jt_iadd d_GM_path_6 ?_
  refine jt_topi (fun v2 ev2 => ?_)
  refine gm_pI (k := 4) (v := v2) (J := va_up I 4 v2) d_GM_path_7 (GM_w22 _ rfl) (by decide) rfl rfl rfl ?_
  have p3 := gPo.I 4 v2 hz0 rfl (show 0 ≤ v2 ∧ v2 ≤ 300 by omega)
  refine jt_aload_n d_GM_path_10 rfl ?_
  refine jt_iconst d_GM_path_11 ?_
  refine gm_pI (k := 11) (v := 0) (J := va_up (va_up I 4 v2) 11 0) d_GM_path_12 (GM_w43 _ rfl) (by decide) rfl rfl rfl ?_
  have p4 := gPo.I 11 0 p3 rfl (show 0 ≤ 0 ∧ 0 ≤ 76 by omega)
  refine jt_aload_n d_GM_path_15 rfl ?_
  refine jt_iconst d_GM_path_16 ?_
  refine gm_pI (k := 12) (v := 0) (J := va_up (va_up (va_up I 4 v2) 11 0) 12 0) d_GM_path_17 (GM_w46 _ rfl) (by decide) rfl rfl rfl ?_
  have p5 := gPo.I 12 0 p4 rfl (show 0 ≤ 0 ∧ 0 ≤ 300 by omega)
  refine jt_aload_n d_GM_path_20 rfl ?_
  refine gct_call (Y := Y_GM_pair) (As := []) (rest := []) d_GM_path_21 GM_c253 yk_GM_pair yv_GM_pair rfl (Nat.le_of_ble_eq_true rfl) rfl rfl (Nat.le_of_ble_eq_true rfl) (w_GM_pair G _ m  (va_up (va_up (va_up I 4 v2) 11 0) 12 0) A (gT_of p5 hT rfl rfl rfl) p5.1 p5.2.1 (show 0 ≤ 0 ∧ 0 ≤ 74 by omega) (fun z => by have z5 : I 5 = 0 := z; show I 13 = 0; omega)) (fun rvq6 Iq6 Aq6 hq6 => ?_)
  obtain ⟨rfl, hqq6, hxq6⟩ := hq6
  have hpq6 := gPo.trans p5 hqq6 rfl rfl
  have f1q6 : Iq6 1 = I 1 := hpq6.2.2.1 1 rfl
  have s4q6 : (va_up (va_up (va_up I 4 v2) 11 0) 12 0) 4 = v2 := rfl
  have s5q6 : (va_up (va_up (va_up I 4 v2) 11 0) 12 0) 5 = I 5 := rfl
  have s11q6 : (va_up (va_up (va_up I 4 v2) 11 0) 12 0) 11 = 0 := rfl
  have s12q6 : (va_up (va_up (va_up I 4 v2) 11 0) 12 0) 12 = 0 := rfl
  have s13q6 : (va_up (va_up (va_up I 4 v2) 11 0) 12 0) 13 = I 13 := rfl
  have m12q6 : Iq6 12 = 0 := hqq6.2.2.1 12 rfl
  show jt _ 24 [(0, .ref m), (1, .int (jI f))] [] (gmf m f0 Iq6 Aq6) _ _ _
  exact l24_GM_pathw G d m f I A hT hI hA hf hw he h13 f0 sz  303 301 Iq6 Aq6 hpq6 (show Iq6 5 = 0 → Iq6 12 ≤ Iq6 4 by omega) (show 0 ≤ Iq6 11 ∧ Iq6 11 ≤ 74 by omega) (show Iq6 12 ≤ 12 → Iq6 11 ≤ 2 + 6 * Iq6 12 by omega) (show Iq6 5 = 0 → I 5 = 0 ∧ Iq6 13 = 0 ∧ I 4 < Iq6 4 by omega) (show Iq6 5 = 0 → 301 - Iq6 4 ≤ 301 by omega) (by omega) (by omega)
set_option maxRecDepth 100000 in
set_option maxHeartbeats 1000000 in
theorem l77_GM_showItw (G : jG) (d m : Nat)  (I : Nat → Int) (A : Nat → Int → Int) (hT : gT I A) (hI : gSI I) (hA : gSA A) (hw : I 4 < I 1) (he : I 5 = 0) (h13 : I 13 = 0) (f0 : jF) (sz : Nat)  : ∀ (n9 : Nat) (i : Int) (J : Nat → Int) (B : Nat → Int → Int), gPo [4, 5, 6, 7, 9, 13, 14, 15] [32, 35, 36, 37, 38] I A J B → (0 ≤ i) → (i ≤ 7) → (J 5 = 0 → I 4 < J 4) → i < (n9 : Int) → jt (jm G Y_GM_showIt (gR (d + 5)) (gQ m f0 sz (fun (rv : Option Value) (I2 : Nat → Int) (A2 : Nat → Int → Int) => rv = none ∧ gPo [4, 5, 6, 7, 9, 13, 14, 15] [32, 35, 36, 37, 38] I A I2 A2 ∧ (I2 5 = 0 → I 4 < I2 4)))) 77 [(0, .ref m), (1, .int (jI i))] [] (gmf m f0 J B) sz 0 0 := by
  have r4 : 0 ≤ I 4 ∧ I 4 ≤ 300 := hI 4
  have r5 : -13 ≤ I 5 ∧ I 5 ≤ 0 := hI 5
  have r13 : 0 ≤ I 13 ∧ I 13 ≤ 320 := hI 13
  have t0 := hT.1
  have t1 := hT.2.1
  intro n9
  induction n9 with
  | zero =>
    intro i J B hJ i0 i1 k5 hmeas
    exfalso
    omega
  | succ n9 ih =>
    intro i J B hJ i0 i1 k5 hmeas
    have f1 : J 1 = I 1 := hJ.2.2.1 1 rfl
    refine jt_iload_n d_GM_showIt_77 rfl ?_
    refine jt_if_le (t := 101) d_GM_showIt_78 rfl (by unfold jRi; omega) (fun c101 => ?_) (fun c101 => ?_)
    · skip
      refine jt_aload_n d_GM_showIt_101 rfl ?_
      refine gm_gA (k := 32) (a := m + 17) d_GM_showIt_102 GM_f109 (by decide) (by decide) rfl ?_
      refine jt_iconst d_GM_showIt_105 ?_
      refine jt_aload_n d_GM_showIt_106 rfl ?_
      refine gm_gA (k := 35) (a := m + 20) d_GM_showIt_107 GM_f118 (by decide) (by decide) rfl ?_
      refine jt_bipush d_GM_showIt_110 (by omega) ?_
      refine gm_ld1 (k := 35) (n := 5200) (v := (B 35) 12) d_GM_showIt_112 rfl (by decide) (by decide) rfl rfl (by omega) (by omega) (by omega) rfl ?_
      refine jt_topl (fun v102 ev102 => ?_)
      have bv102 : (-9223372036854775808) ≤ v102 ∧ v102 ≤ 9223372036854775807 := by rw [ev102]; exact hJ.2.1 35 12
      refine gm_st1 (k := 32) (n := 8) (B := va_up B 32 (ju (B 32) 0 v102)) d_GM_showIt_113 rfl (by decide) (by decide) rfl rfl (by omega) (by omega) (by omega) rfl ?_
      have p103 := gPo.A 32 (ju (B 32) 0 v102) hJ rfl (gju (hJ.2.1 32) (show -9223372036854775808 ≤ v102 ∧ v102 ≤ 9223372036854775807 by omega))
      refine jt_aload_n d_GM_showIt_114 rfl ?_
      refine jt_dup d_GM_showIt_115 rfl ?_
      refine gm_gI (k := 7) (v := J 7) d_GM_showIt_116 GM_f31 (by decide) rfl ?_
      have rb104 : -2147483648 ≤ J 7 ∧ J 7 ≤ 2147483647 := p103.1 7
      refine jt_iconst d_GM_showIt_119 ?_
      refine jt_iadd d_GM_showIt_120 ?_
      refine jt_topiw (fun v105 bv105 => ?_)
      refine gm_pI (k := 7) (v := v105) (J := va_up J 7 v105) d_GM_showIt_121 (GM_w31 _ rfl) (by decide) rfl rfl rfl ?_
      have p106 := gPo.I 7 v105 p103 rfl (show -2147483648 ≤ v105 ∧ v105 ≤ 2147483647 by omega)
      exact gm_vret d_GM_showIt_124 rfl (⟨rfl, p106, show J 5 = 0 → I 4 < J 4 by omega⟩)
    · skip
      refine jt_aload_n d_GM_showIt_81 rfl ?_
      refine gm_gA (k := 32) (a := m + 17) d_GM_showIt_82 GM_f109 (by decide) (by decide) rfl ?_
      refine jt_iload_n d_GM_showIt_85 rfl ?_
      refine jt_aload_n d_GM_showIt_86 rfl ?_
      refine gm_gA (k := 32) (a := m + 17) d_GM_showIt_87 GM_f109 (by decide) (by decide) rfl ?_
      refine jt_iload_n d_GM_showIt_90 rfl ?_
      refine jt_iconst d_GM_showIt_91 ?_
      refine jt_isub d_GM_showIt_92 ?_
      refine gm_ld1 (k := 32) (n := 8) (v := (B 32) (i - 1)) d_GM_showIt_93 rfl (by decide) (by decide) rfl rfl (by omega) (by omega) (by omega) rfl ?_
      refine jt_topl (fun v107 ev107 => ?_)
      have bv107 : (-9223372036854775808) ≤ v107 ∧ v107 ≤ 9223372036854775807 := by rw [ev107]; exact hJ.2.1 32 (i - 1)
      refine gm_st1 (k := 32) (n := 8) (B := va_up B 32 (ju (B 32) i v107)) d_GM_showIt_94 rfl (by decide) (by decide) rfl rfl (by omega) (by omega) (by omega) rfl ?_
      have p108 := gPo.A 32 (ju (B 32) i v107) hJ rfl (gju (hJ.2.1 32) (show -9223372036854775808 ≤ v107 ∧ v107 ≤ 9223372036854775807 by omega))
      refine jt_iinc (L' := [(0, .ref m), (1, .int (jI (i + (-1))))]) d_GM_showIt_95 rfl (Nat.le_of_ble_eq_true rfl) rfl ?_
      refine jt_goto (t := 77) d_GM_showIt_98 rfl ?_
      exact ih (i + (-1)) J (va_up B 32 (ju (B 32) i v107)) p108 (by omega) (by omega) (show J 5 = 0 → I 4 < J 4 by omega) (by omega)
set_option maxRecDepth 100000 in
set_option maxHeartbeats 1000000 in
theorem w_GM_showIt (G : jG) (d m : Nat)  (I : Nat → Int) (A : Nat → Int → Int) (hT : gT I A) (hI : gSI I) (hA : gSA A) (hw : I 4 < I 1) (he : I 5 = 0) (h13 : I 13 = 0) : gct G Y_GM_showIt (d + 5) m [] I A (fun (rv : Option Value) (I2 : Nat → Int) (A2 : Nat → Int → Int) => rv = none ∧ gPo [4, 5, 6, 7, 9, 13, 14, 15] [32, 35, 36, 37, 38] I A I2 A2 ∧ (I2 5 = 0 → I 4 < I2 4)) := by
  refine gct_of (by decide) (Nat.le_of_ble_eq_true rfl) (fun f0 sz => ?_)
  show jt _ 0 [(0, .ref m)] [] _ _ _ _
  have r4 : 0 ≤ I 4 ∧ I 4 ≤ 300 := hI 4
  have r5 : -13 ≤ I 5 ∧ I 5 ≤ 0 := hI 5
  have r13 : 0 ≤ I 13 ∧ I 13 ≤ 320 := hI 13
  have hz0 : gPo [4, 5, 6, 7, 9, 13, 14, 15] [32, 35, 36, 37, 38] I A I A := gPo.refl hI hA
  have t0 := hT.1
  have t1 := hT.2.1
  refine jt_aload_n d_GM_showIt_0 rfl ?_
  refine jt_dup d_GM_showIt_1 rfl ?_
  refine gm_gI (k := 4) (v := I 4) d_GM_showIt_2 GM_f22 (by decide) rfl ?_
  have rb1 : 0 ≤ I 4 ∧ I 4 ≤ 300 := hz0.1 4
  refine jt_iconst d_GM_showIt_5 ?_
  refine jt_iadd d_GM_showIt_6 ?_
  refine jt_topi (fun v2 ev2 => ?_)
  refine gm_pI (k := 4) (v := v2) (J := va_up I 4 v2) d_GM_showIt_7 (GM_w22 _ rfl) (by decide) rfl rfl rfl ?_
  have p3 := gPo.I 4 v2 hz0 rfl (show 0 ≤ v2 ∧ v2 ≤ 300 by omega)
  refine jt_aload_n d_GM_showIt_10 rfl ?_
  refine jt_iconst d_GM_showIt_11 ?_
  refine gct_call (Y := Y_GM_expr) (As := [.int (jI 0)]) (rest := []) d_GM_showIt_12 GM_c250 yk_GM_expr yv_GM_expr rfl (Nat.le_of_ble_eq_true rfl) rfl rfl (Nat.le_of_ble_eq_true rfl) (w_GM_expr G _ m 0 (va_up I 4 v2) A (gT_of p3 hT rfl rfl rfl) p3.1 p3.2.1 (by omega) (by omega) (fun z => by have z5 : I 5 = 0 := z; show I 13 = 0; omega)) (fun rvq4 Iq4 Aq4 hq4 => ?_)
  obtain ⟨rfl, hqq4, hxq4⟩ := hq4
  have hpq4 := gPo.trans p3 hqq4 rfl rfl
  have f1q4 : Iq4 1 = I 1 := hpq4.2.2.1 1 rfl
  have s4q4 : (va_up I 4 v2) 4 = v2 := rfl
  have s5q4 : (va_up I 4 v2) 5 = I 5 := rfl
  have s13q4 : (va_up I 4 v2) 13 = I 13 := rfl
  show jt _ 15 [(0, .ref m)] [] (gmf m f0 Iq4 Aq4) _ _ _
  refine jt_aload_n d_GM_showIt_15 rfl ?_
  refine jt_bipush d_GM_showIt_16 (by omega) ?_
  refine gct_call (Y := Y_GM_need) (As := [.int (jI 6)]) (rest := []) d_GM_showIt_18 GM_c241 yk_GM_need yv_GM_need rfl (Nat.le_of_ble_eq_true rfl) rfl rfl (Nat.le_of_ble_eq_true rfl) (w_GM_need G _ m 6 Iq4 Aq4 (gT_of hpq4 hT rfl rfl rfl) hpq4.1 hpq4.2.1 (by unfold jRi; omega)) (fun rvq5 Iq5 Aq5 hq5 => ?_)
  obtain ⟨rfl, hqq5, hxq5⟩ := hq5
  have hpq5 := gPo.trans hpq4 hqq5 rfl rfl
  have f1q5 : Iq5 1 = I 1 := hpq5.2.2.1 1 rfl
  have m13q5 : Iq5 13 = Iq4 13 := hqq5.2.2.1 13 rfl
  show jt _ 21 [(0, .ref m)] [] (gmf m f0 Iq5 Aq5) _ _ _
  refine jt_aload_n d_GM_showIt_21 rfl ?_
  refine gm_gI (k := 5) (v := Iq5 5) d_GM_showIt_22 GM_f25 (by decide) rfl ?_
  have rb6 : -13 ≤ Iq5 5 ∧ Iq5 5 ≤ 0 := hpq5.1 5
  refine jt_if_eq (t := 29) d_GM_showIt_25 rfl (by unfold jRi; omega) (fun c7 => ?_) (fun c7 => ?_)
  · skip
    refine jt_aload_n d_GM_showIt_29 rfl ?_
    refine gm_gI (k := 15) (v := Iq5 15) d_GM_showIt_30 GM_f55 (by decide) rfl ?_
    have rb8 : 0 ≤ Iq5 15 ∧ Iq5 15 ≤ 1 := hpq5.1 15
    refine jt_if_eq (t := 51) d_GM_showIt_33 rfl (by unfold jRi; omega) (fun c9 => ?_) (fun c9 => ?_)
    · skip
      refine jt_aload_n d_GM_showIt_51 rfl ?_
      refine jt_iconst d_GM_showIt_52 ?_
      refine gct_call (Y := Y_GM_isNumber) (As := [.int (jI 0)]) (rest := []) d_GM_showIt_53 GM_c260 yk_GM_isNumber yv_GM_isNumber rfl (Nat.le_of_ble_eq_true rfl) rfl rfl (Nat.le_of_ble_eq_true rfl) (c_GM_isNumber G _ m 0 Iq5 Aq5 (by omega) (by omega) (fun j _ _ => hpq5.2.1 35 _)) (fun rvq10 Iq10 Aq10 hq10 => ?_)
      obtain ⟨haq10, hbq10, hIq10, hAq10⟩ := hq10
      rw [hIq10, hAq10]
      by_cases gq10 : ∀ j, 0 ≤ j → j < 12 → (Aq5 35) (0 * 13 + j) = 0
      · skip
        obtain rfl := haq10 gq10
        clear haq10 hbq10 hIq10 hAq10
        show jt _ 56 [(0, .ref m)] [.int (jI 1)] (gmf m f0 Iq5 Aq5) _ _ _
        refine jt_if_ne (t := 74) d_GM_showIt_56 rfl (by unfold jRi; omega) (fun c11 => ?_) (fun c11 => ?_)
        · skip
          refine jt_bipush d_GM_showIt_74 (by omega) ?_
          refine jt_istore_n (L' := [(0, .ref m), (1, .int (jI 7))]) d_GM_showIt_76 (Nat.le_of_ble_eq_true rfl) rfl ?_
          exact l77_GM_showItw G d m  I A hT hI hA hw he h13 f0 sz  8 7 Iq5 Aq5 hpq5 (by omega) (by omega) (show Iq5 5 = 0 → I 4 < Iq5 4 by omega) (by omega)
        · skip
          exfalso
          omega
      · skip
        obtain rfl := hbq10 gq10
        clear haq10 hbq10 hIq10 hAq10
        show jt _ 56 [(0, .ref m)] [.int (jI 0)] (gmf m f0 Iq5 Aq5) _ _ _
        refine jt_if_ne (t := 74) d_GM_showIt_56 rfl (by unfold jRi; omega) (fun c12 => ?_) (fun c12 => ?_)
        · skip
          exfalso
          omega
        · skip
          refine jt_aload_n d_GM_showIt_59 rfl ?_
          refine jt_bipush d_GM_showIt_60 (by omega) ?_
          refine jt_aload_n d_GM_showIt_62 rfl ?_
          refine gm_gI (k := 4) (v := Iq5 4) d_GM_showIt_63 GM_f22 (by decide) rfl ?_
          have rb13 : 0 ≤ Iq5 4 ∧ Iq5 4 ≤ 300 := hpq5.1 4
          refine jt_iconst d_GM_showIt_66 ?_
          refine jt_isub d_GM_showIt_67 ?_
          refine gct_call (Y := Y_GM_stop) (As := [.int (jI (-12)), .int (jI ((Iq5 4) - 1))]) (rest := []) d_GM_showIt_68 GM_c164 yk_GM_stop yv_GM_stop rfl (Nat.le_of_ble_eq_true rfl) rfl rfl (Nat.le_of_ble_eq_true rfl) (c_GM_stop G _ m (-12) ((Iq5 4) - 1) Iq5 Aq5) (fun rvq14 Iq14 Aq14 hq14 => ?_)
          obtain ⟨rfl, hIq14, hAq14⟩ := hq14
          rw [hIq14, hAq14]
          have p15 := gPo.I 5 (-12) hpq5 rfl (show -13 ≤ -12 ∧ -12 ≤ 0 by omega)
          have p16 := gPo.I 6 ((Iq5 4) - 1) p15 rfl (show -2147483648 ≤ (Iq5 4) - 1 ∧ (Iq5 4) - 1 ≤ 2147483647 by omega)
          show jt _ 71 [(0, .ref m)] [] (gmf m f0 (va_up (va_up Iq5 5 (-12)) 6 ((Iq5 4) - 1)) Aq5) _ _ _
          refine jt_goto (t := 124) d_GM_showIt_71 rfl ?_
          exact gm_vret d_GM_showIt_124 rfl (⟨rfl, p16, show -12 = 0 → I 4 < Iq5 4 by omega⟩)
    · skip
      refine jt_aload_n d_GM_showIt_36 rfl ?_
      refine jt_bipush d_GM_showIt_37 (by omega) ?_
      refine jt_aload_n d_GM_showIt_39 rfl ?_
      refine gm_gI (k := 4) (v := Iq5 4) d_GM_showIt_40 GM_f22 (by decide) rfl ?_
      have rb17 : 0 ≤ Iq5 4 ∧ Iq5 4 ≤ 300 := hpq5.1 4
      refine jt_iconst d_GM_showIt_43 ?_
      refine jt_isub d_GM_showIt_44 ?_
      refine gct_call (Y := Y_GM_stop) (As := [.int (jI (-9)), .int (jI ((Iq5 4) - 1))]) (rest := []) d_GM_showIt_45 GM_c164 yk_GM_stop yv_GM_stop rfl (Nat.le_of_ble_eq_true rfl) rfl rfl (Nat.le_of_ble_eq_true rfl) (c_GM_stop G _ m (-9) ((Iq5 4) - 1) Iq5 Aq5) (fun rvq18 Iq18 Aq18 hq18 => ?_)
      obtain ⟨rfl, hIq18, hAq18⟩ := hq18
      rw [hIq18, hAq18]
      have p19 := gPo.I 5 (-9) hpq5 rfl (show -13 ≤ -9 ∧ -9 ≤ 0 by omega)
      have p20 := gPo.I 6 ((Iq5 4) - 1) p19 rfl (show -2147483648 ≤ (Iq5 4) - 1 ∧ (Iq5 4) - 1 ≤ 2147483647 by omega)
      show jt _ 48 [(0, .ref m)] [] (gmf m f0 (va_up (va_up Iq5 5 (-9)) 6 ((Iq5 4) - 1)) Aq5) _ _ _
      refine jt_goto (t := 124) d_GM_showIt_48 rfl ?_
      exact gm_vret d_GM_showIt_124 rfl (⟨rfl, p20, show -9 = 0 → I 4 < Iq5 4 by omega⟩)
  · skip
    exact gm_vret d_GM_showIt_28 rfl (⟨rfl, hpq5, show Iq5 5 = 0 → I 4 < Iq5 4 by omega⟩)
set_option maxRecDepth 100000 in
set_option maxHeartbeats 1000000 in
theorem l224_GM_equationsw (G : jG) (d m : Nat)  (I : Nat → Int) (A : Nat → Int → Int) (hT : gT I A) (hI : gSI I) (hA : gSA A) (he : I 5 = 0) (h13 : I 13 = 0) (f0 : jF) (sz : Nat) (n : Int) (e : Int) (n0 : 1 ≤ n ∧ n ≤ 299) (e0 : -2147483648 ≤ e ∧ e ≤ 2147483647) (v : Int) (v0 : 0 ≤ v) (v1 : v < 12) (hout : ∀ (i : Int) (J : Nat → Int) (B : Nat → Int → Int), gPo [4, 5, 6, 9, 13, 14, 15] [30, 31, 33, 34, 35, 36, 37, 38] I A J B → (0 ≤ i) → (i ≤ 13) → (J 5 = 0 → I 4 < J 4) → jt (jm G Y_GM_equations (gR (d + 5)) (gQ m f0 sz (fun (rv : Option Value) (I2 : Nat → Int) (A2 : Nat → Int → Int) => rv = none ∧ gPo [4, 5, 6, 9, 13, 14, 15] [30, 31, 33, 34, 35, 36, 37, 38] I A I2 A2 ∧ (I2 5 = 0 → I 4 < I2 4)))) 265 [(0, .ref m), (1, .int (jI n)), (2, .int (jI e)), (3, .int (jI v)), (4, .int (jI i))] [] (gmf m f0 J B) sz 0 0) : ∀ (n9 : Nat) (i : Int) (J : Nat → Int) (B : Nat → Int → Int), gPo [4, 5, 6, 9, 13, 14, 15] [30, 31, 33, 34, 35, 36, 37, 38] I A J B → (0 ≤ i) → (i ≤ 13) → (J 5 = 0 → I 4 < J 4) → 13 - i < (n9 : Int) → jt (jm G Y_GM_equations (gR (d + 5)) (gQ m f0 sz (fun (rv : Option Value) (I2 : Nat → Int) (A2 : Nat → Int → Int) => rv = none ∧ gPo [4, 5, 6, 9, 13, 14, 15] [30, 31, 33, 34, 35, 36, 37, 38] I A I2 A2 ∧ (I2 5 = 0 → I 4 < I2 4)))) 224 [(0, .ref m), (1, .int (jI n)), (2, .int (jI e)), (3, .int (jI v)), (4, .int (jI i))] [] (gmf m f0 J B) sz 0 0 := by
  have r4 : 0 ≤ I 4 ∧ I 4 ≤ 300 := hI 4
  have r5 : -13 ≤ I 5 ∧ I 5 ≤ 0 := hI 5
  have r13 : 0 ≤ I 13 ∧ I 13 ≤ 320 := hI 13
  have t0 := hT.1
  have t1 := hT.2.1
  intro n9
  induction n9 with
  | zero =>
    intro i J B hJ i0 i1 k5 hmeas
    exfalso
    omega
  | succ n9 ih =>
    intro i J B hJ i0 i1 k5 hmeas
    have f1 : J 1 = I 1 := hJ.2.2.1 1 rfl
    refine jt_iload d_GM_equations_224 rfl ?_
    refine jt_bipush d_GM_equations_226 (by omega) ?_
    refine jt_icmp_ge (t := 265) d_GM_equations_228 rfl (by unfold jRi; omega) (by unfold jRi; omega) (fun c101 => ?_) (fun c101 => ?_)
    · skip
      exact hout i J B hJ i0 i1 k5 
    · skip
      refine jt_aload_n d_GM_equations_231 rfl ?_
      refine gm_gA (k := 31) (a := m + 16) d_GM_equations_232 GM_f105 (by decide) (by decide) rfl ?_
      refine jt_iload_n d_GM_equations_235 rfl ?_
      refine jt_bipush d_GM_equations_236 (by omega) ?_
      refine jt_imul d_GM_equations_238 ?_
      refine jt_iload d_GM_equations_239 rfl ?_
      refine jt_iadd d_GM_equations_241 ?_
      refine jt_aload_n d_GM_equations_242 rfl ?_
      refine gm_gA (k := 35) (a := m + 20) d_GM_equations_243 GM_f118 (by decide) (by decide) rfl ?_
      refine jt_sipush d_GM_equations_246 (by omega) ?_
      refine jt_iload_n d_GM_equations_249 rfl ?_
      refine jt_iadd d_GM_equations_250 ?_
      refine jt_bipush d_GM_equations_251 (by omega) ?_
      refine jt_imul d_GM_equations_253 ?_
      refine jt_iload d_GM_equations_254 rfl ?_
      refine jt_iadd d_GM_equations_256 ?_
      refine gm_ld1 (k := 35) (n := 5200) (v := (B 35) (((201 + v) * 13) + i)) d_GM_equations_257 rfl (by decide) (by decide) rfl rfl (by omega) (by omega) (by omega) rfl ?_
      refine jt_topl (fun v102 ev102 => ?_)
      have bv102 : (-9223372036854775808) ≤ v102 ∧ v102 ≤ 9223372036854775807 := by rw [ev102]; exact hJ.2.1 35 (((201 + v) * 13) + i)
      refine gm_st1 (k := 31) (n := 156) (B := va_up B 31 (ju (B 31) ((v * 13) + i) v102)) d_GM_equations_258 rfl (by decide) (by decide) rfl rfl (by omega) (by omega) (by omega) rfl ?_
      have p103 := gPo.A 31 (ju (B 31) ((v * 13) + i) v102) hJ rfl (gju (hJ.2.1 31) (show -9223372036854775808 ≤ v102 ∧ v102 ≤ 9223372036854775807 by omega))
      refine jt_iinc (L' := [(0, .ref m), (1, .int (jI n)), (2, .int (jI e)), (3, .int (jI v)), (4, .int (jI (i + 1)))]) d_GM_equations_259 rfl (Nat.le_of_ble_eq_true rfl) rfl ?_
      refine jt_goto (t := 224) d_GM_equations_262 rfl ?_
      exact ih (i + 1) J (va_up B 31 (ju (B 31) ((v * 13) + i) v102)) p103 (by omega) (by omega) (show J 5 = 0 → I 4 < J 4 by omega) (by omega)
set_option maxRecDepth 100000 in
set_option maxHeartbeats 1000000 in
theorem l191_GM_equationsw (G : jG) (d m : Nat)  (I : Nat → Int) (A : Nat → Int → Int) (hT : gT I A) (hI : gSI I) (hA : gSA A) (he : I 5 = 0) (h13 : I 13 = 0) (f0 : jF) (sz : Nat) (n : Int) (e : Int) (n0 : 1 ≤ n ∧ n ≤ 299) (e0 : -2147483648 ≤ e ∧ e ≤ 2147483647) : ∀ (n9 : Nat) (v : Int) (J : Nat → Int) (B : Nat → Int → Int), gPo [4, 5, 6, 9, 13, 14, 15] [30, 31, 33, 34, 35, 36, 37, 38] I A J B → (0 ≤ v) → (v ≤ 12) → (J 5 = 0 → I 4 < J 4) → 12 - v < (n9 : Int) → jt (jm G Y_GM_equations (gR (d + 5)) (gQ m f0 sz (fun (rv : Option Value) (I2 : Nat → Int) (A2 : Nat → Int → Int) => rv = none ∧ gPo [4, 5, 6, 9, 13, 14, 15] [30, 31, 33, 34, 35, 36, 37, 38] I A I2 A2 ∧ (I2 5 = 0 → I 4 < I2 4)))) 191 [(0, .ref m), (1, .int (jI n)), (2, .int (jI e)), (3, .int (jI v))] [] (gmf m f0 J B) sz 0 0 := by
  have r4 : 0 ≤ I 4 ∧ I 4 ≤ 300 := hI 4
  have r5 : -13 ≤ I 5 ∧ I 5 ≤ 0 := hI 5
  have r13 : 0 ≤ I 13 ∧ I 13 ≤ 320 := hI 13
  have t0 := hT.1
  have t1 := hT.2.1
  intro n9
  induction n9 with
  | zero =>
    intro v J B hJ v0 v1 k5 hmeas
    have q5 : -13 ≤ J 5 ∧ J 5 ≤ 0 := hJ.1 5
    exfalso
    omega
  | succ n9 ih =>
    intro v J B hJ v0 v1 k5 hmeas
    have f1 : J 1 = I 1 := hJ.2.2.1 1 rfl
    have q5 : -13 ≤ J 5 ∧ J 5 ≤ 0 := hJ.1 5
    refine jt_iload_n d_GM_equations_191 rfl ?_
    refine jt_bipush d_GM_equations_192 (by omega) ?_
    refine jt_icmp_ge (t := 271) d_GM_equations_194 rfl (by unfold jRi; omega) (by unfold jRi; omega) (fun c201 => ?_) (fun c201 => ?_)
    · skip
      exact gm_vret d_GM_equations_271 rfl (⟨rfl, hJ, show J 5 = 0 → I 4 < J 4 by omega⟩)
    · skip
      refine jt_aload_n d_GM_equations_197 rfl ?_
      refine gm_gI (k := 5) (v := J 5) d_GM_equations_198 GM_f25 (by decide) rfl ?_
      have rb202 : -13 ≤ J 5 ∧ J 5 ≤ 0 := hJ.1 5
      refine jt_if_eq (t := 271) d_GM_equations_201 rfl (by unfold jRi; omega) (fun c203 => ?_) (fun c203 => ?_)
      · skip
        exact gm_vret d_GM_equations_271 rfl (⟨rfl, hJ, show J 5 = 0 → I 4 < J 4 by omega⟩)
      · skip
        refine jt_aload_n d_GM_equations_204 rfl ?_
        refine gm_gA (k := 30) (a := m + 15) d_GM_equations_205 GM_f102 (by decide) (by decide) rfl ?_
        refine jt_iload_n d_GM_equations_208 rfl ?_
        refine jt_aload_n d_GM_equations_209 rfl ?_
        refine gm_gA (k := 35) (a := m + 20) d_GM_equations_210 GM_f118 (by decide) (by decide) rfl ?_
        refine jt_sipush d_GM_equations_213 (by omega) ?_
        refine jt_iload_n d_GM_equations_216 rfl ?_
        refine jt_iadd d_GM_equations_217 ?_
        refine gm_ld1 (k := 35) (n := 5200) (v := (B 35) (2600 + v)) d_GM_equations_218 rfl (by decide) (by decide) rfl rfl (by omega) (by omega) (by omega) rfl ?_
        refine jt_topl (fun v204 ev204 => ?_)
        have bv204 : (-9223372036854775808) ≤ v204 ∧ v204 ≤ 9223372036854775807 := by rw [ev204]; exact hJ.2.1 35 (2600 + v)
        refine jt_l2i d_GM_equations_219 ?_
        refine jt_topiw (fun v205 bv205 => ?_)
        refine gm_st0 (k := 30) (n := 12) (B := va_up B 30 (ju (B 30) v v205)) d_GM_equations_220 rfl (by decide) (by decide) rfl rfl (by omega) (by omega) (by omega) rfl ?_
        have p206 := gPo.A 30 (ju (B 30) v v205) hJ rfl (gju (hJ.2.1 30) (show -2147483648 ≤ v205 ∧ v205 ≤ 2147483647 by omega))
        refine jt_iconst d_GM_equations_221 ?_
        refine jt_istore (L' := [(0, .ref m), (1, .int (jI n)), (2, .int (jI e)), (3, .int (jI v)), (4, .int (jI 0))]) d_GM_equations_222 (Nat.le_of_ble_eq_true rfl) rfl ?_
        refine l224_GM_equationsw G d m  I A hT hI hA he h13 f0 sz n e ((by omega)) ((by omega)) v ((by omega)) ((by omega)) (fun io207 Jo207 Bo207 hJo207 i0o207 i1o207 k5o207 => ?_) 14 0 J (va_up B 30 (ju (B 30) v v205)) p206 (by omega) (by omega) (show J 5 = 0 → I 4 < J 4 by omega) (by omega)
        have f1o207 : Jo207 1 = I 1 := hJo207.2.2.1 1 rfl
        refine jt_iinc (L' := [(0, .ref m), (1, .int (jI n)), (2, .int (jI e)), (3, .int (jI (v + 1))), (4, .int (jI io207))]) d_GM_equations_265 rfl (Nat.le_of_ble_eq_true rfl) rfl ?_
        refine jt_goto (t := 191) d_GM_equations_268 rfl ?_
        refine jt_sub (L' := [(0, .ref m), (1, .int (jI n)), (2, .int (jI e)), (3, .int (jI (v + 1)))]) (fun _ h => List.mem_append_left [(4, Value.int (jI io207))] h) ?_
        exact ih (v + 1) Jo207 Bo207 hJo207 (by omega) (by omega) (show Jo207 5 = 0 → I 4 < Jo207 4 by omega) (by omega)
set_option maxRecDepth 100000 in
set_option maxHeartbeats 1000000 in
theorem l162_GM_equationsw (G : jG) (d m : Nat)  (I : Nat → Int) (A : Nat → Int → Int) (hT : gT I A) (hI : gSI I) (hA : gSA A) (he : I 5 = 0) (h13 : I 13 = 0) (f0 : jF) (sz : Nat) (n : Int) (e : Int) (n0 : 1 ≤ n ∧ n ≤ 299) (e0 : -2147483648 ≤ e ∧ e ≤ 2147483647) : ∀ (n9 : Nat) (v : Int) (J : Nat → Int) (B : Nat → Int → Int), gPo [4, 5, 6, 9, 13, 14, 15] [30, 31, 33, 34, 35, 36, 37, 38] I A J B → (1 ≤ v) → (v ≤ n) → (J 5 = 0 → I 4 < J 4) → n - v < (n9 : Int) → jt (jm G Y_GM_equations (gR (d + 5)) (gQ m f0 sz (fun (rv : Option Value) (I2 : Nat → Int) (A2 : Nat → Int → Int) => rv = none ∧ gPo [4, 5, 6, 9, 13, 14, 15] [30, 31, 33, 34, 35, 36, 37, 38] I A I2 A2 ∧ (I2 5 = 0 → I 4 < I2 4)))) 162 [(0, .ref m), (1, .int (jI n)), (2, .int (jI e)), (3, .int (jI v))] [] (gmf m f0 J B) sz 0 0 := by
  have r4 : 0 ≤ I 4 ∧ I 4 ≤ 300 := hI 4
  have r5 : -13 ≤ I 5 ∧ I 5 ≤ 0 := hI 5
  have r13 : 0 ≤ I 13 ∧ I 13 ≤ 320 := hI 13
  have t0 := hT.1
  have t1 := hT.2.1
  intro n9
  induction n9 with
  | zero =>
    intro v J B hJ v0 v1 k5 hmeas
    have q5 : -13 ≤ J 5 ∧ J 5 ≤ 0 := hJ.1 5
    exfalso
    omega
  | succ n9 ih =>
    intro v J B hJ v0 v1 k5 hmeas
    have f1 : J 1 = I 1 := hJ.2.2.1 1 rfl
    have q5 : -13 ≤ J 5 ∧ J 5 ≤ 0 := hJ.1 5
    refine jt_iload_n d_GM_equations_162 rfl ?_
    refine jt_iload_n d_GM_equations_163 rfl ?_
    refine jt_icmp_ge (t := 189) d_GM_equations_164 rfl (by unfold jRi; omega) (by unfold jRi; omega) (fun c301 => ?_) (fun c301 => ?_)
    · skip
      refine jt_iconst d_GM_equations_189 ?_
      refine jt_istore_n (L' := [(0, .ref m), (1, .int (jI n)), (2, .int (jI e)), (3, .int (jI 0))]) d_GM_equations_190 (Nat.le_of_ble_eq_true rfl) rfl ?_
      exact l191_GM_equationsw G d m  I A hT hI hA he h13 f0 sz n e ((by omega)) ((by omega)) 13 0 J B hJ (by omega) (by omega) (show J 5 = 0 → I 4 < J 4 by omega) (by omega)
    · skip
      refine jt_aload_n d_GM_equations_167 rfl ?_
      refine gm_gI (k := 5) (v := J 5) d_GM_equations_168 GM_f25 (by decide) rfl ?_
      have rb302 : -13 ≤ J 5 ∧ J 5 ≤ 0 := hJ.1 5
      refine jt_if_ne (t := 189) d_GM_equations_171 rfl (by unfold jRi; omega) (fun c303 => ?_) (fun c303 => ?_)
      · skip
        refine jt_iconst d_GM_equations_189 ?_
        refine jt_istore_n (L' := [(0, .ref m), (1, .int (jI n)), (2, .int (jI e)), (3, .int (jI 0))]) d_GM_equations_190 (Nat.le_of_ble_eq_true rfl) rfl ?_
        exact l191_GM_equationsw G d m  I A hT hI hA he h13 f0 sz n e ((by omega)) ((by omega)) 13 0 J B hJ (by omega) (by omega) (show J 5 = 0 → I 4 < J 4 by omega) (by omega)
      · skip
        refine jt_aload_n d_GM_equations_174 rfl ?_
        refine jt_iload_n d_GM_equations_175 rfl ?_
        refine jt_iconst d_GM_equations_176 ?_
        refine jt_isub d_GM_equations_177 ?_
        refine jt_iload_n d_GM_equations_178 rfl ?_
        refine jt_iload_n d_GM_equations_179 rfl ?_
        refine gct_call (Y := Y_GM_equate) (As := [.int (jI (v - 1)), .int (jI v), .int (jI e)]) (rest := []) d_GM_equations_180 GM_c317 yk_GM_equate yv_GM_equate rfl (Nat.le_of_ble_eq_true rfl) rfl rfl (Nat.le_of_ble_eq_true rfl) (w_GM_equate G _ m (v - 1) v e J B hJ.1 hJ.2.1 (by omega) (by omega) (by omega) (by omega) (by omega)) (fun rvq304 Iq304 Aq304 hq304 => ?_)
        obtain ⟨rfl, hqq304⟩ := hq304
        have hpq304 := gPo.trans hJ hqq304 rfl rfl
        have f1q304 : Iq304 1 = I 1 := hpq304.2.2.1 1 rfl
        have m4q304 : Iq304 4 = J 4 := hqq304.2.2.1 4 rfl
        have m13q304 : Iq304 13 = J 13 := hqq304.2.2.1 13 rfl
        show jt _ 183 [(0, .ref m), (1, .int (jI n)), (2, .int (jI e)), (3, .int (jI v))] [] (gmf m f0 Iq304 Aq304) _ _ _
        refine jt_iinc (L' := [(0, .ref m), (1, .int (jI n)), (2, .int (jI e)), (3, .int (jI (v + 1)))]) d_GM_equations_183 rfl (Nat.le_of_ble_eq_true rfl) rfl ?_
        refine jt_goto (t := 162) d_GM_equations_186 rfl ?_
        exact ih (v + 1) Iq304 Aq304 hpq304 (by omega) (by omega) (show Iq304 5 = 0 → I 4 < Iq304 4 by omega) (by omega)
set_option maxRecDepth 100000 in
set_option maxHeartbeats 1000000 in
theorem l113_GM_equationsw (G : jG) (d m : Nat)  (I : Nat → Int) (A : Nat → Int → Int) (hT : gT I A) (hI : gSI I) (hA : gSA A) (he : I 5 = 0) (h13 : I 13 = 0) (f0 : jF) (sz : Nat) (n : Int) (e : Int) (n0 : 1 ≤ n ∧ n ≤ 299) (e0 : -2147483648 ≤ e ∧ e ≤ 2147483647) (v : Int) (v0 : 0 ≤ v) (v1 : v < 12) (hout : ∀ (i : Int) (J : Nat → Int) (B : Nat → Int → Int), gPo [4, 5, 6, 9, 13, 14, 15] [30, 31, 33, 34, 35, 36, 37, 38] I A J B → (0 ≤ i) → (i ≤ 13) → (J 5 = 0 → I 4 < J 4) → jt (jm G Y_GM_equations (gR (d + 5)) (gQ m f0 sz (fun (rv : Option Value) (I2 : Nat → Int) (A2 : Nat → Int → Int) => rv = none ∧ gPo [4, 5, 6, 9, 13, 14, 15] [30, 31, 33, 34, 35, 36, 37, 38] I A I2 A2 ∧ (I2 5 = 0 → I 4 < I2 4)))) 154 [(0, .ref m), (1, .int (jI n)), (2, .int (jI e)), (3, .int (jI v)), (4, .int (jI i))] [] (gmf m f0 J B) sz 0 0) : ∀ (n9 : Nat) (i : Int) (J : Nat → Int) (B : Nat → Int → Int), gPo [4, 5, 6, 9, 13, 14, 15] [30, 31, 33, 34, 35, 36, 37, 38] I A J B → (0 ≤ i) → (i ≤ 13) → (J 5 = 0 → I 4 < J 4) → 13 - i < (n9 : Int) → jt (jm G Y_GM_equations (gR (d + 5)) (gQ m f0 sz (fun (rv : Option Value) (I2 : Nat → Int) (A2 : Nat → Int → Int) => rv = none ∧ gPo [4, 5, 6, 9, 13, 14, 15] [30, 31, 33, 34, 35, 36, 37, 38] I A I2 A2 ∧ (I2 5 = 0 → I 4 < I2 4)))) 113 [(0, .ref m), (1, .int (jI n)), (2, .int (jI e)), (3, .int (jI v)), (4, .int (jI i))] [] (gmf m f0 J B) sz 0 0 := by
  have r4 : 0 ≤ I 4 ∧ I 4 ≤ 300 := hI 4
  have r5 : -13 ≤ I 5 ∧ I 5 ≤ 0 := hI 5
  have r13 : 0 ≤ I 13 ∧ I 13 ≤ 320 := hI 13
  have t0 := hT.1
  have t1 := hT.2.1
  intro n9
  induction n9 with
  | zero =>
    intro i J B hJ i0 i1 k5 hmeas
    exfalso
    omega
  | succ n9 ih =>
    intro i J B hJ i0 i1 k5 hmeas
    have f1 : J 1 = I 1 := hJ.2.2.1 1 rfl
    refine jt_iload d_GM_equations_113 rfl ?_
    refine jt_bipush d_GM_equations_115 (by omega) ?_
    refine jt_icmp_ge (t := 154) d_GM_equations_117 rfl (by unfold jRi; omega) (by unfold jRi; omega) (fun c401 => ?_) (fun c401 => ?_)
    · skip
      exact hout i J B hJ i0 i1 k5 
    · skip
      refine jt_aload_n d_GM_equations_120 rfl ?_
      refine gm_gA (k := 35) (a := m + 20) d_GM_equations_121 GM_f118 (by decide) (by decide) rfl ?_
      refine jt_sipush d_GM_equations_124 (by omega) ?_
      refine jt_iload_n d_GM_equations_127 rfl ?_
      refine jt_iadd d_GM_equations_128 ?_
      refine jt_bipush d_GM_equations_129 (by omega) ?_
      refine jt_imul d_GM_equations_131 ?_
      refine jt_iload d_GM_equations_132 rfl ?_
      refine jt_iadd d_GM_equations_134 ?_
      refine jt_aload_n d_GM_equations_135 rfl ?_
      refine gm_gA (k := 31) (a := m + 16) d_GM_equations_136 GM_f105 (by decide) (by decide) rfl ?_
      refine jt_iload_n d_GM_equations_139 rfl ?_
      refine jt_bipush d_GM_equations_140 (by omega) ?_
      refine jt_imul d_GM_equations_142 ?_
      refine jt_iload d_GM_equations_143 rfl ?_
      refine jt_iadd d_GM_equations_145 ?_
      refine gm_ld1 (k := 31) (n := 156) (v := (B 31) ((v * 13) + i)) d_GM_equations_146 rfl (by decide) (by decide) rfl rfl (by omega) (by omega) (by omega) rfl ?_
      refine jt_topl (fun v402 ev402 => ?_)
      have bv402 : (-9223372036854775808) ≤ v402 ∧ v402 ≤ 9223372036854775807 := by rw [ev402]; exact hJ.2.1 31 ((v * 13) + i)
      refine gm_st1 (k := 35) (n := 5200) (B := va_up B 35 (ju (B 35) (((201 + v) * 13) + i) v402)) d_GM_equations_147 rfl (by decide) (by decide) rfl rfl (by omega) (by omega) (by omega) rfl ?_
      have p403 := gPo.A 35 (ju (B 35) (((201 + v) * 13) + i) v402) hJ rfl (gju (hJ.2.1 35) (show -9223372036854775808 ≤ v402 ∧ v402 ≤ 9223372036854775807 by omega))
      refine jt_iinc (L' := [(0, .ref m), (1, .int (jI n)), (2, .int (jI e)), (3, .int (jI v)), (4, .int (jI (i + 1)))]) d_GM_equations_148 rfl (Nat.le_of_ble_eq_true rfl) rfl ?_
      refine jt_goto (t := 113) d_GM_equations_151 rfl ?_
      exact ih (i + 1) J (va_up B 35 (ju (B 35) (((201 + v) * 13) + i) v402)) p403 (by omega) (by omega) (show J 5 = 0 → I 4 < J 4 by omega) (by omega)
set_option maxRecDepth 100000 in
set_option maxHeartbeats 1000000 in
theorem l87_GM_equationsw (G : jG) (d m : Nat)  (I : Nat → Int) (A : Nat → Int → Int) (hT : gT I A) (hI : gSI I) (hA : gSA A) (he : I 5 = 0) (h13 : I 13 = 0) (f0 : jF) (sz : Nat) (n : Int) (e : Int) (n0 : 1 ≤ n ∧ n ≤ 299) (e0 : -2147483648 ≤ e ∧ e ≤ 2147483647) : ∀ (n9 : Nat) (v : Int) (J : Nat → Int) (B : Nat → Int → Int), gPo [4, 5, 6, 9, 13, 14, 15] [30, 31, 33, 34, 35, 36, 37, 38] I A J B → (0 ≤ v) → (v ≤ 12) → (J 5 = 0 → I 4 < J 4) → 12 - v < (n9 : Int) → jt (jm G Y_GM_equations (gR (d + 5)) (gQ m f0 sz (fun (rv : Option Value) (I2 : Nat → Int) (A2 : Nat → Int → Int) => rv = none ∧ gPo [4, 5, 6, 9, 13, 14, 15] [30, 31, 33, 34, 35, 36, 37, 38] I A I2 A2 ∧ (I2 5 = 0 → I 4 < I2 4)))) 87 [(0, .ref m), (1, .int (jI n)), (2, .int (jI e)), (3, .int (jI v))] [] (gmf m f0 J B) sz 0 0 := by
  have r4 : 0 ≤ I 4 ∧ I 4 ≤ 300 := hI 4
  have r5 : -13 ≤ I 5 ∧ I 5 ≤ 0 := hI 5
  have r13 : 0 ≤ I 13 ∧ I 13 ≤ 320 := hI 13
  have t0 := hT.1
  have t1 := hT.2.1
  intro n9
  induction n9 with
  | zero =>
    intro v J B hJ v0 v1 k5 hmeas
    have q5 : -13 ≤ J 5 ∧ J 5 ≤ 0 := hJ.1 5
    exfalso
    omega
  | succ n9 ih =>
    intro v J B hJ v0 v1 k5 hmeas
    have f1 : J 1 = I 1 := hJ.2.2.1 1 rfl
    have q5 : -13 ≤ J 5 ∧ J 5 ≤ 0 := hJ.1 5
    refine jt_iload_n d_GM_equations_87 rfl ?_
    refine jt_bipush d_GM_equations_88 (by omega) ?_
    refine jt_icmp_ge (t := 160) d_GM_equations_90 rfl (by unfold jRi; omega) (by unfold jRi; omega) (fun c501 => ?_) (fun c501 => ?_)
    · skip
      refine jt_iconst d_GM_equations_160 ?_
      refine jt_istore_n (L' := [(0, .ref m), (1, .int (jI n)), (2, .int (jI e)), (3, .int (jI 1))]) d_GM_equations_161 (Nat.le_of_ble_eq_true rfl) rfl ?_
      exact l162_GM_equationsw G d m  I A hT hI hA he h13 f0 sz n e ((by omega)) ((by omega)) 301 1 J B hJ (by omega) (by omega) (show J 5 = 0 → I 4 < J 4 by omega) (by omega)
    · skip
      refine jt_aload_n d_GM_equations_93 rfl ?_
      refine gm_gA (k := 35) (a := m + 20) d_GM_equations_94 GM_f118 (by decide) (by decide) rfl ?_
      refine jt_sipush d_GM_equations_97 (by omega) ?_
      refine jt_iload_n d_GM_equations_100 rfl ?_
      refine jt_iadd d_GM_equations_101 ?_
      refine jt_aload_n d_GM_equations_102 rfl ?_
      refine gm_gA (k := 30) (a := m + 15) d_GM_equations_103 GM_f102 (by decide) (by decide) rfl ?_
      refine jt_iload_n d_GM_equations_106 rfl ?_
      refine gm_ld0 (k := 30) (n := 12) (v := (B 30) v) d_GM_equations_107 rfl (by decide) (by decide) rfl rfl (by omega) (by omega) (by omega) rfl ?_
      refine jt_topi (fun v502 ev502 => ?_)
      have bv502 : (-2147483648) ≤ v502 ∧ v502 ≤ 2147483647 := by rw [ev502]; exact hJ.2.1 30 v
      refine jt_i2l d_GM_equations_108 (by unfold jRi; omega) ?_
      refine gm_st1 (k := 35) (n := 5200) (B := va_up B 35 (ju (B 35) (2600 + v) v502)) d_GM_equations_109 rfl (by decide) (by decide) rfl rfl (by omega) (by omega) (by omega) rfl ?_
      have p503 := gPo.A 35 (ju (B 35) (2600 + v) v502) hJ rfl (gju (hJ.2.1 35) (show -9223372036854775808 ≤ v502 ∧ v502 ≤ 9223372036854775807 by omega))
      refine jt_iconst d_GM_equations_110 ?_
      refine jt_istore (L' := [(0, .ref m), (1, .int (jI n)), (2, .int (jI e)), (3, .int (jI v)), (4, .int (jI 0))]) d_GM_equations_111 (Nat.le_of_ble_eq_true rfl) rfl ?_
      refine l113_GM_equationsw G d m  I A hT hI hA he h13 f0 sz n e ((by omega)) ((by omega)) v ((by omega)) ((by omega)) (fun io504 Jo504 Bo504 hJo504 i0o504 i1o504 k5o504 => ?_) 14 0 J (va_up B 35 (ju (B 35) (2600 + v) v502)) p503 (by omega) (by omega) (show J 5 = 0 → I 4 < J 4 by omega) (by omega)
      have f1o504 : Jo504 1 = I 1 := hJo504.2.2.1 1 rfl
      refine jt_iinc (L' := [(0, .ref m), (1, .int (jI n)), (2, .int (jI e)), (3, .int (jI (v + 1))), (4, .int (jI io504))]) d_GM_equations_154 rfl (Nat.le_of_ble_eq_true rfl) rfl ?_
      refine jt_goto (t := 87) d_GM_equations_157 rfl ?_
      refine jt_sub (L' := [(0, .ref m), (1, .int (jI n)), (2, .int (jI e)), (3, .int (jI (v + 1)))]) (fun _ h => List.mem_append_left [(4, Value.int (jI io504))] h) ?_
      exact ih (v + 1) Jo504 Bo504 hJo504 (by omega) (by omega) (show Jo504 5 = 0 → I 4 < Jo504 4 by omega) (by omega)
set_option maxRecDepth 100000 in
set_option maxHeartbeats 1000000 in
theorem l7_GM_equationsw (G : jG) (d m : Nat)  (I : Nat → Int) (A : Nat → Int → Int) (hT : gT I A) (hI : gSI I) (hA : gSA A) (he : I 5 = 0) (h13 : I 13 = 0) (f0 : jF) (sz : Nat)  : ∀ (n9 : Nat) (n : Int) (t : Int) (J : Nat → Int) (B : Nat → Int → Int), gPo [4, 5, 6, 9, 13, 14, 15] [30, 31, 33, 34, 35, 36, 37, 38] I A J B → (1 ≤ n ∧ n ≤ 299) → (J 5 = 0 → 2 * n - 1 ≤ J 4) → (J 5 = 0 → I 4 < J 4 ∧ J 13 = 0) → (J 5 = 0 → 301 - J 4 ≤ t) → (0 ≤ t) → t < (n9 : Int) → jt (jm G Y_GM_equations (gR (d + 5)) (gQ m f0 sz (fun (rv : Option Value) (I2 : Nat → Int) (A2 : Nat → Int → Int) => rv = none ∧ gPo [4, 5, 6, 9, 13, 14, 15] [30, 31, 33, 34, 35, 36, 37, 38] I A I2 A2 ∧ (I2 5 = 0 → I 4 < I2 4)))) 7 [(0, .ref m), (1, .int (jI n))] [] (gmf m f0 J B) sz 0 0 := by
  have r4 : 0 ≤ I 4 ∧ I 4 ≤ 300 := hI 4
  have r5 : -13 ≤ I 5 ∧ I 5 ≤ 0 := hI 5
  have r13 : 0 ≤ I 13 ∧ I 13 ≤ 320 := hI 13
  have t0 := hT.1
  have t1 := hT.2.1
  intro n9
  induction n9 with
  | zero =>
    intro n t J B hJ n0 n1 k5 ht t9 hmeas
    have q4 : 0 ≤ J 4 ∧ J 4 ≤ 300 := hJ.1 4
    have q5 : -13 ≤ J 5 ∧ J 5 ≤ 0 := hJ.1 5
    have q13 : 0 ≤ J 13 ∧ J 13 ≤ 320 := hJ.1 13
    exfalso
    omega
  | succ n9 ih =>
    intro n t J B hJ n0 n1 k5 ht t9 hmeas
    have f1 : J 1 = I 1 := hJ.2.2.1 1 rfl
    have q4 : 0 ≤ J 4 ∧ J 4 ≤ 300 := hJ.1 4
    have q5 : -13 ≤ J 5 ∧ J 5 ≤ 0 := hJ.1 5
    have q13 : 0 ≤ J 13 ∧ J 13 ≤ 320 := hJ.1 13
    refine jt_aload_n d_GM_equations_7 rfl ?_
    refine gm_gI (k := 5) (v := J 5) d_GM_equations_8 GM_f25 (by decide) rfl ?_
    have rb601 : -13 ≤ J 5 ∧ J 5 ≤ 0 := hJ.1 5
    refine jt_if_ne (t := 50) d_GM_equations_11 rfl (by unfold jRi; omega) (fun c602 => ?_) (fun c602 => ?_)
    · skip
      refine jt_aload_n d_GM_equations_50 rfl ?_
      refine jt_bipush d_GM_equations_51 (by omega) ?_
      refine gct_call (Y := Y_GM_need) (As := [.int (jI 6)]) (rest := []) d_GM_equations_53 GM_c241 yk_GM_need yv_GM_need rfl (Nat.le_of_ble_eq_true rfl) rfl rfl (Nat.le_of_ble_eq_true rfl) (w_GM_need G _ m 6 J B (gT_of hJ hT rfl rfl rfl) hJ.1 hJ.2.1 (by unfold jRi; omega)) (fun rvq603 Iq603 Aq603 hq603 => ?_)
      obtain ⟨rfl, hqq603, hxq603⟩ := hq603
      have hpq603 := gPo.trans hJ hqq603 rfl rfl
      have f1q603 : Iq603 1 = I 1 := hpq603.2.2.1 1 rfl
      have m13q603 : Iq603 13 = J 13 := hqq603.2.2.1 13 rfl
      show jt _ 56 [(0, .ref m), (1, .int (jI n))] [] (gmf m f0 Iq603 Aq603) _ _ _
      refine jt_aload_n d_GM_equations_56 rfl ?_
      refine gm_gI (k := 5) (v := Iq603 5) d_GM_equations_57 GM_f25 (by decide) rfl ?_
      have rb604 : -13 ≤ Iq603 5 ∧ Iq603 5 ≤ 0 := hpq603.1 5
      refine jt_if_eq (t := 64) d_GM_equations_60 rfl (by unfold jRi; omega) (fun c605 => ?_) (fun c605 => ?_)
      · skip
        refine jt_aload_n d_GM_equations_64 rfl ?_
        refine gm_gI (k := 4) (v := Iq603 4) d_GM_equations_65 GM_f22 (by decide) rfl ?_
        have rb606 : 0 ≤ Iq603 4 ∧ Iq603 4 ≤ 300 := hpq603.1 4
        refine jt_iconst d_GM_equations_68 ?_
        refine jt_isub d_GM_equations_69 ?_
        refine jt_topi (fun v607 ev607 => ?_)
        refine jt_istore_n (L' := [(0, .ref m), (1, .int (jI n)), (2, .int (jI v607))]) d_GM_equations_70 (Nat.le_of_ble_eq_true rfl) rfl ?_
        refine jt_aload_n d_GM_equations_71 rfl ?_
        refine gm_gI (k := 15) (v := Iq603 15) d_GM_equations_72 GM_f55 (by decide) rfl ?_
        have rb608 : 0 ≤ Iq603 15 ∧ Iq603 15 ≤ 1 := hpq603.1 15
        refine jt_if_eq (t := 85) d_GM_equations_75 rfl (by unfold jRi; omega) (fun c609 => ?_) (fun c609 => ?_)
        · skip
          refine jt_iconst d_GM_equations_85 ?_
          refine jt_istore_n (L' := [(0, .ref m), (1, .int (jI n)), (2, .int (jI v607)), (3, .int (jI 0))]) d_GM_equations_86 (Nat.le_of_ble_eq_true rfl) rfl ?_
          exact l87_GM_equationsw G d m  I A hT hI hA he h13 f0 sz n v607 ((by omega)) ((by omega)) 13 0 Iq603 Aq603 hpq603 (by omega) (by omega) (show Iq603 5 = 0 → I 4 < Iq603 4 by omega) (by omega)
        · skip
          refine jt_aload_n d_GM_equations_78 rfl ?_
          refine jt_bipush d_GM_equations_79 (by omega) ?_
          refine jt_iload_n d_GM_equations_81 rfl ?_
          refine gct_call (Y := Y_GM_stop) (As := [.int (jI (-9)), .int (jI v607)]) (rest := []) d_GM_equations_82 GM_c164 yk_GM_stop yv_GM_stop rfl (Nat.le_of_ble_eq_true rfl) rfl rfl (Nat.le_of_ble_eq_true rfl) (c_GM_stop G _ m (-9) v607 Iq603 Aq603) (fun rvq610 Iq610 Aq610 hq610 => ?_)
          obtain ⟨rfl, hIq610, hAq610⟩ := hq610
          rw [hIq610, hAq610]
          have p611 := gPo.I 5 (-9) hpq603 rfl (show -13 ≤ -9 ∧ -9 ≤ 0 by omega)
          have p612 := gPo.I 6 v607 p611 rfl (show -2147483648 ≤ v607 ∧ v607 ≤ 2147483647 by omega)
          show jt _ 85 [(0, .ref m), (1, .int (jI n)), (2, .int (jI v607))] [] (gmf m f0 (va_up (va_up Iq603 5 (-9)) 6 v607) Aq603) _ _ _
          refine jt_iconst d_GM_equations_85 ?_
          refine jt_istore_n (L' := [(0, .ref m), (1, .int (jI n)), (2, .int (jI v607)), (3, .int (jI 0))]) d_GM_equations_86 (Nat.le_of_ble_eq_true rfl) rfl ?_
          exact l87_GM_equationsw G d m  I A hT hI hA he h13 f0 sz n v607 ((by omega)) ((by omega)) 13 0 (va_up (va_up Iq603 5 (-9)) 6 v607) Aq603 p612 (by omega) (by omega) (show -9 = 0 → I 4 < Iq603 4 by omega) (by omega)
      · skip
        exact gm_vret d_GM_equations_63 rfl (⟨rfl, hpq603, show Iq603 5 = 0 → I 4 < Iq603 4 by omega⟩)
    · skip
      refine jt_aload_n d_GM_equations_14 rfl ?_
      refine jt_iconst d_GM_equations_15 ?_
      refine gct_call (Y := Y_GM_word) (As := [.int (jI 2)]) (rest := []) d_GM_equations_16 GM_c201 yk_GM_word yv_GM_word rfl (Nat.le_of_ble_eq_true rfl) rfl rfl (Nat.le_of_ble_eq_true rfl) (c_GM_word G _ m 2 J B (gP_of hJ.1 (gT_of hJ hT rfl rfl rfl)) (by unfold jRi; omega)) (fun rvq613 Iq613 Aq613 hq613 => ?_)
      obtain ⟨haq613, hbq613, hIq613, hAq613⟩ := hq613
      rw [hIq613, hAq613]
      by_cases gq613 : (J 4) < J 1 ∧ B 22 (J 4) = 4 ∧ B 23 (J 4) = 2
      · skip
        obtain rfl := haq613 gq613
        have tq613 : J 1 ≤ 300 := (gT_of hJ hT rfl rfl rfl).2.1
        clear haq613 hbq613 hIq613 hAq613
        show jt _ 19 [(0, .ref m), (1, .int (jI n))] [.int (jI 1)] (gmf m f0 J B) _ _ _
        refine jt_if_ne (t := 27) d_GM_equations_19 rfl (by unfold jRi; omega) (fun c614 => ?_) (fun c614 => ?_)
        · skip
          refine jt_aload_n d_GM_equations_27 rfl ?_
          refine jt_iconst d_GM_equations_28 ?_
          refine gct_call (Y := Y_GM_need) (As := [.int (jI 2)]) (rest := []) d_GM_equations_29 GM_c241 yk_GM_need yv_GM_need rfl (Nat.le_of_ble_eq_true rfl) rfl rfl (Nat.le_of_ble_eq_true rfl) (w_GM_need G _ m 2 J B (gT_of hJ hT rfl rfl rfl) hJ.1 hJ.2.1 (by unfold jRi; omega)) (fun rvq615 Iq615 Aq615 hq615 => ?_)
          obtain ⟨rfl, hqq615, hxq615⟩ := hq615
          have hpq615 := gPo.trans hJ hqq615 rfl rfl
          have f1q615 : Iq615 1 = I 1 := hpq615.2.2.1 1 rfl
          have m13q615 : Iq615 13 = J 13 := hqq615.2.2.1 13 rfl
          show jt _ 32 [(0, .ref m), (1, .int (jI n))] [] (gmf m f0 Iq615 Aq615) _ _ _
          refine jt_aload_n d_GM_equations_32 rfl ?_
          refine gm_gI (k := 5) (v := Iq615 5) d_GM_equations_33 GM_f25 (by decide) rfl ?_
          have rb616 : -13 ≤ Iq615 5 ∧ Iq615 5 ≤ 0 := hpq615.1 5
          refine jt_if_ne (t := 44) d_GM_equations_36 rfl (by unfold jRi; omega) (fun c617 => ?_) (fun c617 => ?_)
          · skip
            refine jt_iinc (L' := [(0, .ref m), (1, .int (jI (n + 1)))]) d_GM_equations_44 rfl (Nat.le_of_ble_eq_true rfl) rfl ?_
            refine jt_goto (t := 7) d_GM_equations_47 rfl ?_
            exact ih (n + 1) (t - 1) Iq615 Aq615 hpq615 (by omega) (show Iq615 5 = 0 → 2 * (n + 1) - 1 ≤ Iq615 4 by omega) (show Iq615 5 = 0 → I 4 < Iq615 4 ∧ Iq615 13 = 0 by omega) (show Iq615 5 = 0 → 301 - Iq615 4 ≤ t - 1 by omega) (by omega) (by omega)
          · skip
            refine jt_aload_n d_GM_equations_39 rfl ?_
            refine jt_iload_n d_GM_equations_40 rfl ?_
            refine gct_call (Y := Y_GM_expr) (As := [.int (jI n)]) (rest := []) d_GM_equations_41 GM_c250 yk_GM_expr yv_GM_expr rfl (Nat.le_of_ble_eq_true rfl) rfl rfl (Nat.le_of_ble_eq_true rfl) (w_GM_expr G _ m n Iq615 Aq615 (gT_of hpq615 hT rfl rfl rfl) hpq615.1 hpq615.2.1 (by omega) (by omega) (fun z => by have z5 : Iq615 5 = 0 := z; show Iq615 13 = 0; omega)) (fun rvq618 Iq618 Aq618 hq618 => ?_)
            obtain ⟨rfl, hqq618, hxq618⟩ := hq618
            have hpq618 := gPo.trans hpq615 hqq618 rfl rfl
            have f1q618 : Iq618 1 = I 1 := hpq618.2.2.1 1 rfl
            show jt _ 44 [(0, .ref m), (1, .int (jI n))] [] (gmf m f0 Iq618 Aq618) _ _ _
            refine jt_iinc (L' := [(0, .ref m), (1, .int (jI (n + 1)))]) d_GM_equations_44 rfl (Nat.le_of_ble_eq_true rfl) rfl ?_
            refine jt_goto (t := 7) d_GM_equations_47 rfl ?_
            exact ih (n + 1) (t - 1) Iq618 Aq618 hpq618 (by omega) (show Iq618 5 = 0 → 2 * (n + 1) - 1 ≤ Iq618 4 by omega) (show Iq618 5 = 0 → I 4 < Iq618 4 ∧ Iq618 13 = 0 by omega) (show Iq618 5 = 0 → 301 - Iq618 4 ≤ t - 1 by omega) (by omega) (by omega)
        · skip
          exfalso
          omega
      · skip
        obtain rfl := hbq613 gq613
        clear haq613 hbq613 hIq613 hAq613
        clear gq613
        show jt _ 19 [(0, .ref m), (1, .int (jI n))] [.int (jI 0)] (gmf m f0 J B) _ _ _
        refine jt_if_ne (t := 27) d_GM_equations_19 rfl (by unfold jRi; omega) (fun c619 => ?_) (fun c619 => ?_)
        · skip
          exfalso
          omega
        · skip
          refine jt_iload_n d_GM_equations_22 rfl ?_
          refine jt_iconst d_GM_equations_23 ?_
          refine jt_icmp_ne (t := 50) d_GM_equations_24 rfl (by unfold jRi; omega) (by unfold jRi; omega) (fun c620 => ?_) (fun c620 => ?_)
          · skip
            refine jt_aload_n d_GM_equations_50 rfl ?_
            refine jt_bipush d_GM_equations_51 (by omega) ?_
            refine gct_call (Y := Y_GM_need) (As := [.int (jI 6)]) (rest := []) d_GM_equations_53 GM_c241 yk_GM_need yv_GM_need rfl (Nat.le_of_ble_eq_true rfl) rfl rfl (Nat.le_of_ble_eq_true rfl) (w_GM_need G _ m 6 J B (gT_of hJ hT rfl rfl rfl) hJ.1 hJ.2.1 (by unfold jRi; omega)) (fun rvq621 Iq621 Aq621 hq621 => ?_)
            obtain ⟨rfl, hqq621, hxq621⟩ := hq621
            have hpq621 := gPo.trans hJ hqq621 rfl rfl
            have f1q621 : Iq621 1 = I 1 := hpq621.2.2.1 1 rfl
            have m13q621 : Iq621 13 = J 13 := hqq621.2.2.1 13 rfl
            show jt _ 56 [(0, .ref m), (1, .int (jI n))] [] (gmf m f0 Iq621 Aq621) _ _ _
            refine jt_aload_n d_GM_equations_56 rfl ?_
            refine gm_gI (k := 5) (v := Iq621 5) d_GM_equations_57 GM_f25 (by decide) rfl ?_
            have rb622 : -13 ≤ Iq621 5 ∧ Iq621 5 ≤ 0 := hpq621.1 5
            refine jt_if_eq (t := 64) d_GM_equations_60 rfl (by unfold jRi; omega) (fun c623 => ?_) (fun c623 => ?_)
            · skip
              refine jt_aload_n d_GM_equations_64 rfl ?_
              refine gm_gI (k := 4) (v := Iq621 4) d_GM_equations_65 GM_f22 (by decide) rfl ?_
              have rb624 : 0 ≤ Iq621 4 ∧ Iq621 4 ≤ 300 := hpq621.1 4
              refine jt_iconst d_GM_equations_68 ?_
              refine jt_isub d_GM_equations_69 ?_
              refine jt_topi (fun v625 ev625 => ?_)
              refine jt_istore_n (L' := [(0, .ref m), (1, .int (jI n)), (2, .int (jI v625))]) d_GM_equations_70 (Nat.le_of_ble_eq_true rfl) rfl ?_
              refine jt_aload_n d_GM_equations_71 rfl ?_
              refine gm_gI (k := 15) (v := Iq621 15) d_GM_equations_72 GM_f55 (by decide) rfl ?_
              have rb626 : 0 ≤ Iq621 15 ∧ Iq621 15 ≤ 1 := hpq621.1 15
              refine jt_if_eq (t := 85) d_GM_equations_75 rfl (by unfold jRi; omega) (fun c627 => ?_) (fun c627 => ?_)
              · skip
                refine jt_iconst d_GM_equations_85 ?_
                refine jt_istore_n (L' := [(0, .ref m), (1, .int (jI n)), (2, .int (jI v625)), (3, .int (jI 0))]) d_GM_equations_86 (Nat.le_of_ble_eq_true rfl) rfl ?_
                exact l87_GM_equationsw G d m  I A hT hI hA he h13 f0 sz n v625 ((by omega)) ((by omega)) 13 0 Iq621 Aq621 hpq621 (by omega) (by omega) (show Iq621 5 = 0 → I 4 < Iq621 4 by omega) (by omega)
              · skip
                refine jt_aload_n d_GM_equations_78 rfl ?_
                refine jt_bipush d_GM_equations_79 (by omega) ?_
                refine jt_iload_n d_GM_equations_81 rfl ?_
                refine gct_call (Y := Y_GM_stop) (As := [.int (jI (-9)), .int (jI v625)]) (rest := []) d_GM_equations_82 GM_c164 yk_GM_stop yv_GM_stop rfl (Nat.le_of_ble_eq_true rfl) rfl rfl (Nat.le_of_ble_eq_true rfl) (c_GM_stop G _ m (-9) v625 Iq621 Aq621) (fun rvq628 Iq628 Aq628 hq628 => ?_)
                obtain ⟨rfl, hIq628, hAq628⟩ := hq628
                rw [hIq628, hAq628]
                have p629 := gPo.I 5 (-9) hpq621 rfl (show -13 ≤ -9 ∧ -9 ≤ 0 by omega)
                have p630 := gPo.I 6 v625 p629 rfl (show -2147483648 ≤ v625 ∧ v625 ≤ 2147483647 by omega)
                show jt _ 85 [(0, .ref m), (1, .int (jI n)), (2, .int (jI v625))] [] (gmf m f0 (va_up (va_up Iq621 5 (-9)) 6 v625) Aq621) _ _ _
                refine jt_iconst d_GM_equations_85 ?_
                refine jt_istore_n (L' := [(0, .ref m), (1, .int (jI n)), (2, .int (jI v625)), (3, .int (jI 0))]) d_GM_equations_86 (Nat.le_of_ble_eq_true rfl) rfl ?_
                exact l87_GM_equationsw G d m  I A hT hI hA he h13 f0 sz n v625 ((by omega)) ((by omega)) 13 0 (va_up (va_up Iq621 5 (-9)) 6 v625) Aq621 p630 (by omega) (by omega) (show -9 = 0 → I 4 < Iq621 4 by omega) (by omega)
            · skip
              exact gm_vret d_GM_equations_63 rfl (⟨rfl, hpq621, show Iq621 5 = 0 → I 4 < Iq621 4 by omega⟩)
          · skip
            refine jt_aload_n d_GM_equations_27 rfl ?_
            refine jt_iconst d_GM_equations_28 ?_
            refine gct_call (Y := Y_GM_need) (As := [.int (jI 2)]) (rest := []) d_GM_equations_29 GM_c241 yk_GM_need yv_GM_need rfl (Nat.le_of_ble_eq_true rfl) rfl rfl (Nat.le_of_ble_eq_true rfl) (w_GM_need G _ m 2 J B (gT_of hJ hT rfl rfl rfl) hJ.1 hJ.2.1 (by unfold jRi; omega)) (fun rvq631 Iq631 Aq631 hq631 => ?_)
            obtain ⟨rfl, hqq631, hxq631⟩ := hq631
            have hpq631 := gPo.trans hJ hqq631 rfl rfl
            have f1q631 : Iq631 1 = I 1 := hpq631.2.2.1 1 rfl
            have m13q631 : Iq631 13 = J 13 := hqq631.2.2.1 13 rfl
            show jt _ 32 [(0, .ref m), (1, .int (jI n))] [] (gmf m f0 Iq631 Aq631) _ _ _
            refine jt_aload_n d_GM_equations_32 rfl ?_
            refine gm_gI (k := 5) (v := Iq631 5) d_GM_equations_33 GM_f25 (by decide) rfl ?_
            have rb632 : -13 ≤ Iq631 5 ∧ Iq631 5 ≤ 0 := hpq631.1 5
            refine jt_if_ne (t := 44) d_GM_equations_36 rfl (by unfold jRi; omega) (fun c633 => ?_) (fun c633 => ?_)
            · skip
              refine jt_iinc (L' := [(0, .ref m), (1, .int (jI (n + 1)))]) d_GM_equations_44 rfl (Nat.le_of_ble_eq_true rfl) rfl ?_
              refine jt_goto (t := 7) d_GM_equations_47 rfl ?_
              exact ih (n + 1) (t - 1) Iq631 Aq631 hpq631 (by omega) (show Iq631 5 = 0 → 2 * (n + 1) - 1 ≤ Iq631 4 by omega) (show Iq631 5 = 0 → I 4 < Iq631 4 ∧ Iq631 13 = 0 by omega) (show Iq631 5 = 0 → 301 - Iq631 4 ≤ t - 1 by omega) (by omega) (by omega)
            · skip
              refine jt_aload_n d_GM_equations_39 rfl ?_
              refine jt_iload_n d_GM_equations_40 rfl ?_
              refine gct_call (Y := Y_GM_expr) (As := [.int (jI n)]) (rest := []) d_GM_equations_41 GM_c250 yk_GM_expr yv_GM_expr rfl (Nat.le_of_ble_eq_true rfl) rfl rfl (Nat.le_of_ble_eq_true rfl) (w_GM_expr G _ m n Iq631 Aq631 (gT_of hpq631 hT rfl rfl rfl) hpq631.1 hpq631.2.1 (by omega) (by omega) (fun z => by have z5 : Iq631 5 = 0 := z; show Iq631 13 = 0; omega)) (fun rvq634 Iq634 Aq634 hq634 => ?_)
              obtain ⟨rfl, hqq634, hxq634⟩ := hq634
              have hpq634 := gPo.trans hpq631 hqq634 rfl rfl
              have f1q634 : Iq634 1 = I 1 := hpq634.2.2.1 1 rfl
              show jt _ 44 [(0, .ref m), (1, .int (jI n))] [] (gmf m f0 Iq634 Aq634) _ _ _
              refine jt_iinc (L' := [(0, .ref m), (1, .int (jI (n + 1)))]) d_GM_equations_44 rfl (Nat.le_of_ble_eq_true rfl) rfl ?_
              refine jt_goto (t := 7) d_GM_equations_47 rfl ?_
              exact ih (n + 1) (t - 1) Iq634 Aq634 hpq634 (by omega) (show Iq634 5 = 0 → 2 * (n + 1) - 1 ≤ Iq634 4 by omega) (show Iq634 5 = 0 → I 4 < Iq634 4 ∧ Iq634 13 = 0 by omega) (show Iq634 5 = 0 → 301 - Iq634 4 ≤ t - 1 by omega) (by omega) (by omega)
set_option maxRecDepth 100000 in
set_option maxHeartbeats 1000000 in
theorem w_GM_equations (G : jG) (d m : Nat)  (I : Nat → Int) (A : Nat → Int → Int) (hT : gT I A) (hI : gSI I) (hA : gSA A) (he : I 5 = 0) (h13 : I 13 = 0) : gct G Y_GM_equations (d + 5) m [] I A (fun (rv : Option Value) (I2 : Nat → Int) (A2 : Nat → Int → Int) => rv = none ∧ gPo [4, 5, 6, 9, 13, 14, 15] [30, 31, 33, 34, 35, 36, 37, 38] I A I2 A2 ∧ (I2 5 = 0 → I 4 < I2 4)) := by
  refine gct_of (by decide) (Nat.le_of_ble_eq_true rfl) (fun f0 sz => ?_)
  show jt _ 0 [(0, .ref m)] [] _ _ _ _
  have r4 : 0 ≤ I 4 ∧ I 4 ≤ 300 := hI 4
  have r5 : -13 ≤ I 5 ∧ I 5 ≤ 0 := hI 5
  have r13 : 0 ≤ I 13 ∧ I 13 ≤ 320 := hI 13
  have hz0 : gPo [4, 5, 6, 9, 13, 14, 15] [30, 31, 33, 34, 35, 36, 37, 38] I A I A := gPo.refl hI hA
  have t0 := hT.1
  have t1 := hT.2.1
  refine jt_iconst d_GM_equations_0 ?_
  refine jt_istore_n (L' := [(0, .ref m), (1, .int (jI 1))]) d_GM_equations_1 (Nat.le_of_ble_eq_true rfl) rfl ?_
  refine jt_aload_n d_GM_equations_2 rfl ?_
  refine jt_iconst d_GM_equations_3 ?_
  refine gct_call (Y := Y_GM_expr) (As := [.int (jI 0)]) (rest := []) d_GM_equations_4 GM_c250 yk_GM_expr yv_GM_expr rfl (Nat.le_of_ble_eq_true rfl) rfl rfl (Nat.le_of_ble_eq_true rfl) (w_GM_expr G _ m 0 I A (gT_of hz0 hT rfl rfl rfl) hz0.1 hz0.2.1 (by omega) (by omega) (fun z => by have z5 : I 5 = 0 := z; show I 13 = 0; omega)) (fun rvq1 Iq1 Aq1 hq1 => ?_)
  obtain ⟨rfl, hqq1, hxq1⟩ := hq1
  have hpq1 := gPo.trans hz0 hqq1 rfl rfl
  have f1q1 : Iq1 1 = I 1 := hpq1.2.2.1 1 rfl
  show jt _ 7 [(0, .ref m), (1, .int (jI 1))] [] (gmf m f0 Iq1 Aq1) _ _ _
  exact l7_GM_equationsw G d m  I A hT hI hA he h13 f0 sz  303 1 301 Iq1 Aq1 hpq1 (by omega) (show Iq1 5 = 0 → 2 * (1) - 1 ≤ Iq1 4 by omega) (show Iq1 5 = 0 → I 4 < Iq1 4 ∧ Iq1 13 = 0 by omega) (show Iq1 5 = 0 → 301 - Iq1 4 ≤ 301 by omega) (by omega) (by omega)
set_option maxRecDepth 100000 in
set_option maxHeartbeats 1000000 in
theorem w_GM_statement (G : jG) (d m : Nat)  (I : Nat → Int) (A : Nat → Int → Int) (hT : gT I A) (hI : gSI I) (hA : gSA A) (hw : I 4 < I 1) (he : I 5 = 0) : gct G Y_GM_statement (d + 7) m [] I A (fun (rv : Option Value) (I2 : Nat → Int) (A2 : Nat → Int → Int) => rv = none ∧ gPo [4, 5, 6, 7, 8, 9, 10, 11, 12, 13, 14, 15] [30, 31, 32, 33, 34, 35, 36, 37, 38, 39, 40, 41, 42, 43, 44, 45] I A I2 A2 ∧ (I2 5 = 0 → I 4 < I2 4)) := by
  refine gct_of (by decide) (Nat.le_of_ble_eq_true rfl) (fun f0 sz => ?_)
  show jt _ 0 [(0, .ref m)] [] _ _ _ _
  have r4 : 0 ≤ I 4 ∧ I 4 ≤ 300 := hI 4
  have r5 : -13 ≤ I 5 ∧ I 5 ≤ 0 := hI 5
  have r13 : 0 ≤ I 13 ∧ I 13 ≤ 320 := hI 13
  have hz0 : gPo [4, 5, 6, 7, 8, 9, 10, 11, 12, 13, 14, 15] [30, 31, 32, 33, 34, 35, 36, 37, 38, 39, 40, 41, 42, 43, 44, 45] I A I A := gPo.refl hI hA
  have t0 := hT.1
  have t1 := hT.2.1
  refine jt_aload_n d_GM_statement_0 rfl ?_
  refine jt_iconst d_GM_statement_1 ?_
  refine gm_pI (k := 15) (v := 0) (J := va_up I 15 0) d_GM_statement_2 (GM_w55 _ rfl) (by decide) (jnz (by omega)) rfl rfl ?_
  have p1 := gPo.I 15 0 hz0 rfl (show 0 ≤ 0 ∧ 0 ≤ 1 by omega)
  refine jt_aload_n d_GM_statement_5 rfl ?_
  refine jt_iconst d_GM_statement_6 ?_
  refine gm_pI (k := 13) (v := 0) (J := va_up (va_up I 15 0) 13 0) d_GM_statement_7 (GM_w49 _ rfl) (by decide) rfl rfl rfl ?_
  have p2 := gPo.I 13 0 p1 rfl (show 0 ≤ 0 ∧ 0 ≤ 320 by omega)
  refine jt_aload_n d_GM_statement_10 rfl ?_
  refine jt_bipush d_GM_statement_11 (by omega) ?_
  refine gct_call (Y := Y_GM_word) (As := [.int (jI 6)]) (rest := []) d_GM_statement_13 GM_c201 yk_GM_word yv_GM_word rfl (Nat.le_of_ble_eq_true rfl) rfl rfl (Nat.le_of_ble_eq_true rfl) (c_GM_word G _ m 6 (va_up (va_up I 15 0) 13 0) A (gP_of p2.1 (gT_of p2 hT rfl rfl rfl)) (by unfold jRi; omega)) (fun rvq3 Iq3 Aq3 hq3 => ?_)
  obtain ⟨haq3, hbq3, hIq3, hAq3⟩ := hq3
  rw [hIq3, hAq3]
  by_cases gq3 : (I 4) < I 1 ∧ A 22 (I 4) = 4 ∧ A 23 (I 4) = 6
  · skip
    obtain rfl := haq3 gq3
    have tq3 : I 1 ≤ 300 := (gT_of p2 hT rfl rfl rfl).2.1
    clear haq3 hbq3 hIq3 hAq3
    show jt _ 16 [(0, .ref m)] [.int (jI 1)] (gmf m f0 (va_up (va_up I 15 0) 13 0) A) _ _ _
    refine jt_if_eq (t := 32) d_GM_statement_16 rfl (by unfold jRi; omega) (fun c4 => ?_) (fun c4 => ?_)
    · skip
      exfalso
      omega
    · skip
      refine jt_aload_n d_GM_statement_19 rfl ?_
      refine jt_dup d_GM_statement_20 rfl ?_
      refine gm_gI (k := 4) (v := I 4) d_GM_statement_21 GM_f22 (by decide) rfl ?_
      have rb5 : 0 ≤ I 4 ∧ I 4 ≤ 300 := p2.1 4
      refine jt_iconst d_GM_statement_24 ?_
      refine jt_iadd d_GM_statement_25 ?_
      refine jt_topi (fun v6 ev6 => ?_)
      refine gm_pI (k := 4) (v := v6) (J := va_up (va_up (va_up I 15 0) 13 0) 4 v6) d_GM_statement_26 (GM_w22 _ rfl) (by decide) rfl rfl rfl ?_
      have p7 := gPo.I 4 v6 p2 rfl (show 0 ≤ v6 ∧ v6 ≤ 300 by omega)
      refine jt_goto (t := 83) d_GM_statement_29 rfl ?_
      refine jt_aload_n d_GM_statement_83 rfl ?_
      refine gm_gI (k := 5) (v := I 5) d_GM_statement_84 GM_f25 (by decide) rfl ?_
      have rb8 : -13 ≤ I 5 ∧ I 5 ≤ 0 := p7.1 5
      refine jt_if_ne (t := 100) d_GM_statement_87 rfl (by unfold jRi; omega) (fun c9 => ?_) (fun c9 => ?_)
      · skip
        exact gm_vret d_GM_statement_100 rfl (⟨rfl, p7, show I 5 = 0 → I 4 < v6 by omega⟩)
      · skip
        refine jt_aload_n d_GM_statement_90 rfl ?_
        refine jt_dup d_GM_statement_91 rfl ?_
        refine gm_gI (k := 8) (v := I 8) d_GM_statement_92 GM_f34 (by decide) rfl ?_
        have rb10 : -2147483648 ≤ I 8 ∧ I 8 ≤ 2147483647 := p7.1 8
        refine jt_iconst d_GM_statement_95 ?_
        refine jt_iadd d_GM_statement_96 ?_
        refine jt_topiw (fun v11 bv11 => ?_)
        refine gm_pI (k := 8) (v := v11) (J := va_up (va_up (va_up (va_up I 15 0) 13 0) 4 v6) 8 v11) d_GM_statement_97 (GM_w34 _ rfl) (by decide) rfl rfl rfl ?_
        have p12 := gPo.I 8 v11 p7 rfl (show -2147483648 ≤ v11 ∧ v11 ≤ 2147483647 by omega)
        exact gm_vret d_GM_statement_100 rfl (⟨rfl, p12, show I 5 = 0 → I 4 < v6 by omega⟩)
  · skip
    obtain rfl := hbq3 gq3
    clear haq3 hbq3 hIq3 hAq3
    clear gq3
    show jt _ 16 [(0, .ref m)] [.int (jI 0)] (gmf m f0 (va_up (va_up I 15 0) 13 0) A) _ _ _
    refine jt_if_eq (t := 32) d_GM_statement_16 rfl (by unfold jRi; omega) (fun c13 => ?_) (fun c13 => ?_)
    · skip
      refine jt_aload_n d_GM_statement_32 rfl ?_
      refine jt_bipush d_GM_statement_33 (by omega) ?_
      refine gct_call (Y := Y_GM_word) (As := [.int (jI 12)]) (rest := []) d_GM_statement_35 GM_c201 yk_GM_word yv_GM_word rfl (Nat.le_of_ble_eq_true rfl) rfl rfl (Nat.le_of_ble_eq_true rfl) (c_GM_word G _ m 12 (va_up (va_up I 15 0) 13 0) A (gP_of p2.1 (gT_of p2 hT rfl rfl rfl)) (by unfold jRi; omega)) (fun rvq14 Iq14 Aq14 hq14 => ?_)
      obtain ⟨haq14, hbq14, hIq14, hAq14⟩ := hq14
      rw [hIq14, hAq14]
      by_cases gq14 : (I 4) < I 1 ∧ A 22 (I 4) = 4 ∧ A 23 (I 4) = 12
      · skip
        obtain rfl := haq14 gq14
        have tq14 : I 1 ≤ 300 := (gT_of p2 hT rfl rfl rfl).2.1
        clear haq14 hbq14 hIq14 hAq14
        show jt _ 38 [(0, .ref m)] [.int (jI 1)] (gmf m f0 (va_up (va_up I 15 0) 13 0) A) _ _ _
        refine jt_if_eq (t := 48) d_GM_statement_38 rfl (by unfold jRi; omega) (fun c15 => ?_) (fun c15 => ?_)
        · skip
          exfalso
          omega
        · skip
          refine jt_aload_n d_GM_statement_41 rfl ?_
          refine gct_call (Y := Y_GM_showIt) (As := []) (rest := []) d_GM_statement_42 GM_c320 yk_GM_showIt yv_GM_showIt rfl (Nat.le_of_ble_eq_true rfl) rfl rfl (Nat.le_of_ble_eq_true rfl) (w_GM_showIt G _ m  (va_up (va_up I 15 0) 13 0) A (gT_of p2 hT rfl rfl rfl) p2.1 p2.2.1 (show I 4 < I 1 by omega) (show I 5 = 0 by omega) (show 0 = 0 by omega)) (fun rvq16 Iq16 Aq16 hq16 => ?_)
          obtain ⟨rfl, hqq16, hxq16⟩ := hq16
          have hpq16 := gPo.trans p2 hqq16 rfl rfl
          have f1q16 : Iq16 1 = I 1 := hpq16.2.2.1 1 rfl
          have s4q16 : (va_up (va_up I 15 0) 13 0) 4 = I 4 := rfl
          have s5q16 : (va_up (va_up I 15 0) 13 0) 5 = I 5 := rfl
          show jt _ 45 [(0, .ref m)] [] (gmf m f0 Iq16 Aq16) _ _ _
          refine jt_goto (t := 83) d_GM_statement_45 rfl ?_
          refine jt_aload_n d_GM_statement_83 rfl ?_
          refine gm_gI (k := 5) (v := Iq16 5) d_GM_statement_84 GM_f25 (by decide) rfl ?_
          have rb17 : -13 ≤ Iq16 5 ∧ Iq16 5 ≤ 0 := hpq16.1 5
          refine jt_if_ne (t := 100) d_GM_statement_87 rfl (by unfold jRi; omega) (fun c18 => ?_) (fun c18 => ?_)
          · skip
            exact gm_vret d_GM_statement_100 rfl (⟨rfl, hpq16, show Iq16 5 = 0 → I 4 < Iq16 4 by omega⟩)
          · skip
            refine jt_aload_n d_GM_statement_90 rfl ?_
            refine jt_dup d_GM_statement_91 rfl ?_
            refine gm_gI (k := 8) (v := Iq16 8) d_GM_statement_92 GM_f34 (by decide) rfl ?_
            have rb19 : -2147483648 ≤ Iq16 8 ∧ Iq16 8 ≤ 2147483647 := hpq16.1 8
            refine jt_iconst d_GM_statement_95 ?_
            refine jt_iadd d_GM_statement_96 ?_
            refine jt_topiw (fun v20 bv20 => ?_)
            refine gm_pI (k := 8) (v := v20) (J := va_up Iq16 8 v20) d_GM_statement_97 (GM_w34 _ rfl) (by decide) rfl rfl rfl ?_
            have p21 := gPo.I 8 v20 hpq16 rfl (show -2147483648 ≤ v20 ∧ v20 ≤ 2147483647 by omega)
            exact gm_vret d_GM_statement_100 rfl (⟨rfl, p21, show Iq16 5 = 0 → I 4 < Iq16 4 by omega⟩)
      · skip
        obtain rfl := hbq14 gq14
        clear haq14 hbq14 hIq14 hAq14
        clear gq14
        show jt _ 38 [(0, .ref m)] [.int (jI 0)] (gmf m f0 (va_up (va_up I 15 0) 13 0) A) _ _ _
        refine jt_if_eq (t := 48) d_GM_statement_38 rfl (by unfold jRi; omega) (fun c22 => ?_) (fun c22 => ?_)
        · skip
          refine jt_aload_n d_GM_statement_48 rfl ?_
          refine jt_bipush d_GM_statement_49 (by omega) ?_
          refine gct_call (Y := Y_GM_word) (As := [.int (jI 10)]) (rest := []) d_GM_statement_51 GM_c201 yk_GM_word yv_GM_word rfl (Nat.le_of_ble_eq_true rfl) rfl rfl (Nat.le_of_ble_eq_true rfl) (c_GM_word G _ m 10 (va_up (va_up I 15 0) 13 0) A (gP_of p2.1 (gT_of p2 hT rfl rfl rfl)) (by unfold jRi; omega)) (fun rvq23 Iq23 Aq23 hq23 => ?_)
          obtain ⟨haq23, hbq23, hIq23, hAq23⟩ := hq23
          rw [hIq23, hAq23]
          by_cases gq23 : (I 4) < I 1 ∧ A 22 (I 4) = 4 ∧ A 23 (I 4) = 10
          · skip
            obtain rfl := haq23 gq23
            have tq23 : I 1 ≤ 300 := (gT_of p2 hT rfl rfl rfl).2.1
            clear haq23 hbq23 hIq23 hAq23
            show jt _ 54 [(0, .ref m)] [.int (jI 1)] (gmf m f0 (va_up (va_up I 15 0) 13 0) A) _ _ _
            refine jt_if_ne (t := 66) d_GM_statement_54 rfl (by unfold jRi; omega) (fun c24 => ?_) (fun c24 => ?_)
            · skip
              refine jt_aload_n d_GM_statement_66 rfl ?_
              refine jt_aload_n d_GM_statement_67 rfl ?_
              refine jt_bipush d_GM_statement_68 (by omega) ?_
              refine gct_call (Y := Y_GM_word) (As := [.int (jI 10)]) (rest := [.ref m]) d_GM_statement_70 GM_c201 yk_GM_word yv_GM_word rfl (Nat.le_of_ble_eq_true rfl) rfl rfl (Nat.le_of_ble_eq_true rfl) (c_GM_word G _ m 10 (va_up (va_up I 15 0) 13 0) A (gP_of p2.1 (gT_of p2 hT rfl rfl rfl)) (by unfold jRi; omega)) (fun rvq25 Iq25 Aq25 hq25 => ?_)
              obtain ⟨haq25, hbq25, hIq25, hAq25⟩ := hq25
              rw [hIq25, hAq25]
              by_cases gq25 : (I 4) < I 1 ∧ A 22 (I 4) = 4 ∧ A 23 (I 4) = 10
              · skip
                obtain rfl := haq25 gq25
                have tq25 : I 1 ≤ 300 := (gT_of p2 hT rfl rfl rfl).2.1
                clear haq25 hbq25 hIq25 hAq25
                show jt _ 73 [(0, .ref m)] [.int (jI 1), .ref m] (gmf m f0 (va_up (va_up I 15 0) 13 0) A) _ _ _
                refine gct_call (Y := Y_GM_path) (As := [.int (jI 1)]) (rest := []) d_GM_statement_73 GM_c323 yk_GM_path yv_GM_path rfl (Nat.le_of_ble_eq_true rfl) rfl rfl (Nat.le_of_ble_eq_true rfl) (w_GM_path G _ m 1 (va_up (va_up I 15 0) 13 0) A (gT_of p2 hT rfl rfl rfl) p2.1 p2.2.1 (by omega) (show I 4 < I 1 by omega) (show I 5 = 0 by omega) (show 0 = 0 by omega)) (fun rvq26 Iq26 Aq26 hq26 => ?_)
                obtain ⟨rfl, hqq26, hxq26⟩ := hq26
                have hpq26 := gPo.trans p2 hqq26 rfl rfl
                have f1q26 : Iq26 1 = I 1 := hpq26.2.2.1 1 rfl
                have s4q26 : (va_up (va_up I 15 0) 13 0) 4 = I 4 := rfl
                have s5q26 : (va_up (va_up I 15 0) 13 0) 5 = I 5 := rfl
                show jt _ 76 [(0, .ref m)] [] (gmf m f0 Iq26 Aq26) _ _ _
                refine jt_goto (t := 83) d_GM_statement_76 rfl ?_
                refine jt_aload_n d_GM_statement_83 rfl ?_
                refine gm_gI (k := 5) (v := Iq26 5) d_GM_statement_84 GM_f25 (by decide) rfl ?_
                have rb27 : -13 ≤ Iq26 5 ∧ Iq26 5 ≤ 0 := hpq26.1 5
                refine jt_if_ne (t := 100) d_GM_statement_87 rfl (by unfold jRi; omega) (fun c28 => ?_) (fun c28 => ?_)
                · skip
                  exact gm_vret d_GM_statement_100 rfl (⟨rfl, hpq26, show Iq26 5 = 0 → I 4 < Iq26 4 by omega⟩)
                · skip
                  refine jt_aload_n d_GM_statement_90 rfl ?_
                  refine jt_dup d_GM_statement_91 rfl ?_
                  refine gm_gI (k := 8) (v := Iq26 8) d_GM_statement_92 GM_f34 (by decide) rfl ?_
                  have rb29 : -2147483648 ≤ Iq26 8 ∧ Iq26 8 ≤ 2147483647 := hpq26.1 8
                  refine jt_iconst d_GM_statement_95 ?_
                  refine jt_iadd d_GM_statement_96 ?_
                  refine jt_topiw (fun v30 bv30 => ?_)
                  refine gm_pI (k := 8) (v := v30) (J := va_up Iq26 8 v30) d_GM_statement_97 (GM_w34 _ rfl) (by decide) rfl rfl rfl ?_
                  have p31 := gPo.I 8 v30 hpq26 rfl (show -2147483648 ≤ v30 ∧ v30 ≤ 2147483647 by omega)
                  exact gm_vret d_GM_statement_100 rfl (⟨rfl, p31, show Iq26 5 = 0 → I 4 < Iq26 4 by omega⟩)
              · skip
                obtain rfl := hbq25 gq25
                clear haq25 hbq25 hIq25 hAq25
                clear gq25
                show jt _ 73 [(0, .ref m)] [.int (jI 0), .ref m] (gmf m f0 (va_up (va_up I 15 0) 13 0) A) _ _ _
                refine gct_call (Y := Y_GM_path) (As := [.int (jI 0)]) (rest := []) d_GM_statement_73 GM_c323 yk_GM_path yv_GM_path rfl (Nat.le_of_ble_eq_true rfl) rfl rfl (Nat.le_of_ble_eq_true rfl) (w_GM_path G _ m 0 (va_up (va_up I 15 0) 13 0) A (gT_of p2 hT rfl rfl rfl) p2.1 p2.2.1 (by omega) (show I 4 < I 1 by omega) (show I 5 = 0 by omega) (show 0 = 0 by omega)) (fun rvq32 Iq32 Aq32 hq32 => ?_)
                obtain ⟨rfl, hqq32, hxq32⟩ := hq32
                have hpq32 := gPo.trans p2 hqq32 rfl rfl
                have f1q32 : Iq32 1 = I 1 := hpq32.2.2.1 1 rfl
                have s4q32 : (va_up (va_up I 15 0) 13 0) 4 = I 4 := rfl
                have s5q32 : (va_up (va_up I 15 0) 13 0) 5 = I 5 := rfl
                show jt _ 76 [(0, .ref m)] [] (gmf m f0 Iq32 Aq32) _ _ _
                refine jt_goto (t := 83) d_GM_statement_76 rfl ?_
                refine jt_aload_n d_GM_statement_83 rfl ?_
                refine gm_gI (k := 5) (v := Iq32 5) d_GM_statement_84 GM_f25 (by decide) rfl ?_
                have rb33 : -13 ≤ Iq32 5 ∧ Iq32 5 ≤ 0 := hpq32.1 5
                refine jt_if_ne (t := 100) d_GM_statement_87 rfl (by unfold jRi; omega) (fun c34 => ?_) (fun c34 => ?_)
                · skip
                  exact gm_vret d_GM_statement_100 rfl (⟨rfl, hpq32, show Iq32 5 = 0 → I 4 < Iq32 4 by omega⟩)
                · skip
                  refine jt_aload_n d_GM_statement_90 rfl ?_
                  refine jt_dup d_GM_statement_91 rfl ?_
                  refine gm_gI (k := 8) (v := Iq32 8) d_GM_statement_92 GM_f34 (by decide) rfl ?_
                  have rb35 : -2147483648 ≤ Iq32 8 ∧ Iq32 8 ≤ 2147483647 := hpq32.1 8
                  refine jt_iconst d_GM_statement_95 ?_
                  refine jt_iadd d_GM_statement_96 ?_
                  refine jt_topiw (fun v36 bv36 => ?_)
                  refine gm_pI (k := 8) (v := v36) (J := va_up Iq32 8 v36) d_GM_statement_97 (GM_w34 _ rfl) (by decide) rfl rfl rfl ?_
                  have p37 := gPo.I 8 v36 hpq32 rfl (show -2147483648 ≤ v36 ∧ v36 ≤ 2147483647 by omega)
                  exact gm_vret d_GM_statement_100 rfl (⟨rfl, p37, show Iq32 5 = 0 → I 4 < Iq32 4 by omega⟩)
            · skip
              exfalso
              omega
          · skip
            obtain rfl := hbq23 gq23
            clear haq23 hbq23 hIq23 hAq23
            clear gq23
            show jt _ 54 [(0, .ref m)] [.int (jI 0)] (gmf m f0 (va_up (va_up I 15 0) 13 0) A) _ _ _
            refine jt_if_ne (t := 66) d_GM_statement_54 rfl (by unfold jRi; omega) (fun c38 => ?_) (fun c38 => ?_)
            · skip
              exfalso
              omega
            · skip
              refine jt_aload_n d_GM_statement_57 rfl ?_
              refine jt_bipush d_GM_statement_58 (by omega) ?_
              refine gct_call (Y := Y_GM_word) (As := [.int (jI 11)]) (rest := []) d_GM_statement_60 GM_c201 yk_GM_word yv_GM_word rfl (Nat.le_of_ble_eq_true rfl) rfl rfl (Nat.le_of_ble_eq_true rfl) (c_GM_word G _ m 11 (va_up (va_up I 15 0) 13 0) A (gP_of p2.1 (gT_of p2 hT rfl rfl rfl)) (by unfold jRi; omega)) (fun rvq39 Iq39 Aq39 hq39 => ?_)
              obtain ⟨haq39, hbq39, hIq39, hAq39⟩ := hq39
              rw [hIq39, hAq39]
              by_cases gq39 : (I 4) < I 1 ∧ A 22 (I 4) = 4 ∧ A 23 (I 4) = 11
              · skip
                obtain rfl := haq39 gq39
                have tq39 : I 1 ≤ 300 := (gT_of p2 hT rfl rfl rfl).2.1
                clear haq39 hbq39 hIq39 hAq39
                show jt _ 63 [(0, .ref m)] [.int (jI 1)] (gmf m f0 (va_up (va_up I 15 0) 13 0) A) _ _ _
                refine jt_if_eq (t := 79) d_GM_statement_63 rfl (by unfold jRi; omega) (fun c40 => ?_) (fun c40 => ?_)
                · skip
                  exfalso
                  omega
                · skip
                  refine jt_aload_n d_GM_statement_66 rfl ?_
                  refine jt_aload_n d_GM_statement_67 rfl ?_
                  refine jt_bipush d_GM_statement_68 (by omega) ?_
                  refine gct_call (Y := Y_GM_word) (As := [.int (jI 10)]) (rest := [.ref m]) d_GM_statement_70 GM_c201 yk_GM_word yv_GM_word rfl (Nat.le_of_ble_eq_true rfl) rfl rfl (Nat.le_of_ble_eq_true rfl) (c_GM_word G _ m 10 (va_up (va_up I 15 0) 13 0) A (gP_of p2.1 (gT_of p2 hT rfl rfl rfl)) (by unfold jRi; omega)) (fun rvq41 Iq41 Aq41 hq41 => ?_)
                  obtain ⟨haq41, hbq41, hIq41, hAq41⟩ := hq41
                  rw [hIq41, hAq41]
                  by_cases gq41 : (I 4) < I 1 ∧ A 22 (I 4) = 4 ∧ A 23 (I 4) = 10
                  · skip
                    obtain rfl := haq41 gq41
                    have tq41 : I 1 ≤ 300 := (gT_of p2 hT rfl rfl rfl).2.1
                    clear haq41 hbq41 hIq41 hAq41
                    show jt _ 73 [(0, .ref m)] [.int (jI 1), .ref m] (gmf m f0 (va_up (va_up I 15 0) 13 0) A) _ _ _
                    refine gct_call (Y := Y_GM_path) (As := [.int (jI 1)]) (rest := []) d_GM_statement_73 GM_c323 yk_GM_path yv_GM_path rfl (Nat.le_of_ble_eq_true rfl) rfl rfl (Nat.le_of_ble_eq_true rfl) (w_GM_path G _ m 1 (va_up (va_up I 15 0) 13 0) A (gT_of p2 hT rfl rfl rfl) p2.1 p2.2.1 (by omega) (show I 4 < I 1 by omega) (show I 5 = 0 by omega) (show 0 = 0 by omega)) (fun rvq42 Iq42 Aq42 hq42 => ?_)
                    obtain ⟨rfl, hqq42, hxq42⟩ := hq42
                    have hpq42 := gPo.trans p2 hqq42 rfl rfl
                    have f1q42 : Iq42 1 = I 1 := hpq42.2.2.1 1 rfl
                    have s4q42 : (va_up (va_up I 15 0) 13 0) 4 = I 4 := rfl
                    have s5q42 : (va_up (va_up I 15 0) 13 0) 5 = I 5 := rfl
                    show jt _ 76 [(0, .ref m)] [] (gmf m f0 Iq42 Aq42) _ _ _
                    refine jt_goto (t := 83) d_GM_statement_76 rfl ?_
                    refine jt_aload_n d_GM_statement_83 rfl ?_
                    refine gm_gI (k := 5) (v := Iq42 5) d_GM_statement_84 GM_f25 (by decide) rfl ?_
                    have rb43 : -13 ≤ Iq42 5 ∧ Iq42 5 ≤ 0 := hpq42.1 5
                    refine jt_if_ne (t := 100) d_GM_statement_87 rfl (by unfold jRi; omega) (fun c44 => ?_) (fun c44 => ?_)
                    · skip
                      exact gm_vret d_GM_statement_100 rfl (⟨rfl, hpq42, show Iq42 5 = 0 → I 4 < Iq42 4 by omega⟩)
                    · skip
                      refine jt_aload_n d_GM_statement_90 rfl ?_
                      refine jt_dup d_GM_statement_91 rfl ?_
                      refine gm_gI (k := 8) (v := Iq42 8) d_GM_statement_92 GM_f34 (by decide) rfl ?_
                      have rb45 : -2147483648 ≤ Iq42 8 ∧ Iq42 8 ≤ 2147483647 := hpq42.1 8
                      refine jt_iconst d_GM_statement_95 ?_
                      refine jt_iadd d_GM_statement_96 ?_
                      refine jt_topiw (fun v46 bv46 => ?_)
                      refine gm_pI (k := 8) (v := v46) (J := va_up Iq42 8 v46) d_GM_statement_97 (GM_w34 _ rfl) (by decide) rfl rfl rfl ?_
                      have p47 := gPo.I 8 v46 hpq42 rfl (show -2147483648 ≤ v46 ∧ v46 ≤ 2147483647 by omega)
                      exact gm_vret d_GM_statement_100 rfl (⟨rfl, p47, show Iq42 5 = 0 → I 4 < Iq42 4 by omega⟩)
                  · skip
                    obtain rfl := hbq41 gq41
                    clear haq41 hbq41 hIq41 hAq41
                    clear gq41
                    show jt _ 73 [(0, .ref m)] [.int (jI 0), .ref m] (gmf m f0 (va_up (va_up I 15 0) 13 0) A) _ _ _
                    refine gct_call (Y := Y_GM_path) (As := [.int (jI 0)]) (rest := []) d_GM_statement_73 GM_c323 yk_GM_path yv_GM_path rfl (Nat.le_of_ble_eq_true rfl) rfl rfl (Nat.le_of_ble_eq_true rfl) (w_GM_path G _ m 0 (va_up (va_up I 15 0) 13 0) A (gT_of p2 hT rfl rfl rfl) p2.1 p2.2.1 (by omega) (show I 4 < I 1 by omega) (show I 5 = 0 by omega) (show 0 = 0 by omega)) (fun rvq48 Iq48 Aq48 hq48 => ?_)
                    obtain ⟨rfl, hqq48, hxq48⟩ := hq48
                    have hpq48 := gPo.trans p2 hqq48 rfl rfl
                    have f1q48 : Iq48 1 = I 1 := hpq48.2.2.1 1 rfl
                    have s4q48 : (va_up (va_up I 15 0) 13 0) 4 = I 4 := rfl
                    have s5q48 : (va_up (va_up I 15 0) 13 0) 5 = I 5 := rfl
                    show jt _ 76 [(0, .ref m)] [] (gmf m f0 Iq48 Aq48) _ _ _
                    refine jt_goto (t := 83) d_GM_statement_76 rfl ?_
                    refine jt_aload_n d_GM_statement_83 rfl ?_
                    refine gm_gI (k := 5) (v := Iq48 5) d_GM_statement_84 GM_f25 (by decide) rfl ?_
                    have rb49 : -13 ≤ Iq48 5 ∧ Iq48 5 ≤ 0 := hpq48.1 5
                    refine jt_if_ne (t := 100) d_GM_statement_87 rfl (by unfold jRi; omega) (fun c50 => ?_) (fun c50 => ?_)
                    · skip
                      exact gm_vret d_GM_statement_100 rfl (⟨rfl, hpq48, show Iq48 5 = 0 → I 4 < Iq48 4 by omega⟩)
                    · skip
                      refine jt_aload_n d_GM_statement_90 rfl ?_
                      refine jt_dup d_GM_statement_91 rfl ?_
                      refine gm_gI (k := 8) (v := Iq48 8) d_GM_statement_92 GM_f34 (by decide) rfl ?_
                      have rb51 : -2147483648 ≤ Iq48 8 ∧ Iq48 8 ≤ 2147483647 := hpq48.1 8
                      refine jt_iconst d_GM_statement_95 ?_
                      refine jt_iadd d_GM_statement_96 ?_
                      refine jt_topiw (fun v52 bv52 => ?_)
                      refine gm_pI (k := 8) (v := v52) (J := va_up Iq48 8 v52) d_GM_statement_97 (GM_w34 _ rfl) (by decide) rfl rfl rfl ?_
                      have p53 := gPo.I 8 v52 hpq48 rfl (show -2147483648 ≤ v52 ∧ v52 ≤ 2147483647 by omega)
                      exact gm_vret d_GM_statement_100 rfl (⟨rfl, p53, show Iq48 5 = 0 → I 4 < Iq48 4 by omega⟩)
              · skip
                obtain rfl := hbq39 gq39
                clear haq39 hbq39 hIq39 hAq39
                clear gq39
                show jt _ 63 [(0, .ref m)] [.int (jI 0)] (gmf m f0 (va_up (va_up I 15 0) 13 0) A) _ _ _
                refine jt_if_eq (t := 79) d_GM_statement_63 rfl (by unfold jRi; omega) (fun c54 => ?_) (fun c54 => ?_)
                · skip
                  refine jt_aload_n d_GM_statement_79 rfl ?_
                  refine gct_call (Y := Y_GM_equations) (As := []) (rest := []) d_GM_statement_80 GM_c326 yk_GM_equations yv_GM_equations rfl (Nat.le_of_ble_eq_true rfl) rfl rfl (Nat.le_of_ble_eq_true rfl) (w_GM_equations G _ m  (va_up (va_up I 15 0) 13 0) A (gT_of p2 hT rfl rfl rfl) p2.1 p2.2.1 (show I 5 = 0 by omega) (show 0 = 0 by omega)) (fun rvq55 Iq55 Aq55 hq55 => ?_)
                  obtain ⟨rfl, hqq55, hxq55⟩ := hq55
                  have hpq55 := gPo.trans p2 hqq55 rfl rfl
                  have f1q55 : Iq55 1 = I 1 := hpq55.2.2.1 1 rfl
                  have s4q55 : (va_up (va_up I 15 0) 13 0) 4 = I 4 := rfl
                  have s5q55 : (va_up (va_up I 15 0) 13 0) 5 = I 5 := rfl
                  show jt _ 83 [(0, .ref m)] [] (gmf m f0 Iq55 Aq55) _ _ _
                  refine jt_aload_n d_GM_statement_83 rfl ?_
                  refine gm_gI (k := 5) (v := Iq55 5) d_GM_statement_84 GM_f25 (by decide) rfl ?_
                  have rb56 : -13 ≤ Iq55 5 ∧ Iq55 5 ≤ 0 := hpq55.1 5
                  refine jt_if_ne (t := 100) d_GM_statement_87 rfl (by unfold jRi; omega) (fun c57 => ?_) (fun c57 => ?_)
                  · skip
                    exact gm_vret d_GM_statement_100 rfl (⟨rfl, hpq55, show Iq55 5 = 0 → I 4 < Iq55 4 by omega⟩)
                  · skip
                    refine jt_aload_n d_GM_statement_90 rfl ?_
                    refine jt_dup d_GM_statement_91 rfl ?_
                    refine gm_gI (k := 8) (v := Iq55 8) d_GM_statement_92 GM_f34 (by decide) rfl ?_
                    have rb58 : -2147483648 ≤ Iq55 8 ∧ Iq55 8 ≤ 2147483647 := hpq55.1 8
                    refine jt_iconst d_GM_statement_95 ?_
                    refine jt_iadd d_GM_statement_96 ?_
                    refine jt_topiw (fun v59 bv59 => ?_)
                    refine gm_pI (k := 8) (v := v59) (J := va_up Iq55 8 v59) d_GM_statement_97 (GM_w34 _ rfl) (by decide) rfl rfl rfl ?_
                    have p60 := gPo.I 8 v59 hpq55 rfl (show -2147483648 ≤ v59 ∧ v59 ≤ 2147483647 by omega)
                    exact gm_vret d_GM_statement_100 rfl (⟨rfl, p60, show Iq55 5 = 0 → I 4 < Iq55 4 by omega⟩)
                · skip
                  exfalso
                  omega
        · skip
          exfalso
          omega
    · skip
      exfalso
      omega

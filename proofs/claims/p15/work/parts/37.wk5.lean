set_option maxRecDepth 100000 in
set_option maxHeartbeats 1000000 in
theorem l62_GM_expandw (G : jG) (d m : Nat)  (I : Nat → Int) (A : Nat → Int → Int) (hI : gSI I) (hA : gSA A) (hin : ∀ k, 0 ≤ k → k < I 0 → gtok (A 16 k) (A 17 k)) (hM : gMac A) (he : I 5 = 0) (f0 : jF) (sz : Nat)  : ∀ (n9 : Nat) (k : Int) (t : Int) (J : Nat → Int) (B : Nat → Int → Int), gPo [1, 2, 5, 6] [22, 23, 24, 25, 26, 27, 28, 29] I A J B → (0 ≤ k) → (k ≤ 300) → (J 5 = 0 → gT J B ∧ (∀ j, 0 ≤ j → j < J 1 → 0 ≤ B 24 j ∧ B 24 j ≤ 6) ∧ 0 ≤ J 2 ∧ J 2 ≤ 100) → (J 5 = 0 → 400 * (100 - J 2) + (J 1 - k) + 1 ≤ t) → (0 ≤ t) → t < (n9 : Int) → jt (jm G Y_GM_expand (gR (d + 3)) (gQ m f0 sz (fun (rv : Option Value) (I2 : Nat → Int) (A2 : Nat → Int → Int) => rv = none ∧ gPo [1, 2, 5, 6] [22, 23, 24, 25, 26, 27, 28, 29] I A I2 A2 ∧ (I2 5 = 0 → gT I2 A2)))) 62 [(0, .ref m), (1, .int (jI k))] [] (gmf m f0 J B) sz 0 0 := by
  have r0 : 0 ≤ I 0 ∧ I 0 ≤ 120 := hI 0
  intro n9
  induction n9 with
  | zero =>
    intro k t J B hJ k0 k1 hg ht t9 hmeas
    have q5 : -13 ≤ J 5 ∧ J 5 ≤ 0 := hJ.1 5
    have q1 : -2147483648 ≤ J 1 ∧ J 1 ≤ 2147483647 := hJ.1 1
    have hMJ : gMac B := by unfold gMac; rw [hJ.2.2.2 18 rfl, hJ.2.2.2 19 rfl, hJ.2.2.2 20 rfl, hJ.2.2.2 21 rfl]; exact hM
    exfalso
    omega
  | succ n9 ih =>
    intro k t J B hJ k0 k1 hg ht t9 hmeas
    have q5 : -13 ≤ J 5 ∧ J 5 ≤ 0 := hJ.1 5
    have q1 : -2147483648 ≤ J 1 ∧ J 1 ≤ 2147483647 := hJ.1 1
    have hMJ : gMac B := by unfold gMac; rw [hJ.2.2.2 18 rfl, hJ.2.2.2 19 rfl, hJ.2.2.2 20 rfl, hJ.2.2.2 21 rfl]; exact hM
    refine jt_iload_n d_GM_expand_62 rfl ?_
    refine jt_aload_n d_GM_expand_63 rfl ?_
    refine gm_gI (k := 1) (v := J 1) d_GM_expand_64 GM_f13 (by decide) rfl ?_
    have rb101 : -2147483648 ≤ J 1 ∧ J 1 ≤ 2147483647 := hJ.1 1
    refine jt_icmp_ge (t := 127) d_GM_expand_67 rfl (by unfold jRi; omega) (by unfold jRi; omega) (fun c102 => ?_) (fun c102 => ?_)
    · skip
      exact gm_vret d_GM_expand_127 rfl (⟨rfl, hJ, fun z => (hg z).1⟩)
    · skip
      refine jt_aload_n d_GM_expand_70 rfl ?_
      refine gm_gI (k := 5) (v := J 5) d_GM_expand_71 GM_f25 (by decide) rfl ?_
      have rb103 : -13 ≤ J 5 ∧ J 5 ≤ 0 := hJ.1 5
      refine jt_if_ne (t := 127) d_GM_expand_74 rfl (by unfold jRi; omega) (fun c104 => ?_) (fun c104 => ?_)
      · skip
        exact gm_vret d_GM_expand_127 rfl (⟨rfl, hJ, fun z => (hg z).1⟩)
      · skip
        obtain ⟨hTJ, hdJ, h20, h21⟩ := hg (by omega)
        have tj1 := hTJ.2.1
        have tk := hTJ.2.2 k k0 (by omega)
        unfold gtok at tk
        refine jt_aload_n d_GM_expand_77 rfl ?_
        refine gm_gA (k := 22) (a := m + 7) d_GM_expand_78 GM_f78 (by decide) (by decide) rfl ?_
        refine jt_iload_n d_GM_expand_81 rfl ?_
        refine gm_ld0 (k := 22) (n := 700) (v := (B 22) k) d_GM_expand_82 rfl (by decide) (by decide) rfl rfl (by omega) (by omega) (by omega) rfl ?_
        refine jt_topi (fun v105 ev105 => ?_)
        have bv105 : (-2147483648) ≤ v105 ∧ v105 ≤ 2147483647 := by rw [ev105]; exact hJ.2.1 22 k
        refine jt_iconst d_GM_expand_83 ?_
        refine jt_icmp_ne (t := 97) d_GM_expand_84 rfl (by unfold jRi; omega) (by unfold jRi; omega) (fun c106 => ?_) (fun c106 => ?_)
        · skip
          refine jt_aload_n d_GM_expand_97 rfl ?_
          refine gm_gA (k := 22) (a := m + 7) d_GM_expand_98 GM_f78 (by decide) (by decide) rfl ?_
          refine jt_iload_n d_GM_expand_101 rfl ?_
          refine gm_ld0 (k := 22) (n := 700) (v := (B 22) k) d_GM_expand_102 rfl (by decide) (by decide) rfl rfl (by omega) (by omega) (by omega) rfl ?_
          refine jt_topi (fun v107 ev107 => ?_)
          have bv107 : (-2147483648) ≤ v107 ∧ v107 ≤ 2147483647 := by rw [ev107]; exact hJ.2.1 22 k
          refine jt_iconst d_GM_expand_103 ?_
          refine jt_icmp_eq (t := 113) d_GM_expand_104 rfl (by unfold jRi; omega) (by unfold jRi; omega) (fun c108 => ?_) (fun c108 => ?_)
          · skip
            refine jt_aload_n d_GM_expand_113 rfl ?_
            refine jt_iload_n d_GM_expand_114 rfl ?_
            refine jt_aload_n d_GM_expand_115 rfl ?_
            refine gm_gA (k := 23) (a := m + 8) d_GM_expand_116 GM_f81 (by decide) (by decide) rfl ?_
            refine jt_iload_n d_GM_expand_119 rfl ?_
            refine gm_ld0 (k := 23) (n := 700) (v := (B 23) k) d_GM_expand_120 rfl (by decide) (by decide) rfl rfl (by omega) (by omega) (by omega) rfl ?_
            refine jt_topi (fun v109 ev109 => ?_)
            have bv109 : (-2147483648) ≤ v109 ∧ v109 ≤ 2147483647 := by rw [ev109]; exact hJ.2.1 23 k
            refine gct_call (Y := Y_GM_call) (As := [.int (jI k), .int (jI v109)]) (rest := []) d_GM_expand_121 GM_c168 yk_GM_call yv_GM_call rfl (Nat.le_of_ble_eq_true rfl) rfl rfl (Nat.le_of_ble_eq_true rfl) (w_GM_call G _ m k v109 J B hTJ hJ.1 hJ.2.1 hdJ hMJ k0 (by omega) (by omega) (by omega) (by omega) (by omega) (by omega)) (fun rvq110 Iq110 Aq110 hq110 => ?_)
            obtain ⟨rfl, hqq110, hxq110⟩ := hq110
            have hpq110 := gPo.trans hJ hqq110 rfl rfl
            show jt _ 124 [(0, .ref m), (1, .int (jI k))] [] (gmf m f0 Iq110 Aq110) _ _ _
            refine jt_goto (t := 62) d_GM_expand_124 rfl ?_
            exact ih k (t - 1) Iq110 Aq110 hpq110 (by omega) (by omega) (fun z => by have q9 := hxq110 z; exact ⟨q9.1, q9.2.1, by omega, by omega⟩) (show Iq110 5 = 0 → 400 * (100 - Iq110 2) + (Iq110 1 - (k)) + 1 ≤ t - 1 from fun z => by have q9 := hxq110 z; have q8 := q9.1.2.1; omega) (by omega) (by omega)
          · skip
            refine jt_iinc (L' := [(0, .ref m), (1, .int (jI (k + 1)))]) d_GM_expand_107 rfl (Nat.le_of_ble_eq_true rfl) rfl ?_
            refine jt_goto (t := 62) d_GM_expand_110 rfl ?_
            exact ih (k + 1) (t - 1) J B hJ (by omega) (by omega) (fun z => ⟨hTJ, hdJ, h20, h21⟩) (show J 5 = 0 → 400 * (100 - J 2) + (J 1 - (k + 1)) + 1 ≤ t - 1 by omega) (by omega) (by omega)
        · skip
          refine jt_aload_n d_GM_expand_87 rfl ?_
          refine jt_bipush d_GM_expand_88 (by omega) ?_
          refine jt_iload_n d_GM_expand_90 rfl ?_
          refine gct_call (Y := Y_GM_stop) (As := [.int (jI (-3)), .int (jI k)]) (rest := []) d_GM_expand_91 GM_c164 yk_GM_stop yv_GM_stop rfl (Nat.le_of_ble_eq_true rfl) rfl rfl (Nat.le_of_ble_eq_true rfl) (c_GM_stop G _ m (-3) k J B) (fun rvq111 Iq111 Aq111 hq111 => ?_)
          obtain ⟨rfl, hIq111, hAq111⟩ := hq111
          rw [hIq111, hAq111]
          have p112 := gPo.I 5 (-3) hJ rfl (show -13 ≤ -3 ∧ -3 ≤ 0 by omega)
          have p113 := gPo.I 6 k p112 rfl (show -2147483648 ≤ k ∧ k ≤ 2147483647 by omega)
          show jt _ 94 [(0, .ref m), (1, .int (jI k))] [] (gmf m f0 (va_up (va_up J 5 (-3)) 6 k) B) _ _ _
          refine jt_goto (t := 62) d_GM_expand_94 rfl ?_
          exact ih k (t - 1) (va_up (va_up J 5 (-3)) 6 k) B p113 (by omega) (by omega) (fun z => absurd z (by show ¬ (-3 : Int) = 0; omega)) (show -3 = 0 → 400 * (100 - J 2) + (J 1 - (k)) + 1 ≤ t - 1 by omega) (by omega) (by omega)
set_option maxRecDepth 100000 in
set_option maxHeartbeats 1000000 in
theorem l10_GM_expandw (G : jG) (d m : Nat)  (I : Nat → Int) (A : Nat → Int → Int) (hI : gSI I) (hA : gSA A) (hin : ∀ k, 0 ≤ k → k < I 0 → gtok (A 16 k) (A 17 k)) (hM : gMac A) (he : I 5 = 0) (f0 : jF) (sz : Nat)  : ∀ (n9 : Nat) (k : Int) (J : Nat → Int) (B : Nat → Int → Int), gPo [1, 2, 5, 6] [22, 23, 24, 25, 26, 27, 28, 29] I A J B → (0 ≤ k) → (k ≤ I 0) → (J 1 = I 0) → (J 5 = 0) → (∀ j, 0 ≤ j → j < k → B 22 j = A 16 j ∧ B 23 j = A 17 j ∧ B 24 j = 0) → 120 - k < (n9 : Int) → jt (jm G Y_GM_expand (gR (d + 3)) (gQ m f0 sz (fun (rv : Option Value) (I2 : Nat → Int) (A2 : Nat → Int → Int) => rv = none ∧ gPo [1, 2, 5, 6] [22, 23, 24, 25, 26, 27, 28, 29] I A I2 A2 ∧ (I2 5 = 0 → gT I2 A2)))) 10 [(0, .ref m), (1, .int (jI k))] [] (gmf m f0 J B) sz 0 0 := by
  have r0 : 0 ≤ I 0 ∧ I 0 ≤ 120 := hI 0
  intro n9
  induction n9 with
  | zero =>
    intro k J B hJ k0 k1 j1 j5 hc hmeas
    have f00 : J 0 = I 0 := hJ.2.2.1 0 rfl
    have f16 : B 16 = A 16 := hJ.2.2.2 16 rfl
    have f17 : B 17 = A 17 := hJ.2.2.2 17 rfl
    exfalso
    omega
  | succ n9 ih =>
    intro k J B hJ k0 k1 j1 j5 hc hmeas
    have f00 : J 0 = I 0 := hJ.2.2.1 0 rfl
    have f16 : B 16 = A 16 := hJ.2.2.2 16 rfl
    have f17 : B 17 = A 17 := hJ.2.2.2 17 rfl
    refine jt_iload_n d_GM_expand_10 rfl ?_
    refine jt_aload_n d_GM_expand_11 rfl ?_
    refine gm_gI (k := 0) (v := J 0) d_GM_expand_12 GM_f7 (by decide) rfl ?_
    have rb201 : 0 ≤ J 0 ∧ J 0 ≤ 120 := hJ.1 0
    refine jt_icmp_ge (t := 55) d_GM_expand_15 rfl (by unfold jRi; omega) (by unfold jRi; omega) (fun c202 => ?_) (fun c202 => ?_)
    · skip
      refine jt_aload_n d_GM_expand_55 rfl ?_
      refine jt_iconst d_GM_expand_56 ?_
      refine gm_pI (k := 2) (v := 0) (J := va_up J 2 0) d_GM_expand_57 (GM_w16 _ rfl) (by decide) rfl rfl rfl ?_
      have p203 := gPo.I 2 0 hJ rfl (show -2147483648 ≤ 0 ∧ 0 ≤ 2147483647 by omega)
      refine jt_iconst d_GM_expand_60 ?_
      refine jt_istore_n (L' := [(0, .ref m), (1, .int (jI 0))]) d_GM_expand_61 (Nat.le_of_ble_eq_true rfl) rfl ?_
      exact l62_GM_expandw G d m  I A hI hA hin hM he f0 sz  41001 0 41000 (va_up J 2 0) B p203 (by omega) (by omega) (fun z => ⟨⟨by show 0 ≤ J 1; omega, by show J 1 ≤ 300; omega, fun j j0 j1 => by have j1 : j < J 1 := j1; have q9 := hc j j0 (by omega); rw [q9.1, q9.2.1]; exact hin j j0 (by omega)⟩, fun j j0 j1 => by have j1 : j < J 1 := j1; have q9 := hc j j0 (by omega); show 0 ≤ B 24 j ∧ B 24 j ≤ 6; rw [q9.2.2]; omega, by show (0 : Int) ≤ 0; omega, by show (0 : Int) ≤ 100; omega⟩) (show J 5 = 0 → 400 * (100 - 0) + (J 1 - (0)) + 1 ≤ 41000 by omega) (by omega) (by omega)
    · skip
      refine jt_aload_n d_GM_expand_18 rfl ?_
      refine gm_gA (k := 22) (a := m + 7) d_GM_expand_19 GM_f78 (by decide) (by decide) rfl ?_
      refine jt_iload_n d_GM_expand_22 rfl ?_
      refine jt_aload_n d_GM_expand_23 rfl ?_
      refine gm_gA (k := 16) (a := m + 1) d_GM_expand_24 GM_f59 (by decide) (by decide) rfl ?_
      refine jt_iload_n d_GM_expand_27 rfl ?_
      refine gm_ld0 (k := 16) (n := 120) (v := (B 16) k) d_GM_expand_28 rfl (by decide) (by decide) rfl rfl (by omega) (by omega) (by omega) rfl ?_
      refine jt_topi (fun v204 ev204 => ?_)
      have bv204 : (-2147483648) ≤ v204 ∧ v204 ≤ 2147483647 := by rw [ev204]; exact hJ.2.1 16 k
      refine gm_st0 (k := 22) (n := 700) (B := va_up B 22 (ju (B 22) k v204)) d_GM_expand_29 rfl (by decide) (by decide) rfl rfl (by omega) (by omega) (by omega) rfl ?_
      have p205 := gPo.A 22 (ju (B 22) k v204) hJ rfl (gju (hJ.2.1 22) (show -2147483648 ≤ v204 ∧ v204 ≤ 2147483647 by omega))
      refine jt_aload_n d_GM_expand_30 rfl ?_
      refine gm_gA (k := 23) (a := m + 8) d_GM_expand_31 GM_f81 (by decide) (by decide) rfl ?_
      refine jt_iload_n d_GM_expand_34 rfl ?_
      refine jt_aload_n d_GM_expand_35 rfl ?_
      refine gm_gA (k := 17) (a := m + 2) d_GM_expand_36 GM_f63 (by decide) (by decide) rfl ?_
      refine jt_iload_n d_GM_expand_39 rfl ?_
      refine gm_ld0 (k := 17) (n := 120) (v := (B 17) k) d_GM_expand_40 rfl (by decide) (by decide) rfl rfl (by omega) (by omega) (by omega) rfl ?_
      refine jt_topi (fun v206 ev206 => ?_)
      have bv206 : (-2147483648) ≤ v206 ∧ v206 ≤ 2147483647 := by rw [ev206]; exact p205.2.1 17 k
      refine gm_st0 (k := 23) (n := 700) (B := va_up (va_up B 22 (ju (B 22) k v204)) 23 (ju (B 23) k v206)) d_GM_expand_41 rfl (by decide) (by decide) rfl rfl (by omega) (by omega) (by omega) rfl ?_
      have p207 := gPo.A 23 (ju (B 23) k v206) p205 rfl (gju (p205.2.1 23) (show -2147483648 ≤ v206 ∧ v206 ≤ 2147483647 by omega))
      refine jt_aload_n d_GM_expand_42 rfl ?_
      refine gm_gA (k := 24) (a := m + 9) d_GM_expand_43 GM_f84 (by decide) (by decide) rfl ?_
      refine jt_iload_n d_GM_expand_46 rfl ?_
      refine jt_iconst d_GM_expand_47 ?_
      refine gm_st0 (k := 24) (n := 700) (B := va_up (va_up (va_up B 22 (ju (B 22) k v204)) 23 (ju (B 23) k v206)) 24 (ju (B 24) k 0)) d_GM_expand_48 rfl (by decide) (by decide) rfl rfl (by omega) (by omega) (by omega) rfl ?_
      have p208 := gPo.A 24 (ju (B 24) k 0) p207 rfl (gju (p207.2.1 24) (show -2147483648 ≤ 0 ∧ 0 ≤ 2147483647 by omega))
      refine jt_iinc (L' := [(0, .ref m), (1, .int (jI (k + 1)))]) d_GM_expand_49 rfl (Nat.le_of_ble_eq_true rfl) rfl ?_
      refine jt_goto (t := 10) d_GM_expand_52 rfl ?_
      exact ih (k + 1) J (va_up (va_up (va_up B 22 (ju (B 22) k v204)) 23 (ju (B 23) k v206)) 24 (ju (B 24) k 0)) p208 (by omega) (by omega) j1 j5 (fun j j0 j1 => by rcases Classical.em (j = k) with e | e; exact (by subst e; exact ⟨(ju_self _ _ _).trans (by rw [ev204, f16]), (ju_self _ _ _).trans (by rw [ev206, f17]), ju_self _ _ _⟩); exact ⟨(ju_ne _ _ e).trans (hc j j0 (by omega)).1, (ju_ne _ _ e).trans (hc j j0 (by omega)).2.1, (ju_ne _ _ e).trans (hc j j0 (by omega)).2.2⟩) (by omega)
set_option maxRecDepth 100000 in
set_option maxHeartbeats 1000000 in
theorem w_GM_expand (G : jG) (d m : Nat)  (I : Nat → Int) (A : Nat → Int → Int) (hI : gSI I) (hA : gSA A) (hin : ∀ k, 0 ≤ k → k < I 0 → gtok (A 16 k) (A 17 k)) (hM : gMac A) (he : I 5 = 0) : gct G Y_GM_expand (d + 3) m [] I A (fun (rv : Option Value) (I2 : Nat → Int) (A2 : Nat → Int → Int) => rv = none ∧ gPo [1, 2, 5, 6] [22, 23, 24, 25, 26, 27, 28, 29] I A I2 A2 ∧ (I2 5 = 0 → gT I2 A2)) := by
  refine gct_of (by decide) (Nat.le_of_ble_eq_true rfl) (fun f0 sz => ?_)
  show jt _ 0 [(0, .ref m)] [] _ _ _ _
  have r0 : 0 ≤ I 0 ∧ I 0 ≤ 120 := hI 0
  have hz0 : gPo [1, 2, 5, 6] [22, 23, 24, 25, 26, 27, 28, 29] I A I A := gPo.refl hI hA
  refine jt_aload_n d_GM_expand_0 rfl ?_
  refine jt_aload_n d_GM_expand_1 rfl ?_
  refine gm_gI (k := 0) (v := I 0) d_GM_expand_2 GM_f7 (by decide) rfl ?_
  have rb1 : 0 ≤ I 0 ∧ I 0 ≤ 120 := hz0.1 0
  refine gm_pI (k := 1) (v := (I 0)) (J := va_up I 1 (I 0)) d_GM_expand_5 (GM_w13 _ rfl) (by decide) rfl rfl rfl ?_
  have p2 := gPo.I 1 (I 0) hz0 rfl (show -2147483648 ≤ I 0 ∧ I 0 ≤ 2147483647 by omega)
  refine jt_iconst d_GM_expand_8 ?_
  refine jt_istore_n (L' := [(0, .ref m), (1, .int (jI 0))]) d_GM_expand_9 (Nat.le_of_ble_eq_true rfl) rfl ?_
  exact l10_GM_expandw G d m  I A hI hA hin hM he f0 sz  121 0 (va_up I 1 (I 0)) A p2 (by omega) (by omega) rfl he (fun j a b => by omega) (by omega)
set_option maxRecDepth 100000 in
set_option maxHeartbeats 1000000 in
theorem l24_GM_runw (G : jG) (d m : Nat)  (I : Nat → Int) (A : Nat → Int → Int) (hI : gSI I) (hA : gSA A) (hin : ∀ k, 0 ≤ k → k < I 0 → gtok (A 16 k) (A 17 k)) (hM : gMac A) (f0 : jF) (sz : Nat)  : ∀ (n9 : Nat) (t : Int) (J : Nat → Int) (B : Nat → Int → Int), gPo [0, 1, 2, 3, 4, 5, 6, 7, 8, 9, 10, 11, 12, 13, 14, 15] [22, 23, 24, 25, 26, 27, 28, 29, 30, 31, 32, 33, 34, 35, 36, 37, 38, 39, 40, 41, 42, 43, 44, 45] I A J B → (J 0 = 0) → (J 5 = 0 → gT J B) → (J 5 = 0 → 301 - J 4 ≤ t) → (0 ≤ t) → t < (n9 : Int) → jt (jm G Y_GM_run (gR (d + 8)) (gQ m f0 sz (fun (rv : Option Value) (I2 : Nat → Int) (A2 : Nat → Int → Int) => ∃ y : Int, rv = some (.int (jI y)) ∧ (-2147483648 ≤ y ∧ y ≤ 2147483647) ∧ gPo [0, 1, 2, 3, 4, 5, 6, 7, 8, 9, 10, 11, 12, 13, 14, 15] [22, 23, 24, 25, 26, 27, 28, 29, 30, 31, 32, 33, 34, 35, 36, 37, 38, 39, 40, 41, 42, 43, 44, 45] I A I2 A2 ∧ I2 0 = 0))) 24 [(0, .ref m)] [] (gmf m f0 J B) sz 0 0 := by
  intro n9
  induction n9 with
  | zero =>
    intro t J B hJ j0 hg ht t9 hmeas
    have q5 : -13 ≤ J 5 ∧ J 5 ≤ 0 := hJ.1 5
    have q4 : 0 ≤ J 4 ∧ J 4 ≤ 300 := hJ.1 4
    have q1 : -2147483648 ≤ J 1 ∧ J 1 ≤ 2147483647 := hJ.1 1
    exfalso
    omega
  | succ n9 ih =>
    intro t J B hJ j0 hg ht t9 hmeas
    have q5 : -13 ≤ J 5 ∧ J 5 ≤ 0 := hJ.1 5
    have q4 : 0 ≤ J 4 ∧ J 4 ≤ 300 := hJ.1 4
    have q1 : -2147483648 ≤ J 1 ∧ J 1 ≤ 2147483647 := hJ.1 1
    refine jt_aload_n d_GM_run_24 rfl ?_
    refine gm_gI (k := 5) (v := J 5) d_GM_run_25 GM_f25 (by decide) rfl ?_
    have rb101 : -13 ≤ J 5 ∧ J 5 ≤ 0 := hJ.1 5
    refine jt_if_ne (t := 49) d_GM_run_28 rfl (by unfold jRi; omega) (fun c102 => ?_) (fun c102 => ?_)
    · skip
      refine jt_aload_n d_GM_run_49 rfl ?_
      refine jt_aload_n d_GM_run_50 rfl ?_
      refine gm_gI (k := 5) (v := J 5) d_GM_run_51 GM_f25 (by decide) rfl ?_
      refine jt_if_ne (t := 64) d_GM_run_54 rfl (by unfold jRi; omega) (fun c103 => ?_) (fun c103 => ?_)
      · skip
        refine jt_aload_n d_GM_run_64 rfl ?_
        refine gm_gI (k := 6) (v := J 6) d_GM_run_65 GM_f28 (by decide) rfl ?_
        have rb104 : -2147483648 ≤ J 6 ∧ J 6 ≤ 2147483647 := hJ.1 6
        refine gm_pI (k := 3) (v := (J 6)) (J := va_up J 3 (J 6)) d_GM_run_68 (GM_w19 _ rfl) (by decide) rfl rfl rfl ?_
        have p105 := gPo.I 3 (J 6) hJ rfl (show -2147483648 ≤ J 6 ∧ J 6 ≤ 2147483647 by omega)
        refine jt_aload_n d_GM_run_71 rfl ?_
        refine gm_gI (k := 5) (v := J 5) d_GM_run_72 GM_f25 (by decide) rfl ?_
        exact gm_ret d_GM_run_75 rfl rfl (⟨J 5, rfl, by omega, p105, show J 0 = 0 by omega⟩)
      · skip
        refine jt_aload_n d_GM_run_57 rfl ?_
        refine gm_gI (k := 1) (v := J 1) d_GM_run_58 GM_f13 (by decide) rfl ?_
        have rb106 : -2147483648 ≤ J 1 ∧ J 1 ≤ 2147483647 := hJ.1 1
        refine jt_goto (t := 68) d_GM_run_61 rfl ?_
        refine gm_pI (k := 3) (v := (J 1)) (J := va_up J 3 (J 1)) d_GM_run_68 (GM_w19 _ rfl) (by decide) rfl rfl rfl ?_
        have p107 := gPo.I 3 (J 1) hJ rfl (show -2147483648 ≤ J 1 ∧ J 1 ≤ 2147483647 by omega)
        refine jt_aload_n d_GM_run_71 rfl ?_
        refine gm_gI (k := 5) (v := J 5) d_GM_run_72 GM_f25 (by decide) rfl ?_
        exact gm_ret d_GM_run_75 rfl rfl (⟨J 5, rfl, by omega, p107, show J 0 = 0 by omega⟩)
    · skip
      refine jt_aload_n d_GM_run_31 rfl ?_
      refine gm_gI (k := 4) (v := J 4) d_GM_run_32 GM_f22 (by decide) rfl ?_
      have rb108 : 0 ≤ J 4 ∧ J 4 ≤ 300 := hJ.1 4
      refine jt_aload_n d_GM_run_35 rfl ?_
      refine gm_gI (k := 1) (v := J 1) d_GM_run_36 GM_f13 (by decide) rfl ?_
      have rb109 : -2147483648 ≤ J 1 ∧ J 1 ≤ 2147483647 := hJ.1 1
      refine jt_icmp_ge (t := 49) d_GM_run_39 rfl (by unfold jRi; omega) (by unfold jRi; omega) (fun c110 => ?_) (fun c110 => ?_)
      · skip
        refine jt_aload_n d_GM_run_49 rfl ?_
        refine jt_aload_n d_GM_run_50 rfl ?_
        refine gm_gI (k := 5) (v := J 5) d_GM_run_51 GM_f25 (by decide) rfl ?_
        refine jt_if_ne (t := 64) d_GM_run_54 rfl (by unfold jRi; omega) (fun c111 => ?_) (fun c111 => ?_)
        · skip
          refine jt_aload_n d_GM_run_64 rfl ?_
          refine gm_gI (k := 6) (v := J 6) d_GM_run_65 GM_f28 (by decide) rfl ?_
          have rb112 : -2147483648 ≤ J 6 ∧ J 6 ≤ 2147483647 := hJ.1 6
          refine gm_pI (k := 3) (v := (J 6)) (J := va_up J 3 (J 6)) d_GM_run_68 (GM_w19 _ rfl) (by decide) rfl rfl rfl ?_
          have p113 := gPo.I 3 (J 6) hJ rfl (show -2147483648 ≤ J 6 ∧ J 6 ≤ 2147483647 by omega)
          refine jt_aload_n d_GM_run_71 rfl ?_
          refine gm_gI (k := 5) (v := J 5) d_GM_run_72 GM_f25 (by decide) rfl ?_
          exact gm_ret d_GM_run_75 rfl rfl (⟨J 5, rfl, by omega, p113, show J 0 = 0 by omega⟩)
        · skip
          refine jt_aload_n d_GM_run_57 rfl ?_
          refine gm_gI (k := 1) (v := J 1) d_GM_run_58 GM_f13 (by decide) rfl ?_
          refine jt_goto (t := 68) d_GM_run_61 rfl ?_
          refine gm_pI (k := 3) (v := (J 1)) (J := va_up J 3 (J 1)) d_GM_run_68 (GM_w19 _ rfl) (by decide) rfl rfl rfl ?_
          have p114 := gPo.I 3 (J 1) hJ rfl (show -2147483648 ≤ J 1 ∧ J 1 ≤ 2147483647 by omega)
          refine jt_aload_n d_GM_run_71 rfl ?_
          refine gm_gI (k := 5) (v := J 5) d_GM_run_72 GM_f25 (by decide) rfl ?_
          exact gm_ret d_GM_run_75 rfl rfl (⟨J 5, rfl, by omega, p114, show J 0 = 0 by omega⟩)
      · skip
        have hTJ := hg (by omega)
        have tj1 := hTJ.2.1
        refine jt_aload_n d_GM_run_42 rfl ?_
        refine gct_call (Y := Y_GM_statement) (As := []) (rest := []) d_GM_run_43 GM_c332 yk_GM_statement yv_GM_statement rfl (Nat.le_of_ble_eq_true rfl) rfl rfl (Nat.le_of_ble_eq_true rfl) (w_GM_statement G _ m J B hTJ hJ.1 hJ.2.1 (by omega) (by omega)) (fun rvq115 Iq115 Aq115 hq115 => ?_)
        obtain ⟨rfl, hqq115, hxq115⟩ := hq115
        have hpq115 := gPo.trans hJ hqq115 rfl rfl
        have m0q115 : Iq115 0 = J 0 := hqq115.2.2.1 0 rfl
        have m1q115 : Iq115 1 = J 1 := hqq115.2.2.1 1 rfl
        show jt _ 46 [(0, .ref m)] [] (gmf m f0 Iq115 Aq115) _ _ _
        refine jt_goto (t := 24) d_GM_run_46 rfl ?_
        exact ih (t - 1) Iq115 Aq115 hpq115 (show Iq115 0 = 0 by omega) (fun _ => gT_of hqq115 hTJ rfl rfl rfl) (show Iq115 5 = 0 → 301 - Iq115 4 ≤ t - 1 by omega) (by omega) (by omega)
set_option maxRecDepth 100000 in
set_option maxHeartbeats 1000000 in
theorem w_GM_run (G : jG) (d m : Nat)  (I : Nat → Int) (A : Nat → Int → Int) (hI : gSI I) (hA : gSA A) (hin : ∀ k, 0 ≤ k → k < I 0 → gtok (A 16 k) (A 17 k)) (hM : gMac A) : gct G Y_GM_run (d + 8) m [] I A (fun (rv : Option Value) (I2 : Nat → Int) (A2 : Nat → Int → Int) => ∃ y : Int, rv = some (.int (jI y)) ∧ (-2147483648 ≤ y ∧ y ≤ 2147483647) ∧ gPo [0, 1, 2, 3, 4, 5, 6, 7, 8, 9, 10, 11, 12, 13, 14, 15] [22, 23, 24, 25, 26, 27, 28, 29, 30, 31, 32, 33, 34, 35, 36, 37, 38, 39, 40, 41, 42, 43, 44, 45] I A I2 A2 ∧ I2 0 = 0) := by
  refine gct_of (by decide) (Nat.le_of_ble_eq_true rfl) (fun f0 sz => ?_)
  show jt _ 0 [(0, .ref m)] [] _ _ _ _
  have hz0 : gPo [0, 1, 2, 3, 4, 5, 6, 7, 8, 9, 10, 11, 12, 13, 14, 15] [22, 23, 24, 25, 26, 27, 28, 29, 30, 31, 32, 33, 34, 35, 36, 37, 38, 39, 40, 41, 42, 43, 44, 45] I A I A := gPo.refl hI hA
  refine jt_aload_n d_GM_run_0 rfl ?_
  refine jt_iconst d_GM_run_1 ?_
  refine gm_pI (k := 5) (v := 0) (J := va_up I 5 0) d_GM_run_2 (GM_w25 _ rfl) (by decide) rfl rfl rfl ?_
  have p1 := gPo.I 5 0 hz0 rfl (show -13 ≤ 0 ∧ 0 ≤ 0 by omega)
  refine jt_aload_n d_GM_run_5 rfl ?_
  refine jt_iconst d_GM_run_6 ?_
  refine gm_pI (k := 6) (v := 0) (J := va_up (va_up I 5 0) 6 0) d_GM_run_7 (GM_w28 _ rfl) (by decide) rfl rfl rfl ?_
  have p2 := gPo.I 6 0 p1 rfl (show -2147483648 ≤ 0 ∧ 0 ≤ 2147483647 by omega)
  refine jt_aload_n d_GM_run_10 rfl ?_
  refine gct_call (Y := Y_GM_expand) (As := []) (rest := []) d_GM_run_11 GM_c329 yk_GM_expand yv_GM_expand rfl (Nat.le_of_ble_eq_true rfl) rfl rfl (Nat.le_of_ble_eq_true rfl) (w_GM_expand G _ m (va_up (va_up I 5 0) 6 0) A p2.1 p2.2.1 (by show ∀ k, 0 ≤ k → k < I 0 → gtok (A 16 k) (A 17 k); exact hin) (by show gMac A; exact hM) rfl) (fun rvq3 Iq3 Aq3 hq3 => ?_)
  obtain ⟨rfl, hqq3, hxq3⟩ := hq3
  have hpq3 := gPo.trans p2 hqq3 rfl rfl
  have s0q3 : (va_up (va_up I 5 0) 6 0) 0 = I 0 := rfl
  have s1q3 : (va_up (va_up I 5 0) 6 0) 1 = I 1 := rfl
  have s4q3 : (va_up (va_up I 5 0) 6 0) 4 = I 4 := rfl
  have s5q3 : (va_up (va_up I 5 0) 6 0) 5 = 0 := rfl
  have m0q3 : Iq3 0 = I 0 := hqq3.2.2.1 0 rfl
  have m4q3 : Iq3 4 = I 4 := hqq3.2.2.1 4 rfl
  show jt _ 14 [(0, .ref m)] [] (gmf m f0 Iq3 Aq3) _ _ _
  refine jt_aload_n d_GM_run_14 rfl ?_
  refine jt_iconst d_GM_run_15 ?_
  refine gm_pI (k := 0) (v := 0) (J := va_up Iq3 0 0) d_GM_run_16 (GM_w7 _ rfl) (by decide) rfl rfl rfl ?_
  have p4 := gPo.I 0 0 hpq3 rfl (show 0 ≤ 0 ∧ 0 ≤ 120 by omega)
  refine jt_aload_n d_GM_run_19 rfl ?_
  refine jt_iconst d_GM_run_20 ?_
  refine gm_pI (k := 4) (v := 0) (J := va_up (va_up Iq3 0 0) 4 0) d_GM_run_21 (GM_w22 _ rfl) (by decide) rfl rfl rfl ?_
  have p5 := gPo.I 4 0 p4 rfl (show 0 ≤ 0 ∧ 0 ≤ 300 by omega)
  exact l24_GM_runw G d m  I A hI hA hin hM f0 sz  302 301 (va_up (va_up Iq3 0 0) 4 0) Aq3 p5 rfl (fun z => hxq3 z) (show Iq3 5 = 0 → 301 - 0 ≤ 301 by omega) (by omega) (by omega)
set_option maxRecDepth 100000 in
set_option maxHeartbeats 1000000 in
theorem w_GM_number (G : jG) (d m : Nat) (v : Int) (I : Nat → Int) (A : Nat → Int → Int) (hI : gSI I) (hA : gSA A) (hv : -2147483648 ≤ v ∧ v ≤ 2147483647) : gct G Y_GM_number (d + 1) m [.int (jI v)] I A (fun (rv : Option Value) (I2 : Nat → Int) (A2 : Nat → Int → Int) => ∃ y : Int, rv = some (.long (jL y)) ∧ (-9223372036854775808 ≤ y ∧ y ≤ 9223372036854775807) ∧ gPo [] [] I A I2 A2) := by
  refine gct_of (by decide) (Nat.le_of_ble_eq_true rfl) (fun f0 sz => ?_)
  show jt _ 0 [(0, .ref m), (1, .int (jI v))] [] _ _ _ _
  have hz0 : gPo [] [] I A I A := gPo.refl hI hA
  refine jt_aload_n d_GM_number_0 rfl ?_
  refine jt_iload_n d_GM_number_1 rfl ?_
  refine jt_iconst d_GM_number_2 ?_
  refine jt_bipush d_GM_number_3 (by omega) ?_
  refine gct_call (Y := Y_GM_out) (As := [.int (jI v), .int (jI 0), .int (jI 11)]) (rest := []) d_GM_number_5 GM_c152 yk_GM_out yv_GM_out rfl (Nat.le_of_ble_eq_true rfl) rfl rfl (Nat.le_of_ble_eq_true rfl) (c_GM_out G _ m v 0 11 I A (by unfold jRi; omega) (by unfold jRi; omega) (by unfold jRi; omega)) (fun rvq1 Iq1 Aq1 hq1 => ?_)
  obtain ⟨haq1, hbq1, hIq1, hAq1⟩ := hq1
  rw [hIq1, hAq1]
  by_cases gq1 : v < 0 ∨ 11 < v
  · skip
    obtain rfl := haq1 gq1
    clear haq1 hbq1 hIq1 hAq1
    show jt _ 8 [(0, .ref m), (1, .int (jI v))] [.int (jI 1)] (gmf m f0 I A) _ _ _
    refine jt_if_ne (t := 20) d_GM_number_8 rfl (by unfold jRi; omega) (fun c2 => ?_) (fun c2 => ?_)
    · skip
      refine jt_ldc2 (z := 1000000000000000) d_GM_number_20 GM_k335 ?_
      refine jt_goto (t := 38) d_GM_number_23 rfl ?_
      exact gm_lret d_GM_number_38 rfl (⟨1000000000000000, rfl, by omega, hz0⟩)
    · skip
      exfalso
      omega
  · skip
    obtain rfl := hbq1 gq1
    clear haq1 hbq1 hIq1 hAq1
    show jt _ 8 [(0, .ref m), (1, .int (jI v))] [.int (jI 0)] (gmf m f0 I A) _ _ _
    refine jt_if_ne (t := 20) d_GM_number_8 rfl (by unfold jRi; omega) (fun c3 => ?_) (fun c3 => ?_)
    · skip
      exfalso
      omega
    · skip
      refine jt_aload_n d_GM_number_11 rfl ?_
      refine gm_gA (k := 30) (a := m + 15) d_GM_number_12 GM_f102 (by decide) (by decide) rfl ?_
      refine jt_iload_n d_GM_number_15 rfl ?_
      refine gm_ld0 (k := 30) (n := 12) (v := (A 30) v) d_GM_number_16 rfl (by decide) (by decide) rfl rfl (by omega) (by omega) (by omega) rfl ?_
      refine jt_topi (fun v4 ev4 => ?_)
      have bv4 : (-2147483648) ≤ v4 ∧ v4 ≤ 2147483647 := by rw [ev4]; exact hz0.2.1 30 v
      refine jt_if_ne (t := 26) d_GM_number_17 rfl (by unfold jRi; omega) (fun c5 => ?_) (fun c5 => ?_)
      · skip
        refine jt_aload_n d_GM_number_26 rfl ?_
        refine gm_gA (k := 31) (a := m + 16) d_GM_number_27 GM_f105 (by decide) (by decide) rfl ?_
        refine jt_iload_n d_GM_number_30 rfl ?_
        refine jt_bipush d_GM_number_31 (by omega) ?_
        refine jt_imul d_GM_number_33 ?_
        refine jt_bipush d_GM_number_34 (by omega) ?_
        refine jt_iadd d_GM_number_36 ?_
        refine gm_ld1 (k := 31) (n := 156) (v := (A 31) ((v * 13) + 12)) d_GM_number_37 rfl (by decide) (by decide) rfl rfl (by omega) (by omega) (by omega) rfl ?_
        refine jt_topl (fun v6 ev6 => ?_)
        have bv6 : (-9223372036854775808) ≤ v6 ∧ v6 ≤ 9223372036854775807 := by rw [ev6]; exact hz0.2.1 31 ((v * 13) + 12)
        exact gm_lret d_GM_number_38 rfl (⟨v6, rfl, by omega, hz0⟩)
      · skip
        refine jt_ldc2 (z := 1000000000000000) d_GM_number_20 GM_k335 ?_
        refine jt_goto (t := 38) d_GM_number_23 rfl ?_
        exact gm_lret d_GM_number_38 rfl (⟨1000000000000000, rfl, by omega, hz0⟩)
set_option maxRecDepth 100000 in
set_option maxHeartbeats 1000000 in
theorem w_GM_factor (G : jG) (d m : Nat) (v : Int) (u : Int) (I : Nat → Int) (A : Nat → Int → Int) (hI : gSI I) (hA : gSA A) (hv : -2147483648 ≤ v ∧ v ≤ 2147483647) (hu : -2147483648 ≤ u ∧ u ≤ 2147483647) : gct G Y_GM_factor (d + 1) m [.int (jI v), .int (jI u)] I A (fun (rv : Option Value) (I2 : Nat → Int) (A2 : Nat → Int → Int) => ∃ y : Int, rv = some (.long (jL y)) ∧ (-9223372036854775808 ≤ y ∧ y ≤ 9223372036854775807) ∧ gPo [] [] I A I2 A2) := by
  refine gct_of (by decide) (Nat.le_of_ble_eq_true rfl) (fun f0 sz => ?_)
  show jt _ 0 [(0, .ref m), (1, .int (jI v)), (2, .int (jI u))] [] _ _ _ _
  have hz0 : gPo [] [] I A I A := gPo.refl hI hA
  refine jt_aload_n d_GM_factor_0 rfl ?_
  refine jt_iload_n d_GM_factor_1 rfl ?_
  refine jt_iconst d_GM_factor_2 ?_
  refine jt_bipush d_GM_factor_3 (by omega) ?_
  refine gct_call (Y := Y_GM_out) (As := [.int (jI v), .int (jI 0), .int (jI 11)]) (rest := []) d_GM_factor_5 GM_c152 yk_GM_out yv_GM_out rfl (Nat.le_of_ble_eq_true rfl) rfl rfl (Nat.le_of_ble_eq_true rfl) (c_GM_out G _ m v 0 11 I A (by unfold jRi; omega) (by unfold jRi; omega) (by unfold jRi; omega)) (fun rvq1 Iq1 Aq1 hq1 => ?_)
  obtain ⟨haq1, hbq1, hIq1, hAq1⟩ := hq1
  rw [hIq1, hAq1]
  by_cases gq1 : v < 0 ∨ 11 < v
  · skip
    obtain rfl := haq1 gq1
    clear haq1 hbq1 hIq1 hAq1
    show jt _ 8 [(0, .ref m), (1, .int (jI v)), (2, .int (jI u))] [.int (jI 1)] (gmf m f0 I A) _ _ _
    refine jt_if_ne (t := 32) d_GM_factor_8 rfl (by unfold jRi; omega) (fun c2 => ?_) (fun c2 => ?_)
    · skip
      refine jt_ldc2 (z := 1000000000000000) d_GM_factor_32 GM_k335 ?_
      refine jt_goto (t := 49) d_GM_factor_35 rfl ?_
      exact gm_lret d_GM_factor_49 rfl (⟨1000000000000000, rfl, by omega, hz0⟩)
    · skip
      exfalso
      omega
  · skip
    obtain rfl := hbq1 gq1
    clear haq1 hbq1 hIq1 hAq1
    show jt _ 8 [(0, .ref m), (1, .int (jI v)), (2, .int (jI u))] [.int (jI 0)] (gmf m f0 I A) _ _ _
    refine jt_if_ne (t := 32) d_GM_factor_8 rfl (by unfold jRi; omega) (fun c3 => ?_) (fun c3 => ?_)
    · skip
      exfalso
      omega
    · skip
      refine jt_aload_n d_GM_factor_11 rfl ?_
      refine jt_iload_n d_GM_factor_12 rfl ?_
      refine jt_iconst d_GM_factor_13 ?_
      refine jt_bipush d_GM_factor_14 (by omega) ?_
      refine gct_call (Y := Y_GM_out) (As := [.int (jI u), .int (jI 0), .int (jI 11)]) (rest := []) d_GM_factor_16 GM_c152 yk_GM_out yv_GM_out rfl (Nat.le_of_ble_eq_true rfl) rfl rfl (Nat.le_of_ble_eq_true rfl) (c_GM_out G _ m u 0 11 I A (by unfold jRi; omega) (by unfold jRi; omega) (by unfold jRi; omega)) (fun rvq4 Iq4 Aq4 hq4 => ?_)
      obtain ⟨haq4, hbq4, hIq4, hAq4⟩ := hq4
      rw [hIq4, hAq4]
      by_cases gq4 : u < 0 ∨ 11 < u
      · skip
        obtain rfl := haq4 gq4
        clear haq4 hbq4 hIq4 hAq4
        show jt _ 19 [(0, .ref m), (1, .int (jI v)), (2, .int (jI u))] [.int (jI 1)] (gmf m f0 I A) _ _ _
        refine jt_if_ne (t := 32) d_GM_factor_19 rfl (by unfold jRi; omega) (fun c5 => ?_) (fun c5 => ?_)
        · skip
          refine jt_ldc2 (z := 1000000000000000) d_GM_factor_32 GM_k335 ?_
          refine jt_goto (t := 49) d_GM_factor_35 rfl ?_
          exact gm_lret d_GM_factor_49 rfl (⟨1000000000000000, rfl, by omega, hz0⟩)
        · skip
          exfalso
          omega
      · skip
        obtain rfl := hbq4 gq4
        clear haq4 hbq4 hIq4 hAq4
        show jt _ 19 [(0, .ref m), (1, .int (jI v)), (2, .int (jI u))] [.int (jI 0)] (gmf m f0 I A) _ _ _
        refine jt_if_ne (t := 32) d_GM_factor_19 rfl (by unfold jRi; omega) (fun c6 => ?_) (fun c6 => ?_)
        · skip
          exfalso
          omega
        · skip
          refine jt_aload_n d_GM_factor_22 rfl ?_
          refine gm_gA (k := 30) (a := m + 15) d_GM_factor_23 GM_f102 (by decide) (by decide) rfl ?_
          refine jt_iload_n d_GM_factor_26 rfl ?_
          refine gm_ld0 (k := 30) (n := 12) (v := (A 30) v) d_GM_factor_27 rfl (by decide) (by decide) rfl rfl (by omega) (by omega) (by omega) rfl ?_
          refine jt_topi (fun v7 ev7 => ?_)
          have bv7 : (-2147483648) ≤ v7 ∧ v7 ≤ 2147483647 := by rw [ev7]; exact hz0.2.1 30 v
          refine jt_iconst d_GM_factor_28 ?_
          refine jt_icmp_eq (t := 38) d_GM_factor_29 rfl (by unfold jRi; omega) (by unfold jRi; omega) (fun c8 => ?_) (fun c8 => ?_)
          · skip
            refine jt_aload_n d_GM_factor_38 rfl ?_
            refine gm_gA (k := 31) (a := m + 16) d_GM_factor_39 GM_f105 (by decide) (by decide) rfl ?_
            refine jt_iload_n d_GM_factor_42 rfl ?_
            refine jt_bipush d_GM_factor_43 (by omega) ?_
            refine jt_imul d_GM_factor_45 ?_
            refine jt_iload_n d_GM_factor_46 rfl ?_
            refine jt_iadd d_GM_factor_47 ?_
            refine gm_ld1 (k := 31) (n := 156) (v := (A 31) ((v * 13) + u)) d_GM_factor_48 rfl (by decide) (by decide) rfl rfl (by omega) (by omega) (by omega) rfl ?_
            refine jt_topl (fun v9 ev9 => ?_)
            have bv9 : (-9223372036854775808) ≤ v9 ∧ v9 ≤ 9223372036854775807 := by rw [ev9]; exact hz0.2.1 31 ((v * 13) + u)
            exact gm_lret d_GM_factor_49 rfl (⟨v9, rfl, by omega, hz0⟩)
          · skip
            refine jt_ldc2 (z := 1000000000000000) d_GM_factor_32 GM_k335 ?_
            refine jt_goto (t := 49) d_GM_factor_35 rfl ?_
            exact gm_lret d_GM_factor_49 rfl (⟨1000000000000000, rfl, by omega, hz0⟩)
set_option maxRecDepth 100000 in
set_option maxHeartbeats 1000000 in
theorem l68_GM_stretchw (G : jG) (d m : Nat) (j : Int) (k : Int) (I : Nat → Int) (A : Nat → Int → Int) (hI : gSI I) (hA : gSA A) (hj : -2147483648 ≤ j ∧ j ≤ 2147483647) (hk : -2147483648 ≤ k ∧ k ≤ 2147483647) (f0 : jF) (sz : Nat) (e : Int) (n : Int) (b : Int) (r : Int) (b0 : 0 ≤ b ∧ b ≤ 1) (r0 : 0 ≤ r) (e1 : e ≤ 32) (j0 : 0 ≤ j ∧ j ≤ 23) (hout : ∀ (a : Int) (J : Nat → Int) (B : Nat → Int → Int), gPo [] [] I A J B → (r ≤ a) → (a ≤ e) → (a = e ∨ A 45 (j * 32 + a) ≠ b) → jt (jm G Y_GM_stretch (gR (d + 1)) (gQ m f0 sz (fun (rv : Option Value) (I2 : Nat → Int) (A2 : Nat → Int → Int) => ∃ y : Int, rv = some (.int (jI y)) ∧ (-2147483648 ≤ y ∧ y ≤ 2147483647) ∧ gPo [] [] I A I2 A2))) 97 [(0, .ref m), (1, .int (jI j)), (2, .int (jI k)), (3, .int (jI e)), (4, .int (jI n)), (5, .int (jI a)), (6, .int (jI b)), (7, .int (jI r))] [] (gmf m f0 J B) sz 0 0) : ∀ (n9 : Nat) (a : Int) (J : Nat → Int) (B : Nat → Int → Int), gPo [] [] I A J B → (r ≤ a) → (a ≤ e) → e - a < (n9 : Int) → jt (jm G Y_GM_stretch (gR (d + 1)) (gQ m f0 sz (fun (rv : Option Value) (I2 : Nat → Int) (A2 : Nat → Int → Int) => ∃ y : Int, rv = some (.int (jI y)) ∧ (-2147483648 ≤ y ∧ y ≤ 2147483647) ∧ gPo [] [] I A I2 A2))) 68 [(0, .ref m), (1, .int (jI j)), (2, .int (jI k)), (3, .int (jI e)), (4, .int (jI n)), (5, .int (jI a)), (6, .int (jI b)), (7, .int (jI r))] [] (gmf m f0 J B) sz 0 0 := by
  intro n9
  induction n9 with
  | zero =>
    intro a J B hJ a0 a1 hmeas
    have f45 : B 45 = A 45 := hJ.2.2.2 45 rfl
    exfalso
    omega
  | succ n9 ih =>
    intro a J B hJ a0 a1 hmeas
    have f45 : B 45 = A 45 := hJ.2.2.2 45 rfl
    refine jt_iload d_GM_stretch_68 rfl ?_
    refine jt_iload_n d_GM_stretch_70 rfl ?_
    refine jt_icmp_ge (t := 97) d_GM_stretch_71 rfl (by unfold jRi; omega) (by unfold jRi; omega) (fun c101 => ?_) (fun c101 => ?_)
    · skip
      exact hout a J B hJ a0 a1 (by omega)
    · skip
      refine jt_aload_n d_GM_stretch_74 rfl ?_
      refine gm_gA (k := 45) (a := m + 30) d_GM_stretch_75 GM_f148 (by decide) (by decide) rfl ?_
      refine jt_iload_n d_GM_stretch_78 rfl ?_
      refine jt_bipush d_GM_stretch_79 (by omega) ?_
      refine jt_imul d_GM_stretch_81 ?_
      refine jt_iload d_GM_stretch_82 rfl ?_
      refine jt_iadd d_GM_stretch_84 ?_
      refine gm_ld2 (k := 45) (n := 768) (v := (B 45) ((j * 32) + a)) d_GM_stretch_85 rfl (by decide) (by decide) rfl rfl (by omega) (by omega) (by omega) rfl ?_
      refine jt_topi (fun v102 ev102 => ?_)
      have bv102 : 0 ≤ v102 ∧ v102 ≤ 1 := by rw [ev102]; exact hJ.2.1 45 ((j * 32) + a)
      rw [f45] at ev102
      refine jt_iload d_GM_stretch_86 rfl ?_
      refine jt_icmp_ne (t := 97) d_GM_stretch_88 rfl (by unfold jRi; omega) (by unfold jRi; omega) (fun c103 => ?_) (fun c103 => ?_)
      · skip
        exact hout a J B hJ a0 a1 (by omega)
      · skip
        refine jt_iinc (L' := [(0, .ref m), (1, .int (jI j)), (2, .int (jI k)), (3, .int (jI e)), (4, .int (jI n)), (5, .int (jI (a + 1))), (6, .int (jI b)), (7, .int (jI r))]) d_GM_stretch_91 rfl (Nat.le_of_ble_eq_true rfl) rfl ?_
        refine jt_goto (t := 68) d_GM_stretch_94 rfl ?_
        exact ih (a + 1) J B hJ (by omega) (by omega) (by omega)
set_option maxRecDepth 100000 in
set_option maxHeartbeats 1000000 in
theorem l58_GM_stretchw (G : jG) (d m : Nat) (j : Int) (k : Int) (I : Nat → Int) (A : Nat → Int → Int) (hI : gSI I) (hA : gSA A) (hj : -2147483648 ≤ j ∧ j ≤ 2147483647) (hk : -2147483648 ≤ k ∧ k ≤ 2147483647) (f0 : jF) (sz : Nat) (e : Int) (e0 : 0 ≤ e) (e1 : e ≤ 32) (j0 : 0 ≤ j ∧ j ≤ 23) : ∀ (n9 : Nat) (n : Int) (a : Int) (b : Int) (g : Int) (J : Nat → Int) (B : Nat → Int → Int), gPo [] [] I A J B → (0 ≤ a) → (a ≤ e) → (0 ≤ n) → (n ≤ a + 1 - g) → (0 ≤ b ∧ b ≤ 1) → (0 ≤ g ∧ g ≤ 1) → (g = 0 → a < e → A 45 (j * 32 + a) = b) → 2 * (e - a) + g < (n9 : Int) → jt (jm G Y_GM_stretch (gR (d + 1)) (gQ m f0 sz (fun (rv : Option Value) (I2 : Nat → Int) (A2 : Nat → Int → Int) => ∃ y : Int, rv = some (.int (jI y)) ∧ (-2147483648 ≤ y ∧ y ≤ 2147483647) ∧ gPo [] [] I A I2 A2))) 58 [(0, .ref m), (1, .int (jI j)), (2, .int (jI k)), (3, .int (jI e)), (4, .int (jI n)), (5, .int (jI a)), (6, .int (jI b))] [] (gmf m f0 J B) sz 0 0 := by
  intro n9
  induction n9 with
  | zero =>
    intro n a b g J B hJ a0 a1 n0 n1 b0 d0 hd hmeas
    exfalso
    omega
  | succ n9 ih =>
    intro n a b g J B hJ a0 a1 n0 n1 b0 d0 hd hmeas
    refine jt_iload d_GM_stretch_58 rfl ?_
    refine jt_iload_n d_GM_stretch_60 rfl ?_
    refine jt_icmp_ge (t := 127) d_GM_stretch_61 rfl (by unfold jRi; omega) (by unfold jRi; omega) (fun c201 => ?_) (fun c201 => ?_)
    · skip
      refine jt_bipush d_GM_stretch_127 (by omega) ?_
      exact gm_ret d_GM_stretch_129 rfl rfl (⟨-2, rfl, by omega, hJ⟩)
    · skip
      refine jt_iload d_GM_stretch_64 rfl ?_
      refine jt_istore (L' := [(0, .ref m), (1, .int (jI j)), (2, .int (jI k)), (3, .int (jI e)), (4, .int (jI n)), (5, .int (jI a)), (6, .int (jI b)), (7, .int (jI a))]) d_GM_stretch_66 (Nat.le_of_ble_eq_true rfl) rfl ?_
      refine l68_GM_stretchw G d m j k I A hI hA hj hk f0 sz e n b a ((by omega)) ((by omega)) ((by omega)) ((by omega)) (fun ao202 Jo202 Bo202 hJo202 a0o202 a1o202 x9o202 => ?_) 33 a J B hJ (by omega) (by omega) (by omega)
      refine jt_iload d_GM_stretch_97 rfl ?_
      refine jt_iload_n d_GM_stretch_99 rfl ?_
      refine jt_icmp_ne (t := 109) d_GM_stretch_100 rfl (by unfold jRi; omega) (by unfold jRi; omega) (fun c203 => ?_) (fun c203 => ?_)
      · skip
        refine jt_iinc (L' := [(0, .ref m), (1, .int (jI j)), (2, .int (jI k)), (3, .int (jI e)), (4, .int (jI (n + 1))), (5, .int (jI ao202)), (6, .int (jI b)), (7, .int (jI a))]) d_GM_stretch_109 rfl (Nat.le_of_ble_eq_true rfl) rfl ?_
        refine jt_iload d_GM_stretch_112 rfl ?_
        refine jt_if_ne (t := 121) d_GM_stretch_114 rfl (by unfold jRi; omega) (fun c204 => ?_) (fun c204 => ?_)
        · skip
          refine jt_iconst d_GM_stretch_121 ?_
          refine jt_istore (L' := [(0, .ref m), (1, .int (jI j)), (2, .int (jI k)), (3, .int (jI e)), (4, .int (jI (n + 1))), (5, .int (jI ao202)), (6, .int (jI 0)), (7, .int (jI a))]) d_GM_stretch_122 (Nat.le_of_ble_eq_true rfl) rfl ?_
          refine jt_goto (t := 58) d_GM_stretch_124 rfl ?_
          have x9c : ao202 = a → A 45 (j * 32 + ao202) = A 45 (j * 32 + a) := fun h => by rw [h]
          have b45 : 0 ≤ A 45 (j * 32 + ao202) ∧ A 45 (j * 32 + ao202) ≤ 1 := hA 45 _
          refine jt_sub (L' := [(0, .ref m), (1, .int (jI j)), (2, .int (jI k)), (3, .int (jI e)), (4, .int (jI (n + 1))), (5, .int (jI ao202)), (6, .int (jI 0))]) (fun _ h => List.mem_append_left [(7, Value.int (jI a))] h) ?_
          exact ih (n + 1) ao202 0 0 Jo202 Bo202 hJo202 (by omega) (by omega) (by omega) (by omega) (by omega) (by omega) (by omega) (by omega)
        · skip
          refine jt_iconst d_GM_stretch_117 ?_
          refine jt_goto (t := 122) d_GM_stretch_118 rfl ?_
          refine jt_istore (L' := [(0, .ref m), (1, .int (jI j)), (2, .int (jI k)), (3, .int (jI e)), (4, .int (jI (n + 1))), (5, .int (jI ao202)), (6, .int (jI 1)), (7, .int (jI a))]) d_GM_stretch_122 (Nat.le_of_ble_eq_true rfl) rfl ?_
          refine jt_goto (t := 58) d_GM_stretch_124 rfl ?_
          have x9c : ao202 = a → A 45 (j * 32 + ao202) = A 45 (j * 32 + a) := fun h => by rw [h]
          have b45 : 0 ≤ A 45 (j * 32 + ao202) ∧ A 45 (j * 32 + ao202) ≤ 1 := hA 45 _
          refine jt_sub (L' := [(0, .ref m), (1, .int (jI j)), (2, .int (jI k)), (3, .int (jI e)), (4, .int (jI (n + 1))), (5, .int (jI ao202)), (6, .int (jI 1))]) (fun _ h => List.mem_append_left [(7, Value.int (jI a))] h) ?_
          exact ih (n + 1) ao202 1 0 Jo202 Bo202 hJo202 (by omega) (by omega) (by omega) (by omega) (by omega) (by omega) (by omega) (by omega)
      · skip
        refine jt_iload d_GM_stretch_103 rfl ?_
        refine jt_iload d_GM_stretch_105 rfl ?_
        refine jt_isub d_GM_stretch_107 ?_
        exact gm_ret d_GM_stretch_108 rfl rfl (⟨ao202 - a, rfl, by omega, hJo202⟩)
set_option maxRecDepth 100000 in
set_option maxHeartbeats 1000000 in
theorem l22_GM_stretchw (G : jG) (d m : Nat) (j : Int) (k : Int) (I : Nat → Int) (A : Nat → Int → Int) (hI : gSI I) (hA : gSA A) (hj : -2147483648 ≤ j ∧ j ≤ 2147483647) (hk : -2147483648 ≤ k ∧ k ≤ 2147483647) (f0 : jF) (sz : Nat) (j0 : 0 ≤ j ∧ j ≤ 23) : ∀ (n9 : Nat) (e : Int) (J : Nat → Int) (B : Nat → Int → Int), gPo [] [] I A J B → (0 ≤ e) → (e ≤ 32) → e < (n9 : Int) → jt (jm G Y_GM_stretch (gR (d + 1)) (gQ m f0 sz (fun (rv : Option Value) (I2 : Nat → Int) (A2 : Nat → Int → Int) => ∃ y : Int, rv = some (.int (jI y)) ∧ (-2147483648 ≤ y ∧ y ≤ 2147483647) ∧ gPo [] [] I A I2 A2))) 22 [(0, .ref m), (1, .int (jI j)), (2, .int (jI k)), (3, .int (jI e)), (4, .int (jI 0)), (5, .int (jI 0))] [] (gmf m f0 J B) sz 0 0 := by
  intro n9
  induction n9 with
  | zero =>
    intro e J B hJ e0 e1 hmeas
    have f45 : B 45 = A 45 := hJ.2.2.2 45 rfl
    exfalso
    omega
  | succ n9 ih =>
    intro e J B hJ e0 e1 hmeas
    have f45 : B 45 = A 45 := hJ.2.2.2 45 rfl
    refine jt_iload_n d_GM_stretch_22 rfl ?_
    refine jt_if_le (t := 48) d_GM_stretch_23 rfl (by unfold jRi; omega) (fun c301 => ?_) (fun c301 => ?_)
    · skip
      refine jt_iload_n d_GM_stretch_48 rfl ?_
      refine jt_if_ge (t := 55) d_GM_stretch_49 rfl (by unfold jRi; omega) (fun c302 => ?_) (fun c302 => ?_)
      · skip
        refine jt_iconst d_GM_stretch_55 ?_
        refine jt_istore (L' := [(0, .ref m), (1, .int (jI j)), (2, .int (jI k)), (3, .int (jI e)), (4, .int (jI 0)), (5, .int (jI 0)), (6, .int (jI 0))]) d_GM_stretch_56 (Nat.le_of_ble_eq_true rfl) rfl ?_
        exact l58_GM_stretchw G d m j k I A hI hA hj hk f0 sz e ((by omega)) ((by omega)) ((by omega)) 66 0 0 0 1 J B hJ (by omega) (by omega) (by omega) (by omega) (by omega) (by omega) (by omega) (by omega)
      · skip
        refine jt_bipush d_GM_stretch_52 (by omega) ?_
        exact gm_ret d_GM_stretch_54 rfl rfl (⟨-2, rfl, by omega, hJ⟩)
    · skip
      refine jt_aload_n d_GM_stretch_26 rfl ?_
      refine gm_gA (k := 45) (a := m + 30) d_GM_stretch_27 GM_f148 (by decide) (by decide) rfl ?_
      refine jt_iload_n d_GM_stretch_30 rfl ?_
      refine jt_bipush d_GM_stretch_31 (by omega) ?_
      refine jt_imul d_GM_stretch_33 ?_
      refine jt_iload_n d_GM_stretch_34 rfl ?_
      refine jt_iadd d_GM_stretch_35 ?_
      refine jt_iconst d_GM_stretch_36 ?_
      refine jt_isub d_GM_stretch_37 ?_
      refine gm_ld2 (k := 45) (n := 768) (v := (B 45) (((j * 32) + e) - 1)) d_GM_stretch_38 rfl (by decide) (by decide) rfl rfl (by omega) (by omega) (by omega) rfl ?_
      refine jt_topi (fun v303 ev303 => ?_)
      have bv303 : 0 ≤ v303 ∧ v303 ≤ 1 := by rw [ev303]; exact hJ.2.1 45 (((j * 32) + e) - 1)
      rw [f45] at ev303
      refine jt_if_ne (t := 48) d_GM_stretch_39 rfl (by unfold jRi; omega) (fun c304 => ?_) (fun c304 => ?_)
      · skip
        refine jt_iload_n d_GM_stretch_48 rfl ?_
        refine jt_if_ge (t := 55) d_GM_stretch_49 rfl (by unfold jRi; omega) (fun c305 => ?_) (fun c305 => ?_)
        · skip
          refine jt_iconst d_GM_stretch_55 ?_
          refine jt_istore (L' := [(0, .ref m), (1, .int (jI j)), (2, .int (jI k)), (3, .int (jI e)), (4, .int (jI 0)), (5, .int (jI 0)), (6, .int (jI 0))]) d_GM_stretch_56 (Nat.le_of_ble_eq_true rfl) rfl ?_
          exact l58_GM_stretchw G d m j k I A hI hA hj hk f0 sz e ((by omega)) ((by omega)) ((by omega)) 66 0 0 0 1 J B hJ (by omega) (by omega) (by omega) (by omega) (by omega) (by omega) (by omega) (by omega)
        · skip
          refine jt_bipush d_GM_stretch_52 (by omega) ?_
          exact gm_ret d_GM_stretch_54 rfl rfl (⟨-2, rfl, by omega, hJ⟩)
      · skip
        refine jt_iinc (L' := [(0, .ref m), (1, .int (jI j)), (2, .int (jI k)), (3, .int (jI (e + (-1)))), (4, .int (jI 0)), (5, .int (jI 0))]) d_GM_stretch_42 rfl (Nat.le_of_ble_eq_true rfl) rfl ?_
        refine jt_goto (t := 22) d_GM_stretch_45 rfl ?_
        exact ih (e + (-1)) J B hJ (by omega) (by omega) (by omega)
set_option maxRecDepth 100000 in
set_option maxHeartbeats 1000000 in
theorem w_GM_stretch (G : jG) (d m : Nat) (j : Int) (k : Int) (I : Nat → Int) (A : Nat → Int → Int) (hI : gSI I) (hA : gSA A) (hj : -2147483648 ≤ j ∧ j ≤ 2147483647) (hk : -2147483648 ≤ k ∧ k ≤ 2147483647) : gct G Y_GM_stretch (d + 1) m [.int (jI j), .int (jI k)] I A (fun (rv : Option Value) (I2 : Nat → Int) (A2 : Nat → Int → Int) => ∃ y : Int, rv = some (.int (jI y)) ∧ (-2147483648 ≤ y ∧ y ≤ 2147483647) ∧ gPo [] [] I A I2 A2) := by
  refine gct_of (by decide) (Nat.le_of_ble_eq_true rfl) (fun f0 sz => ?_)
  show jt _ 0 [(0, .ref m), (1, .int (jI j)), (2, .int (jI k))] [] _ _ _ _
  have hz0 : gPo [] [] I A I A := gPo.refl hI hA
  refine jt_aload_n d_GM_stretch_0 rfl ?_
  refine jt_iload_n d_GM_stretch_1 rfl ?_
  refine jt_iconst d_GM_stretch_2 ?_
  refine jt_bipush d_GM_stretch_3 (by omega) ?_
  refine gct_call (Y := Y_GM_out) (As := [.int (jI j), .int (jI 0), .int (jI 23)]) (rest := []) d_GM_stretch_5 GM_c152 yk_GM_out yv_GM_out rfl (Nat.le_of_ble_eq_true rfl) rfl rfl (Nat.le_of_ble_eq_true rfl) (c_GM_out G _ m j 0 23 I A (by unfold jRi; omega) (by unfold jRi; omega) (by unfold jRi; omega)) (fun rvq1 Iq1 Aq1 hq1 => ?_)
  obtain ⟨haq1, hbq1, hIq1, hAq1⟩ := hq1
  rw [hIq1, hAq1]
  by_cases gq1 : j < 0 ∨ 23 < j
  · skip
    obtain rfl := haq1 gq1
    clear haq1 hbq1 hIq1 hAq1
    show jt _ 8 [(0, .ref m), (1, .int (jI j)), (2, .int (jI k))] [.int (jI 1)] (gmf m f0 I A) _ _ _
    refine jt_if_eq (t := 13) d_GM_stretch_8 rfl (by unfold jRi; omega) (fun c2 => ?_) (fun c2 => ?_)
    · skip
      exfalso
      omega
    · skip
      refine jt_iconst d_GM_stretch_11 ?_
      exact gm_ret d_GM_stretch_12 rfl rfl (⟨-1, rfl, by omega, hz0⟩)
  · skip
    obtain rfl := hbq1 gq1
    clear haq1 hbq1 hIq1 hAq1
    show jt _ 8 [(0, .ref m), (1, .int (jI j)), (2, .int (jI k))] [.int (jI 0)] (gmf m f0 I A) _ _ _
    refine jt_if_eq (t := 13) d_GM_stretch_8 rfl (by unfold jRi; omega) (fun c3 => ?_) (fun c3 => ?_)
    · skip
      refine jt_bipush d_GM_stretch_13 (by omega) ?_
      refine jt_istore_n (L' := [(0, .ref m), (1, .int (jI j)), (2, .int (jI k)), (3, .int (jI 32))]) d_GM_stretch_15 (Nat.le_of_ble_eq_true rfl) rfl ?_
      refine jt_iconst d_GM_stretch_16 ?_
      refine jt_istore (L' := [(0, .ref m), (1, .int (jI j)), (2, .int (jI k)), (3, .int (jI 32)), (4, .int (jI 0))]) d_GM_stretch_17 (Nat.le_of_ble_eq_true rfl) rfl ?_
      refine jt_iconst d_GM_stretch_19 ?_
      refine jt_istore (L' := [(0, .ref m), (1, .int (jI j)), (2, .int (jI k)), (3, .int (jI 32)), (4, .int (jI 0)), (5, .int (jI 0))]) d_GM_stretch_20 (Nat.le_of_ble_eq_true rfl) rfl ?_
      exact l22_GM_stretchw G d m j k I A hI hA hj hk f0 sz ((by omega)) 33 32 I A hz0 (by omega) (by omega) (by omega)
    · skip
      exfalso
      omega
set_option maxRecDepth 100000 in
set_option maxHeartbeats 1000000 in
theorem l59_GM_countw (G : jG) (d m : Nat) (q : Int) (I : Nat → Int) (A : Nat → Int → Int) (hI : gSI I) (hA : gSA A) (hq : -2147483648 ≤ q ∧ q ≤ 2147483647) (f0 : jF) (sz : Nat)  : ∀ (n9 : Nat) (n : Int) (a : Int) (b : Int) (c : Int) (e : Int) (k : Int) (J : Nat → Int) (B : Nat → Int → Int), gPo [] [] I A J B → (0 ≤ k ∧ k ≤ 768) → (0 ≤ n ∧ n ≤ k) → (-40 ≤ a ∧ a ≤ 31) → (-40 ≤ b ∧ b ≤ 31) → (-40 ≤ c ∧ c ≤ 768) → (-40 ≤ e ∧ e ≤ 768) → 768 - k < (n9 : Int) → jt (jm G Y_GM_count (gR d) (gQ m f0 sz (fun (rv : Option Value) (I2 : Nat → Int) (A2 : Nat → Int → Int) => ∃ y : Int, rv = some (.int (jI y)) ∧ (-2147483648 ≤ y ∧ y ≤ 2147483647) ∧ gPo [] [] I A I2 A2))) 59 [(0, .ref m), (1, .int (jI q)), (2, .int (jI n)), (3, .int (jI a)), (4, .int (jI b)), (5, .int (jI c)), (6, .int (jI e)), (7, .int (jI k))] [] (gmf m f0 J B) sz 0 0 := by
  intro n9
  induction n9 with
  | zero =>
    intro n a b c e k J B hJ k0 n0 a0 b0 c0 e0 hmeas
    exfalso
    omega
  | succ n9 ih =>
    intro n a b c e k J B hJ k0 n0 a0 b0 c0 e0 hmeas
    refine jt_iload d_GM_count_59 rfl ?_
    refine jt_sipush d_GM_count_61 (by omega) ?_
    refine jt_icmp_ge (t := 144) d_GM_count_64 rfl (by unfold jRi; omega) (by unfold jRi; omega) (fun c101 => ?_) (fun c101 => ?_)
    · skip
      refine jt_iload_n d_GM_count_144 rfl ?_
      by_cases hsw : q < 0 ∨ 8 < q
      · skip
        refine jt_tableOut (t := 229) d_GM_count_145 (by unfold jRi; omega) hsw rfl ?_
        refine jt_iconst d_GM_count_229 ?_
        exact gm_ret d_GM_count_230 rfl rfl (⟨-1, rfl, by omega, hJ⟩)
      by_cases hs0 : q = 0
      · skip
        refine jt_tableIn (t := 196) d_GM_count_145 (by unfold jRi; omega) (by omega) (by omega) (by rw [hs0]; rfl) rfl ?_
        refine jt_aload_n d_GM_count_196 rfl ?_
        refine gm_gI (k := 0) (v := J 0) d_GM_count_197 GM_f7 (by decide) rfl ?_
        have rb102 : 0 ≤ J 0 ∧ J 0 ≤ 120 := hJ.1 0
        exact gm_ret d_GM_count_200 rfl rfl (⟨J 0, rfl, by omega, hJ⟩)
      by_cases hs1 : q = 1
      · skip
        refine jt_tableIn (t := 201) d_GM_count_145 (by unfold jRi; omega) (by omega) (by omega) (by rw [hs1]; rfl) rfl ?_
        refine jt_iload_n d_GM_count_201 rfl ?_
        exact gm_ret d_GM_count_202 rfl rfl (⟨n, rfl, by omega, hJ⟩)
      by_cases hs2 : q = 2
      · skip
        refine jt_tableIn (t := 203) d_GM_count_145 (by unfold jRi; omega) (by omega) (by omega) (by rw [hs2]; rfl) rfl ?_
        refine jt_iload_n d_GM_count_203 rfl ?_
        exact gm_ret d_GM_count_204 rfl rfl (⟨a, rfl, by omega, hJ⟩)
      by_cases hs3 : q = 3
      · skip
        refine jt_tableIn (t := 205) d_GM_count_145 (by unfold jRi; omega) (by omega) (by omega) (by rw [hs3]; rfl) rfl ?_
        refine jt_iload d_GM_count_205 rfl ?_
        exact gm_ret d_GM_count_207 rfl rfl (⟨b, rfl, by omega, hJ⟩)
      by_cases hs4 : q = 4
      · skip
        refine jt_tableIn (t := 208) d_GM_count_145 (by unfold jRi; omega) (by omega) (by omega) (by rw [hs4]; rfl) rfl ?_
        refine jt_iload d_GM_count_208 rfl ?_
        exact gm_ret d_GM_count_210 rfl rfl (⟨c, rfl, by omega, hJ⟩)
      by_cases hs5 : q = 5
      · skip
        refine jt_tableIn (t := 211) d_GM_count_145 (by unfold jRi; omega) (by omega) (by omega) (by rw [hs5]; rfl) rfl ?_
        refine jt_iload d_GM_count_211 rfl ?_
        exact gm_ret d_GM_count_213 rfl rfl (⟨e, rfl, by omega, hJ⟩)
      by_cases hs6 : q = 6
      · skip
        refine jt_tableIn (t := 214) d_GM_count_145 (by unfold jRi; omega) (by omega) (by omega) (by rw [hs6]; rfl) rfl ?_
        refine jt_aload_n d_GM_count_214 rfl ?_
        refine gm_gI (k := 7) (v := J 7) d_GM_count_215 GM_f31 (by decide) rfl ?_
        have rb103 : -2147483648 ≤ J 7 ∧ J 7 ≤ 2147483647 := hJ.1 7
        exact gm_ret d_GM_count_218 rfl rfl (⟨J 7, rfl, by omega, hJ⟩)
      by_cases hs7 : q = 7
      · skip
        refine jt_tableIn (t := 219) d_GM_count_145 (by unfold jRi; omega) (by omega) (by omega) (by rw [hs7]; rfl) rfl ?_
        refine jt_aload_n d_GM_count_219 rfl ?_
        refine gm_gI (k := 8) (v := J 8) d_GM_count_220 GM_f34 (by decide) rfl ?_
        have rb104 : -2147483648 ≤ J 8 ∧ J 8 ≤ 2147483647 := hJ.1 8
        exact gm_ret d_GM_count_223 rfl rfl (⟨J 8, rfl, by omega, hJ⟩)
      by_cases hs8 : q = 8
      · skip
        refine jt_tableIn (t := 224) d_GM_count_145 (by unfold jRi; omega) (by omega) (by omega) (by rw [hs8]; rfl) rfl ?_
        refine jt_aload_n d_GM_count_224 rfl ?_
        refine gm_gI (k := 2) (v := J 2) d_GM_count_225 GM_f16 (by decide) rfl ?_
        have rb105 : -2147483648 ≤ J 2 ∧ J 2 ≤ 2147483647 := hJ.1 2
        exact gm_ret d_GM_count_228 rfl rfl (⟨J 2, rfl, by omega, hJ⟩)
      exfalso
      omega
    · skip
      refine jt_aload_n d_GM_count_67 rfl ?_
      refine gm_gA (k := 45) (a := m + 30) d_GM_count_68 GM_f148 (by decide) (by decide) rfl ?_
      refine jt_iload d_GM_count_71 rfl ?_
      refine gm_ld2 (k := 45) (n := 768) (v := (B 45) k) d_GM_count_73 rfl (by decide) (by decide) rfl rfl (by omega) (by omega) (by omega) rfl ?_
      refine jt_topi (fun v106 ev106 => ?_)
      have bv106 : 0 ≤ v106 ∧ v106 ≤ 1 := by rw [ev106]; exact hJ.2.1 45 k
      refine jt_if_ne (t := 80) d_GM_count_74 rfl (by unfold jRi; omega) (fun c107 => ?_) (fun c107 => ?_)
      · skip
        refine jt_iinc (L' := [(0, .ref m), (1, .int (jI q)), (2, .int (jI (n + 1))), (3, .int (jI a)), (4, .int (jI b)), (5, .int (jI c)), (6, .int (jI e)), (7, .int (jI k))]) d_GM_count_80 rfl (Nat.le_of_ble_eq_true rfl) rfl ?_
        refine jt_iload_n d_GM_count_83 rfl ?_
        refine jt_if_lt (t := 96) d_GM_count_84 rfl (by unfold jRi; omega) (fun c108 => ?_) (fun c108 => ?_)
        · skip
          refine jt_iload d_GM_count_96 rfl ?_
          refine jt_bipush d_GM_count_98 (by omega) ?_
          refine jt_irem d_GM_count_100 (by unfold jRi; omega) (by unfold jRi; omega) (by omega) ?_
          have td109 := gtd k 32 (by omega)
          refine jt_topi (fun v110 ev110 => ?_)
          refine jt_istore_n (L' := [(0, .ref m), (1, .int (jI q)), (2, .int (jI (n + 1))), (3, .int (jI v110)), (4, .int (jI b)), (5, .int (jI c)), (6, .int (jI e)), (7, .int (jI k))]) d_GM_count_101 (Nat.le_of_ble_eq_true rfl) rfl ?_
          refine jt_iload d_GM_count_102 rfl ?_
          refine jt_bipush d_GM_count_104 (by omega) ?_
          refine jt_irem d_GM_count_106 (by unfold jRi; omega) (by unfold jRi; omega) (by omega) ?_
          have td111 := gtd k 32 (by omega)
          refine jt_iload d_GM_count_107 rfl ?_
          refine jt_icmp_le (t := 119) d_GM_count_109 rfl (by unfold jRi; omega) (by unfold jRi; omega) (fun c112 => ?_) (fun c112 => ?_)
          · skip
            refine jt_iload d_GM_count_119 rfl ?_
            refine jt_if_ge (t := 131) d_GM_count_121 rfl (by unfold jRi; omega) (fun c113 => ?_) (fun c113 => ?_)
            · skip
              refine jt_iload d_GM_count_131 rfl ?_
              refine jt_bipush d_GM_count_133 (by omega) ?_
              refine jt_idiv d_GM_count_135 (by unfold jRi; omega) (by unfold jRi; omega) (by omega) ?_
              have td114 := gtd k 32 (by omega)
              refine jt_topi (fun v115 ev115 => ?_)
              refine jt_istore (L' := [(0, .ref m), (1, .int (jI q)), (2, .int (jI (n + 1))), (3, .int (jI v110)), (4, .int (jI b)), (5, .int (jI c)), (6, .int (jI v115)), (7, .int (jI k))]) d_GM_count_136 (Nat.le_of_ble_eq_true rfl) rfl ?_
              refine jt_iinc (L' := [(0, .ref m), (1, .int (jI q)), (2, .int (jI (n + 1))), (3, .int (jI v110)), (4, .int (jI b)), (5, .int (jI c)), (6, .int (jI v115)), (7, .int (jI (k + 1)))]) d_GM_count_138 rfl (Nat.le_of_ble_eq_true rfl) rfl ?_
              refine jt_goto (t := 59) d_GM_count_141 rfl ?_
              exact ih (n + 1) v110 b c v115 (k + 1) J B hJ (by omega) (by omega) (by omega) (by omega) (by omega) (by omega) (by omega)
            · skip
              refine jt_iload d_GM_count_124 rfl ?_
              refine jt_bipush d_GM_count_126 (by omega) ?_
              refine jt_idiv d_GM_count_128 (by unfold jRi; omega) (by unfold jRi; omega) (by omega) ?_
              have td116 := gtd k 32 (by omega)
              refine jt_topi (fun v117 ev117 => ?_)
              refine jt_istore (L' := [(0, .ref m), (1, .int (jI q)), (2, .int (jI (n + 1))), (3, .int (jI v110)), (4, .int (jI b)), (5, .int (jI v117)), (6, .int (jI e)), (7, .int (jI k))]) d_GM_count_129 (Nat.le_of_ble_eq_true rfl) rfl ?_
              refine jt_iload d_GM_count_131 rfl ?_
              refine jt_bipush d_GM_count_133 (by omega) ?_
              refine jt_idiv d_GM_count_135 (by unfold jRi; omega) (by unfold jRi; omega) (by omega) ?_
              have td118 := gtd k 32 (by omega)
              refine jt_topi (fun v119 ev119 => ?_)
              refine jt_istore (L' := [(0, .ref m), (1, .int (jI q)), (2, .int (jI (n + 1))), (3, .int (jI v110)), (4, .int (jI b)), (5, .int (jI v117)), (6, .int (jI v119)), (7, .int (jI k))]) d_GM_count_136 (Nat.le_of_ble_eq_true rfl) rfl ?_
              refine jt_iinc (L' := [(0, .ref m), (1, .int (jI q)), (2, .int (jI (n + 1))), (3, .int (jI v110)), (4, .int (jI b)), (5, .int (jI v117)), (6, .int (jI v119)), (7, .int (jI (k + 1)))]) d_GM_count_138 rfl (Nat.le_of_ble_eq_true rfl) rfl ?_
              refine jt_goto (t := 59) d_GM_count_141 rfl ?_
              exact ih (n + 1) v110 b v117 v119 (k + 1) J B hJ (by omega) (by omega) (by omega) (by omega) (by omega) (by omega) (by omega)
          · skip
            refine jt_iload d_GM_count_112 rfl ?_
            refine jt_bipush d_GM_count_114 (by omega) ?_
            refine jt_irem d_GM_count_116 (by unfold jRi; omega) (by unfold jRi; omega) (by omega) ?_
            have td120 := gtd k 32 (by omega)
            refine jt_topi (fun v121 ev121 => ?_)
            refine jt_istore (L' := [(0, .ref m), (1, .int (jI q)), (2, .int (jI (n + 1))), (3, .int (jI v110)), (4, .int (jI v121)), (5, .int (jI c)), (6, .int (jI e)), (7, .int (jI k))]) d_GM_count_117 (Nat.le_of_ble_eq_true rfl) rfl ?_
            refine jt_iload d_GM_count_119 rfl ?_
            refine jt_if_ge (t := 131) d_GM_count_121 rfl (by unfold jRi; omega) (fun c122 => ?_) (fun c122 => ?_)
            · skip
              refine jt_iload d_GM_count_131 rfl ?_
              refine jt_bipush d_GM_count_133 (by omega) ?_
              refine jt_idiv d_GM_count_135 (by unfold jRi; omega) (by unfold jRi; omega) (by omega) ?_
              have td123 := gtd k 32 (by omega)
              refine jt_topi (fun v124 ev124 => ?_)
              refine jt_istore (L' := [(0, .ref m), (1, .int (jI q)), (2, .int (jI (n + 1))), (3, .int (jI v110)), (4, .int (jI v121)), (5, .int (jI c)), (6, .int (jI v124)), (7, .int (jI k))]) d_GM_count_136 (Nat.le_of_ble_eq_true rfl) rfl ?_
              refine jt_iinc (L' := [(0, .ref m), (1, .int (jI q)), (2, .int (jI (n + 1))), (3, .int (jI v110)), (4, .int (jI v121)), (5, .int (jI c)), (6, .int (jI v124)), (7, .int (jI (k + 1)))]) d_GM_count_138 rfl (Nat.le_of_ble_eq_true rfl) rfl ?_
              refine jt_goto (t := 59) d_GM_count_141 rfl ?_
              exact ih (n + 1) v110 v121 c v124 (k + 1) J B hJ (by omega) (by omega) (by omega) (by omega) (by omega) (by omega) (by omega)
            · skip
              refine jt_iload d_GM_count_124 rfl ?_
              refine jt_bipush d_GM_count_126 (by omega) ?_
              refine jt_idiv d_GM_count_128 (by unfold jRi; omega) (by unfold jRi; omega) (by omega) ?_
              have td125 := gtd k 32 (by omega)
              refine jt_topi (fun v126 ev126 => ?_)
              refine jt_istore (L' := [(0, .ref m), (1, .int (jI q)), (2, .int (jI (n + 1))), (3, .int (jI v110)), (4, .int (jI v121)), (5, .int (jI v126)), (6, .int (jI e)), (7, .int (jI k))]) d_GM_count_129 (Nat.le_of_ble_eq_true rfl) rfl ?_
              refine jt_iload d_GM_count_131 rfl ?_
              refine jt_bipush d_GM_count_133 (by omega) ?_
              refine jt_idiv d_GM_count_135 (by unfold jRi; omega) (by unfold jRi; omega) (by omega) ?_
              have td127 := gtd k 32 (by omega)
              refine jt_topi (fun v128 ev128 => ?_)
              refine jt_istore (L' := [(0, .ref m), (1, .int (jI q)), (2, .int (jI (n + 1))), (3, .int (jI v110)), (4, .int (jI v121)), (5, .int (jI v126)), (6, .int (jI v128)), (7, .int (jI k))]) d_GM_count_136 (Nat.le_of_ble_eq_true rfl) rfl ?_
              refine jt_iinc (L' := [(0, .ref m), (1, .int (jI q)), (2, .int (jI (n + 1))), (3, .int (jI v110)), (4, .int (jI v121)), (5, .int (jI v126)), (6, .int (jI v128)), (7, .int (jI (k + 1)))]) d_GM_count_138 rfl (Nat.le_of_ble_eq_true rfl) rfl ?_
              refine jt_goto (t := 59) d_GM_count_141 rfl ?_
              exact ih (n + 1) v110 v121 v126 v128 (k + 1) J B hJ (by omega) (by omega) (by omega) (by omega) (by omega) (by omega) (by omega)
        · skip
          refine jt_iload d_GM_count_87 rfl ?_
          refine jt_bipush d_GM_count_89 (by omega) ?_
          refine jt_irem d_GM_count_91 (by unfold jRi; omega) (by unfold jRi; omega) (by omega) ?_
          have td129 := gtd k 32 (by omega)
          refine jt_iload_n d_GM_count_92 rfl ?_
          refine jt_icmp_ge (t := 102) d_GM_count_93 rfl (by unfold jRi; omega) (by unfold jRi; omega) (fun c130 => ?_) (fun c130 => ?_)
          · skip
            refine jt_iload d_GM_count_102 rfl ?_
            refine jt_bipush d_GM_count_104 (by omega) ?_
            refine jt_irem d_GM_count_106 (by unfold jRi; omega) (by unfold jRi; omega) (by omega) ?_
            have td131 := gtd k 32 (by omega)
            refine jt_iload d_GM_count_107 rfl ?_
            refine jt_icmp_le (t := 119) d_GM_count_109 rfl (by unfold jRi; omega) (by unfold jRi; omega) (fun c132 => ?_) (fun c132 => ?_)
            · skip
              refine jt_iload d_GM_count_119 rfl ?_
              refine jt_if_ge (t := 131) d_GM_count_121 rfl (by unfold jRi; omega) (fun c133 => ?_) (fun c133 => ?_)
              · skip
                refine jt_iload d_GM_count_131 rfl ?_
                refine jt_bipush d_GM_count_133 (by omega) ?_
                refine jt_idiv d_GM_count_135 (by unfold jRi; omega) (by unfold jRi; omega) (by omega) ?_
                have td134 := gtd k 32 (by omega)
                refine jt_topi (fun v135 ev135 => ?_)
                refine jt_istore (L' := [(0, .ref m), (1, .int (jI q)), (2, .int (jI (n + 1))), (3, .int (jI a)), (4, .int (jI b)), (5, .int (jI c)), (6, .int (jI v135)), (7, .int (jI k))]) d_GM_count_136 (Nat.le_of_ble_eq_true rfl) rfl ?_
                refine jt_iinc (L' := [(0, .ref m), (1, .int (jI q)), (2, .int (jI (n + 1))), (3, .int (jI a)), (4, .int (jI b)), (5, .int (jI c)), (6, .int (jI v135)), (7, .int (jI (k + 1)))]) d_GM_count_138 rfl (Nat.le_of_ble_eq_true rfl) rfl ?_
                refine jt_goto (t := 59) d_GM_count_141 rfl ?_
                exact ih (n + 1) a b c v135 (k + 1) J B hJ (by omega) (by omega) (by omega) (by omega) (by omega) (by omega) (by omega)
              · skip
                refine jt_iload d_GM_count_124 rfl ?_
                refine jt_bipush d_GM_count_126 (by omega) ?_
                refine jt_idiv d_GM_count_128 (by unfold jRi; omega) (by unfold jRi; omega) (by omega) ?_
                have td136 := gtd k 32 (by omega)
                refine jt_topi (fun v137 ev137 => ?_)
                refine jt_istore (L' := [(0, .ref m), (1, .int (jI q)), (2, .int (jI (n + 1))), (3, .int (jI a)), (4, .int (jI b)), (5, .int (jI v137)), (6, .int (jI e)), (7, .int (jI k))]) d_GM_count_129 (Nat.le_of_ble_eq_true rfl) rfl ?_
                refine jt_iload d_GM_count_131 rfl ?_
                refine jt_bipush d_GM_count_133 (by omega) ?_
                refine jt_idiv d_GM_count_135 (by unfold jRi; omega) (by unfold jRi; omega) (by omega) ?_
                have td138 := gtd k 32 (by omega)
                refine jt_topi (fun v139 ev139 => ?_)
                refine jt_istore (L' := [(0, .ref m), (1, .int (jI q)), (2, .int (jI (n + 1))), (3, .int (jI a)), (4, .int (jI b)), (5, .int (jI v137)), (6, .int (jI v139)), (7, .int (jI k))]) d_GM_count_136 (Nat.le_of_ble_eq_true rfl) rfl ?_
                refine jt_iinc (L' := [(0, .ref m), (1, .int (jI q)), (2, .int (jI (n + 1))), (3, .int (jI a)), (4, .int (jI b)), (5, .int (jI v137)), (6, .int (jI v139)), (7, .int (jI (k + 1)))]) d_GM_count_138 rfl (Nat.le_of_ble_eq_true rfl) rfl ?_
                refine jt_goto (t := 59) d_GM_count_141 rfl ?_
                exact ih (n + 1) a b v137 v139 (k + 1) J B hJ (by omega) (by omega) (by omega) (by omega) (by omega) (by omega) (by omega)
            · skip
              refine jt_iload d_GM_count_112 rfl ?_
              refine jt_bipush d_GM_count_114 (by omega) ?_
              refine jt_irem d_GM_count_116 (by unfold jRi; omega) (by unfold jRi; omega) (by omega) ?_
              have td140 := gtd k 32 (by omega)
              refine jt_topi (fun v141 ev141 => ?_)
              refine jt_istore (L' := [(0, .ref m), (1, .int (jI q)), (2, .int (jI (n + 1))), (3, .int (jI a)), (4, .int (jI v141)), (5, .int (jI c)), (6, .int (jI e)), (7, .int (jI k))]) d_GM_count_117 (Nat.le_of_ble_eq_true rfl) rfl ?_
              refine jt_iload d_GM_count_119 rfl ?_
              refine jt_if_ge (t := 131) d_GM_count_121 rfl (by unfold jRi; omega) (fun c142 => ?_) (fun c142 => ?_)
              · skip
                refine jt_iload d_GM_count_131 rfl ?_
                refine jt_bipush d_GM_count_133 (by omega) ?_
                refine jt_idiv d_GM_count_135 (by unfold jRi; omega) (by unfold jRi; omega) (by omega) ?_
                have td143 := gtd k 32 (by omega)
                refine jt_topi (fun v144 ev144 => ?_)
                refine jt_istore (L' := [(0, .ref m), (1, .int (jI q)), (2, .int (jI (n + 1))), (3, .int (jI a)), (4, .int (jI v141)), (5, .int (jI c)), (6, .int (jI v144)), (7, .int (jI k))]) d_GM_count_136 (Nat.le_of_ble_eq_true rfl) rfl ?_
                refine jt_iinc (L' := [(0, .ref m), (1, .int (jI q)), (2, .int (jI (n + 1))), (3, .int (jI a)), (4, .int (jI v141)), (5, .int (jI c)), (6, .int (jI v144)), (7, .int (jI (k + 1)))]) d_GM_count_138 rfl (Nat.le_of_ble_eq_true rfl) rfl ?_
                refine jt_goto (t := 59) d_GM_count_141 rfl ?_
                exact ih (n + 1) a v141 c v144 (k + 1) J B hJ (by omega) (by omega) (by omega) (by omega) (by omega) (by omega) (by omega)
              · skip
                refine jt_iload d_GM_count_124 rfl ?_
                refine jt_bipush d_GM_count_126 (by omega) ?_
                refine jt_idiv d_GM_count_128 (by unfold jRi; omega) (by unfold jRi; omega) (by omega) ?_
                have td145 := gtd k 32 (by omega)
                refine jt_topi (fun v146 ev146 => ?_)
                refine jt_istore (L' := [(0, .ref m), (1, .int (jI q)), (2, .int (jI (n + 1))), (3, .int (jI a)), (4, .int (jI v141)), (5, .int (jI v146)), (6, .int (jI e)), (7, .int (jI k))]) d_GM_count_129 (Nat.le_of_ble_eq_true rfl) rfl ?_
                refine jt_iload d_GM_count_131 rfl ?_
                refine jt_bipush d_GM_count_133 (by omega) ?_
                refine jt_idiv d_GM_count_135 (by unfold jRi; omega) (by unfold jRi; omega) (by omega) ?_
                have td147 := gtd k 32 (by omega)
                refine jt_topi (fun v148 ev148 => ?_)
                refine jt_istore (L' := [(0, .ref m), (1, .int (jI q)), (2, .int (jI (n + 1))), (3, .int (jI a)), (4, .int (jI v141)), (5, .int (jI v146)), (6, .int (jI v148)), (7, .int (jI k))]) d_GM_count_136 (Nat.le_of_ble_eq_true rfl) rfl ?_
                refine jt_iinc (L' := [(0, .ref m), (1, .int (jI q)), (2, .int (jI (n + 1))), (3, .int (jI a)), (4, .int (jI v141)), (5, .int (jI v146)), (6, .int (jI v148)), (7, .int (jI (k + 1)))]) d_GM_count_138 rfl (Nat.le_of_ble_eq_true rfl) rfl ?_
                refine jt_goto (t := 59) d_GM_count_141 rfl ?_
                exact ih (n + 1) a v141 v146 v148 (k + 1) J B hJ (by omega) (by omega) (by omega) (by omega) (by omega) (by omega) (by omega)
          · skip
            refine jt_iload d_GM_count_96 rfl ?_
            refine jt_bipush d_GM_count_98 (by omega) ?_
            refine jt_irem d_GM_count_100 (by unfold jRi; omega) (by unfold jRi; omega) (by omega) ?_
            have td149 := gtd k 32 (by omega)
            refine jt_topi (fun v150 ev150 => ?_)
            refine jt_istore_n (L' := [(0, .ref m), (1, .int (jI q)), (2, .int (jI (n + 1))), (3, .int (jI v150)), (4, .int (jI b)), (5, .int (jI c)), (6, .int (jI e)), (7, .int (jI k))]) d_GM_count_101 (Nat.le_of_ble_eq_true rfl) rfl ?_
            refine jt_iload d_GM_count_102 rfl ?_
            refine jt_bipush d_GM_count_104 (by omega) ?_
            refine jt_irem d_GM_count_106 (by unfold jRi; omega) (by unfold jRi; omega) (by omega) ?_
            have td151 := gtd k 32 (by omega)
            refine jt_iload d_GM_count_107 rfl ?_
            refine jt_icmp_le (t := 119) d_GM_count_109 rfl (by unfold jRi; omega) (by unfold jRi; omega) (fun c152 => ?_) (fun c152 => ?_)
            · skip
              refine jt_iload d_GM_count_119 rfl ?_
              refine jt_if_ge (t := 131) d_GM_count_121 rfl (by unfold jRi; omega) (fun c153 => ?_) (fun c153 => ?_)
              · skip
                refine jt_iload d_GM_count_131 rfl ?_
                refine jt_bipush d_GM_count_133 (by omega) ?_
                refine jt_idiv d_GM_count_135 (by unfold jRi; omega) (by unfold jRi; omega) (by omega) ?_
                have td154 := gtd k 32 (by omega)
                refine jt_topi (fun v155 ev155 => ?_)
                refine jt_istore (L' := [(0, .ref m), (1, .int (jI q)), (2, .int (jI (n + 1))), (3, .int (jI v150)), (4, .int (jI b)), (5, .int (jI c)), (6, .int (jI v155)), (7, .int (jI k))]) d_GM_count_136 (Nat.le_of_ble_eq_true rfl) rfl ?_
                refine jt_iinc (L' := [(0, .ref m), (1, .int (jI q)), (2, .int (jI (n + 1))), (3, .int (jI v150)), (4, .int (jI b)), (5, .int (jI c)), (6, .int (jI v155)), (7, .int (jI (k + 1)))]) d_GM_count_138 rfl (Nat.le_of_ble_eq_true rfl) rfl ?_
                refine jt_goto (t := 59) d_GM_count_141 rfl ?_
                exact ih (n + 1) v150 b c v155 (k + 1) J B hJ (by omega) (by omega) (by omega) (by omega) (by omega) (by omega) (by omega)
              · skip
                refine jt_iload d_GM_count_124 rfl ?_
                refine jt_bipush d_GM_count_126 (by omega) ?_
                refine jt_idiv d_GM_count_128 (by unfold jRi; omega) (by unfold jRi; omega) (by omega) ?_
                have td156 := gtd k 32 (by omega)
                refine jt_topi (fun v157 ev157 => ?_)
                refine jt_istore (L' := [(0, .ref m), (1, .int (jI q)), (2, .int (jI (n + 1))), (3, .int (jI v150)), (4, .int (jI b)), (5, .int (jI v157)), (6, .int (jI e)), (7, .int (jI k))]) d_GM_count_129 (Nat.le_of_ble_eq_true rfl) rfl ?_
                refine jt_iload d_GM_count_131 rfl ?_
                refine jt_bipush d_GM_count_133 (by omega) ?_
                refine jt_idiv d_GM_count_135 (by unfold jRi; omega) (by unfold jRi; omega) (by omega) ?_
                have td158 := gtd k 32 (by omega)
                refine jt_topi (fun v159 ev159 => ?_)
                refine jt_istore (L' := [(0, .ref m), (1, .int (jI q)), (2, .int (jI (n + 1))), (3, .int (jI v150)), (4, .int (jI b)), (5, .int (jI v157)), (6, .int (jI v159)), (7, .int (jI k))]) d_GM_count_136 (Nat.le_of_ble_eq_true rfl) rfl ?_
                refine jt_iinc (L' := [(0, .ref m), (1, .int (jI q)), (2, .int (jI (n + 1))), (3, .int (jI v150)), (4, .int (jI b)), (5, .int (jI v157)), (6, .int (jI v159)), (7, .int (jI (k + 1)))]) d_GM_count_138 rfl (Nat.le_of_ble_eq_true rfl) rfl ?_
                refine jt_goto (t := 59) d_GM_count_141 rfl ?_
                exact ih (n + 1) v150 b v157 v159 (k + 1) J B hJ (by omega) (by omega) (by omega) (by omega) (by omega) (by omega) (by omega)
            · skip
              refine jt_iload d_GM_count_112 rfl ?_
              refine jt_bipush d_GM_count_114 (by omega) ?_
              refine jt_irem d_GM_count_116 (by unfold jRi; omega) (by unfold jRi; omega) (by omega) ?_
              have td160 := gtd k 32 (by omega)
              refine jt_topi (fun v161 ev161 => ?_)
              refine jt_istore (L' := [(0, .ref m), (1, .int (jI q)), (2, .int (jI (n + 1))), (3, .int (jI v150)), (4, .int (jI v161)), (5, .int (jI c)), (6, .int (jI e)), (7, .int (jI k))]) d_GM_count_117 (Nat.le_of_ble_eq_true rfl) rfl ?_
              refine jt_iload d_GM_count_119 rfl ?_
              refine jt_if_ge (t := 131) d_GM_count_121 rfl (by unfold jRi; omega) (fun c162 => ?_) (fun c162 => ?_)
              · skip
                refine jt_iload d_GM_count_131 rfl ?_
                refine jt_bipush d_GM_count_133 (by omega) ?_
                refine jt_idiv d_GM_count_135 (by unfold jRi; omega) (by unfold jRi; omega) (by omega) ?_
                have td163 := gtd k 32 (by omega)
                refine jt_topi (fun v164 ev164 => ?_)
                refine jt_istore (L' := [(0, .ref m), (1, .int (jI q)), (2, .int (jI (n + 1))), (3, .int (jI v150)), (4, .int (jI v161)), (5, .int (jI c)), (6, .int (jI v164)), (7, .int (jI k))]) d_GM_count_136 (Nat.le_of_ble_eq_true rfl) rfl ?_
                refine jt_iinc (L' := [(0, .ref m), (1, .int (jI q)), (2, .int (jI (n + 1))), (3, .int (jI v150)), (4, .int (jI v161)), (5, .int (jI c)), (6, .int (jI v164)), (7, .int (jI (k + 1)))]) d_GM_count_138 rfl (Nat.le_of_ble_eq_true rfl) rfl ?_
                refine jt_goto (t := 59) d_GM_count_141 rfl ?_
                exact ih (n + 1) v150 v161 c v164 (k + 1) J B hJ (by omega) (by omega) (by omega) (by omega) (by omega) (by omega) (by omega)
              · skip
                refine jt_iload d_GM_count_124 rfl ?_
                refine jt_bipush d_GM_count_126 (by omega) ?_
                refine jt_idiv d_GM_count_128 (by unfold jRi; omega) (by unfold jRi; omega) (by omega) ?_
                have td165 := gtd k 32 (by omega)
                refine jt_topi (fun v166 ev166 => ?_)
                refine jt_istore (L' := [(0, .ref m), (1, .int (jI q)), (2, .int (jI (n + 1))), (3, .int (jI v150)), (4, .int (jI v161)), (5, .int (jI v166)), (6, .int (jI e)), (7, .int (jI k))]) d_GM_count_129 (Nat.le_of_ble_eq_true rfl) rfl ?_
                refine jt_iload d_GM_count_131 rfl ?_
                refine jt_bipush d_GM_count_133 (by omega) ?_
                refine jt_idiv d_GM_count_135 (by unfold jRi; omega) (by unfold jRi; omega) (by omega) ?_
                have td167 := gtd k 32 (by omega)
                refine jt_topi (fun v168 ev168 => ?_)
                refine jt_istore (L' := [(0, .ref m), (1, .int (jI q)), (2, .int (jI (n + 1))), (3, .int (jI v150)), (4, .int (jI v161)), (5, .int (jI v166)), (6, .int (jI v168)), (7, .int (jI k))]) d_GM_count_136 (Nat.le_of_ble_eq_true rfl) rfl ?_
                refine jt_iinc (L' := [(0, .ref m), (1, .int (jI q)), (2, .int (jI (n + 1))), (3, .int (jI v150)), (4, .int (jI v161)), (5, .int (jI v166)), (6, .int (jI v168)), (7, .int (jI (k + 1)))]) d_GM_count_138 rfl (Nat.le_of_ble_eq_true rfl) rfl ?_
                refine jt_goto (t := 59) d_GM_count_141 rfl ?_
                exact ih (n + 1) v150 v161 v166 v168 (k + 1) J B hJ (by omega) (by omega) (by omega) (by omega) (by omega) (by omega) (by omega)
      · skip
        refine jt_goto (t := 138) d_GM_count_77 rfl ?_
        refine jt_iinc (L' := [(0, .ref m), (1, .int (jI q)), (2, .int (jI n)), (3, .int (jI a)), (4, .int (jI b)), (5, .int (jI c)), (6, .int (jI e)), (7, .int (jI (k + 1)))]) d_GM_count_138 rfl (Nat.le_of_ble_eq_true rfl) rfl ?_
        refine jt_goto (t := 59) d_GM_count_141 rfl ?_
        exact ih n a b c e (k + 1) J B hJ (by omega) (by omega) (by omega) (by omega) (by omega) (by omega) (by omega)
set_option maxRecDepth 100000 in
set_option maxHeartbeats 1000000 in
theorem w_GM_count (G : jG) (d m : Nat) (q : Int) (I : Nat → Int) (A : Nat → Int → Int) (hI : gSI I) (hA : gSA A) (hq : -2147483648 ≤ q ∧ q ≤ 2147483647) : gct G Y_GM_count d m [.int (jI q)] I A (fun (rv : Option Value) (I2 : Nat → Int) (A2 : Nat → Int → Int) => ∃ y : Int, rv = some (.int (jI y)) ∧ (-2147483648 ≤ y ∧ y ≤ 2147483647) ∧ gPo [] [] I A I2 A2) := by
  refine gct_of (by decide) (Nat.le_of_ble_eq_true rfl) (fun f0 sz => ?_)
  show jt _ 0 [(0, .ref m), (1, .int (jI q))] [] _ _ _ _
  have hz0 : gPo [] [] I A I A := gPo.refl hI hA
  refine jt_iload_n d_GM_count_0 rfl ?_
  refine jt_bipush d_GM_count_1 (by omega) ?_
  refine jt_icmp_le (t := 39) d_GM_count_3 rfl (by unfold jRi; omega) (by unfold jRi; omega) (fun c1 => ?_) (fun c1 => ?_)
  · skip
    refine jt_iconst d_GM_count_39 ?_
    refine jt_istore_n (L' := [(0, .ref m), (1, .int (jI q)), (2, .int (jI 0))]) d_GM_count_40 (Nat.le_of_ble_eq_true rfl) rfl ?_
    refine jt_bipush d_GM_count_41 (by omega) ?_
    refine jt_istore_n (L' := [(0, .ref m), (1, .int (jI q)), (2, .int (jI 0)), (3, .int (jI (-2)))]) d_GM_count_43 (Nat.le_of_ble_eq_true rfl) rfl ?_
    refine jt_bipush d_GM_count_44 (by omega) ?_
    refine jt_istore (L' := [(0, .ref m), (1, .int (jI q)), (2, .int (jI 0)), (3, .int (jI (-2))), (4, .int (jI (-2)))]) d_GM_count_46 (Nat.le_of_ble_eq_true rfl) rfl ?_
    refine jt_bipush d_GM_count_48 (by omega) ?_
    refine jt_istore (L' := [(0, .ref m), (1, .int (jI q)), (2, .int (jI 0)), (3, .int (jI (-2))), (4, .int (jI (-2))), (5, .int (jI (-2)))]) d_GM_count_50 (Nat.le_of_ble_eq_true rfl) rfl ?_
    refine jt_bipush d_GM_count_52 (by omega) ?_
    refine jt_istore (L' := [(0, .ref m), (1, .int (jI q)), (2, .int (jI 0)), (3, .int (jI (-2))), (4, .int (jI (-2))), (5, .int (jI (-2))), (6, .int (jI (-2)))]) d_GM_count_54 (Nat.le_of_ble_eq_true rfl) rfl ?_
    refine jt_iconst d_GM_count_56 ?_
    refine jt_istore (L' := [(0, .ref m), (1, .int (jI q)), (2, .int (jI 0)), (3, .int (jI (-2))), (4, .int (jI (-2))), (5, .int (jI (-2))), (6, .int (jI (-2))), (7, .int (jI 0))]) d_GM_count_57 (Nat.le_of_ble_eq_true rfl) rfl ?_
    exact l59_GM_countw G d m q I A hI hA hq f0 sz  769 0 (-2) (-2) (-2) (-2) 0 I A hz0 (by omega) (by omega) (by omega) (by omega) (by omega) (by omega) (by omega)
  · skip
    refine jt_iload_n d_GM_count_6 rfl ?_
    refine jt_bipush d_GM_count_7 (by omega) ?_
    refine jt_icmp_ge (t := 39) d_GM_count_9 rfl (by unfold jRi; omega) (by unfold jRi; omega) (fun c2 => ?_) (fun c2 => ?_)
    · skip
      refine jt_iconst d_GM_count_39 ?_
      refine jt_istore_n (L' := [(0, .ref m), (1, .int (jI q)), (2, .int (jI 0))]) d_GM_count_40 (Nat.le_of_ble_eq_true rfl) rfl ?_
      refine jt_bipush d_GM_count_41 (by omega) ?_
      refine jt_istore_n (L' := [(0, .ref m), (1, .int (jI q)), (2, .int (jI 0)), (3, .int (jI (-2)))]) d_GM_count_43 (Nat.le_of_ble_eq_true rfl) rfl ?_
      refine jt_bipush d_GM_count_44 (by omega) ?_
      refine jt_istore (L' := [(0, .ref m), (1, .int (jI q)), (2, .int (jI 0)), (3, .int (jI (-2))), (4, .int (jI (-2)))]) d_GM_count_46 (Nat.le_of_ble_eq_true rfl) rfl ?_
      refine jt_bipush d_GM_count_48 (by omega) ?_
      refine jt_istore (L' := [(0, .ref m), (1, .int (jI q)), (2, .int (jI 0)), (3, .int (jI (-2))), (4, .int (jI (-2))), (5, .int (jI (-2)))]) d_GM_count_50 (Nat.le_of_ble_eq_true rfl) rfl ?_
      refine jt_bipush d_GM_count_52 (by omega) ?_
      refine jt_istore (L' := [(0, .ref m), (1, .int (jI q)), (2, .int (jI 0)), (3, .int (jI (-2))), (4, .int (jI (-2))), (5, .int (jI (-2))), (6, .int (jI (-2)))]) d_GM_count_54 (Nat.le_of_ble_eq_true rfl) rfl ?_
      refine jt_iconst d_GM_count_56 ?_
      refine jt_istore (L' := [(0, .ref m), (1, .int (jI q)), (2, .int (jI 0)), (3, .int (jI (-2))), (4, .int (jI (-2))), (5, .int (jI (-2))), (6, .int (jI (-2))), (7, .int (jI 0))]) d_GM_count_57 (Nat.le_of_ble_eq_true rfl) rfl ?_
      exact l59_GM_countw G d m q I A hI hA hq f0 sz  769 0 (-2) (-2) (-2) (-2) 0 I A hz0 (by omega) (by omega) (by omega) (by omega) (by omega) (by omega) (by omega)
    · skip
      refine jt_aload_n d_GM_count_12 rfl ?_
      refine gm_gA (k := 20) (a := m + 5) d_GM_count_13 GM_f72 (by decide) (by decide) rfl ?_
      refine jt_iload_n d_GM_count_16 rfl ?_
      refine jt_bipush d_GM_count_17 (by omega) ?_
      refine jt_isub d_GM_count_19 ?_
      refine gm_ld0 (k := 20) (n := 6) (v := (A 20) (q - 9)) d_GM_count_20 rfl (by decide) (by decide) rfl rfl (by omega) (by omega) (by omega) rfl ?_
      refine jt_topi (fun v3 ev3 => ?_)
      have bv3 : (-2147483648) ≤ v3 ∧ v3 ≤ 2147483647 := by rw [ev3]; exact hz0.2.1 20 (q - 9)
      refine jt_if_ge (t := 29) d_GM_count_21 rfl (by unfold jRi; omega) (fun c4 => ?_) (fun c4 => ?_)
      · skip
        refine jt_aload_n d_GM_count_29 rfl ?_
        refine gm_gA (k := 20) (a := m + 5) d_GM_count_30 GM_f72 (by decide) (by decide) rfl ?_
        refine jt_iload_n d_GM_count_33 rfl ?_
        refine jt_bipush d_GM_count_34 (by omega) ?_
        refine jt_isub d_GM_count_36 ?_
        refine gm_ld0 (k := 20) (n := 6) (v := (A 20) (q - 9)) d_GM_count_37 rfl (by decide) (by decide) rfl rfl (by omega) (by omega) (by omega) rfl ?_
        refine jt_topi (fun v5 ev5 => ?_)
        have bv5 : (-2147483648) ≤ v5 ∧ v5 ≤ 2147483647 := by rw [ev5]; exact hz0.2.1 20 (q - 9)
        exact gm_ret d_GM_count_38 rfl rfl (⟨v5, rfl, by omega, hz0⟩)
      · skip
        refine jt_bipush d_GM_count_24 (by omega) ?_
        refine jt_goto (t := 38) d_GM_count_26 rfl ?_
        exact gm_ret d_GM_count_38 rfl rfl (⟨-2, rfl, by omega, hz0⟩)

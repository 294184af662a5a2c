set_option maxRecDepth 100000 in
set_option maxHeartbeats 1000000 in
theorem l62_GM_expandy (G : jG) (d m : Nat)  (I : Nat → Int) (A : Nat → Int → Int) (hI : gSI I) (hA : gSA A) (hin : ∀ k, 0 ≤ k → k < I 0 → gtok (A 16 k) (A 17 k)) (hM : gMac A) (he : I 5 = 0) (mp : Int → Int) (ml : Int → Int) (mK : Int → Int → Int) (mV : Int → Int → Int) (hmr : gMr mp ml mK mV A) (X0 : Int → Int) (Y0 : Int → Int) (D0 : Int → Int) (h0 : ∀ j, 0 ≤ j → j < I 0 → X0 j = A 16 j ∧ Y0 j = A 17 j ∧ D0 j = 0) (z : XR) (hz : XE mp ml mK mV (I 0) X0 Y0 D0 0 0 z) (f0 : jF) (sz : Nat)  : ∀ (n9 : Nat) (k : Int) (t : Int) (J : Nat → Int) (B : Nat → Int → Int), gPo [1, 2, 5, 6] [22, 23, 24, 25, 26, 27, 28, 29] I A J B → (0 ≤ k) → (k ≤ 300) → (J 5 = 0 → gT J B ∧ (∀ j, 0 ≤ j → j < J 1 → 0 ≤ B 24 j ∧ B 24 j ≤ 6) ∧ 0 ≤ J 2 ∧ J 2 ≤ 100) → (J 5 = 0 → 400 * (100 - J 2) + (J 1 - k) + 1 ≤ t) → (0 ≤ t) → (J 5 = 0 → ∃ X Y D : Int → Int, gAg (J 1) X Y D B ∧ XE mp ml mK mV (J 1) X Y D k (J 2) z) → (J 5 ≠ 0 → J 5 = z.e ∧ J 6 = z.pl ∧ J 2 = z.r) → t < (n9 : Int) → jt (jm G Y_GM_expand (gR (d + 3)) (gQ m f0 sz (fun (rv : Option Value) (I2 : Nat → Int) (A2 : Nat → Int → Int) => rv = none ∧ gPo [1, 2, 5, 6] [22, 23, 24, 25, 26, 27, 28, 29] I A I2 A2 ∧ (I2 5 = 0 → gT I2 A2) ∧ (I2 5 = z.e ∧ (z.e ≠ 0 → I2 6 = z.pl) ∧ I2 2 = z.r ∧ (z.e = 0 → I2 1 = z.n ∧ ∀ j, 0 ≤ j → j < z.n → z.X j = A2 22 j ∧ z.Y j = A2 23 j))))) 62 [(0, .ref m), (1, .int (jI k))] [] (gmf m f0 J B) sz 0 0 := by
  have r0 : 0 ≤ I 0 ∧ I 0 ≤ 120 := hI 0
  intro n9
  induction n9 with
  | zero =>
    intro k t J B hJ k0 k1 hg ht t9 hX hE hmeas
    have q5 : -13 ≤ J 5 ∧ J 5 ≤ 0 := hJ.1 5
    have q1 : -2147483648 ≤ J 1 ∧ J 1 ≤ 2147483647 := hJ.1 1
    have hMJ : gMac B := by unfold gMac; rw [hJ.2.2.2 18 rfl, hJ.2.2.2 19 rfl, hJ.2.2.2 20 rfl, hJ.2.2.2 21 rfl]; exact hM
    have hmJ : gMr mp ml mK mV B := by unfold gMr; rw [hJ.2.2.2 18 rfl, hJ.2.2.2 19 rfl, hJ.2.2.2 20 rfl, hJ.2.2.2 21 rfl]; exact hmr
    exfalso
    omega
  | succ n9 ih =>
    intro k t J B hJ k0 k1 hg ht t9 hX hE hmeas
    have q5 : -13 ≤ J 5 ∧ J 5 ≤ 0 := hJ.1 5
    have q1 : -2147483648 ≤ J 1 ∧ J 1 ≤ 2147483647 := hJ.1 1
    have hMJ : gMac B := by unfold gMac; rw [hJ.2.2.2 18 rfl, hJ.2.2.2 19 rfl, hJ.2.2.2 20 rfl, hJ.2.2.2 21 rfl]; exact hM
    have hmJ : gMr mp ml mK mV B := by unfold gMr; rw [hJ.2.2.2 18 rfl, hJ.2.2.2 19 rfl, hJ.2.2.2 20 rfl, hJ.2.2.2 21 rfl]; exact hmr
    refine jt_iload_n d_GM_expand_62 rfl ?_
    refine jt_aload_n d_GM_expand_63 rfl ?_
    refine gm_gI (k := 1) (v := J 1) d_GM_expand_64 GM_f13 (by decide) rfl ?_
    have rb101 : -2147483648 ≤ J 1 ∧ J 1 ≤ 2147483647 := hJ.1 1
    refine jt_icmp_ge (t := 127) d_GM_expand_67 rfl (by unfold jRi; omega) (by unfold jRi; omega) (fun c102 => ?_) (fun c102 => ?_)
    · skip
      exact gm_vret d_GM_expand_127 rfl (⟨rfl, hJ, fun z9 => (hg z9).1, by
        by_cases c9 : J 5 = 0
        · obtain ⟨X, Y, D, hag, hxe⟩ := hX c9
          have q9 := XE_end hxe (by omega)
          rw [q9]
          exact ⟨c9, fun z9 => absurd rfl z9, rfl, fun _ => ⟨rfl, fun j a c => ⟨(hag j a c).1, (hag j a c).2.1⟩⟩⟩
        · obtain ⟨h1, h2, h3⟩ := hE c9
          exact ⟨h1, fun _ => h2, h3, fun z9 => absurd (h1.trans z9) c9⟩⟩)
    · skip
      refine jt_aload_n d_GM_expand_70 rfl ?_
      refine gm_gI (k := 5) (v := J 5) d_GM_expand_71 GM_f25 (by decide) rfl ?_
      have rb103 : -13 ≤ J 5 ∧ J 5 ≤ 0 := hJ.1 5
      refine jt_if_ne (t := 127) d_GM_expand_74 rfl (by unfold jRi; omega) (fun c104 => ?_) (fun c104 => ?_)
      · skip
        exact gm_vret d_GM_expand_127 rfl (⟨rfl, hJ, fun z9 => (hg z9).1, by
        by_cases c9 : J 5 = 0
        · obtain ⟨X, Y, D, hag, hxe⟩ := hX c9
          have q9 := XE_end hxe (by omega)
          rw [q9]
          exact ⟨c9, fun z9 => absurd rfl z9, rfl, fun _ => ⟨rfl, fun j a c => ⟨(hag j a c).1, (hag j a c).2.1⟩⟩⟩
        · obtain ⟨h1, h2, h3⟩ := hE c9
          exact ⟨h1, fun _ => h2, h3, fun z9 => absurd (h1.trans z9) c9⟩⟩)
      · skip
        obtain ⟨hTJ, hdJ, h20, h21⟩ := hg (by omega)
        obtain ⟨X, Y, D, hag, hxe⟩ := hX (by omega)
        have agk := hag k k0 (by omega)
        have tj1 := hTJ.2.1
        have tk := hTJ.2.2 k k0 (by omega)
        unfold gtok at tk
        refine jt_aload_n d_GM_expand_77 rfl ?_
        refine gm_gA (k := 22) (a := m + 7) d_GM_expand_78 GM_f78 (by decide) (by decide) rfl ?_
        refine jt_iload_n d_GM_expand_81 rfl ?_
        refine gm_ld0 (k := 22) (n := 700) (v := (B 22) k) d_GM_expand_82 rfl (by decide) (by decide) rfl rfl (by omega) (by omega) (by omega) rfl ?_
        refine jt_topi (fun v105 ev105 => ?_)
        have bv105 : (-2147483648) ≤ v105 ∧ v105 ≤ 2147483647 := by rw [ev105]; exact hJ.2.1 22 k
        refine jt_iconst d_GM_expand_83 ?_
        refine jt_icmp_ne (t := 97) d_GM_expand_84 rfl (by unfold jRi; omega) (by unfold jRi; omega) (fun c106 => ?_) (fun c106 => ?_)
        · skip
          refine jt_aload_n d_GM_expand_97 rfl ?_
          refine gm_gA (k := 22) (a := m + 7) d_GM_expand_98 GM_f78 (by decide) (by decide) rfl ?_
          refine jt_iload_n d_GM_expand_101 rfl ?_
          refine gm_ld0 (k := 22) (n := 700) (v := (B 22) k) d_GM_expand_102 rfl (by decide) (by decide) rfl rfl (by omega) (by omega) (by omega) rfl ?_
          refine jt_topi (fun v107 ev107 => ?_)
          have bv107 : (-2147483648) ≤ v107 ∧ v107 ≤ 2147483647 := by rw [ev107]; exact hJ.2.1 22 k
          refine jt_iconst d_GM_expand_103 ?_
          refine jt_icmp_eq (t := 113) d_GM_expand_104 rfl (by unfold jRi; omega) (by unfold jRi; omega) (fun c108 => ?_) (fun c108 => ?_)
          · skip
            refine jt_aload_n d_GM_expand_113 rfl ?_
            refine jt_iload_n d_GM_expand_114 rfl ?_
            refine jt_aload_n d_GM_expand_115 rfl ?_
            refine gm_gA (k := 23) (a := m + 8) d_GM_expand_116 GM_f81 (by decide) (by decide) rfl ?_
            refine jt_iload_n d_GM_expand_119 rfl ?_
            refine gm_ld0 (k := 23) (n := 700) (v := (B 23) k) d_GM_expand_120 rfl (by decide) (by decide) rfl rfl (by omega) (by omega) (by omega) rfl ?_
            refine jt_topi (fun v109 ev109 => ?_)
            have bv109 : (-2147483648) ≤ v109 ∧ v109 ≤ 2147483647 := by rw [ev109]; exact hJ.2.1 23 k
            refine gct_call (Y := Y_GM_call) (As := [.int (jI k), .int (jI v109)]) (rest := []) d_GM_expand_121 GM_c168 yk_GM_call yv_GM_call rfl (Nat.le_of_ble_eq_true rfl) rfl rfl (Nat.le_of_ble_eq_true rfl) (y_GM_call G _ m k v109 J B hTJ hJ.1 hJ.2.1 hdJ hMJ k0 (by omega) (by omega) (by omega) (by omega) (by omega) (by omega) mp ml mK mV X Y D hmJ hag) (fun rvq110 Iq110 Aq110 hq110 => ?_)
            obtain ⟨rfl, hqq110, hxq110⟩ := hq110
            have hpq110 := gPo.trans hJ hqq110 rfl rfl
            show jt _ 124 [(0, .ref m), (1, .int (jI k))] [] (gmf m f0 Iq110 Aq110) _ _ _
            refine jt_goto (t := 62) d_GM_expand_124 rfl ?_
            exact ih k (t - 1) Iq110 Aq110 hpq110 (by omega) (by omega) (fun z => by have q9 := hxq110.1 z; exact ⟨q9.1, q9.2.1, by omega, by omega⟩) (show Iq110 5 = 0 → 400 * (100 - Iq110 2) + (Iq110 1 - (k)) + 1 ≤ t - 1 from fun z => by have q9 := hxq110.1 z; have q8 := q9.1.2.1; omega) (by omega) (fun z9 => by obtain ⟨y9, r9, n9, X9, Y9, D9, hrc, he1, he2⟩ := XE_ca hxe (by omega) (by omega); have hYk : Y k = v109 := (by omega); rw [hYk] at hrc; have h9 := hxq110.2 X9 Y9 D9 y9 r9 n9 hrc; have y0 : y9 = 0 := (by omega); have h8 := h9.2.2.2 y0; exact ⟨X9, Y9, D9, by rw [h8.1]; exact h8.2, by rw [h8.1, h9.2.1]; exact he2 y0⟩) (fun z9 => by obtain ⟨y9, r9, n9, X9, Y9, D9, hrc, he1, he2⟩ := XE_ca hxe (by omega) (by omega); have hYk : Y k = v109 := (by omega); rw [hYk] at hrc; have h9 := hxq110.2 X9 Y9 D9 y9 r9 n9 hrc; have y0 : y9 ≠ 0 := (by omega); rw [he1 y0]; exact ⟨h9.1, h9.2.2.1 y0, h9.2.1⟩) (by omega)
          · skip
            refine jt_iinc (L' := [(0, .ref m), (1, .int (jI (k + 1)))]) d_GM_expand_107 rfl (Nat.le_of_ble_eq_true rfl) rfl ?_
            refine jt_goto (t := 62) d_GM_expand_110 rfl ?_
            exact ih (k + 1) (t - 1) J B hJ (by omega) (by omega) (fun z => ⟨hTJ, hdJ, h20, h21⟩) (show J 5 = 0 → 400 * (100 - J 2) + (J 1 - (k + 1)) + 1 ≤ t - 1 by omega) (by omega) (fun z9 => ⟨X, Y, D, hag, XE_nx hxe (by omega) (by omega) (by omega)⟩) (fun z9 => absurd (by omega) z9) (by omega)
        · skip
          refine jt_aload_n d_GM_expand_87 rfl ?_
          refine jt_bipush d_GM_expand_88 (by omega) ?_
          refine jt_iload_n d_GM_expand_90 rfl ?_
          refine gct_call (Y := Y_GM_stop) (As := [.int (jI (-3)), .int (jI k)]) (rest := []) d_GM_expand_91 GM_c164 yk_GM_stop yv_GM_stop rfl (Nat.le_of_ble_eq_true rfl) rfl rfl (Nat.le_of_ble_eq_true rfl) (c_GM_stop G _ m (-3) k J B) (fun rvq111 Iq111 Aq111 hq111 => ?_)
          obtain ⟨rfl, hIq111, hAq111⟩ := hq111
          rw [hIq111, hAq111]
          have p112 := gPo.I 5 (-3) hJ rfl (show -13 ≤ -3 ∧ -3 ≤ 0 by omega)
          have p113 := gPo.I 6 k p112 rfl (show -2147483648 ≤ k ∧ k ≤ 2147483647 by omega)
          show jt _ 94 [(0, .ref m), (1, .int (jI k))] [] (gmf m f0 (va_up (va_up J 5 (-3)) 6 k) B) _ _ _
          refine jt_goto (t := 62) d_GM_expand_94 rfl ?_
          exact ih k (t - 1) (va_up (va_up J 5 (-3)) 6 k) B p113 (by omega) (by omega) (fun z => absurd z (by show ¬ (-3 : Int) = 0; omega)) (show -3 = 0 → 400 * (100 - J 2) + (J 1 - (k)) + 1 ≤ t - 1 by omega) (by omega) (fun z => absurd z (by show ¬ (-3 : Int) = 0; omega)) (fun z9 => by have q9 := XE_st hxe (by omega) (by omega); rw [q9]; exact ⟨rfl, rfl, rfl⟩) (by omega)
set_option maxRecDepth 100000 in
set_option maxHeartbeats 1000000 in
theorem l10_GM_expandy (G : jG) (d m : Nat)  (I : Nat → Int) (A : Nat → Int → Int) (hI : gSI I) (hA : gSA A) (hin : ∀ k, 0 ≤ k → k < I 0 → gtok (A 16 k) (A 17 k)) (hM : gMac A) (he : I 5 = 0) (mp : Int → Int) (ml : Int → Int) (mK : Int → Int → Int) (mV : Int → Int → Int) (hmr : gMr mp ml mK mV A) (X0 : Int → Int) (Y0 : Int → Int) (D0 : Int → Int) (h0 : ∀ j, 0 ≤ j → j < I 0 → X0 j = A 16 j ∧ Y0 j = A 17 j ∧ D0 j = 0) (z : XR) (hz : XE mp ml mK mV (I 0) X0 Y0 D0 0 0 z) (f0 : jF) (sz : Nat)  : ∀ (n9 : Nat) (k : Int) (J : Nat → Int) (B : Nat → Int → Int), gPo [1, 2, 5, 6] [22, 23, 24, 25, 26, 27, 28, 29] I A J B → (0 ≤ k) → (k ≤ I 0) → (J 1 = I 0) → (J 5 = 0) → (∀ j, 0 ≤ j → j < k → B 22 j = A 16 j ∧ B 23 j = A 17 j ∧ B 24 j = 0) → 120 - k < (n9 : Int) → jt (jm G Y_GM_expand (gR (d + 3)) (gQ m f0 sz (fun (rv : Option Value) (I2 : Nat → Int) (A2 : Nat → Int → Int) => rv = none ∧ gPo [1, 2, 5, 6] [22, 23, 24, 25, 26, 27, 28, 29] I A I2 A2 ∧ (I2 5 = 0 → gT I2 A2) ∧ (I2 5 = z.e ∧ (z.e ≠ 0 → I2 6 = z.pl) ∧ I2 2 = z.r ∧ (z.e = 0 → I2 1 = z.n ∧ ∀ j, 0 ≤ j → j < z.n → z.X j = A2 22 j ∧ z.Y j = A2 23 j))))) 10 [(0, .ref m), (1, .int (jI k))] [] (gmf m f0 J B) sz 0 0 := by
  have r0 : 0 ≤ I 0 ∧ I 0 ≤ 120 := hI 0
  intro n9
  induction n9 with
  | zero =>
    intro k J B hJ k0 k1 j1 j5 hc hmeas
    have f00 : J 0 = I 0 := hJ.2.2.1 0 rfl
    have f16 : B 16 = A 16 := hJ.2.2.2 16 rfl
    have f17 : B 17 = A 17 := hJ.2.2.2 17 rfl
    exfalso
    omega
  | succ n9 ih =>
    intro k J B hJ k0 k1 j1 j5 hc hmeas
    have f00 : J 0 = I 0 := hJ.2.2.1 0 rfl
    have f16 : B 16 = A 16 := hJ.2.2.2 16 rfl
    have f17 : B 17 = A 17 := hJ.2.2.2 17 rfl
    refine jt_iload_n d_GM_expand_10 rfl ?_
    refine jt_aload_n d_GM_expand_11 rfl ?_
    refine gm_gI (k := 0) (v := J 0) d_GM_expand_12 GM_f7 (by decide) rfl ?_
    have rb201 : 0 ≤ J 0 ∧ J 0 ≤ 120 := hJ.1 0
    refine jt_icmp_ge (t := 55) d_GM_expand_15 rfl (by unfold jRi; omega) (by unfold jRi; omega) (fun c202 => ?_) (fun c202 => ?_)
    · skip
      refine jt_aload_n d_GM_expand_55 rfl ?_
      refine jt_iconst d_GM_expand_56 ?_
      refine gm_pI (k := 2) (v := 0) (J := va_up J 2 0) d_GM_expand_57 (GM_w16 _ rfl) (by decide) rfl rfl rfl ?_
      have p203 := gPo.I 2 0 hJ rfl (show -2147483648 ≤ 0 ∧ 0 ≤ 2147483647 by omega)
      refine jt_iconst d_GM_expand_60 ?_
      refine jt_istore_n (L' := [(0, .ref m), (1, .int (jI 0))]) d_GM_expand_61 (Nat.le_of_ble_eq_true rfl) rfl ?_
      exact l62_GM_expandy G d m  I A hI hA hin hM he mp ml mK mV hmr X0 Y0 D0 h0 z hz f0 sz  41001 0 41000 (va_up J 2 0) B p203 (by omega) (by omega) (fun z => ⟨⟨by show 0 ≤ J 1; omega, by show J 1 ≤ 300; omega, fun j j0 j1 => by have j1 : j < J 1 := j1; have q9 := hc j j0 (by omega); rw [q9.1, q9.2.1]; exact hin j j0 (by omega)⟩, fun j j0 j1 => by have j1 : j < J 1 := j1; have q9 := hc j j0 (by omega); show 0 ≤ B 24 j ∧ B 24 j ≤ 6; rw [q9.2.2]; omega, by show (0 : Int) ≤ 0; omega, by show (0 : Int) ≤ 100; omega⟩) (show J 5 = 0 → 400 * (100 - 0) + (J 1 - (0)) + 1 ≤ 41000 by omega) (by omega) (fun z9 => ⟨X0, Y0, D0, fun j j0 j1 => by have j1 : j < J 1 := j1; have q9 := hc j j0 (by omega); have q8 := h0 j j0 (by omega); exact ⟨q8.1.trans q9.1.symm, q8.2.1.trans q9.2.1.symm, q8.2.2.trans q9.2.2.symm⟩, by show XE mp ml mK mV (J 1) X0 Y0 D0 0 0 z; rw [j1]; exact hz⟩) (fun z9 => absurd j5 z9) (by omega)
    · skip
      refine jt_aload_n d_GM_expand_18 rfl ?_
      refine gm_gA (k := 22) (a := m + 7) d_GM_expand_19 GM_f78 (by decide) (by decide) rfl ?_
      refine jt_iload_n d_GM_expand_22 rfl ?_
      refine jt_aload_n d_GM_expand_23 rfl ?_
      refine gm_gA (k := 16) (a := m + 1) d_GM_expand_24 GM_f59 (by decide) (by decide) rfl ?_
      refine jt_iload_n d_GM_expand_27 rfl ?_
      refine gm_ld0 (k := 16) (n := 120) (v := (B 16) k) d_GM_expand_28 rfl (by decide) (by decide) rfl rfl (by omega) (by omega) (by omega) rfl ?_
      refine jt_topi (fun v204 ev204 => ?_)
      have bv204 : (-2147483648) ≤ v204 ∧ v204 ≤ 2147483647 := by rw [ev204]; exact hJ.2.1 16 k
      refine gm_st0 (k := 22) (n := 700) (B := va_up B 22 (ju (B 22) k v204)) d_GM_expand_29 rfl (by decide) (by decide) rfl rfl (by omega) (by omega) (by omega) rfl ?_
      have p205 := gPo.A 22 (ju (B 22) k v204) hJ rfl (gju (hJ.2.1 22) (show -2147483648 ≤ v204 ∧ v204 ≤ 2147483647 by omega))
      refine jt_aload_n d_GM_expand_30 rfl ?_
      refine gm_gA (k := 23) (a := m + 8) d_GM_expand_31 GM_f81 (by decide) (by decide) rfl ?_
      refine jt_iload_n d_GM_expand_34 rfl ?_
      refine jt_aload_n d_GM_expand_35 rfl ?_
      refine gm_gA (k := 17) (a := m + 2) d_GM_expand_36 GM_f63 (by decide) (by decide) rfl ?_
      refine jt_iload_n d_GM_expand_39 rfl ?_
      refine gm_ld0 (k := 17) (n := 120) (v := (B 17) k) d_GM_expand_40 rfl (by decide) (by decide) rfl rfl (by omega) (by omega) (by omega) rfl ?_
      refine jt_topi (fun v206 ev206 => ?_)
      have bv206 : (-2147483648) ≤ v206 ∧ v206 ≤ 2147483647 := by rw [ev206]; exact p205.2.1 17 k
      refine gm_st0 (k := 23) (n := 700) (B := va_up (va_up B 22 (ju (B 22) k v204)) 23 (ju (B 23) k v206)) d_GM_expand_41 rfl (by decide) (by decide) rfl rfl (by omega) (by omega) (by omega) rfl ?_
      have p207 := gPo.A 23 (ju (B 23) k v206) p205 rfl (gju (p205.2.1 23) (show -2147483648 ≤ v206 ∧ v206 ≤ 2147483647 by omega))
      refine jt_aload_n d_GM_expand_42 rfl ?_
      refine gm_gA (k := 24) (a := m + 9) d_GM_expand_43 GM_f84 (by decide) (by decide) rfl ?_
      refine jt_iload_n d_GM_expand_46 rfl ?_
      refine jt_iconst d_GM_expand_47 ?_
      refine gm_st0 (k := 24) (n := 700) (B := va_up (va_up (va_up B 22 (ju (B 22) k v204)) 23 (ju (B 23) k v206)) 24 (ju (B 24) k 0)) d_GM_expand_48 rfl (by decide) (by decide) rfl rfl (by omega) (by omega) (by omega) rfl ?_
      have p208 := gPo.A 24 (ju (B 24) k 0) p207 rfl (gju (p207.2.1 24) (show -2147483648 ≤ 0 ∧ 0 ≤ 2147483647 by omega))
      refine jt_iinc (L' := [(0, .ref m), (1, .int (jI (k + 1)))]) d_GM_expand_49 rfl (Nat.le_of_ble_eq_true rfl) rfl ?_
      refine jt_goto (t := 10) d_GM_expand_52 rfl ?_
      exact ih (k + 1) J (va_up (va_up (va_up B 22 (ju (B 22) k v204)) 23 (ju (B 23) k v206)) 24 (ju (B 24) k 0)) p208 (by omega) (by omega) j1 j5 (fun j j0 j1 => by rcases Classical.em (j = k) with e | e; exact (by subst e; exact ⟨(ju_self _ _ _).trans (by rw [ev204, f16]), (ju_self _ _ _).trans (by rw [ev206, f17]), ju_self _ _ _⟩); exact ⟨(ju_ne _ _ e).trans (hc j j0 (by omega)).1, (ju_ne _ _ e).trans (hc j j0 (by omega)).2.1, (ju_ne _ _ e).trans (hc j j0 (by omega)).2.2⟩) (by omega)
set_option maxRecDepth 100000 in
set_option maxHeartbeats 1000000 in
theorem y_GM_expand (G : jG) (d m : Nat)  (I : Nat → Int) (A : Nat → Int → Int) (hI : gSI I) (hA : gSA A) (hin : ∀ k, 0 ≤ k → k < I 0 → gtok (A 16 k) (A 17 k)) (hM : gMac A) (he : I 5 = 0) (mp : Int → Int) (ml : Int → Int) (mK : Int → Int → Int) (mV : Int → Int → Int) (hmr : gMr mp ml mK mV A) (X0 : Int → Int) (Y0 : Int → Int) (D0 : Int → Int) (h0 : ∀ j, 0 ≤ j → j < I 0 → X0 j = A 16 j ∧ Y0 j = A 17 j ∧ D0 j = 0) (z : XR) (hz : XE mp ml mK mV (I 0) X0 Y0 D0 0 0 z) : gct G Y_GM_expand (d + 3) m [] I A (fun (rv : Option Value) (I2 : Nat → Int) (A2 : Nat → Int → Int) => rv = none ∧ gPo [1, 2, 5, 6] [22, 23, 24, 25, 26, 27, 28, 29] I A I2 A2 ∧ (I2 5 = 0 → gT I2 A2) ∧ (I2 5 = z.e ∧ (z.e ≠ 0 → I2 6 = z.pl) ∧ I2 2 = z.r ∧ (z.e = 0 → I2 1 = z.n ∧ ∀ j, 0 ≤ j → j < z.n → z.X j = A2 22 j ∧ z.Y j = A2 23 j))) := by
  refine gct_of (by decide) (Nat.le_of_ble_eq_true rfl) (fun f0 sz => ?_)
  show jt _ 0 [(0, .ref m)] [] _ _ _ _
  have r0 : 0 ≤ I 0 ∧ I 0 ≤ 120 := hI 0
  have hz0 : gPo [1, 2, 5, 6] [22, 23, 24, 25, 26, 27, 28, 29] I A I A := gPo.refl hI hA
  refine jt_aload_n d_GM_expand_0 rfl ?_
  refine jt_aload_n d_GM_expand_1 rfl ?_
  refine gm_gI (k := 0) (v := I 0) d_GM_expand_2 GM_f7 (by decide) rfl ?_
  have rb1 : 0 ≤ I 0 ∧ I 0 ≤ 120 := hz0.1 0
  refine gm_pI (k := 1) (v := (I 0)) (J := va_up I 1 (I 0)) d_GM_expand_5 (GM_w13 _ rfl) (by decide) rfl rfl rfl ?_
  have p2 := gPo.I 1 (I 0) hz0 rfl (show -2147483648 ≤ I 0 ∧ I 0 ≤ 2147483647 by omega)
  refine jt_iconst d_GM_expand_8 ?_
  refine jt_istore_n (L' := [(0, .ref m), (1, .int (jI 0))]) d_GM_expand_9 (Nat.le_of_ble_eq_true rfl) rfl ?_
  exact l10_GM_expandy G d m  I A hI hA hin hM he mp ml mK mV hmr X0 Y0 D0 h0 z hz f0 sz  121 0 (va_up I 1 (I 0)) A p2 (by omega) (by omega) rfl he (fun j a b => by omega) (by omega)

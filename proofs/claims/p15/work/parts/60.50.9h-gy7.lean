set_option maxRecDepth 100000 in
set_option maxHeartbeats 1000000 in
theorem l33_GM_equatey (G : jG) (d m : Nat) (f : Int) (g : Int) (e : Int) (I : Nat → Int) (A : Nat → Int → Int) (hI : gSI I) (hA : gSA A) (h0 : 0 ≤ f ∧ f < 300) (h1 : 0 ≤ g ∧ g < 300) (he : -2147483648 ≤ e ∧ e ≤ 2147483647) (z5 : I 5 = 0) (z15 : I 15 = 0) (F9 : Int → Int) (hF9 : ∀ i, 0 ≤ i → i < 13 → A 35 (f * 13 + i) = F9 i) (hFi : inr F9) (G9 : Int → Int) (hG9 : ∀ i, 0 ≤ i → i < 13 → A 35 (g * 13 + i) = G9 i) (hGi : inr G9) (V9 : Int → Int → Int) (hV : gVr V9 A) (hI9 : VI (A 30) V9) (e9 : Int) (s2 : Int → Int) (V2 : Int → Int → Int) (hE : EQT (A 30) V9 F9 G9 e9 s2 V2) (f0 : jF) (sz : Nat) (K : Int → Int) (hK1 : sbK V9 F9 → ∀ j, 0 ≤ j → j < 13 → K (5148 + j) = sbT V9 F9 j / 65536) (hK2 : sbK V9 G9 → ∀ j, 0 ≤ j → j < 13 → K (5187 + j) = sbT V9 G9 j / 65536) (hKg : ∀ j, 0 ≤ j → j < 13 → gin (K (5148 + j)) ∧ gin (K (5187 + j))) (hKo : ∀ z, z < 5148 → K z = A 35 z) : ∀ (n9 : Nat) (i : Int) (J : Nat → Int) (B : Nat → Int → Int), gPo [5, 6, 15] [30, 31, 33, 34, 35] I A J B → (0 ≤ i) → (i ≤ 13) → (J 15 = 0 ↔ (sbK V9 F9 ∧ sbK V9 G9)) → (J 5 = 0) → (B 30 = A 30 ∧ B 31 = A 31) → (∀ z, B 35 z = if 5187 ≤ z ∧ z < 5187 + i then K (z - 39) - K z else K z) → 13 - i < (n9 : Int) → jt (jm G Y_GM_equate (gR (d + 4)) (gQ m f0 sz (fun (rv : Option Value) (I2 : Nat → Int) (A2 : Nat → Int → Int) => rv = none ∧ gPo [5, 6, 15] [30, 31, 33, 34, 35] I A I2 A2 ∧ I2 5 = e9 ∧ (e9 ≠ 0 → I2 6 = e) ∧ (e9 = 0 → I2 15 = 0 ∧ gVs s2 V2 A2) ∧ ∀ z, z < 5148 → A2 35 z = A 35 z))) 33 [(0, .ref m), (1, .int (jI f)), (2, .int (jI g)), (3, .int (jI e)), (4, .int (jI i))] [] (gmf m f0 J B) sz 0 0 := by
  intro n9
  induction n9 with
  | zero =>
    intro i J B hJ i0 i1 h15 j5 j30 hB hmeas
    have q15 : 0 ≤ J 15 ∧ J 15 ≤ 1 := hJ.1 15
    exfalso
    omega
  | succ n9 ih =>
    intro i J B hJ i0 i1 h15 j5 j30 hB hmeas
    have q15 : 0 ≤ J 15 ∧ J 15 ≤ 1 := hJ.1 15
    refine jt_iload d_GM_equate_33 rfl ?_
    refine jt_bipush d_GM_equate_35 (by omega) ?_
    refine jt_icmp_ge (t := 80) d_GM_equate_37 rfl (by unfold jRi; omega) (by unfold jRi; omega) (fun c101 => ?_) (fun c101 => ?_)
    · skip
      have i13 : i = 13 := by omega
      have hO : ∀ z, z < 5148 → B 35 z = A 35 z := fun z hz => by rw [hB, if_neg (by omega)]; exact hKo z hz
      have hDv : ∀ j, 0 ≤ j → j < 13 → B 35 (5187 + j) = K (5148 + j) - K (5187 + j) := fun j a c => by rw [hB, if_pos (by omega), show (5187 : Int) + j - 39 = 5148 + j by omega]
      have hwd : wid (fun i => B 35 (5187 + i)) := fun j a c => by show -137438953472 ≤ B 35 (5187 + j) ∧ B 35 (5187 + j) ≤ 137438953472; have q9 := hKg j a c; rw [hDv j a c]; omega
      replace h15 : Hd _ := h15
      refine jt_aload_n d_GM_equate_80 rfl ?_
      refine gm_gI (k := 15) (v := J 15) d_GM_equate_81 GM_f55 (by decide) rfl ?_
      have rb102 : 0 ≤ J 15 ∧ J 15 ≤ 1 := hJ.1 15
      refine jt_if_eq (t := 97) d_GM_equate_84 rfl (by unfold jRi; omega) (fun c103 => ?_) (fun c103 => ?_)
      · skip
        have hkk := h15.mp (by omega)
        have hd : dif V9 F9 G9 (fun i => B 35 (5187 + i)) := ⟨hkk.1, hkk.2, fun j a c => by show B 35 (5187 + j) = _; rw [hDv j a c, hK1 hkk.1 j a c, hK2 hkk.2 j a c]⟩
        refine jt_aload_n d_GM_equate_97 rfl ?_
        refine jt_sipush d_GM_equate_98 (by omega) ?_
        refine gct_call (Y := Y_GM_isNumber) (As := [.int (jI 399)]) (rest := []) d_GM_equate_101 GM_c260 yk_GM_isNumber yv_GM_isNumber rfl (Nat.le_of_ble_eq_true rfl) rfl rfl (Nat.le_of_ble_eq_true rfl) (c_GM_isNumber G _ m 399 J B (by omega) (by omega) (fun j _ _ => hJ.2.1 35 _)) (fun rvq104 Iq104 Aq104 hq104 => ?_)
        obtain ⟨haq104, hbq104, hIq104, hAq104⟩ := hq104
        rw [hIq104, hAq104]
        by_cases gq104 : Hd (∀ j, 0 ≤ j → j < 12 → B 35 (399 * 13 + j) = 0)
        · skip
          obtain rfl := haq104 gq104
          clear haq104 hbq104 hIq104 hAq104
          show jt _ 104 [(0, .ref m), (1, .int (jI f)), (2, .int (jI g)), (3, .int (jI e)), (4, .int (jI i))] [.int (jI 1)] (gmf m f0 J B) _ _ _
          refine jt_if_eq (t := 130) d_GM_equate_104 rfl (by unfold jRi; omega) (fun c105 => ?_) (fun c105 => ?_)
          · skip
            exfalso
            omega
          · skip
            refine jt_aload_n d_GM_equate_107 rfl ?_
            refine gm_gA (k := 35) (a := m + 20) d_GM_equate_108 GM_f118 (by decide) (by decide) rfl ?_
            refine jt_sipush d_GM_equate_111 (by omega) ?_
            refine gm_ld1 (k := 35) (n := 5200) (v := (B 35) 5199) d_GM_equate_114 rfl (by decide) (by decide) rfl rfl (by omega) (by omega) (by omega) rfl ?_
            refine jt_topl (fun v106 ev106 => ?_)
            have bv106 : (-9223372036854775808) ≤ v106 ∧ v106 ≤ 9223372036854775807 := by rw [ev106]; exact hJ.2.1 35 5199
            refine jt_lconst (z := 0) d_GM_equate_115 (by decide) ?_
            refine jt_lif_eq (t := 174) d_GM_equate_116 d_GM_equate_117 rfl (by unfold jRl; omega) (by unfold jRl; omega) (fun c107 => ?_) (fun c107 => ?_)
            · skip
              exact gm_vret d_GM_equate_174 rfl (⟨rfl, hJ, by show J 5 = e9; rw [((EQ_pl hE hd (show fZ (fun i => B 35 (5187 + i)) from fun j a c => by have h9 := gq104 j a c; rw [show (399 : Int) * 13 + j = 5187 + j by omega] at h9; exact h9)).1 (show B 35 (5187 + 12) = 0 by rw [show (5187 : Int) + 12 = 5199 by omega]; omega)).1]; omega, fun z => absurd ((EQ_pl hE hd (show fZ (fun i => B 35 (5187 + i)) from fun j a c => by have h9 := gq104 j a c; rw [show (399 : Int) * 13 + j = 5187 + j by omega] at h9; exact h9)).1 (show B 35 (5187 + 12) = 0 by rw [show (5187 : Int) + 12 = 5199 by omega]; omega)).1 z, fun _ => ⟨by show J 15 = 0; omega, gVs_same hV ((EQ_pl hE hd (show fZ (fun i => B 35 (5187 + i)) from fun j a c => by have h9 := gq104 j a c; rw [show (399 : Int) * 13 + j = 5187 + j by omega] at h9; exact h9)).1 (show B 35 (5187 + 12) = 0 by rw [show (5187 : Int) + 12 = 5199 by omega]; omega)).2 j30.1 j30.2⟩, hO⟩)
            · skip
              refine jt_aload_n d_GM_equate_120 rfl ?_
              refine jt_bipush d_GM_equate_121 (by omega) ?_
              refine jt_iload_n d_GM_equate_123 rfl ?_
              refine gct_call (Y := Y_GM_stop) (As := [.int (jI (-10)), .int (jI e)]) (rest := []) d_GM_equate_124 GM_c164 yk_GM_stop yv_GM_stop rfl (Nat.le_of_ble_eq_true rfl) rfl rfl (Nat.le_of_ble_eq_true rfl) (c_GM_stop G _ m (-10) e J B) (fun rvq108 Iq108 Aq108 hq108 => ?_)
              obtain ⟨rfl, hIq108, hAq108⟩ := hq108
              rw [hIq108, hAq108]
              have p109 := gPo.I 5 (-10) hJ rfl (show -13 ≤ -10 ∧ -10 ≤ 0 by omega)
              have p110 := gPo.I 6 e p109 rfl (show -2147483648 ≤ e ∧ e ≤ 2147483647 by omega)
              show jt _ 127 [(0, .ref m), (1, .int (jI f)), (2, .int (jI g)), (3, .int (jI e)), (4, .int (jI i))] [] (gmf m f0 (va_up (va_up J 5 (-10)) 6 e) B) _ _ _
              refine jt_goto (t := 174) d_GM_equate_127 rfl ?_
              exact gm_vret d_GM_equate_174 rfl (⟨rfl, p110, by show -10 = e9; rw [((EQ_pl hE hd (show fZ (fun i => B 35 (5187 + i)) from fun j a c => by have h9 := gq104 j a c; rw [show (399 : Int) * 13 + j = 5187 + j by omega] at h9; exact h9)).2 (show B 35 (5187 + 12) ≠ 0 by rw [show (5187 : Int) + 12 = 5199 by omega]; omega))], fun _ => rfl, fun z => by have h9 := ((EQ_pl hE hd (show fZ (fun i => B 35 (5187 + i)) from fun j a c => by have h9 := gq104 j a c; rw [show (399 : Int) * 13 + j = 5187 + j by omega] at h9; exact h9)).2 (show B 35 (5187 + 12) ≠ 0 by rw [show (5187 : Int) + 12 = 5199 by omega]; omega)); omega, hO⟩)
        · skip
          obtain rfl := hbq104 gq104
          clear haq104 hbq104 hIq104 hAq104
          show jt _ 104 [(0, .ref m), (1, .int (jI f)), (2, .int (jI g)), (3, .int (jI e)), (4, .int (jI i))] [.int (jI 0)] (gmf m f0 J B) _ _ _
          refine jt_if_eq (t := 130) d_GM_equate_104 rfl (by unfold jRi; omega) (fun c111 => ?_) (fun c111 => ?_)
          · skip
            refine jt_aload_n d_GM_equate_130 rfl ?_
            refine jt_sipush d_GM_equate_131 (by omega) ?_
            refine gct_call (Y := Y_GM_pivot) (As := [.int (jI 399)]) (rest := []) d_GM_equate_134 GM_c310 yk_GM_pivot yv_GM_pivot rfl (Nat.le_of_ble_eq_true rfl) rfl rfl (Nat.le_of_ble_eq_true rfl) (y_GM_pivot G _ m 399 J B hJ.1 hJ.2.1 (by omega) (by omega) (fun i => B 35 (5187 + i)) (fun i a c => by show B 35 (399 * 13 + i) = B 35 (5187 + i); rw [show (399 : Int) * 13 + i = 5187 + i by omega]) hwd) (fun rvq112 Iq112 Aq112 hq112 => ?_)
            obtain ⟨yq112, rfl, ryq112, hqq112, hxq112⟩ := hq112
            have hpq112 := gPo.trans hJ hqq112 rfl rfl
            have f1q112 : Iq112 1 = I 1 := hpq112.2.2.1 1 rfl
            have m5q112 : Iq112 5 = J 5 := hqq112.2.2.1 5 rfl
            have m15q112 : Iq112 15 = J 15 := hqq112.2.2.1 15 rfl
            replace hxq112 : Hd _ := hxq112
            show jt _ 137 [(0, .ref m), (1, .int (jI f)), (2, .int (jI g)), (3, .int (jI e)), (4, .int (jI i))] [.int (jI yq112)] (gmf m f0 Iq112 Aq112) _ _ _
            refine jt_istore (L' := [(0, .ref m), (1, .int (jI f)), (2, .int (jI g)), (3, .int (jI e)), (4, .int (jI yq112))]) d_GM_equate_137 (Nat.le_of_ble_eq_true rfl) rfl ?_
            refine jt_iload d_GM_equate_139 rfl ?_
            refine jt_if_ge (t := 154) d_GM_equate_141 rfl (by unfold jRi; omega) (fun c113 => ?_) (fun c113 => ?_)
            · skip
              refine jt_aload_n d_GM_equate_154 rfl ?_
              refine jt_iload d_GM_equate_155 rfl ?_
              refine gct_call (Y := Y_GM_solve) (As := [.int (jI yq112)]) (rest := []) d_GM_equate_157 GM_c314 yk_GM_solve yv_GM_solve rfl (Nat.le_of_ble_eq_true rfl) rfl rfl (Nat.le_of_ble_eq_true rfl) (y_GM_solve G _ m yq112 Iq112 Aq112 hpq112.1 hpq112.2.1 (by omega) (fun i => B 35 (5187 + i)) (fun i a c => by show Aq112 35 (399 * 13 + i) = B 35 (5187 + i); rw [hqq112.2.2.2 35 rfl, show (399 : Int) * 13 + i = 5187 + i by omega]) hwd (hxq112.2 (by omega)).2.2.1 (show Iq112 15 = 0 by rw [hqq112.2.2.1 15 rfl]; omega) V9 (by unfold gVr; rw [hqq112.2.2.2 30 rfl, hqq112.2.2.2 31 rfl, j30.1, j30.2]; exact hV) (by rw [hqq112.2.2.2 30 rfl, j30.1]; exact hI9) (by rw [hqq112.2.2.2 30 rfl, j30.1]; exact dif_nz hI9 hd (by omega) (by omega) (pw_nz (hxq112.2 (by omega)).2.2.1))) (fun rvq114 Iq114 Aq114 hq114 => ?_)
              obtain ⟨rfl, hqq114, hxq114⟩ := hq114
              have hpq114 := gPo.trans hpq112 hqq114 rfl rfl
              have f1q114 : Iq114 1 = I 1 := hpq114.2.2.1 1 rfl
              have m5q114 : Iq114 5 = Iq112 5 := hqq114.2.2.1 5 rfl
              replace hxq114 : Hd (svE _ _ _ _ _ _ _) := hxq114
              have q15s : 0 ≤ Iq114 15 ∧ Iq114 15 ≤ 1 := hpq114.1 15
              show jt _ 160 [(0, .ref m), (1, .int (jI f)), (2, .int (jI g)), (3, .int (jI e)), (4, .int (jI yq112))] [] (gmf m f0 Iq114 Aq114) _ _ _
              refine jt_aload_n d_GM_equate_160 rfl ?_
              refine gm_gI (k := 15) (v := Iq114 15) d_GM_equate_161 GM_f55 (by decide) rfl ?_
              have rb115 : 0 ≤ Iq114 15 ∧ Iq114 15 ≤ 1 := hpq114.1 15
              refine jt_if_eq (t := 174) d_GM_equate_164 rfl (by unfold jRi; omega) (fun c116 => ?_) (fun c116 => ?_)
              · skip
                exact gm_vret d_GM_equate_174 rfl (by
        obtain ⟨S8, hS8, hg8⟩ := hxq114.1 (by omega)
        rw [hqq112.2.2.2 30 rfl, j30.1] at hS8 hg8
        have h9 := (EQ_sv hE hd (show ¬ fZ (fun i => B 35 (5187 + i)) from fun z => gq104 (show Hd (∀ j, 0 ≤ j → j < 12 → B 35 (399 * 13 + j) = 0) from fun j a c => by rw [show (399 : Int) * 13 + j = 5187 + j by omega]; exact z j a c)) (hxq112.2 (by omega))).2 S8 hS8
        exact ⟨rfl, hpq114, by show Iq114 5 = e9; rw [h9.1]; omega, fun z => absurd h9.1 z, fun _ => ⟨by show Iq114 15 = 0; omega, hg8 _ _ h9.2⟩, (fun z hz => by show Aq114 35 z = _; rw [hxq114.2.2 z (by omega), hqq112.2.2.2 35 rfl]; exact hO z hz)⟩)
              · skip
                refine jt_aload_n d_GM_equate_167 rfl ?_
                refine jt_bipush d_GM_equate_168 (by omega) ?_
                refine jt_iload_n d_GM_equate_170 rfl ?_
                refine gct_call (Y := Y_GM_stop) (As := [.int (jI (-9)), .int (jI e)]) (rest := []) d_GM_equate_171 GM_c164 yk_GM_stop yv_GM_stop rfl (Nat.le_of_ble_eq_true rfl) rfl rfl (Nat.le_of_ble_eq_true rfl) (c_GM_stop G _ m (-9) e Iq114 Aq114) (fun rvq117 Iq117 Aq117 hq117 => ?_)
                obtain ⟨rfl, hIq117, hAq117⟩ := hq117
                rw [hIq117, hAq117]
                have p118 := gPo.I 5 (-9) hpq114 rfl (show -13 ≤ -9 ∧ -9 ≤ 0 by omega)
                have p119 := gPo.I 6 e p118 rfl (show -2147483648 ≤ e ∧ e ≤ 2147483647 by omega)
                show jt _ 174 [(0, .ref m), (1, .int (jI f)), (2, .int (jI g)), (3, .int (jI e)), (4, .int (jI yq112))] [] (gmf m f0 (va_up (va_up Iq114 5 (-9)) 6 e) Aq114) _ _ _
                exact gm_vret d_GM_equate_174 rfl (⟨rfl, p119, by show -9 = e9; rw [((EQ_sv hE hd (show ¬ fZ (fun i => B 35 (5187 + i)) from fun z => gq104 (show Hd (∀ j, 0 ≤ j → j < 12 → B 35 (399 * 13 + j) = 0) from fun j a c => by rw [show (399 : Int) * 13 + j = 5187 + j by omega]; exact z j a c)) (hxq112.2 (by omega))).1 (by have h9 := hxq114.2.1 (by omega); rw [hqq112.2.2.2 30 rfl, j30.1] at h9; exact h9))], fun _ => rfl, fun z => by have h9 := ((EQ_sv hE hd (show ¬ fZ (fun i => B 35 (5187 + i)) from fun z => gq104 (show Hd (∀ j, 0 ≤ j → j < 12 → B 35 (399 * 13 + j) = 0) from fun j a c => by rw [show (399 : Int) * 13 + j = 5187 + j by omega]; exact z j a c)) (hxq112.2 (by omega))).1 (by have h9 := hxq114.2.1 (by omega); rw [hqq112.2.2.2 30 rfl, j30.1] at h9; exact h9)); omega, (fun z hz => by show Aq114 35 z = _; rw [hxq114.2.2 z (by omega), hqq112.2.2.2 35 rfl]; exact hO z hz)⟩)
            · skip
              refine jt_aload_n d_GM_equate_144 rfl ?_
              refine jt_bipush d_GM_equate_145 (by omega) ?_
              refine jt_iload_n d_GM_equate_147 rfl ?_
              refine gct_call (Y := Y_GM_stop) (As := [.int (jI (-11)), .int (jI e)]) (rest := []) d_GM_equate_148 GM_c164 yk_GM_stop yv_GM_stop rfl (Nat.le_of_ble_eq_true rfl) rfl rfl (Nat.le_of_ble_eq_true rfl) (c_GM_stop G _ m (-11) e Iq112 Aq112) (fun rvq120 Iq120 Aq120 hq120 => ?_)
              obtain ⟨rfl, hIq120, hAq120⟩ := hq120
              rw [hIq120, hAq120]
              have p121 := gPo.I 5 (-11) hpq112 rfl (show -13 ≤ -11 ∧ -11 ≤ 0 by omega)
              have p122 := gPo.I 6 e p121 rfl (show -2147483648 ≤ e ∧ e ≤ 2147483647 by omega)
              show jt _ 151 [(0, .ref m), (1, .int (jI f)), (2, .int (jI g)), (3, .int (jI e)), (4, .int (jI yq112))] [] (gmf m f0 (va_up (va_up Iq112 5 (-11)) 6 e) Aq112) _ _ _
              refine jt_goto (t := 160) d_GM_equate_151 rfl ?_
              refine jt_aload_n d_GM_equate_160 rfl ?_
              refine gm_gI (k := 15) (v := Iq112 15) d_GM_equate_161 GM_f55 (by decide) rfl ?_
              have rb123 : 0 ≤ Iq112 15 ∧ Iq112 15 ≤ 1 := p122.1 15
              refine jt_if_eq (t := 174) d_GM_equate_164 rfl (by unfold jRi; omega) (fun c124 => ?_) (fun c124 => ?_)
              · skip
                exact gm_vret d_GM_equate_174 rfl (⟨rfl, p122, by show -11 = e9; rw [(EQ_hd hE hd (show ¬ fZ (fun i => B 35 (5187 + i)) from fun z => gq104 (show Hd (∀ j, 0 ≤ j → j < 12 → B 35 (399 * 13 + j) = 0) from fun j a c => by rw [show (399 : Int) * 13 + j = 5187 + j by omega]; exact z j a c)) (hxq112.1 (by omega)))], fun _ => rfl, fun z => by have h9 := (EQ_hd hE hd (show ¬ fZ (fun i => B 35 (5187 + i)) from fun z => gq104 (show Hd (∀ j, 0 ≤ j → j < 12 → B 35 (399 * 13 + j) = 0) from fun j a c => by rw [show (399 : Int) * 13 + j = 5187 + j by omega]; exact z j a c)) (hxq112.1 (by omega))); omega, (fun z hz => by show Aq112 35 z = _; rw [hqq112.2.2.2 35 rfl]; exact hO z hz)⟩)
              · skip
                refine jt_aload_n d_GM_equate_167 rfl ?_
                refine jt_bipush d_GM_equate_168 (by omega) ?_
                refine jt_iload_n d_GM_equate_170 rfl ?_
                refine gct_call (Y := Y_GM_stop) (As := [.int (jI (-9)), .int (jI e)]) (rest := []) d_GM_equate_171 GM_c164 yk_GM_stop yv_GM_stop rfl (Nat.le_of_ble_eq_true rfl) rfl rfl (Nat.le_of_ble_eq_true rfl) (c_GM_stop G _ m (-9) e (va_up (va_up Iq112 5 (-11)) 6 e) Aq112) (fun rvq125 Iq125 Aq125 hq125 => ?_)
                obtain ⟨rfl, hIq125, hAq125⟩ := hq125
                rw [hIq125, hAq125]
                have p126 := gPo.I 5 (-9) p122 rfl (show -13 ≤ -9 ∧ -9 ≤ 0 by omega)
                have p127 := gPo.I 6 e p126 rfl (show -2147483648 ≤ e ∧ e ≤ 2147483647 by omega)
                show jt _ 174 [(0, .ref m), (1, .int (jI f)), (2, .int (jI g)), (3, .int (jI e)), (4, .int (jI yq112))] [] (gmf m f0 (va_up (va_up (va_up (va_up Iq112 5 (-11)) 6 e) 5 (-9)) 6 e) Aq112) _ _ _
                exact gm_vret d_GM_equate_174 rfl (by exfalso; omega)
          · skip
            exfalso
            omega
      · skip
        refine jt_aload_n d_GM_equate_87 rfl ?_
        refine jt_bipush d_GM_equate_88 (by omega) ?_
        refine jt_iload_n d_GM_equate_90 rfl ?_
        refine gct_call (Y := Y_GM_stop) (As := [.int (jI (-9)), .int (jI e)]) (rest := []) d_GM_equate_91 GM_c164 yk_GM_stop yv_GM_stop rfl (Nat.le_of_ble_eq_true rfl) rfl rfl (Nat.le_of_ble_eq_true rfl) (c_GM_stop G _ m (-9) e J B) (fun rvq128 Iq128 Aq128 hq128 => ?_)
        obtain ⟨rfl, hIq128, hAq128⟩ := hq128
        rw [hIq128, hAq128]
        have p129 := gPo.I 5 (-9) hJ rfl (show -13 ≤ -9 ∧ -9 ≤ 0 by omega)
        have p130 := gPo.I 6 e p129 rfl (show -2147483648 ≤ e ∧ e ≤ 2147483647 by omega)
        show jt _ 94 [(0, .ref m), (1, .int (jI f)), (2, .int (jI g)), (3, .int (jI e)), (4, .int (jI i))] [] (gmf m f0 (va_up (va_up J 5 (-9)) 6 e) B) _ _ _
        refine jt_goto (t := 174) d_GM_equate_94 rfl ?_
        exact gm_vret d_GM_equate_174 rfl (⟨rfl, p130, by show -9 = e9; rw [(EQ_rng hE (fun z => by have h9 := h15.mpr z; omega))], fun _ => rfl, fun z => by have h9 := (EQ_rng hE (fun z => by have h9 := h15.mpr z; omega)); omega, hO⟩)
    · skip
      refine jt_aload_n d_GM_equate_40 rfl ?_
      refine gm_gA (k := 35) (a := m + 20) d_GM_equate_41 GM_f118 (by decide) (by decide) rfl ?_
      refine jt_sipush d_GM_equate_44 (by omega) ?_
      refine jt_iload d_GM_equate_47 rfl ?_
      refine jt_iadd d_GM_equate_49 ?_
      refine jt_aload_n d_GM_equate_50 rfl ?_
      refine gm_gA (k := 35) (a := m + 20) d_GM_equate_51 GM_f118 (by decide) (by decide) rfl ?_
      refine jt_sipush d_GM_equate_54 (by omega) ?_
      refine jt_iload d_GM_equate_57 rfl ?_
      refine jt_iadd d_GM_equate_59 ?_
      refine gm_ld1 (k := 35) (n := 5200) (v := (B 35) (5148 + i)) d_GM_equate_60 rfl (by decide) (by decide) rfl rfl (by omega) (by omega) (by omega) rfl ?_
      refine jt_topl (fun v131 ev131 => ?_)
      have bv131 : (-9223372036854775808) ≤ v131 ∧ v131 ≤ 9223372036854775807 := by rw [ev131]; exact hJ.2.1 35 (5148 + i)
      have ea : v131 = K (5148 + i) := by rw [ev131, hB, if_neg (by omega)]
      refine jt_aload_n d_GM_equate_61 rfl ?_
      refine gm_gA (k := 35) (a := m + 20) d_GM_equate_62 GM_f118 (by decide) (by decide) rfl ?_
      refine jt_sipush d_GM_equate_65 (by omega) ?_
      refine jt_iload d_GM_equate_68 rfl ?_
      refine jt_iadd d_GM_equate_70 ?_
      refine gm_ld1 (k := 35) (n := 5200) (v := (B 35) (5187 + i)) d_GM_equate_71 rfl (by decide) (by decide) rfl rfl (by omega) (by omega) (by omega) rfl ?_
      refine jt_topl (fun v132 ev132 => ?_)
      have bv132 : (-9223372036854775808) ≤ v132 ∧ v132 ≤ 9223372036854775807 := by rw [ev132]; exact hJ.2.1 35 (5187 + i)
      have eb : v132 = K (5187 + i) := by rw [ev132, hB, if_neg (by omega)]
      have q9g := hKg i (by omega) (by omega)
      refine jt_lsub d_GM_equate_72 ?_
      refine jt_topln (fun v133 bv133 ev133 => ?_)
      refine gm_st1 (k := 35) (n := 5200) (B := va_up B 35 (ju (B 35) (5187 + i) v133)) d_GM_equate_73 rfl (by decide) (by decide) rfl rfl (by omega) (by omega) (by omega) rfl ?_
      have p134 := gPo.A 35 (ju (B 35) (5187 + i) v133) hJ rfl (gju (hJ.2.1 35) (show -9223372036854775808 ≤ v133 ∧ v133 ≤ 9223372036854775807 by omega))
      refine jt_iinc (L' := [(0, .ref m), (1, .int (jI f)), (2, .int (jI g)), (3, .int (jI e)), (4, .int (jI (i + 1)))]) d_GM_equate_74 rfl (Nat.le_of_ble_eq_true rfl) rfl ?_
      refine jt_goto (t := 33) d_GM_equate_77 rfl ?_
      exact ih (i + 1) J (va_up B 35 (ju (B 35) (5187 + i) v133)) p134 (by omega) (by omega) h15 j5 j30 (fun z => by rcases Classical.em (z = 5187 + i) with e9 | e9; exact (by rw [e9, if_pos (by omega)]; exact (ju_self _ _ _).trans (by have q9 := hKg i (by omega) (by omega); rw [show (5187 : Int) + i - 39 = 5148 + i by omega]; omega)); exact (ju_ne _ _ e9).trans (by rw [hB z]; rcases Classical.em (5187 ≤ z ∧ z < 5187 + i) with c9 | c9; exact (by rw [if_pos c9, if_pos (by omega)]); exact (by rw [if_neg c9, if_neg (by omega)]))) (by omega)
set_option maxRecDepth 100000 in
set_option maxHeartbeats 1000000 in
theorem y_GM_equate (G : jG) (d m : Nat) (f : Int) (g : Int) (e : Int) (I : Nat → Int) (A : Nat → Int → Int) (hI : gSI I) (hA : gSA A) (h0 : 0 ≤ f ∧ f < 300) (h1 : 0 ≤ g ∧ g < 300) (he : -2147483648 ≤ e ∧ e ≤ 2147483647) (z5 : I 5 = 0) (z15 : I 15 = 0) (F9 : Int → Int) (hF9 : ∀ i, 0 ≤ i → i < 13 → A 35 (f * 13 + i) = F9 i) (hFi : inr F9) (G9 : Int → Int) (hG9 : ∀ i, 0 ≤ i → i < 13 → A 35 (g * 13 + i) = G9 i) (hGi : inr G9) (V9 : Int → Int → Int) (hV : gVr V9 A) (hI9 : VI (A 30) V9) (e9 : Int) (s2 : Int → Int) (V2 : Int → Int → Int) (hE : EQT (A 30) V9 F9 G9 e9 s2 V2) : gct G Y_GM_equate (d + 4) m [.int (jI f), .int (jI g), .int (jI e)] I A (fun (rv : Option Value) (I2 : Nat → Int) (A2 : Nat → Int → Int) => rv = none ∧ gPo [5, 6, 15] [30, 31, 33, 34, 35] I A I2 A2 ∧ I2 5 = e9 ∧ (e9 ≠ 0 → I2 6 = e) ∧ (e9 = 0 → I2 15 = 0 ∧ gVs s2 V2 A2) ∧ ∀ z, z < 5148 → A2 35 z = A 35 z) := by
  refine gct_of (by decide) (Nat.le_of_ble_eq_true rfl) (fun f0 sz => ?_)
  show jt _ 0 [(0, .ref m), (1, .int (jI f)), (2, .int (jI g)), (3, .int (jI e))] [] _ _ _ _
  have hz0 : gPo [5, 6, 15] [30, 31, 33, 34, 35] I A I A := gPo.refl hI hA
  refine jt_aload_n d_GM_equate_0 rfl ?_
  refine jt_sipush d_GM_equate_1 (by omega) ?_
  refine jt_iload_n d_GM_equate_4 rfl ?_
  refine gct_call (Y := Y_GM_copyForm) (As := [.int (jI 396), .int (jI f)]) (rest := []) d_GM_equate_5 GM_c247 yk_GM_copyForm yv_GM_copyForm rfl (Nat.le_of_ble_eq_true rfl) rfl rfl (Nat.le_of_ble_eq_true rfl) (y_GM_copyForm G _ m 396 f I A hz0.1 hz0.2.1 (by omega) (by omega) (by omega) (by omega) (by omega)) (fun rvq1 Iq1 Aq1 hq1 => ?_)
  obtain ⟨rfl, hqq1, hxq1⟩ := hq1
  have hpq1 := gPo.trans hz0 hqq1 rfl rfl
  have f1q1 : Iq1 1 = I 1 := hpq1.2.2.1 1 rfl
  have m5q1 : Iq1 5 = I 5 := hqq1.2.2.1 5 rfl
  have m15q1 : Iq1 15 = I 15 := hqq1.2.2.1 15 rfl
  have c1 : ∀ j, 0 ≤ j → j < 13 → Aq1 35 (396 * 13 + j) = F9 j := fun j a c => by rw [hxq1, if_pos (by omega), show 396 * 13 + j - 396 * 13 + f * 13 = f * 13 + j by omega]; exact hF9 j a c
  have c2 : ∀ z, z < 5148 → Aq1 35 z = A 35 z := fun z hz => by rw [hxq1, if_neg (by omega)]
  show jt _ 8 [(0, .ref m), (1, .int (jI f)), (2, .int (jI g)), (3, .int (jI e))] [] (gmf m f0 Iq1 Aq1) _ _ _
  refine jt_aload_n d_GM_equate_8 rfl ?_
  refine jt_sipush d_GM_equate_9 (by omega) ?_
  refine gct_call (Y := Y_GM_refresh) (As := [.int (jI 396)]) (rest := []) d_GM_equate_12 GM_c307 yk_GM_refresh yv_GM_refresh rfl (Nat.le_of_ble_eq_true rfl) rfl rfl (Nat.le_of_ble_eq_true rfl) (y_GM_refresh G _ m 396 Iq1 Aq1 hpq1.1 hpq1.2.1 (by omega) (by omega) (by omega) F9 c1 hFi V9 (by unfold gVr; rw [hqq1.2.2.2 30 rfl, hqq1.2.2.2 31 rfl]; exact hV) (by rw [hqq1.2.2.2 30 rfl]; exact hI9)) (fun rvq2 Iq2 Aq2 hq2 => ?_)
  obtain ⟨rfl, hqq2, hxq2⟩ := hq2
  have hpq2 := gPo.trans hpq1 hqq2 rfl rfl
  have f1q2 : Iq2 1 = I 1 := hpq2.2.2.1 1 rfl
  have m5q2 : Iq2 5 = Iq1 5 := hqq2.2.2.1 5 rfl
  replace hxq2 : Hd (rfQ _ _ _ _ _ _ _) := hxq2
  show jt _ 15 [(0, .ref m), (1, .int (jI f)), (2, .int (jI g)), (3, .int (jI e))] [] (gmf m f0 Iq2 Aq2) _ _ _
  refine jt_aload_n d_GM_equate_15 rfl ?_
  refine jt_sipush d_GM_equate_16 (by omega) ?_
  refine jt_iload_n d_GM_equate_19 rfl ?_
  refine gct_call (Y := Y_GM_copyForm) (As := [.int (jI 399), .int (jI g)]) (rest := []) d_GM_equate_20 GM_c247 yk_GM_copyForm yv_GM_copyForm rfl (Nat.le_of_ble_eq_true rfl) rfl rfl (Nat.le_of_ble_eq_true rfl) (y_GM_copyForm G _ m 399 g Iq2 Aq2 hpq2.1 hpq2.2.1 (by omega) (by omega) (by omega) (by omega) (by omega)) (fun rvq3 Iq3 Aq3 hq3 => ?_)
  obtain ⟨rfl, hqq3, hxq3⟩ := hq3
  have hpq3 := gPo.trans hpq2 hqq3 rfl rfl
  have f1q3 : Iq3 1 = I 1 := hpq3.2.2.1 1 rfl
  have m5q3 : Iq3 5 = Iq2 5 := hqq3.2.2.1 5 rfl
  have m15q3 : Iq3 15 = Iq2 15 := hqq3.2.2.1 15 rfl
  have d1 : ∀ j, 0 ≤ j → j < 13 → Aq3 35 (399 * 13 + j) = G9 j := fun j a c => by rw [hxq3, if_pos (by omega), show 399 * 13 + j - 399 * 13 + g * 13 = g * 13 + j by omega, hxq2.2.2.2 _ (by omega) (by omega), c2 _ (by omega)]; exact hG9 j a c
  have d2 : ∀ z, z < 5148 → Aq3 35 z = A 35 z := fun z hz => by rw [hxq3, if_neg (by omega), hxq2.2.2.2 _ (by omega) (by omega)]; exact c2 z hz
  have d3 : ∀ j, 0 ≤ j → j < 13 → Aq3 35 (5148 + j) = Aq2 35 (396 * 13 + j) := fun j a c => by rw [hxq3, if_neg (by omega), show (5148 : Int) + j = 396 * 13 + j by omega]
  have d15 : Iq3 15 = Iq2 15 := hqq3.2.2.1 15 rfl
  show jt _ 23 [(0, .ref m), (1, .int (jI f)), (2, .int (jI g)), (3, .int (jI e))] [] (gmf m f0 Iq3 Aq3) _ _ _
  refine jt_aload_n d_GM_equate_23 rfl ?_
  refine jt_sipush d_GM_equate_24 (by omega) ?_
  refine gct_call (Y := Y_GM_refresh) (As := [.int (jI 399)]) (rest := []) d_GM_equate_27 GM_c307 yk_GM_refresh yv_GM_refresh rfl (Nat.le_of_ble_eq_true rfl) rfl rfl (Nat.le_of_ble_eq_true rfl) (y_GM_refresh G _ m 399 Iq3 Aq3 hpq3.1 hpq3.2.1 (by omega) (by omega) (by omega) G9 d1 hGi V9 (by unfold gVr; rw [hqq3.2.2.2 30 rfl, hqq2.2.2.2 30 rfl, hqq1.2.2.2 30 rfl, hqq3.2.2.2 31 rfl, hqq2.2.2.2 31 rfl, hqq1.2.2.2 31 rfl]; exact hV) (by rw [hqq3.2.2.2 30 rfl, hqq2.2.2.2 30 rfl, hqq1.2.2.2 30 rfl]; exact hI9)) (fun rvq4 Iq4 Aq4 hq4 => ?_)
  obtain ⟨rfl, hqq4, hxq4⟩ := hq4
  have hpq4 := gPo.trans hpq3 hqq4 rfl rfl
  have f1q4 : Iq4 1 = I 1 := hpq4.2.2.1 1 rfl
  have m5q4 : Iq4 5 = Iq3 5 := hqq4.2.2.1 5 rfl
  replace hxq4 : Hd (rfQ _ _ _ _ _ _ _) := hxq4
  show jt _ 30 [(0, .ref m), (1, .int (jI f)), (2, .int (jI g)), (3, .int (jI e))] [] (gmf m f0 Iq4 Aq4) _ _ _
  refine jt_iconst d_GM_equate_30 ?_
  refine jt_istore (L' := [(0, .ref m), (1, .int (jI f)), (2, .int (jI g)), (3, .int (jI e)), (4, .int (jI 0))]) d_GM_equate_31 (Nat.le_of_ble_eq_true rfl) rfl ?_
  exact l33_GM_equatey G d m f g e I A hI hA h0 h1 he z5 z15 F9 hF9 hFi G9 hG9 hGi V9 hV hI9 e9 s2 V2 hE f0 sz ((Aq4 35)) ((fun k j a c => by rw [show (5148 : Int) + j = 396 * 13 + j by omega, hxq4.2.2.2 _ (by omega) (by omega), ← show (5148 : Int) + j = 396 * 13 + j by omega, d3 j a c]; exact hxq2.2.1 k j a c)) ((fun k j a c => by rw [show (5187 : Int) + j = 399 * 13 + j by omega]; exact hxq4.2.1 k j a c)) ((fun j a c => ⟨by rw [show (5148 : Int) + j = 396 * 13 + j by omega, hxq4.2.2.2 _ (by omega) (by omega), ← show (5148 : Int) + j = 396 * 13 + j by omega, d3 j a c]; exact hxq2.2.2.1 j a c, by rw [show (5187 : Int) + j = 399 * 13 + j by omega]; exact hxq4.2.2.1 j a c⟩)) ((fun z hz => by rw [hxq4.2.2.2 _ (by omega) (by omega)]; exact d2 z hz)) 14 0 Iq4 Aq4 hpq4 (by omega) (by omega) (by rw [hxq4.1, d15, hxq2.1, hqq1.2.2.1 15 rfl]; exact ⟨fun z => ⟨z.1.2, z.2⟩, fun z => ⟨⟨z15, z.1⟩, z.2⟩⟩) (by rw [hqq4.2.2.1 5 rfl, hqq3.2.2.1 5 rfl, hqq2.2.2.1 5 rfl, hqq1.2.2.1 5 rfl]; exact z5) ⟨by rw [hqq4.2.2.2 30 rfl, hqq3.2.2.2 30 rfl, hqq2.2.2.2 30 rfl, hqq1.2.2.2 30 rfl], by rw [hqq4.2.2.2 31 rfl, hqq3.2.2.2 31 rfl, hqq2.2.2.2 31 rfl, hqq1.2.2.2 31 rfl]⟩ (fun z => by rw [if_neg (by omega)]) (by omega)

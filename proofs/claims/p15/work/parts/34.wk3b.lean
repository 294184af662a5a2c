set_option maxRecDepth 100000 in
set_option maxHeartbeats 1000000 in
theorem l0_GM_finishTermw (G : jG) (d m : Nat) (c : Int) (I : Nat → Int) (A : Nat → Int → Int) (hI : gSI I) (hA : gSA A) (c0 : c = 0) (h13 : 0 ≤ I 13) (hs : gSt (A 36) (I 13)) (hf0 : I 9 = gC (A 36) (I 13) + 1) (hb0 : gBr (A 36) (I 13) ≤ 8) (f0 : jF) (sz : Nat)  : ∀ (n9 : Nat)  (J : Nat → Int) (B : Nat → Int → Int), gPo [9, 13, 15] [35] I A J B → (J 13 ≤ I 13) → (0 ≤ J 13) → (J 9 = gC (A 36) (J 13) + 1) → (gBr (A 36) (J 13) = gBr (A 36) (I 13)) → J 13 < (n9 : Int) → jt (jm G Y_GM_finishTerm (gR (d + 3)) (gQ m f0 sz (fun (rv : Option Value) (I2 : Nat → Int) (A2 : Nat → Int → Int) => rv = none ∧ gPo [9, 13, 15] [35] I A I2 A2 ∧ I2 13 ≤ I 13 ∧ 0 ≤ I2 13 ∧ I2 9 = gC (A 36) (I2 13) + 1 ∧ gBr (A 36) (I2 13) = gBr (A 36) (I 13) ∧ (I2 13 = 0 ∨ A 36 (I2 13 - 1) = 0 ∨ A 36 (I2 13 - 1) = 5 ∨ A 36 (I2 13 - 1) = 6)))) 0 [(0, .ref m), (1, .int (jI c))] [] (gmf m f0 J B) sz 0 0 := by
  have q13 : 0 ≤ I 13 ∧ I 13 ≤ 320 := hI 13
  intro n9
  induction n9 with
  | zero =>
    intro  J B hJ t2 t3 hf hb hmeas
    have f36 : B 36 = A 36 := hJ.2.2.2 36 rfl
    have r13 : 0 ≤ J 13 ∧ J 13 ≤ 320 := hJ.1 13
    have sb := gSt_b (gSt_le hs t2) t3
    have z0 : 0 < J 13 → _ := fun h => gC_s (A 36) (J 13 - 1) (by omega)
    have z1 : 0 < J 13 → _ := fun h => gB_s (A 36) (J 13 - 1) (by omega)
    rw [show J 13 - 1 + 1 = J 13 by omega] at z0 z1
    exfalso
    omega
  | succ n9 ih =>
    intro  J B hJ t2 t3 hf hb hmeas
    have f36 : B 36 = A 36 := hJ.2.2.2 36 rfl
    have r13 : 0 ≤ J 13 ∧ J 13 ≤ 320 := hJ.1 13
    have sb := gSt_b (gSt_le hs t2) t3
    have z0 : 0 < J 13 → _ := fun h => gC_s (A 36) (J 13 - 1) (by omega)
    have z1 : 0 < J 13 → _ := fun h => gB_s (A 36) (J 13 - 1) (by omega)
    rw [show J 13 - 1 + 1 = J 13 by omega] at z0 z1
    refine jt_aload_n d_GM_finishTerm_0 rfl ?_
    refine gm_gI (k := 13) (v := J 13) d_GM_finishTerm_1 GM_f49 (by decide) rfl ?_
    have rb101 : 0 ≤ J 13 ∧ J 13 ≤ 320 := hJ.1 13
    refine jt_iload_n d_GM_finishTerm_4 rfl ?_
    refine jt_icmp_le (t := 91) d_GM_finishTerm_5 rfl (by unfold jRi; omega) (by unfold jRi; omega) (fun c102 => ?_) (fun c102 => ?_)
    · skip
      refine jt_aload_n d_GM_finishTerm_91 rfl ?_
      refine gm_gI (k := 13) (v := J 13) d_GM_finishTerm_92 GM_f49 (by decide) rfl ?_
      refine jt_iload_n d_GM_finishTerm_95 rfl ?_
      refine jt_icmp_le (t := 187) d_GM_finishTerm_96 rfl (by unfold jRi; omega) (by unfold jRi; omega) (fun c103 => ?_) (fun c103 => ?_)
      · skip
        exact gm_vret d_GM_finishTerm_187 rfl (⟨rfl, hJ, t2, t3, hf, hb, by omega⟩)
      · skip
        refine jt_aload_n d_GM_finishTerm_99 rfl ?_
        refine gm_gA (k := 36) (a := m + 21) d_GM_finishTerm_100 GM_f121 (by decide) (by decide) rfl ?_
        refine jt_aload_n d_GM_finishTerm_103 rfl ?_
        refine gm_gI (k := 13) (v := J 13) d_GM_finishTerm_104 GM_f49 (by decide) rfl ?_
        refine jt_iconst d_GM_finishTerm_107 ?_
        refine jt_isub d_GM_finishTerm_108 ?_
        refine gm_ld0 (k := 36) (n := 320) (v := (B 36) ((J 13) - 1)) d_GM_finishTerm_109 rfl (by decide) (by decide) rfl rfl (by omega) (by omega) (by omega) rfl ?_
        refine jt_topi (fun v104 ev104 => ?_)
        have bv104 : 0 ≤ v104 ∧ v104 ≤ 6 := by rw [ev104]; exact hJ.2.1 36 ((J 13) - 1)
        rw [f36] at ev104
        refine jt_iconst d_GM_finishTerm_110 ?_
        refine jt_icmp_eq (t := 129) d_GM_finishTerm_111 rfl (by unfold jRi; omega) (by unfold jRi; omega) (fun c105 => ?_) (fun c105 => ?_)
        · skip
          refine jt_aload_n d_GM_finishTerm_129 rfl ?_
          refine jt_dup d_GM_finishTerm_130 rfl ?_
          refine gm_gI (k := 13) (v := J 13) d_GM_finishTerm_131 GM_f49 (by decide) rfl ?_
          refine jt_iconst d_GM_finishTerm_134 ?_
          refine jt_isub d_GM_finishTerm_135 ?_
          refine jt_topi (fun v106 ev106 => ?_)
          refine gm_pI (k := 13) (v := v106) (J := va_up J 13 v106) d_GM_finishTerm_136 (GM_w49 _ rfl) (by decide) rfl rfl rfl ?_
          have p107 := gPo.I 13 v106 hJ rfl (show 0 ≤ v106 ∧ v106 ≤ 320 by omega)
          refine jt_aload_n d_GM_finishTerm_139 rfl ?_
          refine jt_dup d_GM_finishTerm_140 rfl ?_
          refine gm_gI (k := 9) (v := J 9) d_GM_finishTerm_141 GM_f37 (by decide) rfl ?_
          have rb108 : 0 ≤ J 9 ∧ J 9 ≤ 100 := p107.1 9
          refine jt_iconst d_GM_finishTerm_144 ?_
          refine jt_isub d_GM_finishTerm_145 ?_
          refine jt_topi (fun v109 ev109 => ?_)
          refine gm_pI (k := 9) (v := v109) (J := va_up (va_up J 13 v106) 9 v109) d_GM_finishTerm_146 (GM_w37 _ rfl) (by decide) rfl rfl rfl ?_
          have p110 := gPo.I 9 v109 p107 rfl (show 0 ≤ v109 ∧ v109 ≤ 100 by omega)
          refine jt_aload_n d_GM_finishTerm_149 rfl ?_
          refine jt_sipush d_GM_finishTerm_150 (by omega) ?_
          refine jt_aload_n d_GM_finishTerm_153 rfl ?_
          refine gm_gI (k := 9) (v := v109) d_GM_finishTerm_154 GM_f37 (by decide) rfl ?_
          refine jt_iadd d_GM_finishTerm_157 ?_
          refine jt_sipush d_GM_finishTerm_158 (by omega) ?_
          refine jt_aload_n d_GM_finishTerm_161 rfl ?_
          refine gm_gI (k := 9) (v := v109) d_GM_finishTerm_162 GM_f37 (by decide) rfl ?_
          refine jt_iadd d_GM_finishTerm_165 ?_
          refine jt_aload_n d_GM_finishTerm_166 rfl ?_
          refine gm_gA (k := 36) (a := m + 21) d_GM_finishTerm_167 GM_f121 (by decide) (by decide) rfl ?_
          refine jt_aload_n d_GM_finishTerm_170 rfl ?_
          refine gm_gI (k := 13) (v := v106) d_GM_finishTerm_171 GM_f49 (by decide) rfl ?_
          refine gm_ld0 (k := 36) (n := 320) (v := (B 36) v106) d_GM_finishTerm_174 rfl (by decide) (by decide) rfl rfl (by omega) (by omega) (by omega) rfl ?_
          refine jt_topi (fun v111 ev111 => ?_)
          have bv111 : 0 ≤ v111 ∧ v111 ≤ 6 := by rw [ev111]; exact p110.2.1 36 v106
          rw [f36] at ev111
          refine jt_iconst d_GM_finishTerm_175 ?_
          refine jt_icmp_ne (t := 183) d_GM_finishTerm_176 rfl (by unfold jRi; omega) (by unfold jRi; omega) (fun c112 => ?_) (fun c112 => ?_)
          · skip
            refine jt_iconst d_GM_finishTerm_183 ?_
            refine gct_call (Y := Y_GM_addForm) (As := [.int (jI (299 + v109)), .int (jI (300 + v109)), .int (jI (-1))]) (rest := []) d_GM_finishTerm_184 GM_c225 yk_GM_addForm yv_GM_addForm rfl (Nat.le_of_ble_eq_true rfl) rfl rfl (Nat.le_of_ble_eq_true rfl) (w_GM_addForm G _ m (299 + v109) (300 + v109) (-1) (va_up (va_up J 13 v106) 9 v109) B p110.1 p110.2.1 (by omega) (by omega) (by omega) (by omega) (by omega) (by unfold jRi; omega)) (fun rvq113 Iq113 Aq113 hq113 => ?_)
            obtain ⟨rfl, hqq113⟩ := hq113
            have hpq113 := gPo.trans p110 hqq113 rfl rfl
            have f1q113 : Iq113 1 = I 1 := hpq113.2.2.1 1 rfl
            have m9q113 : Iq113 9 = v109 := hqq113.2.2.1 9 rfl
            have m13q113 : Iq113 13 = v106 := hqq113.2.2.1 13 rfl
            have a36q113 : Aq113 36 = B 36 := hqq113.2.2.2 36 rfl
            show jt _ 187 [(0, .ref m), (1, .int (jI c))] [] (gmf m f0 Iq113 Aq113) _ _ _
            exact gm_vret d_GM_finishTerm_187 rfl (by
      have z2 := z0 (by omega)
      have z3 := z1 (by omega)
      have z4 := hs (J 13 - 1) (by omega) (by omega)
      refine ⟨rfl, hpq113, ?_, ?_, ?_, ?_, ?_⟩
      · rw [m13q113]; omega
      · rw [m13q113]; omega
      · rw [m13q113, m9q113, ev106]; omega
      · rw [m13q113, ev106]; omega
      · rw [m13q113, ev106]; omega)
          · skip
            refine jt_iconst d_GM_finishTerm_179 ?_
            refine jt_goto (t := 184) d_GM_finishTerm_180 rfl ?_
            refine gct_call (Y := Y_GM_addForm) (As := [.int (jI (299 + v109)), .int (jI (300 + v109)), .int (jI 1)]) (rest := []) d_GM_finishTerm_184 GM_c225 yk_GM_addForm yv_GM_addForm rfl (Nat.le_of_ble_eq_true rfl) rfl rfl (Nat.le_of_ble_eq_true rfl) (w_GM_addForm G _ m (299 + v109) (300 + v109) 1 (va_up (va_up J 13 v106) 9 v109) B p110.1 p110.2.1 (by omega) (by omega) (by omega) (by omega) (by omega) (by unfold jRi; omega)) (fun rvq114 Iq114 Aq114 hq114 => ?_)
            obtain ⟨rfl, hqq114⟩ := hq114
            have hpq114 := gPo.trans p110 hqq114 rfl rfl
            have f1q114 : Iq114 1 = I 1 := hpq114.2.2.1 1 rfl
            have m9q114 : Iq114 9 = v109 := hqq114.2.2.1 9 rfl
            have m13q114 : Iq114 13 = v106 := hqq114.2.2.1 13 rfl
            have a36q114 : Aq114 36 = B 36 := hqq114.2.2.2 36 rfl
            show jt _ 187 [(0, .ref m), (1, .int (jI c))] [] (gmf m f0 Iq114 Aq114) _ _ _
            exact gm_vret d_GM_finishTerm_187 rfl (by
      have z2 := z0 (by omega)
      have z3 := z1 (by omega)
      have z4 := hs (J 13 - 1) (by omega) (by omega)
      refine ⟨rfl, hpq114, ?_, ?_, ?_, ?_, ?_⟩
      · rw [m13q114]; omega
      · rw [m13q114]; omega
      · rw [m13q114, m9q114, ev106]; omega
      · rw [m13q114, ev106]; omega
      · rw [m13q114, ev106]; omega)
        · skip
          refine jt_aload_n d_GM_finishTerm_114 rfl ?_
          refine gm_gA (k := 36) (a := m + 21) d_GM_finishTerm_115 GM_f121 (by decide) (by decide) rfl ?_
          refine jt_aload_n d_GM_finishTerm_118 rfl ?_
          refine gm_gI (k := 13) (v := J 13) d_GM_finishTerm_119 GM_f49 (by decide) rfl ?_
          refine jt_iconst d_GM_finishTerm_122 ?_
          refine jt_isub d_GM_finishTerm_123 ?_
          refine gm_ld0 (k := 36) (n := 320) (v := (B 36) ((J 13) - 1)) d_GM_finishTerm_124 rfl (by decide) (by decide) rfl rfl (by omega) (by omega) (by omega) rfl ?_
          refine jt_topi (fun v115 ev115 => ?_)
          have bv115 : 0 ≤ v115 ∧ v115 ≤ 6 := by rw [ev115]; exact hJ.2.1 36 ((J 13) - 1)
          rw [f36] at ev115
          refine jt_iconst d_GM_finishTerm_125 ?_
          refine jt_icmp_ne (t := 187) d_GM_finishTerm_126 rfl (by unfold jRi; omega) (by unfold jRi; omega) (fun c116 => ?_) (fun c116 => ?_)
          · skip
            exact gm_vret d_GM_finishTerm_187 rfl (⟨rfl, hJ, t2, t3, hf, hb, by omega⟩)
          · skip
            refine jt_aload_n d_GM_finishTerm_129 rfl ?_
            refine jt_dup d_GM_finishTerm_130 rfl ?_
            refine gm_gI (k := 13) (v := J 13) d_GM_finishTerm_131 GM_f49 (by decide) rfl ?_
            refine jt_iconst d_GM_finishTerm_134 ?_
            refine jt_isub d_GM_finishTerm_135 ?_
            refine jt_topi (fun v117 ev117 => ?_)
            refine gm_pI (k := 13) (v := v117) (J := va_up J 13 v117) d_GM_finishTerm_136 (GM_w49 _ rfl) (by decide) rfl rfl rfl ?_
            have p118 := gPo.I 13 v117 hJ rfl (show 0 ≤ v117 ∧ v117 ≤ 320 by omega)
            refine jt_aload_n d_GM_finishTerm_139 rfl ?_
            refine jt_dup d_GM_finishTerm_140 rfl ?_
            refine gm_gI (k := 9) (v := J 9) d_GM_finishTerm_141 GM_f37 (by decide) rfl ?_
            have rb119 : 0 ≤ J 9 ∧ J 9 ≤ 100 := p118.1 9
            refine jt_iconst d_GM_finishTerm_144 ?_
            refine jt_isub d_GM_finishTerm_145 ?_
            refine jt_topi (fun v120 ev120 => ?_)
            refine gm_pI (k := 9) (v := v120) (J := va_up (va_up J 13 v117) 9 v120) d_GM_finishTerm_146 (GM_w37 _ rfl) (by decide) rfl rfl rfl ?_
            have p121 := gPo.I 9 v120 p118 rfl (show 0 ≤ v120 ∧ v120 ≤ 100 by omega)
            refine jt_aload_n d_GM_finishTerm_149 rfl ?_
            refine jt_sipush d_GM_finishTerm_150 (by omega) ?_
            refine jt_aload_n d_GM_finishTerm_153 rfl ?_
            refine gm_gI (k := 9) (v := v120) d_GM_finishTerm_154 GM_f37 (by decide) rfl ?_
            refine jt_iadd d_GM_finishTerm_157 ?_
            refine jt_sipush d_GM_finishTerm_158 (by omega) ?_
            refine jt_aload_n d_GM_finishTerm_161 rfl ?_
            refine gm_gI (k := 9) (v := v120) d_GM_finishTerm_162 GM_f37 (by decide) rfl ?_
            refine jt_iadd d_GM_finishTerm_165 ?_
            refine jt_aload_n d_GM_finishTerm_166 rfl ?_
            refine gm_gA (k := 36) (a := m + 21) d_GM_finishTerm_167 GM_f121 (by decide) (by decide) rfl ?_
            refine jt_aload_n d_GM_finishTerm_170 rfl ?_
            refine gm_gI (k := 13) (v := v117) d_GM_finishTerm_171 GM_f49 (by decide) rfl ?_
            refine gm_ld0 (k := 36) (n := 320) (v := (B 36) v117) d_GM_finishTerm_174 rfl (by decide) (by decide) rfl rfl (by omega) (by omega) (by omega) rfl ?_
            refine jt_topi (fun v122 ev122 => ?_)
            have bv122 : 0 ≤ v122 ∧ v122 ≤ 6 := by rw [ev122]; exact p121.2.1 36 v117
            rw [f36] at ev122
            refine jt_iconst d_GM_finishTerm_175 ?_
            refine jt_icmp_ne (t := 183) d_GM_finishTerm_176 rfl (by unfold jRi; omega) (by unfold jRi; omega) (fun c123 => ?_) (fun c123 => ?_)
            · skip
              refine jt_iconst d_GM_finishTerm_183 ?_
              refine gct_call (Y := Y_GM_addForm) (As := [.int (jI (299 + v120)), .int (jI (300 + v120)), .int (jI (-1))]) (rest := []) d_GM_finishTerm_184 GM_c225 yk_GM_addForm yv_GM_addForm rfl (Nat.le_of_ble_eq_true rfl) rfl rfl (Nat.le_of_ble_eq_true rfl) (w_GM_addForm G _ m (299 + v120) (300 + v120) (-1) (va_up (va_up J 13 v117) 9 v120) B p121.1 p121.2.1 (by omega) (by omega) (by omega) (by omega) (by omega) (by unfold jRi; omega)) (fun rvq124 Iq124 Aq124 hq124 => ?_)
              obtain ⟨rfl, hqq124⟩ := hq124
              have hpq124 := gPo.trans p121 hqq124 rfl rfl
              have f1q124 : Iq124 1 = I 1 := hpq124.2.2.1 1 rfl
              have m9q124 : Iq124 9 = v120 := hqq124.2.2.1 9 rfl
              have m13q124 : Iq124 13 = v117 := hqq124.2.2.1 13 rfl
              have a36q124 : Aq124 36 = B 36 := hqq124.2.2.2 36 rfl
              show jt _ 187 [(0, .ref m), (1, .int (jI c))] [] (gmf m f0 Iq124 Aq124) _ _ _
              exact gm_vret d_GM_finishTerm_187 rfl (by
      have z2 := z0 (by omega)
      have z3 := z1 (by omega)
      have z4 := hs (J 13 - 1) (by omega) (by omega)
      refine ⟨rfl, hpq124, ?_, ?_, ?_, ?_, ?_⟩
      · rw [m13q124]; omega
      · rw [m13q124]; omega
      · rw [m13q124, m9q124, ev117]; omega
      · rw [m13q124, ev117]; omega
      · rw [m13q124, ev117]; omega)
            · skip
              refine jt_iconst d_GM_finishTerm_179 ?_
              refine jt_goto (t := 184) d_GM_finishTerm_180 rfl ?_
              refine gct_call (Y := Y_GM_addForm) (As := [.int (jI (299 + v120)), .int (jI (300 + v120)), .int (jI 1)]) (rest := []) d_GM_finishTerm_184 GM_c225 yk_GM_addForm yv_GM_addForm rfl (Nat.le_of_ble_eq_true rfl) rfl rfl (Nat.le_of_ble_eq_true rfl) (w_GM_addForm G _ m (299 + v120) (300 + v120) 1 (va_up (va_up J 13 v117) 9 v120) B p121.1 p121.2.1 (by omega) (by omega) (by omega) (by omega) (by omega) (by unfold jRi; omega)) (fun rvq125 Iq125 Aq125 hq125 => ?_)
              obtain ⟨rfl, hqq125⟩ := hq125
              have hpq125 := gPo.trans p121 hqq125 rfl rfl
              have f1q125 : Iq125 1 = I 1 := hpq125.2.2.1 1 rfl
              have m9q125 : Iq125 9 = v120 := hqq125.2.2.1 9 rfl
              have m13q125 : Iq125 13 = v117 := hqq125.2.2.1 13 rfl
              have a36q125 : Aq125 36 = B 36 := hqq125.2.2.2 36 rfl
              show jt _ 187 [(0, .ref m), (1, .int (jI c))] [] (gmf m f0 Iq125 Aq125) _ _ _
              exact gm_vret d_GM_finishTerm_187 rfl (by
      have z2 := z0 (by omega)
      have z3 := z1 (by omega)
      have z4 := hs (J 13 - 1) (by omega) (by omega)
      refine ⟨rfl, hpq125, ?_, ?_, ?_, ?_, ?_⟩
      · rw [m13q125]; omega
      · rw [m13q125]; omega
      · rw [m13q125, m9q125, ev117]; omega
      · rw [m13q125, ev117]; omega
      · rw [m13q125, ev117]; omega)
    · skip
      refine jt_aload_n d_GM_finishTerm_8 rfl ?_
      refine gm_gA (k := 36) (a := m + 21) d_GM_finishTerm_9 GM_f121 (by decide) (by decide) rfl ?_
      refine jt_aload_n d_GM_finishTerm_12 rfl ?_
      refine gm_gI (k := 13) (v := J 13) d_GM_finishTerm_13 GM_f49 (by decide) rfl ?_
      refine jt_iconst d_GM_finishTerm_16 ?_
      refine jt_isub d_GM_finishTerm_17 ?_
      refine gm_ld0 (k := 36) (n := 320) (v := (B 36) ((J 13) - 1)) d_GM_finishTerm_18 rfl (by decide) (by decide) rfl rfl (by omega) (by omega) (by omega) rfl ?_
      refine jt_topi (fun v126 ev126 => ?_)
      have bv126 : 0 ≤ v126 ∧ v126 ≤ 6 := by rw [ev126]; exact hJ.2.1 36 ((J 13) - 1)
      rw [f36] at ev126
      refine jt_iconst d_GM_finishTerm_19 ?_
      refine jt_icmp_eq (t := 38) d_GM_finishTerm_20 rfl (by unfold jRi; omega) (by unfold jRi; omega) (fun c127 => ?_) (fun c127 => ?_)
      · skip
        refine jt_aload_n d_GM_finishTerm_38 rfl ?_
        refine jt_dup d_GM_finishTerm_39 rfl ?_
        refine gm_gI (k := 13) (v := J 13) d_GM_finishTerm_40 GM_f49 (by decide) rfl ?_
        refine jt_iconst d_GM_finishTerm_43 ?_
        refine jt_isub d_GM_finishTerm_44 ?_
        refine jt_topi (fun v128 ev128 => ?_)
        refine gm_pI (k := 13) (v := v128) (J := va_up J 13 v128) d_GM_finishTerm_45 (GM_w49 _ rfl) (by decide) rfl rfl rfl ?_
        have p129 := gPo.I 13 v128 hJ rfl (show 0 ≤ v128 ∧ v128 ≤ 320 by omega)
        refine jt_aload_n d_GM_finishTerm_48 rfl ?_
        refine jt_sipush d_GM_finishTerm_49 (by omega) ?_
        refine jt_aload_n d_GM_finishTerm_52 rfl ?_
        refine gm_gI (k := 9) (v := J 9) d_GM_finishTerm_53 GM_f37 (by decide) rfl ?_
        have rb130 : 0 ≤ J 9 ∧ J 9 ≤ 100 := p129.1 9
        refine jt_iadd d_GM_finishTerm_56 ?_
        refine jt_aload_n d_GM_finishTerm_57 rfl ?_
        refine gm_gA (k := 36) (a := m + 21) d_GM_finishTerm_58 GM_f121 (by decide) (by decide) rfl ?_
        refine jt_aload_n d_GM_finishTerm_61 rfl ?_
        refine gm_gI (k := 13) (v := v128) d_GM_finishTerm_62 GM_f49 (by decide) rfl ?_
        refine gm_ld0 (k := 36) (n := 320) (v := (B 36) v128) d_GM_finishTerm_65 rfl (by decide) (by decide) rfl rfl (by omega) (by omega) (by omega) rfl ?_
        refine jt_topi (fun v131 ev131 => ?_)
        have bv131 : 0 ≤ v131 ∧ v131 ≤ 6 := by rw [ev131]; exact p129.2.1 36 v128
        rw [f36] at ev131
        refine jt_iconst d_GM_finishTerm_66 ?_
        refine jt_icmp_ne (t := 76) d_GM_finishTerm_67 rfl (by unfold jRi; omega) (by unfold jRi; omega) (fun c132 => ?_) (fun c132 => ?_)
        · skip
          refine jt_aload_n d_GM_finishTerm_76 rfl ?_
          refine gm_gA (k := 38) (a := m + 23) d_GM_finishTerm_77 GM_f127 (by decide) (by decide) rfl ?_
          refine jt_aload_n d_GM_finishTerm_80 rfl ?_
          refine gm_gI (k := 13) (v := v128) d_GM_finishTerm_81 GM_f49 (by decide) rfl ?_
          refine gm_ld1 (k := 38) (n := 320) (v := (B 38) v128) d_GM_finishTerm_84 rfl (by decide) (by decide) rfl rfl (by omega) (by omega) (by omega) rfl ?_
          refine jt_topl (fun v133 ev133 => ?_)
          have bv133 : (-65536000) ≤ v133 ∧ v133 ≤ 65536000 := by rw [ev133]; exact p129.2.1 38 v128
          refine gct_call (Y := Y_GM_scale) (As := [.int (jI (299 + (J 9))), .long (jL v133)]) (rest := []) d_GM_finishTerm_85 GM_c221 yk_GM_scale yv_GM_scale rfl (Nat.le_of_ble_eq_true rfl) rfl rfl (Nat.le_of_ble_eq_true rfl) (w_GM_scale G _ m (299 + (J 9)) v133 (va_up J 13 v128) B p129.1 p129.2.1 (by omega) (by omega) (by omega)) (fun rvq134 Iq134 Aq134 hq134 => ?_)
          obtain ⟨rfl, hqq134⟩ := hq134
          have hpq134 := gPo.trans p129 hqq134 rfl rfl
          have f1q134 : Iq134 1 = I 1 := hpq134.2.2.1 1 rfl
          have m9q134 : Iq134 9 = J 9 := hqq134.2.2.1 9 rfl
          have m13q134 : Iq134 13 = v128 := hqq134.2.2.1 13 rfl
          have a36q134 : Aq134 36 = B 36 := hqq134.2.2.2 36 rfl
          show jt _ 88 [(0, .ref m), (1, .int (jI c))] [] (gmf m f0 Iq134 Aq134) _ _ _
          refine jt_goto (t := 0) d_GM_finishTerm_88 rfl ?_
          exact ih  Iq134 Aq134 hpq134 (by have z2 := z0 (by omega); have z3 := z1 (by omega); rw [m13q134]; omega) (by have z2 := z0 (by omega); have z3 := z1 (by omega); rw [m13q134]; omega) (by have z2 := z0 (by omega); have z3 := z1 (by omega); rw [m13q134, m9q134, ev128]; omega) (by have z2 := z0 (by omega); have z3 := z1 (by omega); rw [m13q134, ev128]; omega) (by omega)
        · skip
          refine jt_ldc2 (z := -65536) d_GM_finishTerm_70 GM_k219 ?_
          refine jt_goto (t := 85) d_GM_finishTerm_73 rfl ?_
          refine gct_call (Y := Y_GM_scale) (As := [.int (jI (299 + (J 9))), .long (jL (-65536))]) (rest := []) d_GM_finishTerm_85 GM_c221 yk_GM_scale yv_GM_scale rfl (Nat.le_of_ble_eq_true rfl) rfl rfl (Nat.le_of_ble_eq_true rfl) (w_GM_scale G _ m (299 + (J 9)) (-65536) (va_up J 13 v128) B p129.1 p129.2.1 (by omega) (by omega) (by omega)) (fun rvq135 Iq135 Aq135 hq135 => ?_)
          obtain ⟨rfl, hqq135⟩ := hq135
          have hpq135 := gPo.trans p129 hqq135 rfl rfl
          have f1q135 : Iq135 1 = I 1 := hpq135.2.2.1 1 rfl
          have m9q135 : Iq135 9 = J 9 := hqq135.2.2.1 9 rfl
          have m13q135 : Iq135 13 = v128 := hqq135.2.2.1 13 rfl
          have a36q135 : Aq135 36 = B 36 := hqq135.2.2.2 36 rfl
          show jt _ 88 [(0, .ref m), (1, .int (jI c))] [] (gmf m f0 Iq135 Aq135) _ _ _
          refine jt_goto (t := 0) d_GM_finishTerm_88 rfl ?_
          exact ih  Iq135 Aq135 hpq135 (by have z2 := z0 (by omega); have z3 := z1 (by omega); rw [m13q135]; omega) (by have z2 := z0 (by omega); have z3 := z1 (by omega); rw [m13q135]; omega) (by have z2 := z0 (by omega); have z3 := z1 (by omega); rw [m13q135, m9q135, ev128]; omega) (by have z2 := z0 (by omega); have z3 := z1 (by omega); rw [m13q135, ev128]; omega) (by omega)
      · skip
        refine jt_aload_n d_GM_finishTerm_23 rfl ?_
        refine gm_gA (k := 36) (a := m + 21) d_GM_finishTerm_24 GM_f121 (by decide) (by decide) rfl ?_
        refine jt_aload_n d_GM_finishTerm_27 rfl ?_
        refine gm_gI (k := 13) (v := J 13) d_GM_finishTerm_28 GM_f49 (by decide) rfl ?_
        refine jt_iconst d_GM_finishTerm_31 ?_
        refine jt_isub d_GM_finishTerm_32 ?_
        refine gm_ld0 (k := 36) (n := 320) (v := (B 36) ((J 13) - 1)) d_GM_finishTerm_33 rfl (by decide) (by decide) rfl rfl (by omega) (by omega) (by omega) rfl ?_
        refine jt_topi (fun v136 ev136 => ?_)
        have bv136 : 0 ≤ v136 ∧ v136 ≤ 6 := by rw [ev136]; exact hJ.2.1 36 ((J 13) - 1)
        rw [f36] at ev136
        refine jt_iconst d_GM_finishTerm_34 ?_
        refine jt_icmp_ne (t := 91) d_GM_finishTerm_35 rfl (by unfold jRi; omega) (by unfold jRi; omega) (fun c137 => ?_) (fun c137 => ?_)
        · skip
          refine jt_aload_n d_GM_finishTerm_91 rfl ?_
          refine gm_gI (k := 13) (v := J 13) d_GM_finishTerm_92 GM_f49 (by decide) rfl ?_
          refine jt_iload_n d_GM_finishTerm_95 rfl ?_
          refine jt_icmp_le (t := 187) d_GM_finishTerm_96 rfl (by unfold jRi; omega) (by unfold jRi; omega) (fun c138 => ?_) (fun c138 => ?_)
          · skip
            exact gm_vret d_GM_finishTerm_187 rfl (⟨rfl, hJ, t2, t3, hf, hb, by omega⟩)
          · skip
            refine jt_aload_n d_GM_finishTerm_99 rfl ?_
            refine gm_gA (k := 36) (a := m + 21) d_GM_finishTerm_100 GM_f121 (by decide) (by decide) rfl ?_
            refine jt_aload_n d_GM_finishTerm_103 rfl ?_
            refine gm_gI (k := 13) (v := J 13) d_GM_finishTerm_104 GM_f49 (by decide) rfl ?_
            refine jt_iconst d_GM_finishTerm_107 ?_
            refine jt_isub d_GM_finishTerm_108 ?_
            refine gm_ld0 (k := 36) (n := 320) (v := (B 36) ((J 13) - 1)) d_GM_finishTerm_109 rfl (by decide) (by decide) rfl rfl (by omega) (by omega) (by omega) rfl ?_
            refine jt_topi (fun v139 ev139 => ?_)
            have bv139 : 0 ≤ v139 ∧ v139 ≤ 6 := by rw [ev139]; exact hJ.2.1 36 ((J 13) - 1)
            rw [f36] at ev139
            refine jt_iconst d_GM_finishTerm_110 ?_
            refine jt_icmp_eq (t := 129) d_GM_finishTerm_111 rfl (by unfold jRi; omega) (by unfold jRi; omega) (fun c140 => ?_) (fun c140 => ?_)
            · skip
              refine jt_aload_n d_GM_finishTerm_129 rfl ?_
              refine jt_dup d_GM_finishTerm_130 rfl ?_
              refine gm_gI (k := 13) (v := J 13) d_GM_finishTerm_131 GM_f49 (by decide) rfl ?_
              refine jt_iconst d_GM_finishTerm_134 ?_
              refine jt_isub d_GM_finishTerm_135 ?_
              refine jt_topi (fun v141 ev141 => ?_)
              refine gm_pI (k := 13) (v := v141) (J := va_up J 13 v141) d_GM_finishTerm_136 (GM_w49 _ rfl) (by decide) rfl rfl rfl ?_
              have p142 := gPo.I 13 v141 hJ rfl (show 0 ≤ v141 ∧ v141 ≤ 320 by omega)
              refine jt_aload_n d_GM_finishTerm_139 rfl ?_
              refine jt_dup d_GM_finishTerm_140 rfl ?_
              refine gm_gI (k := 9) (v := J 9) d_GM_finishTerm_141 GM_f37 (by decide) rfl ?_
              have rb143 : 0 ≤ J 9 ∧ J 9 ≤ 100 := p142.1 9
              refine jt_iconst d_GM_finishTerm_144 ?_
              refine jt_isub d_GM_finishTerm_145 ?_
              refine jt_topi (fun v144 ev144 => ?_)
              refine gm_pI (k := 9) (v := v144) (J := va_up (va_up J 13 v141) 9 v144) d_GM_finishTerm_146 (GM_w37 _ rfl) (by decide) rfl rfl rfl ?_
              have p145 := gPo.I 9 v144 p142 rfl (show 0 ≤ v144 ∧ v144 ≤ 100 by omega)
              refine jt_aload_n d_GM_finishTerm_149 rfl ?_
              refine jt_sipush d_GM_finishTerm_150 (by omega) ?_
              refine jt_aload_n d_GM_finishTerm_153 rfl ?_
              refine gm_gI (k := 9) (v := v144) d_GM_finishTerm_154 GM_f37 (by decide) rfl ?_
              refine jt_iadd d_GM_finishTerm_157 ?_
              refine jt_sipush d_GM_finishTerm_158 (by omega) ?_
              refine jt_aload_n d_GM_finishTerm_161 rfl ?_
              refine gm_gI (k := 9) (v := v144) d_GM_finishTerm_162 GM_f37 (by decide) rfl ?_
              refine jt_iadd d_GM_finishTerm_165 ?_
              refine jt_aload_n d_GM_finishTerm_166 rfl ?_
              refine gm_gA (k := 36) (a := m + 21) d_GM_finishTerm_167 GM_f121 (by decide) (by decide) rfl ?_
              refine jt_aload_n d_GM_finishTerm_170 rfl ?_
              refine gm_gI (k := 13) (v := v141) d_GM_finishTerm_171 GM_f49 (by decide) rfl ?_
              refine gm_ld0 (k := 36) (n := 320) (v := (B 36) v141) d_GM_finishTerm_174 rfl (by decide) (by decide) rfl rfl (by omega) (by omega) (by omega) rfl ?_
              refine jt_topi (fun v146 ev146 => ?_)
              have bv146 : 0 ≤ v146 ∧ v146 ≤ 6 := by rw [ev146]; exact p145.2.1 36 v141
              rw [f36] at ev146
              refine jt_iconst d_GM_finishTerm_175 ?_
              refine jt_icmp_ne (t := 183) d_GM_finishTerm_176 rfl (by unfold jRi; omega) (by unfold jRi; omega) (fun c147 => ?_) (fun c147 => ?_)
              · skip
                refine jt_iconst d_GM_finishTerm_183 ?_
                refine gct_call (Y := Y_GM_addForm) (As := [.int (jI (299 + v144)), .int (jI (300 + v144)), .int (jI (-1))]) (rest := []) d_GM_finishTerm_184 GM_c225 yk_GM_addForm yv_GM_addForm rfl (Nat.le_of_ble_eq_true rfl) rfl rfl (Nat.le_of_ble_eq_true rfl) (w_GM_addForm G _ m (299 + v144) (300 + v144) (-1) (va_up (va_up J 13 v141) 9 v144) B p145.1 p145.2.1 (by omega) (by omega) (by omega) (by omega) (by omega) (by unfold jRi; omega)) (fun rvq148 Iq148 Aq148 hq148 => ?_)
                obtain ⟨rfl, hqq148⟩ := hq148
                have hpq148 := gPo.trans p145 hqq148 rfl rfl
                have f1q148 : Iq148 1 = I 1 := hpq148.2.2.1 1 rfl
                have m9q148 : Iq148 9 = v144 := hqq148.2.2.1 9 rfl
                have m13q148 : Iq148 13 = v141 := hqq148.2.2.1 13 rfl
                have a36q148 : Aq148 36 = B 36 := hqq148.2.2.2 36 rfl
                show jt _ 187 [(0, .ref m), (1, .int (jI c))] [] (gmf m f0 Iq148 Aq148) _ _ _
                exact gm_vret d_GM_finishTerm_187 rfl (by
      have z2 := z0 (by omega)
      have z3 := z1 (by omega)
      have z4 := hs (J 13 - 1) (by omega) (by omega)
      refine ⟨rfl, hpq148, ?_, ?_, ?_, ?_, ?_⟩
      · rw [m13q148]; omega
      · rw [m13q148]; omega
      · rw [m13q148, m9q148, ev141]; omega
      · rw [m13q148, ev141]; omega
      · rw [m13q148, ev141]; omega)
              · skip
                refine jt_iconst d_GM_finishTerm_179 ?_
                refine jt_goto (t := 184) d_GM_finishTerm_180 rfl ?_
                refine gct_call (Y := Y_GM_addForm) (As := [.int (jI (299 + v144)), .int (jI (300 + v144)), .int (jI 1)]) (rest := []) d_GM_finishTerm_184 GM_c225 yk_GM_addForm yv_GM_addForm rfl (Nat.le_of_ble_eq_true rfl) rfl rfl (Nat.le_of_ble_eq_true rfl) (w_GM_addForm G _ m (299 + v144) (300 + v144) 1 (va_up (va_up J 13 v141) 9 v144) B p145.1 p145.2.1 (by omega) (by omega) (by omega) (by omega) (by omega) (by unfold jRi; omega)) (fun rvq149 Iq149 Aq149 hq149 => ?_)
                obtain ⟨rfl, hqq149⟩ := hq149
                have hpq149 := gPo.trans p145 hqq149 rfl rfl
                have f1q149 : Iq149 1 = I 1 := hpq149.2.2.1 1 rfl
                have m9q149 : Iq149 9 = v144 := hqq149.2.2.1 9 rfl
                have m13q149 : Iq149 13 = v141 := hqq149.2.2.1 13 rfl
                have a36q149 : Aq149 36 = B 36 := hqq149.2.2.2 36 rfl
                show jt _ 187 [(0, .ref m), (1, .int (jI c))] [] (gmf m f0 Iq149 Aq149) _ _ _
                exact gm_vret d_GM_finishTerm_187 rfl (by
      have z2 := z0 (by omega)
      have z3 := z1 (by omega)
      have z4 := hs (J 13 - 1) (by omega) (by omega)
      refine ⟨rfl, hpq149, ?_, ?_, ?_, ?_, ?_⟩
      · rw [m13q149]; omega
      · rw [m13q149]; omega
      · rw [m13q149, m9q149, ev141]; omega
      · rw [m13q149, ev141]; omega
      · rw [m13q149, ev141]; omega)
            · skip
              refine jt_aload_n d_GM_finishTerm_114 rfl ?_
              refine gm_gA (k := 36) (a := m + 21) d_GM_finishTerm_115 GM_f121 (by decide) (by decide) rfl ?_
              refine jt_aload_n d_GM_finishTerm_118 rfl ?_
              refine gm_gI (k := 13) (v := J 13) d_GM_finishTerm_119 GM_f49 (by decide) rfl ?_
              refine jt_iconst d_GM_finishTerm_122 ?_
              refine jt_isub d_GM_finishTerm_123 ?_
              refine gm_ld0 (k := 36) (n := 320) (v := (B 36) ((J 13) - 1)) d_GM_finishTerm_124 rfl (by decide) (by decide) rfl rfl (by omega) (by omega) (by omega) rfl ?_
              refine jt_topi (fun v150 ev150 => ?_)
              have bv150 : 0 ≤ v150 ∧ v150 ≤ 6 := by rw [ev150]; exact hJ.2.1 36 ((J 13) - 1)
              rw [f36] at ev150
              refine jt_iconst d_GM_finishTerm_125 ?_
              refine jt_icmp_ne (t := 187) d_GM_finishTerm_126 rfl (by unfold jRi; omega) (by unfold jRi; omega) (fun c151 => ?_) (fun c151 => ?_)
              · skip
                exact gm_vret d_GM_finishTerm_187 rfl (⟨rfl, hJ, t2, t3, hf, hb, by omega⟩)
              · skip
                refine jt_aload_n d_GM_finishTerm_129 rfl ?_
                refine jt_dup d_GM_finishTerm_130 rfl ?_
                refine gm_gI (k := 13) (v := J 13) d_GM_finishTerm_131 GM_f49 (by decide) rfl ?_
                refine jt_iconst d_GM_finishTerm_134 ?_
                refine jt_isub d_GM_finishTerm_135 ?_
                refine jt_topi (fun v152 ev152 => ?_)
                refine gm_pI (k := 13) (v := v152) (J := va_up J 13 v152) d_GM_finishTerm_136 (GM_w49 _ rfl) (by decide) rfl rfl rfl ?_
                have p153 := gPo.I 13 v152 hJ rfl (show 0 ≤ v152 ∧ v152 ≤ 320 by omega)
                refine jt_aload_n d_GM_finishTerm_139 rfl ?_
                refine jt_dup d_GM_finishTerm_140 rfl ?_
                refine gm_gI (k := 9) (v := J 9) d_GM_finishTerm_141 GM_f37 (by decide) rfl ?_
                have rb154 : 0 ≤ J 9 ∧ J 9 ≤ 100 := p153.1 9
                refine jt_iconst d_GM_finishTerm_144 ?_
                refine jt_isub d_GM_finishTerm_145 ?_
                refine jt_topi (fun v155 ev155 => ?_)
                refine gm_pI (k := 9) (v := v155) (J := va_up (va_up J 13 v152) 9 v155) d_GM_finishTerm_146 (GM_w37 _ rfl) (by decide) rfl rfl rfl ?_
                have p156 := gPo.I 9 v155 p153 rfl (show 0 ≤ v155 ∧ v155 ≤ 100 by omega)
                refine jt_aload_n d_GM_finishTerm_149 rfl ?_
                refine jt_sipush d_GM_finishTerm_150 (by omega) ?_
                refine jt_aload_n d_GM_finishTerm_153 rfl ?_
                refine gm_gI (k := 9) (v := v155) d_GM_finishTerm_154 GM_f37 (by decide) rfl ?_
                refine jt_iadd d_GM_finishTerm_157 ?_
                refine jt_sipush d_GM_finishTerm_158 (by omega) ?_
                refine jt_aload_n d_GM_finishTerm_161 rfl ?_
                refine gm_gI (k := 9) (v := v155) d_GM_finishTerm_162 GM_f37 (by decide) rfl ?_
                refine jt_iadd d_GM_finishTerm_165 ?_
                refine jt_aload_n d_GM_finishTerm_166 rfl ?_
                refine gm_gA (k := 36) (a := m + 21) d_GM_finishTerm_167 GM_f121 (by decide) (by decide) rfl ?_
                refine jt_aload_n d_GM_finishTerm_170 rfl ?_
                refine gm_gI (k := 13) (v := v152) d_GM_finishTerm_171 GM_f49 (by decide) rfl ?_
                refine gm_ld0 (k := 36) (n := 320) (v := (B 36) v152) d_GM_finishTerm_174 rfl (by decide) (by decide) rfl rfl (by omega) (by omega) (by omega) rfl ?_
                refine jt_topi (fun v157 ev157 => ?_)
                have bv157 : 0 ≤ v157 ∧ v157 ≤ 6 := by rw [ev157]; exact p156.2.1 36 v152
                rw [f36] at ev157
                refine jt_iconst d_GM_finishTerm_175 ?_
                refine jt_icmp_ne (t := 183) d_GM_finishTerm_176 rfl (by unfold jRi; omega) (by unfold jRi; omega) (fun c158 => ?_) (fun c158 => ?_)
                · skip
                  refine jt_iconst d_GM_finishTerm_183 ?_
                  refine gct_call (Y := Y_GM_addForm) (As := [.int (jI (299 + v155)), .int (jI (300 + v155)), .int (jI (-1))]) (rest := []) d_GM_finishTerm_184 GM_c225 yk_GM_addForm yv_GM_addForm rfl (Nat.le_of_ble_eq_true rfl) rfl rfl (Nat.le_of_ble_eq_true rfl) (w_GM_addForm G _ m (299 + v155) (300 + v155) (-1) (va_up (va_up J 13 v152) 9 v155) B p156.1 p156.2.1 (by omega) (by omega) (by omega) (by omega) (by omega) (by unfold jRi; omega)) (fun rvq159 Iq159 Aq159 hq159 => ?_)
                  obtain ⟨rfl, hqq159⟩ := hq159
                  have hpq159 := gPo.trans p156 hqq159 rfl rfl
                  have f1q159 : Iq159 1 = I 1 := hpq159.2.2.1 1 rfl
                  have m9q159 : Iq159 9 = v155 := hqq159.2.2.1 9 rfl
                  have m13q159 : Iq159 13 = v152 := hqq159.2.2.1 13 rfl
                  have a36q159 : Aq159 36 = B 36 := hqq159.2.2.2 36 rfl
                  show jt _ 187 [(0, .ref m), (1, .int (jI c))] [] (gmf m f0 Iq159 Aq159) _ _ _
                  exact gm_vret d_GM_finishTerm_187 rfl (by
      have z2 := z0 (by omega)
      have z3 := z1 (by omega)
      have z4 := hs (J 13 - 1) (by omega) (by omega)
      refine ⟨rfl, hpq159, ?_, ?_, ?_, ?_, ?_⟩
      · rw [m13q159]; omega
      · rw [m13q159]; omega
      · rw [m13q159, m9q159, ev152]; omega
      · rw [m13q159, ev152]; omega
      · rw [m13q159, ev152]; omega)
                · skip
                  refine jt_iconst d_GM_finishTerm_179 ?_
                  refine jt_goto (t := 184) d_GM_finishTerm_180 rfl ?_
                  refine gct_call (Y := Y_GM_addForm) (As := [.int (jI (299 + v155)), .int (jI (300 + v155)), .int (jI 1)]) (rest := []) d_GM_finishTerm_184 GM_c225 yk_GM_addForm yv_GM_addForm rfl (Nat.le_of_ble_eq_true rfl) rfl rfl (Nat.le_of_ble_eq_true rfl) (w_GM_addForm G _ m (299 + v155) (300 + v155) 1 (va_up (va_up J 13 v152) 9 v155) B p156.1 p156.2.1 (by omega) (by omega) (by omega) (by omega) (by omega) (by unfold jRi; omega)) (fun rvq160 Iq160 Aq160 hq160 => ?_)
                  obtain ⟨rfl, hqq160⟩ := hq160
                  have hpq160 := gPo.trans p156 hqq160 rfl rfl
                  have f1q160 : Iq160 1 = I 1 := hpq160.2.2.1 1 rfl
                  have m9q160 : Iq160 9 = v155 := hqq160.2.2.1 9 rfl
                  have m13q160 : Iq160 13 = v152 := hqq160.2.2.1 13 rfl
                  have a36q160 : Aq160 36 = B 36 := hqq160.2.2.2 36 rfl
                  show jt _ 187 [(0, .ref m), (1, .int (jI c))] [] (gmf m f0 Iq160 Aq160) _ _ _
                  exact gm_vret d_GM_finishTerm_187 rfl (by
      have z2 := z0 (by omega)
      have z3 := z1 (by omega)
      have z4 := hs (J 13 - 1) (by omega) (by omega)
      refine ⟨rfl, hpq160, ?_, ?_, ?_, ?_, ?_⟩
      · rw [m13q160]; omega
      · rw [m13q160]; omega
      · rw [m13q160, m9q160, ev152]; omega
      · rw [m13q160, ev152]; omega
      · rw [m13q160, ev152]; omega)
        · skip
          refine jt_aload_n d_GM_finishTerm_38 rfl ?_
          refine jt_dup d_GM_finishTerm_39 rfl ?_
          refine gm_gI (k := 13) (v := J 13) d_GM_finishTerm_40 GM_f49 (by decide) rfl ?_
          refine jt_iconst d_GM_finishTerm_43 ?_
          refine jt_isub d_GM_finishTerm_44 ?_
          refine jt_topi (fun v161 ev161 => ?_)
          refine gm_pI (k := 13) (v := v161) (J := va_up J 13 v161) d_GM_finishTerm_45 (GM_w49 _ rfl) (by decide) rfl rfl rfl ?_
          have p162 := gPo.I 13 v161 hJ rfl (show 0 ≤ v161 ∧ v161 ≤ 320 by omega)
          refine jt_aload_n d_GM_finishTerm_48 rfl ?_
          refine jt_sipush d_GM_finishTerm_49 (by omega) ?_
          refine jt_aload_n d_GM_finishTerm_52 rfl ?_
          refine gm_gI (k := 9) (v := J 9) d_GM_finishTerm_53 GM_f37 (by decide) rfl ?_
          have rb163 : 0 ≤ J 9 ∧ J 9 ≤ 100 := p162.1 9
          refine jt_iadd d_GM_finishTerm_56 ?_
          refine jt_aload_n d_GM_finishTerm_57 rfl ?_
          refine gm_gA (k := 36) (a := m + 21) d_GM_finishTerm_58 GM_f121 (by decide) (by decide) rfl ?_
          refine jt_aload_n d_GM_finishTerm_61 rfl ?_
          refine gm_gI (k := 13) (v := v161) d_GM_finishTerm_62 GM_f49 (by decide) rfl ?_
          refine gm_ld0 (k := 36) (n := 320) (v := (B 36) v161) d_GM_finishTerm_65 rfl (by decide) (by decide) rfl rfl (by omega) (by omega) (by omega) rfl ?_
          refine jt_topi (fun v164 ev164 => ?_)
          have bv164 : 0 ≤ v164 ∧ v164 ≤ 6 := by rw [ev164]; exact p162.2.1 36 v161
          rw [f36] at ev164
          refine jt_iconst d_GM_finishTerm_66 ?_
          refine jt_icmp_ne (t := 76) d_GM_finishTerm_67 rfl (by unfold jRi; omega) (by unfold jRi; omega) (fun c165 => ?_) (fun c165 => ?_)
          · skip
            refine jt_aload_n d_GM_finishTerm_76 rfl ?_
            refine gm_gA (k := 38) (a := m + 23) d_GM_finishTerm_77 GM_f127 (by decide) (by decide) rfl ?_
            refine jt_aload_n d_GM_finishTerm_80 rfl ?_
            refine gm_gI (k := 13) (v := v161) d_GM_finishTerm_81 GM_f49 (by decide) rfl ?_
            refine gm_ld1 (k := 38) (n := 320) (v := (B 38) v161) d_GM_finishTerm_84 rfl (by decide) (by decide) rfl rfl (by omega) (by omega) (by omega) rfl ?_
            refine jt_topl (fun v166 ev166 => ?_)
            have bv166 : (-65536000) ≤ v166 ∧ v166 ≤ 65536000 := by rw [ev166]; exact p162.2.1 38 v161
            refine gct_call (Y := Y_GM_scale) (As := [.int (jI (299 + (J 9))), .long (jL v166)]) (rest := []) d_GM_finishTerm_85 GM_c221 yk_GM_scale yv_GM_scale rfl (Nat.le_of_ble_eq_true rfl) rfl rfl (Nat.le_of_ble_eq_true rfl) (w_GM_scale G _ m (299 + (J 9)) v166 (va_up J 13 v161) B p162.1 p162.2.1 (by omega) (by omega) (by omega)) (fun rvq167 Iq167 Aq167 hq167 => ?_)
            obtain ⟨rfl, hqq167⟩ := hq167
            have hpq167 := gPo.trans p162 hqq167 rfl rfl
            have f1q167 : Iq167 1 = I 1 := hpq167.2.2.1 1 rfl
            have m9q167 : Iq167 9 = J 9 := hqq167.2.2.1 9 rfl
            have m13q167 : Iq167 13 = v161 := hqq167.2.2.1 13 rfl
            have a36q167 : Aq167 36 = B 36 := hqq167.2.2.2 36 rfl
            show jt _ 88 [(0, .ref m), (1, .int (jI c))] [] (gmf m f0 Iq167 Aq167) _ _ _
            refine jt_goto (t := 0) d_GM_finishTerm_88 rfl ?_
            exact ih  Iq167 Aq167 hpq167 (by have z2 := z0 (by omega); have z3 := z1 (by omega); rw [m13q167]; omega) (by have z2 := z0 (by omega); have z3 := z1 (by omega); rw [m13q167]; omega) (by have z2 := z0 (by omega); have z3 := z1 (by omega); rw [m13q167, m9q167, ev161]; omega) (by have z2 := z0 (by omega); have z3 := z1 (by omega); rw [m13q167, ev161]; omega) (by omega)
          · skip
            refine jt_ldc2 (z := -65536) d_GM_finishTerm_70 GM_k219 ?_
            refine jt_goto (t := 85) d_GM_finishTerm_73 rfl ?_
            refine gct_call (Y := Y_GM_scale) (As := [.int (jI (299 + (J 9))), .long (jL (-65536))]) (rest := []) d_GM_finishTerm_85 GM_c221 yk_GM_scale yv_GM_scale rfl (Nat.le_of_ble_eq_true rfl) rfl rfl (Nat.le_of_ble_eq_true rfl) (w_GM_scale G _ m (299 + (J 9)) (-65536) (va_up J 13 v161) B p162.1 p162.2.1 (by omega) (by omega) (by omega)) (fun rvq168 Iq168 Aq168 hq168 => ?_)
            obtain ⟨rfl, hqq168⟩ := hq168
            have hpq168 := gPo.trans p162 hqq168 rfl rfl
            have f1q168 : Iq168 1 = I 1 := hpq168.2.2.1 1 rfl
            have m9q168 : Iq168 9 = J 9 := hqq168.2.2.1 9 rfl
            have m13q168 : Iq168 13 = v161 := hqq168.2.2.1 13 rfl
            have a36q168 : Aq168 36 = B 36 := hqq168.2.2.2 36 rfl
            show jt _ 88 [(0, .ref m), (1, .int (jI c))] [] (gmf m f0 Iq168 Aq168) _ _ _
            refine jt_goto (t := 0) d_GM_finishTerm_88 rfl ?_
            exact ih  Iq168 Aq168 hpq168 (by have z2 := z0 (by omega); have z3 := z1 (by omega); rw [m13q168]; omega) (by have z2 := z0 (by omega); have z3 := z1 (by omega); rw [m13q168]; omega) (by have z2 := z0 (by omega); have z3 := z1 (by omega); rw [m13q168, m9q168, ev161]; omega) (by have z2 := z0 (by omega); have z3 := z1 (by omega); rw [m13q168, ev161]; omega) (by omega)
set_option maxRecDepth 100000 in
set_option maxHeartbeats 1000000 in
theorem w_GM_finishTerm (G : jG) (d m : Nat) (c : Int) (I : Nat → Int) (A : Nat → Int → Int) (hI : gSI I) (hA : gSA A) (c0 : c = 0) (h13 : 0 ≤ I 13) (hs : gSt (A 36) (I 13)) (hf0 : I 9 = gC (A 36) (I 13) + 1) (hb0 : gBr (A 36) (I 13) ≤ 8) : gct G Y_GM_finishTerm (d + 3) m [.int (jI c)] I A (fun (rv : Option Value) (I2 : Nat → Int) (A2 : Nat → Int → Int) => rv = none ∧ gPo [9, 13, 15] [35] I A I2 A2 ∧ I2 13 ≤ I 13 ∧ 0 ≤ I2 13 ∧ I2 9 = gC (A 36) (I2 13) + 1 ∧ gBr (A 36) (I2 13) = gBr (A 36) (I 13) ∧ (I2 13 = 0 ∨ A 36 (I2 13 - 1) = 0 ∨ A 36 (I2 13 - 1) = 5 ∨ A 36 (I2 13 - 1) = 6)) := by
  refine gct_of (by decide) (Nat.le_of_ble_eq_true rfl) (fun f0 sz => ?_)
  show jt _ 0 [(0, .ref m), (1, .int (jI c))] [] _ _ _ _
  have q13 : 0 ≤ I 13 ∧ I 13 ≤ 320 := hI 13
  have hz0 : gPo [9, 13, 15] [35] I A I A := gPo.refl hI hA
  exact l0_GM_finishTermw G d m c I A hI hA c0 h13 hs hf0 hb0 f0 sz  321  I A hz0 (Int.le_refl _) h13 hf0 rfl (by omega)
set_option maxRecDepth 100000 in
set_option maxHeartbeats 1000000 in
theorem l36_GM_finishBetweenw (G : jG) (d m : Nat)  (I : Nat → Int) (A : Nat → Int → Int) (hI : gSI I) (hA : gSA A) (h13 : 1 ≤ I 13) (h9 : 2 ≤ I 9 ∧ I 9 ≤ 30) (f0 : jF) (sz : Nat) (t : Int) (ht : -9223372036854775808 ≤ t ∧ t ≤ 9223372036854775807) : ∀ (n9 : Nat) (i : Int) (J : Nat → Int) (B : Nat → Int → Int), gPo [9, 13, 15] [35] I A J B → (0 ≤ i) → (i ≤ 13) → (J 13 = I 13 - 1) → (J 9 = I 9 - 1) → 13 - i < (n9 : Int) → jt (jm G Y_GM_finishBetween (gR (d + 1)) (gQ m f0 sz (fun (rv : Option Value) (I2 : Nat → Int) (A2 : Nat → Int → Int) => rv = none ∧ gPo [9, 13, 15] [35] I A I2 A2 ∧ I2 13 = I 13 - 1 ∧ I2 9 = I 9 - 1))) 36 [(0, .ref m), (1, .long (jL t)), (3, .int (jI i))] [] (gmf m f0 J B) sz 0 0 := by
  have q13 : 0 ≤ I 13 ∧ I 13 ≤ 320 := hI 13
  intro n9
  induction n9 with
  | zero =>
    intro i J B hJ i0 i1 j13 j9 hmeas
    exfalso
    omega
  | succ n9 ih =>
    intro i J B hJ i0 i1 j13 j9 hmeas
    refine jt_iload_n d_GM_finishBetween_36 rfl ?_
    refine jt_bipush d_GM_finishBetween_37 (by omega) ?_
    refine jt_icmp_ge (t := 140) d_GM_finishBetween_39 rfl (by unfold jRi; omega) (by unfold jRi; omega) (fun c101 => ?_) (fun c101 => ?_)
    · skip
      exact gm_vret d_GM_finishBetween_140 rfl (⟨rfl, hJ, j13, j9⟩)
    · skip
      refine jt_aload_n d_GM_finishBetween_42 rfl ?_
      refine gm_gA (k := 35) (a := m + 20) d_GM_finishBetween_43 GM_f118 (by decide) (by decide) rfl ?_
      refine jt_sipush d_GM_finishBetween_46 (by omega) ?_
      refine jt_aload_n d_GM_finishBetween_49 rfl ?_
      refine gm_gI (k := 9) (v := J 9) d_GM_finishBetween_50 GM_f37 (by decide) rfl ?_
      have rb102 : 0 ≤ J 9 ∧ J 9 ≤ 100 := hJ.1 9
      refine jt_iadd d_GM_finishBetween_53 ?_
      refine jt_bipush d_GM_finishBetween_54 (by omega) ?_
      refine jt_imul d_GM_finishBetween_56 ?_
      refine jt_iload_n d_GM_finishBetween_57 rfl ?_
      refine jt_iadd d_GM_finishBetween_58 ?_
      refine gm_ld1 (k := 35) (n := 5200) (v := (B 35) (((299 + (J 9)) * 13) + i)) d_GM_finishBetween_59 rfl (by decide) (by decide) rfl rfl (by omega) (by omega) (by omega) rfl ?_
      refine jt_topl (fun v103 ev103 => ?_)
      have bv103 : (-9223372036854775808) ≤ v103 ∧ v103 ≤ 9223372036854775807 := by rw [ev103]; exact hJ.2.1 35 (((299 + (J 9)) * 13) + i)
      refine jt_lstore (L' := [(0, .ref m), (1, .long (jL t)), (3, .int (jI i)), (4, .long (jL v103))]) d_GM_finishBetween_60 (Nat.le_of_ble_eq_true rfl) rfl ?_
      refine jt_aload_n d_GM_finishBetween_62 rfl ?_
      refine gm_gA (k := 35) (a := m + 20) d_GM_finishBetween_63 GM_f118 (by decide) (by decide) rfl ?_
      refine jt_sipush d_GM_finishBetween_66 (by omega) ?_
      refine jt_aload_n d_GM_finishBetween_69 rfl ?_
      refine gm_gI (k := 9) (v := J 9) d_GM_finishBetween_70 GM_f37 (by decide) rfl ?_
      refine jt_iadd d_GM_finishBetween_73 ?_
      refine jt_bipush d_GM_finishBetween_74 (by omega) ?_
      refine jt_imul d_GM_finishBetween_76 ?_
      refine jt_iload_n d_GM_finishBetween_77 rfl ?_
      refine jt_iadd d_GM_finishBetween_78 ?_
      refine gm_ld1 (k := 35) (n := 5200) (v := (B 35) (((300 + (J 9)) * 13) + i)) d_GM_finishBetween_79 rfl (by decide) (by decide) rfl rfl (by omega) (by omega) (by omega) rfl ?_
      refine jt_topl (fun v104 ev104 => ?_)
      have bv104 : (-9223372036854775808) ≤ v104 ∧ v104 ≤ 9223372036854775807 := by rw [ev104]; exact hJ.2.1 35 (((300 + (J 9)) * 13) + i)
      refine jt_lload d_GM_finishBetween_80 rfl ?_
      refine jt_lsub d_GM_finishBetween_82 ?_
      refine jt_toplw (fun v105 bv105 => ?_)
      refine jt_lload_n d_GM_finishBetween_83 rfl ?_
      refine jt_lmul d_GM_finishBetween_84 ?_
      refine jt_toplw (fun v106 bv106 => ?_)
      refine jt_lstore (L' := [(0, .ref m), (1, .long (jL t)), (3, .int (jI i)), (4, .long (jL v103)), (6, .long (jL v106))]) d_GM_finishBetween_85 (Nat.le_of_ble_eq_true rfl) rfl ?_
      refine jt_lload d_GM_finishBetween_87 rfl ?_
      refine jt_ldc2 (z := 16) d_GM_finishBetween_89 GM_k229 ?_
      refine jt_lrem d_GM_finishBetween_92 (by unfold jRl; omega) (by unfold jRl; omega) (by omega) ?_
      have td107 := gtd v106 16 (by omega)
      refine jt_toplw (fun v108 bv108 => ?_)
      refine jt_lconst (z := 0) d_GM_finishBetween_93 (by decide) ?_
      refine jt_lif_eq (t := 103) d_GM_finishBetween_94 d_GM_finishBetween_95 rfl (by unfold jRl; omega) (by unfold jRl; omega) (fun c109 => ?_) (fun c109 => ?_)
      · skip
        refine jt_aload_n d_GM_finishBetween_103 rfl ?_
        refine gm_gA (k := 35) (a := m + 20) d_GM_finishBetween_104 GM_f118 (by decide) (by decide) rfl ?_
        refine jt_sipush d_GM_finishBetween_107 (by omega) ?_
        refine jt_aload_n d_GM_finishBetween_110 rfl ?_
        refine gm_gI (k := 9) (v := J 9) d_GM_finishBetween_111 GM_f37 (by decide) rfl ?_
        refine jt_iadd d_GM_finishBetween_114 ?_
        refine jt_bipush d_GM_finishBetween_115 (by omega) ?_
        refine jt_imul d_GM_finishBetween_117 ?_
        refine jt_iload_n d_GM_finishBetween_118 rfl ?_
        refine jt_iadd d_GM_finishBetween_119 ?_
        refine jt_aload_n d_GM_finishBetween_120 rfl ?_
        refine jt_lload d_GM_finishBetween_121 rfl ?_
        refine jt_lload d_GM_finishBetween_123 rfl ?_
        refine jt_ldc2 (z := 16) d_GM_finishBetween_125 GM_k229 ?_
        refine jt_ldiv d_GM_finishBetween_128 (by unfold jRl; omega) (by unfold jRl; omega) (by omega) ?_
        have td110 := gtd v106 16 (by omega)
        refine jt_toplw (fun v111 bv111 => ?_)
        refine jt_ladd d_GM_finishBetween_129 ?_
        refine jt_toplw (fun v112 bv112 => ?_)
        refine gct_call (Y := Y_GM_kept) (As := [.long (jL v112)]) (rest := [.int (jI (((299 + (J 9)) * 13) + i)), .ref (m + 20)]) d_GM_finishBetween_130 GM_c185 yk_GM_kept yv_GM_kept rfl (Nat.le_of_ble_eq_true rfl) rfl rfl (Nat.le_of_ble_eq_true rfl) (w_GM_kept G _ m v112 J B hJ.1 hJ.2.1 (by omega)) (fun rvq113 Iq113 Aq113 hq113 => ?_)
        obtain ⟨yq113, rfl, ryq113, hqq113⟩ := hq113
        have hpq113 := gPo.trans hJ hqq113 rfl rfl
        have f1q113 : Iq113 1 = I 1 := hpq113.2.2.1 1 rfl
        have m9q113 : Iq113 9 = J 9 := hqq113.2.2.1 9 rfl
        have m13q113 : Iq113 13 = J 13 := hqq113.2.2.1 13 rfl
        show jt _ 133 [(0, .ref m), (1, .long (jL t)), (3, .int (jI i)), (4, .long (jL v103)), (6, .long (jL v106))] [.long (jL yq113), .int (jI (((299 + (J 9)) * 13) + i)), .ref (m + 20)] (gmf m f0 Iq113 Aq113) _ _ _
        refine gm_st1 (k := 35) (n := 5200) (B := va_up Aq113 35 (ju (Aq113 35) (((299 + (J 9)) * 13) + i) yq113)) d_GM_finishBetween_133 rfl (by decide) (by decide) rfl rfl (by omega) (by omega) (by omega) rfl ?_
        have p114 := gPo.A 35 (ju (Aq113 35) (((299 + (J 9)) * 13) + i) yq113) hpq113 rfl (gju (hpq113.2.1 35) (show -9223372036854775808 ≤ yq113 ∧ yq113 ≤ 9223372036854775807 by omega))
        refine jt_iinc (L' := [(0, .ref m), (1, .long (jL t)), (3, .int (jI (i + 1))), (4, .long (jL v103)), (6, .long (jL v106))]) d_GM_finishBetween_134 rfl (Nat.le_of_ble_eq_true rfl) rfl ?_
        refine jt_goto (t := 36) d_GM_finishBetween_137 rfl ?_
        refine jt_sub (L' := [(0, .ref m), (1, .long (jL t)), (3, .int (jI (i + 1)))]) (fun _ h => List.mem_append_left [(4, Value.long (jL v103)), (6, Value.long (jL v106))] h) ?_
        exact ih (i + 1) Iq113 (va_up Aq113 35 (ju (Aq113 35) (((299 + (J 9)) * 13) + i) yq113)) p114 (by omega) (by omega) (show Iq113 13 = I 13 - 1 by omega) (show Iq113 9 = I 9 - 1 by omega) (by omega)
      · skip
        refine jt_aload_n d_GM_finishBetween_98 rfl ?_
        refine jt_iconst d_GM_finishBetween_99 ?_
        refine gm_pI (k := 15) (v := 1) (J := va_up J 15 1) d_GM_finishBetween_100 (GM_w55 _ rfl) (by decide) (jnz (by omega)) rfl rfl ?_
        have p115 := gPo.I 15 1 hJ rfl (show 0 ≤ 1 ∧ 1 ≤ 1 by omega)
        refine jt_aload_n d_GM_finishBetween_103 rfl ?_
        refine gm_gA (k := 35) (a := m + 20) d_GM_finishBetween_104 GM_f118 (by decide) (by decide) rfl ?_
        refine jt_sipush d_GM_finishBetween_107 (by omega) ?_
        refine jt_aload_n d_GM_finishBetween_110 rfl ?_
        refine gm_gI (k := 9) (v := J 9) d_GM_finishBetween_111 GM_f37 (by decide) rfl ?_
        refine jt_iadd d_GM_finishBetween_114 ?_
        refine jt_bipush d_GM_finishBetween_115 (by omega) ?_
        refine jt_imul d_GM_finishBetween_117 ?_
        refine jt_iload_n d_GM_finishBetween_118 rfl ?_
        refine jt_iadd d_GM_finishBetween_119 ?_
        refine jt_aload_n d_GM_finishBetween_120 rfl ?_
        refine jt_lload d_GM_finishBetween_121 rfl ?_
        refine jt_lload d_GM_finishBetween_123 rfl ?_
        refine jt_ldc2 (z := 16) d_GM_finishBetween_125 GM_k229 ?_
        refine jt_ldiv d_GM_finishBetween_128 (by unfold jRl; omega) (by unfold jRl; omega) (by omega) ?_
        have td116 := gtd v106 16 (by omega)
        refine jt_toplw (fun v117 bv117 => ?_)
        refine jt_ladd d_GM_finishBetween_129 ?_
        refine jt_toplw (fun v118 bv118 => ?_)
        refine gct_call (Y := Y_GM_kept) (As := [.long (jL v118)]) (rest := [.int (jI (((299 + (J 9)) * 13) + i)), .ref (m + 20)]) d_GM_finishBetween_130 GM_c185 yk_GM_kept yv_GM_kept rfl (Nat.le_of_ble_eq_true rfl) rfl rfl (Nat.le_of_ble_eq_true rfl) (w_GM_kept G _ m v118 (va_up J 15 1) B p115.1 p115.2.1 (by omega)) (fun rvq119 Iq119 Aq119 hq119 => ?_)
        obtain ⟨yq119, rfl, ryq119, hqq119⟩ := hq119
        have hpq119 := gPo.trans p115 hqq119 rfl rfl
        have f1q119 : Iq119 1 = I 1 := hpq119.2.2.1 1 rfl
        have m9q119 : Iq119 9 = J 9 := hqq119.2.2.1 9 rfl
        have m13q119 : Iq119 13 = J 13 := hqq119.2.2.1 13 rfl
        show jt _ 133 [(0, .ref m), (1, .long (jL t)), (3, .int (jI i)), (4, .long (jL v103)), (6, .long (jL v106))] [.long (jL yq119), .int (jI (((299 + (J 9)) * 13) + i)), .ref (m + 20)] (gmf m f0 Iq119 Aq119) _ _ _
        refine gm_st1 (k := 35) (n := 5200) (B := va_up Aq119 35 (ju (Aq119 35) (((299 + (J 9)) * 13) + i) yq119)) d_GM_finishBetween_133 rfl (by decide) (by decide) rfl rfl (by omega) (by omega) (by omega) rfl ?_
        have p120 := gPo.A 35 (ju (Aq119 35) (((299 + (J 9)) * 13) + i) yq119) hpq119 rfl (gju (hpq119.2.1 35) (show -9223372036854775808 ≤ yq119 ∧ yq119 ≤ 9223372036854775807 by omega))
        refine jt_iinc (L' := [(0, .ref m), (1, .long (jL t)), (3, .int (jI (i + 1))), (4, .long (jL v103)), (6, .long (jL v106))]) d_GM_finishBetween_134 rfl (Nat.le_of_ble_eq_true rfl) rfl ?_
        refine jt_goto (t := 36) d_GM_finishBetween_137 rfl ?_
        refine jt_sub (L' := [(0, .ref m), (1, .long (jL t)), (3, .int (jI (i + 1)))]) (fun _ h => List.mem_append_left [(4, Value.long (jL v103)), (6, Value.long (jL v106))] h) ?_
        exact ih (i + 1) Iq119 (va_up Aq119 35 (ju (Aq119 35) (((299 + (J 9)) * 13) + i) yq119)) p120 (by omega) (by omega) (show Iq119 13 = I 13 - 1 by omega) (show Iq119 9 = I 9 - 1 by omega) (by omega)
set_option maxRecDepth 100000 in
set_option maxHeartbeats 1000000 in
theorem w_GM_finishBetween (G : jG) (d m : Nat)  (I : Nat → Int) (A : Nat → Int → Int) (hI : gSI I) (hA : gSA A) (h13 : 1 ≤ I 13) (h9 : 2 ≤ I 9 ∧ I 9 ≤ 30) : gct G Y_GM_finishBetween (d + 1) m [] I A (fun (rv : Option Value) (I2 : Nat → Int) (A2 : Nat → Int → Int) => rv = none ∧ gPo [9, 13, 15] [35] I A I2 A2 ∧ I2 13 = I 13 - 1 ∧ I2 9 = I 9 - 1) := by
  refine gct_of (by decide) (Nat.le_of_ble_eq_true rfl) (fun f0 sz => ?_)
  show jt _ 0 [(0, .ref m)] [] _ _ _ _
  have q13 : 0 ≤ I 13 ∧ I 13 ≤ 320 := hI 13
  have hz0 : gPo [9, 13, 15] [35] I A I A := gPo.refl hI hA
  refine jt_aload_n d_GM_finishBetween_0 rfl ?_
  refine jt_dup d_GM_finishBetween_1 rfl ?_
  refine gm_gI (k := 13) (v := I 13) d_GM_finishBetween_2 GM_f49 (by decide) rfl ?_
  have rb1 : 0 ≤ I 13 ∧ I 13 ≤ 320 := hz0.1 13
  refine jt_iconst d_GM_finishBetween_5 ?_
  refine jt_isub d_GM_finishBetween_6 ?_
  refine jt_topi (fun v2 ev2 => ?_)
  refine gm_pI (k := 13) (v := v2) (J := va_up I 13 v2) d_GM_finishBetween_7 (GM_w49 _ rfl) (by decide) rfl rfl rfl ?_
  have p3 := gPo.I 13 v2 hz0 rfl (show 0 ≤ v2 ∧ v2 ≤ 320 by omega)
  refine jt_aload_n d_GM_finishBetween_10 rfl ?_
  refine jt_dup d_GM_finishBetween_11 rfl ?_
  refine gm_gI (k := 9) (v := I 9) d_GM_finishBetween_12 GM_f37 (by decide) rfl ?_
  have rb4 : 0 ≤ I 9 ∧ I 9 ≤ 100 := p3.1 9
  refine jt_iconst d_GM_finishBetween_15 ?_
  refine jt_isub d_GM_finishBetween_16 ?_
  refine jt_topi (fun v5 ev5 => ?_)
  refine gm_pI (k := 9) (v := v5) (J := va_up (va_up I 13 v2) 9 v5) d_GM_finishBetween_17 (GM_w37 _ rfl) (by decide) rfl rfl rfl ?_
  have p6 := gPo.I 9 v5 p3 rfl (show 0 ≤ v5 ∧ v5 ≤ 100 by omega)
  refine jt_aload_n d_GM_finishBetween_20 rfl ?_
  refine gm_gA (k := 38) (a := m + 23) d_GM_finishBetween_21 GM_f127 (by decide) (by decide) rfl ?_
  refine jt_aload_n d_GM_finishBetween_24 rfl ?_
  refine gm_gI (k := 13) (v := v2) d_GM_finishBetween_25 GM_f49 (by decide) rfl ?_
  refine gm_ld1 (k := 38) (n := 320) (v := (A 38) v2) d_GM_finishBetween_28 rfl (by decide) (by decide) rfl rfl (by omega) (by omega) (by omega) rfl ?_
  refine jt_topl (fun v7 ev7 => ?_)
  have bv7 : (-65536000) ≤ v7 ∧ v7 ≤ 65536000 := by rw [ev7]; exact p6.2.1 38 v2
  refine jt_ldc2 (z := 4096) d_GM_finishBetween_29 GM_k211 ?_
  refine jt_ldiv d_GM_finishBetween_32 (by unfold jRl; omega) (by unfold jRl; omega) (by omega) ?_
  have td8 := gtd v7 4096 (by omega)
  refine jt_toplw (fun v9 bv9 => ?_)
  refine jt_lstore_n (L' := [(0, .ref m), (1, .long (jL v9))]) d_GM_finishBetween_33 (Nat.le_of_ble_eq_true rfl) rfl ?_
  refine jt_iconst d_GM_finishBetween_34 ?_
  refine jt_istore_n (L' := [(0, .ref m), (1, .long (jL v9)), (3, .int (jI 0))]) d_GM_finishBetween_35 (Nat.le_of_ble_eq_true rfl) rfl ?_
  exact l36_GM_finishBetweenw G d m  I A hI hA h13 h9 f0 sz v9 ((by omega)) 14 0 (va_up (va_up I 13 v2) 9 v5) A p6 (by omega) (by omega) (show v2 = I 13 - 1 by omega) (show v5 = I 9 - 1 by omega) (by omega)

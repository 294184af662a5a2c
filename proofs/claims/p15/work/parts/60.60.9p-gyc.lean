set_option maxRecDepth 100000 in
set_option maxHeartbeats 1000000 in
theorem l122_GM_pathy (G : jG) (d m : Nat) (f : Int) (I : Nat → Int) (A : Nat → Int → Int) (hT : gT I A) (hI : gSI I) (hA : gSA A) (hf : 0 ≤ f ∧ f ≤ 1) (hw : I 4 < I 1) (z5 : I 5 = 0) (h13 : I 13 = 0) (z15 : I 15 = 0) (V9 : Int → Int → Int) (hV : gVr V9 A) (rp : QR) (hR : PH (I 1) (A 22) (A 23) V9 (I 4 + 1) rp) (e9 : Int) (hE : ∀ (q : Int) (L : List Int) (fs : List (Int → Int)) (g : Prop), rp = .ok q L fs g → xW (I 1) (A 22) (A 23) q 6 → g → L.length ≤ 12 → TN fs e9) (f0 : jF) (sz : Nat) (b : Int) (b0 : 0 ≤ b ∧ b ≤ 1) (K12 : Int) (P4 : Int) (kp : 1 ≤ K12 ∧ K12 ≤ P4 + 1) (hout : ∀ (i : Int) (J : Nat → Int) (B : Nat → Int → Int), gPo [4, 5, 6, 9, 10, 11, 12, 13, 14, 15] [35, 36, 37, 38, 39, 40, 41, 42, 43, 44, 45] I A J B → (B 45 = A 45) → (J 12 = K12) → (0 ≤ J 11 ∧ J 11 ≤ 74) → (J 12 ≤ 12 → J 11 ≤ 2 + 6 * (J 12 - 1) + 2 * i) → (J 5 = 0 → I 5 = 0 ∧ J 13 = 0 ∧ I 4 < J 4 ∧ P4 + i ≤ J 4) → (0 ≤ i ∧ i ≤ 3 ∧ (b = 0 → i ≤ 1)) → (Hd (J 5 = 0 → rPc (I 1) (A 22) (A 23) V9 b ((if b = 1 then (3 : Int) else 1) - i).toNat rp J B)) → (Hd (J 5 ≠ 0 → rp = .err (J 5) (J 6))) → (J 5 = 0 → 1 ≤ i) → (Hd (J 5 = 0 → (if b = 1 then (3 : Int) else 1) ≤ i)) → jt (jm G Y_GM_path (gR (d + 6)) (gQ m f0 sz (fun (rv : Option Value) (I2 : Nat → Int) (A2 : Nat → Int → Int) => rv = none ∧ gPo [4, 5, 6, 9, 10, 11, 12, 13, 14, 15] [35, 36, 37, 38, 39, 40, 41, 42, 43, 44, 45] I A I2 A2 ∧ (I2 5 = 0 → I 4 < I2 4) ∧ phQ (I 1) (A 22) (A 23) rp e9 f A I2 A2))) 201 [(0, .ref m), (1, .int (jI f)), (2, .int (jI b)), (3, .int (jI i))] [] (gmf m f0 J B) sz 0 0) : ∀ (n9 : Nat) (i : Int) (J : Nat → Int) (B : Nat → Int → Int), gPo [4, 5, 6, 9, 10, 11, 12, 13, 14, 15] [35, 36, 37, 38, 39, 40, 41, 42, 43, 44, 45] I A J B → (B 45 = A 45) → (J 12 = K12) → (0 ≤ J 11 ∧ J 11 ≤ 74) → (J 12 ≤ 12 → J 11 ≤ 2 + 6 * (J 12 - 1) + 2 * i) → (J 5 = 0 → I 5 = 0 ∧ J 13 = 0 ∧ I 4 < J 4 ∧ P4 + i ≤ J 4) → (0 ≤ i ∧ i ≤ 3 ∧ (b = 0 → i ≤ 1)) → (Hd (J 5 = 0 → rPc (I 1) (A 22) (A 23) V9 b ((if b = 1 then (3 : Int) else 1) - i).toNat rp J B)) → (Hd (J 5 ≠ 0 → rp = .err (J 5) (J 6))) → 4 - i < (n9 : Int) → jt (jm G Y_GM_path (gR (d + 6)) (gQ m f0 sz (fun (rv : Option Value) (I2 : Nat → Int) (A2 : Nat → Int → Int) => rv = none ∧ gPo [4, 5, 6, 9, 10, 11, 12, 13, 14, 15] [35, 36, 37, 38, 39, 40, 41, 42, 43, 44, 45] I A I2 A2 ∧ (I2 5 = 0 → I 4 < I2 4) ∧ phQ (I 1) (A 22) (A 23) rp e9 f A I2 A2))) 122 [(0, .ref m), (1, .int (jI f)), (2, .int (jI b)), (3, .int (jI i))] [] (gmf m f0 J B) sz 0 0 := by
  have r4 : 0 ≤ I 4 ∧ I 4 ≤ 300 := hI 4
  have r5 : -13 ≤ I 5 ∧ I 5 ≤ 0 := hI 5
  have r13 : 0 ≤ I 13 ∧ I 13 ≤ 320 := hI 13
  obtain ⟨r0, hPA0, he0, hk0⟩ := PH_first hR
  have t0 := hT.1
  have t1 := hT.2.1
  intro n9
  induction n9 with
  | zero =>
    intro i J B hJ h45 l0 q0 q1 k5 i0 hc hr hmeas
    have q4 : 0 ≤ J 4 ∧ J 4 ≤ 300 := hJ.1 4
    have q5 : -13 ≤ J 5 ∧ J 5 ≤ 0 := hJ.1 5
    have q12 : 0 ≤ J 12 ∧ J 12 ≤ 300 := hJ.1 12
    have q13 : 0 ≤ J 13 ∧ J 13 ≤ 320 := hJ.1 13
    exfalso
    omega
  | succ n9 ih =>
    intro i J B hJ h45 l0 q0 q1 k5 i0 hc hr hmeas
    have f1 : J 1 = I 1 := hJ.2.2.1 1 rfl
    have q4 : 0 ≤ J 4 ∧ J 4 ≤ 300 := hJ.1 4
    have q5 : -13 ≤ J 5 ∧ J 5 ≤ 0 := hJ.1 5
    have q12 : 0 ≤ J 12 ∧ J 12 ≤ 300 := hJ.1 12
    have q13 : 0 ≤ J 13 ∧ J 13 ≤ 320 := hJ.1 13
    refine jt_iload_n d_GM_path_122 rfl ?_
    refine jt_iload_n d_GM_path_123 rfl ?_
    refine jt_if_eq (t := 131) d_GM_path_124 rfl (by unfold jRi; omega) (fun c101 => ?_) (fun c101 => ?_)
    · skip
      refine jt_iconst d_GM_path_131 ?_
      refine jt_icmp_ge (t := 201) d_GM_path_132 rfl (by unfold jRi; omega) (by unfold jRi; omega) (fun c102 => ?_) (fun c102 => ?_)
      · skip
        exact hout i J B hJ h45 l0 q0 q1 k5 i0 hc hr (by omega) (fun z => by first | (rw [if_pos (by omega)]; omega) | (rw [if_neg (by omega)]; omega))
      · skip
        refine jt_aload_n d_GM_path_135 rfl ?_
        refine gm_gI (k := 5) (v := J 5) d_GM_path_136 GM_f25 (by decide) rfl ?_
        have rb103 : -13 ≤ J 5 ∧ J 5 ≤ 0 := hJ.1 5
        refine jt_if_ne (t := 201) d_GM_path_139 rfl (by unfold jRi; omega) (fun c104 => ?_) (fun c104 => ?_)
        · skip
          exact hout i J B hJ h45 l0 q0 q1 k5 i0 hc hr (by omega) (fun z => by first | (rw [if_pos (by omega)]; omega) | (rw [if_neg (by omega)]; omega))
        · skip
          have z5J : J 5 = 0 := by omega
          obtain ⟨L9, fs9, h12, hpc, hrw, hcv⟩ := hc z5J
          refine jt_aload_n d_GM_path_142 rfl ?_
          refine jt_iload_n d_GM_path_143 rfl ?_
          refine jt_if_eq (t := 152) d_GM_path_144 rfl (by unfold jRi; omega) (fun c105 => ?_) (fun c105 => ?_)
          · skip
            refine jt_bipush d_GM_path_152 (by omega) ?_
            rw [show ((if b = 1 then (3 : Int) else 1) - i).toNat = ((if b = 1 then (3 : Int) else 1) - (i + 1)).toNat + 1 by rw [if_neg (by omega)]; omega] at hpc
            have hpd : (¬ xW (I 1) (A 22) (A 23) (J 4) (if b = 1 then 7 else 8) → rp = .err (-8) (J 4)) ∧ (xW (I 1) (A 22) (A 23) (J 4) (if b = 1 then 7 else 8) → ∃ r1 : PRs, PA (I 1) (A 22) (A 23) V9 (J 4 + 1) (J 15 = 0) r1 ∧ (∀ c pl, r1 = .err c pl → rp = .err c pl) ∧ ∀ q F1 F2 g2, r1 = .ok q F1 F2 g2 → PC (I 1) (A 22) (A 23) V9 b ((if b = 1 then (3 : Int) else 1) - (i + 1)).toNat q L9 (fs9 ++ [F1, F2]) g2 rp) := hpc
            rw [if_neg (show ¬ b = 1 by omega)] at hpd
            clear hpc
            replace hpd : Hd _ := hpd
            refine gct_call (Y := Y_GM_word) (As := [.int (jI 8)]) (rest := []) d_GM_path_154 GM_c201 yk_GM_word yv_GM_word rfl (Nat.le_of_ble_eq_true rfl) rfl rfl (Nat.le_of_ble_eq_true rfl) (c_GM_word G _ m 8 J B (gP_of hJ.1 (gT_of hJ hT rfl rfl rfl)) (by unfold jRi; omega)) (fun rvq106 Iq106 Aq106 hq106 => ?_)
            obtain ⟨haq106, hbq106, hIq106, hAq106⟩ := hq106
            rw [hIq106, hAq106]
            by_cases gq106 : xV (J 1) (B 22) (B 23) (J 4) 8
            · skip
              obtain rfl := haq106 gq106
              clear haq106 hbq106 hIq106 hAq106
              have tq106 : J 1 ≤ 300 := (gT_of hJ hT rfl rfl rfl).2.1
              have kq106 : (J 4) < (J 1) ∧ B 22 (J 4) = 4 ∧ B 23 (J 4) = 8 := gq106
              show jt _ 157 [(0, .ref m), (1, .int (jI f)), (2, .int (jI b)), (3, .int (jI i))] [.int (jI 1)] (gmf m f0 J B) _ _ _
              refine jt_if_eq (t := 173) d_GM_path_157 rfl (by unfold jRi; omega) (fun c107 => ?_) (fun c107 => ?_)
              · skip
                exfalso
                omega
              · skip
                obtain ⟨r1, hPA1, he1, hk1⟩ := hpd.2 (by have h9 := gq106; unfold xV at h9; rw [f1, hJ.2.2.2 22 rfl, hJ.2.2.2 23 rfl] at h9; exact h9)
                refine jt_aload_n d_GM_path_160 rfl ?_
                refine jt_dup d_GM_path_161 rfl ?_
                refine gm_gI (k := 4) (v := J 4) d_GM_path_162 GM_f22 (by decide) rfl ?_
                have rb108 : 0 ≤ J 4 ∧ J 4 ≤ 300 := hJ.1 4
                refine jt_iconst d_GM_path_165 ?_
                refine jt_iadd d_GM_path_166 ?_
                refine jt_topi (fun v109 ev109 => ?_)
                refine gm_pI (k := 4) (v := v109) (J := va_up J 4 v109) d_GM_path_167 (GM_w22 _ rfl) (by decide) rfl rfl rfl ?_
                have p110 := gPo.I 4 v109 hJ rfl (show 0 ≤ v109 ∧ v109 ≤ 300 by omega)
                refine jt_goto (t := 184) d_GM_path_170 rfl ?_
                refine jt_aload_n d_GM_path_184 rfl ?_
                refine gm_gI (k := 5) (v := J 5) d_GM_path_185 GM_f25 (by decide) rfl ?_
                refine jt_if_ne (t := 195) d_GM_path_188 rfl (by unfold jRi; omega) (fun c111 => ?_) (fun c111 => ?_)
                · skip
                  refine jt_iinc (L' := [(0, .ref m), (1, .int (jI f)), (2, .int (jI b)), (3, .int (jI (i + 1)))]) d_GM_path_195 rfl (Nat.le_of_ble_eq_true rfl) rfl ?_
                  refine jt_goto (t := 122) d_GM_path_198 rfl ?_
                  exfalso
                  omega
                · skip
                  refine jt_aload_n d_GM_path_191 rfl ?_
                  refine gct_call (Y := Y_GM_pair) (As := []) (rest := []) d_GM_path_192 GM_c253 yk_GM_pair yv_GM_pair rfl (Nat.le_of_ble_eq_true rfl) rfl rfl (Nat.le_of_ble_eq_true rfl) (y_GM_pair G _ m (va_up J 4 v109) B (gT_of p110 hT rfl rfl rfl) p110.1 p110.2.1 (show 0 ≤ J 11 ∧ J 11 ≤ 74 by omega) (show J 5 = 0 by omega) (show J 13 = 0 by omega) V9 (by unfold gVr; rw [p110.2.2.2 30 rfl, p110.2.2.2 31 rfl]; exact hV) (J 15 = 0) Iff.rfl r1 (by show PA (J 1) (B 22) (B 23) V9 v109 (J 15 = 0) r1; rw [ev109, f1, hJ.2.2.2 22 rfl, hJ.2.2.2 23 rfl]; exact hPA1)) (fun rvq112 Iq112 Aq112 hq112 => ?_)
                  obtain ⟨rfl, hqq112, hxq112⟩ := hq112
                  have hpq112 := gPo.trans p110 hqq112 rfl rfl
                  have f1q112 : Iq112 1 = I 1 := hpq112.2.2.1 1 rfl
                  have s4q112 : (va_up J 4 v109) 4 = v109 := rfl
                  have s5q112 : (va_up J 4 v109) 5 = J 5 := rfl
                  have s11q112 : (va_up J 4 v109) 11 = J 11 := rfl
                  have s12q112 : (va_up J 4 v109) 12 = J 12 := rfl
                  have s13q112 : (va_up J 4 v109) 13 = J 13 := rfl
                  have m12q112 : Iq112 12 = J 12 := hqq112.2.2.1 12 rfl
                  have kwq112 := hxq112.1
                  have kpq112 : Hd _ := hxq112.2
                  clear hxq112
                  show jt _ 195 [(0, .ref m), (1, .int (jI f)), (2, .int (jI b)), (3, .int (jI i))] [] (gmf m f0 Iq112 Aq112) _ _ _
                  refine jt_iinc (L' := [(0, .ref m), (1, .int (jI f)), (2, .int (jI b)), (3, .int (jI (i + 1)))]) d_GM_path_195 rfl (Nat.le_of_ble_eq_true rfl) rfl ?_
                  refine jt_goto (t := 122) d_GM_path_198 rfl ?_
                  exact ih (i + 1) Iq112 Aq112 hpq112 ((hqq112.2.2.2 45 rfl).trans h45) (show Iq112 12 = K12 by omega) (show 0 ≤ Iq112 11 ∧ Iq112 11 ≤ 74 by omega) (show Iq112 12 ≤ 12 → Iq112 11 ≤ 2 + 6 * (Iq112 12 - 1) + 2 * (i + 1) by omega) (show Iq112 5 = 0 → I 5 = 0 ∧ Iq112 13 = 0 ∧ I 4 < Iq112 4 ∧ P4 + (i + 1) ≤ Iq112 4 by omega) (show 0 ≤ (i + 1) ∧ (i + 1) ≤ 3 ∧ (b = 0 → (i + 1) ≤ 1) by omega) (fun z => rPc_go (b := b) h12 hrw Iff.rfl (by omega) hPA1 hk1 (by have h9 := kpq112; exact h9) (show Iq112 12 = J 12 by omega) (gCv_f hcv (hqq112.2.2.2 44 rfl)) z) (fun z => he1 _ _ (kpq112.2.1 z)) (by omega)
            · skip
              obtain rfl := hbq106 gq106
              clear haq106 hbq106 hIq106 hAq106
              show jt _ 157 [(0, .ref m), (1, .int (jI f)), (2, .int (jI b)), (3, .int (jI i))] [.int (jI 0)] (gmf m f0 J B) _ _ _
              refine jt_if_eq (t := 173) d_GM_path_157 rfl (by unfold jRi; omega) (fun c113 => ?_) (fun c113 => ?_)
              · skip
                have hw8 := hpd.1 (by have h9 := gq106; unfold xV at h9; rw [f1, hJ.2.2.2 22 rfl, hJ.2.2.2 23 rfl] at h9; exact h9)
                refine jt_aload_n d_GM_path_173 rfl ?_
                refine gm_gI (k := 5) (v := J 5) d_GM_path_174 GM_f25 (by decide) rfl ?_
                refine jt_if_ne (t := 184) d_GM_path_177 rfl (by unfold jRi; omega) (fun c114 => ?_) (fun c114 => ?_)
                · skip
                  refine jt_aload_n d_GM_path_184 rfl ?_
                  refine gm_gI (k := 5) (v := J 5) d_GM_path_185 GM_f25 (by decide) rfl ?_
                  refine jt_if_ne (t := 195) d_GM_path_188 rfl (by unfold jRi; omega) (fun c115 => ?_) (fun c115 => ?_)
                  · skip
                    refine jt_iinc (L' := [(0, .ref m), (1, .int (jI f)), (2, .int (jI b)), (3, .int (jI (i + 1)))]) d_GM_path_195 rfl (Nat.le_of_ble_eq_true rfl) rfl ?_
                    refine jt_goto (t := 122) d_GM_path_198 rfl ?_
                    exfalso
                    omega
                  · skip
                    exfalso
                    omega
                · skip
                  refine jt_aload_n d_GM_path_180 rfl ?_
                  refine gct_call (Y := Y_GM_syntax) (As := []) (rest := []) d_GM_path_181 GM_c205 yk_GM_syntax yv_GM_syntax rfl (Nat.le_of_ble_eq_true rfl) rfl rfl (Nat.le_of_ble_eq_true rfl) (y_GM_syntax G _ m J B hJ.1 hJ.2.1 (by omega)) (fun rvq116 Iq116 Aq116 hq116 => ?_)
                  obtain ⟨rfl, hqq116, hxq116⟩ := hq116
                  have hpq116 := gPo.trans hJ hqq116 rfl rfl
                  have f1q116 : Iq116 1 = I 1 := hpq116.2.2.1 1 rfl
                  have m4q116 : Iq116 4 = J 4 := hqq116.2.2.1 4 rfl
                  have m11q116 : Iq116 11 = J 11 := hqq116.2.2.1 11 rfl
                  have m12q116 : Iq116 12 = J 12 := hqq116.2.2.1 12 rfl
                  have m13q116 : Iq116 13 = J 13 := hqq116.2.2.1 13 rfl
                  show jt _ 184 [(0, .ref m), (1, .int (jI f)), (2, .int (jI b)), (3, .int (jI i))] [] (gmf m f0 Iq116 Aq116) _ _ _
                  refine jt_aload_n d_GM_path_184 rfl ?_
                  refine gm_gI (k := 5) (v := Iq116 5) d_GM_path_185 GM_f25 (by decide) rfl ?_
                  have rb117 : -13 ≤ Iq116 5 ∧ Iq116 5 ≤ 0 := hpq116.1 5
                  refine jt_if_ne (t := 195) d_GM_path_188 rfl (by unfold jRi; omega) (fun c118 => ?_) (fun c118 => ?_)
                  · skip
                    refine jt_iinc (L' := [(0, .ref m), (1, .int (jI f)), (2, .int (jI b)), (3, .int (jI (i + 1)))]) d_GM_path_195 rfl (Nat.le_of_ble_eq_true rfl) rfl ?_
                    refine jt_goto (t := 122) d_GM_path_198 rfl ?_
                    exact ih (i + 1) Iq116 Aq116 hpq116 ((hqq116.2.2.2 45 rfl).trans h45) (show Iq116 12 = K12 by omega) (show 0 ≤ Iq116 11 ∧ Iq116 11 ≤ 74 by omega) (show Iq116 12 ≤ 12 → Iq116 11 ≤ 2 + 6 * (Iq116 12 - 1) + 2 * (i + 1) by omega) (show Iq116 5 = 0 → I 5 = 0 ∧ Iq116 13 = 0 ∧ I 4 < Iq116 4 ∧ P4 + (i + 1) ≤ Iq116 4 by omega) (show 0 ≤ (i + 1) ∧ (i + 1) ≤ 3 ∧ (b = 0 → (i + 1) ≤ 1) by omega) (fun z => absurd z hxq116.1) (fun _ => by rw [hxq116.2.1, hxq116.2.2]; exact hw8) (by omega)
                  · skip
                    exact absurd (by omega) hxq116.1
              · skip
                exfalso
                omega
          · skip
            refine jt_bipush d_GM_path_147 (by omega) ?_
            refine jt_goto (t := 154) d_GM_path_149 rfl ?_
            rw [show ((if b = 1 then (3 : Int) else 1) - i).toNat = ((if b = 1 then (3 : Int) else 1) - (i + 1)).toNat + 1 by rw [if_pos (by omega)]; omega] at hpc
            have hpd : (¬ xW (I 1) (A 22) (A 23) (J 4) (if b = 1 then 7 else 8) → rp = .err (-8) (J 4)) ∧ (xW (I 1) (A 22) (A 23) (J 4) (if b = 1 then 7 else 8) → ∃ r1 : PRs, PA (I 1) (A 22) (A 23) V9 (J 4 + 1) (J 15 = 0) r1 ∧ (∀ c pl, r1 = .err c pl → rp = .err c pl) ∧ ∀ q F1 F2 g2, r1 = .ok q F1 F2 g2 → PC (I 1) (A 22) (A 23) V9 b ((if b = 1 then (3 : Int) else 1) - (i + 1)).toNat q L9 (fs9 ++ [F1, F2]) g2 rp) := hpc
            rw [if_pos (show b = 1 by omega)] at hpd
            clear hpc
            replace hpd : Hd _ := hpd
            refine gct_call (Y := Y_GM_word) (As := [.int (jI 7)]) (rest := []) d_GM_path_154 GM_c201 yk_GM_word yv_GM_word rfl (Nat.le_of_ble_eq_true rfl) rfl rfl (Nat.le_of_ble_eq_true rfl) (c_GM_word G _ m 7 J B (gP_of hJ.1 (gT_of hJ hT rfl rfl rfl)) (by unfold jRi; omega)) (fun rvq119 Iq119 Aq119 hq119 => ?_)
            obtain ⟨haq119, hbq119, hIq119, hAq119⟩ := hq119
            rw [hIq119, hAq119]
            by_cases gq119 : xV (J 1) (B 22) (B 23) (J 4) 7
            · skip
              obtain rfl := haq119 gq119
              clear haq119 hbq119 hIq119 hAq119
              have tq119 : J 1 ≤ 300 := (gT_of hJ hT rfl rfl rfl).2.1
              have kq119 : (J 4) < (J 1) ∧ B 22 (J 4) = 4 ∧ B 23 (J 4) = 7 := gq119
              show jt _ 157 [(0, .ref m), (1, .int (jI f)), (2, .int (jI b)), (3, .int (jI i))] [.int (jI 1)] (gmf m f0 J B) _ _ _
              refine jt_if_eq (t := 173) d_GM_path_157 rfl (by unfold jRi; omega) (fun c120 => ?_) (fun c120 => ?_)
              · skip
                exfalso
                omega
              · skip
                obtain ⟨r1, hPA1, he1, hk1⟩ := hpd.2 (by have h9 := gq119; unfold xV at h9; rw [f1, hJ.2.2.2 22 rfl, hJ.2.2.2 23 rfl] at h9; exact h9)
                refine jt_aload_n d_GM_path_160 rfl ?_
                refine jt_dup d_GM_path_161 rfl ?_
                refine gm_gI (k := 4) (v := J 4) d_GM_path_162 GM_f22 (by decide) rfl ?_
                have rb121 : 0 ≤ J 4 ∧ J 4 ≤ 300 := hJ.1 4
                refine jt_iconst d_GM_path_165 ?_
                refine jt_iadd d_GM_path_166 ?_
                refine jt_topi (fun v122 ev122 => ?_)
                refine gm_pI (k := 4) (v := v122) (J := va_up J 4 v122) d_GM_path_167 (GM_w22 _ rfl) (by decide) rfl rfl rfl ?_
                have p123 := gPo.I 4 v122 hJ rfl (show 0 ≤ v122 ∧ v122 ≤ 300 by omega)
                refine jt_goto (t := 184) d_GM_path_170 rfl ?_
                refine jt_aload_n d_GM_path_184 rfl ?_
                refine gm_gI (k := 5) (v := J 5) d_GM_path_185 GM_f25 (by decide) rfl ?_
                refine jt_if_ne (t := 195) d_GM_path_188 rfl (by unfold jRi; omega) (fun c124 => ?_) (fun c124 => ?_)
                · skip
                  refine jt_iinc (L' := [(0, .ref m), (1, .int (jI f)), (2, .int (jI b)), (3, .int (jI (i + 1)))]) d_GM_path_195 rfl (Nat.le_of_ble_eq_true rfl) rfl ?_
                  refine jt_goto (t := 122) d_GM_path_198 rfl ?_
                  exfalso
                  omega
                · skip
                  refine jt_aload_n d_GM_path_191 rfl ?_
                  refine gct_call (Y := Y_GM_pair) (As := []) (rest := []) d_GM_path_192 GM_c253 yk_GM_pair yv_GM_pair rfl (Nat.le_of_ble_eq_true rfl) rfl rfl (Nat.le_of_ble_eq_true rfl) (y_GM_pair G _ m (va_up J 4 v122) B (gT_of p123 hT rfl rfl rfl) p123.1 p123.2.1 (show 0 ≤ J 11 ∧ J 11 ≤ 74 by omega) (show J 5 = 0 by omega) (show J 13 = 0 by omega) V9 (by unfold gVr; rw [p123.2.2.2 30 rfl, p123.2.2.2 31 rfl]; exact hV) (J 15 = 0) Iff.rfl r1 (by show PA (J 1) (B 22) (B 23) V9 v122 (J 15 = 0) r1; rw [ev122, f1, hJ.2.2.2 22 rfl, hJ.2.2.2 23 rfl]; exact hPA1)) (fun rvq125 Iq125 Aq125 hq125 => ?_)
                  obtain ⟨rfl, hqq125, hxq125⟩ := hq125
                  have hpq125 := gPo.trans p123 hqq125 rfl rfl
                  have f1q125 : Iq125 1 = I 1 := hpq125.2.2.1 1 rfl
                  have s4q125 : (va_up J 4 v122) 4 = v122 := rfl
                  have s5q125 : (va_up J 4 v122) 5 = J 5 := rfl
                  have s11q125 : (va_up J 4 v122) 11 = J 11 := rfl
                  have s12q125 : (va_up J 4 v122) 12 = J 12 := rfl
                  have s13q125 : (va_up J 4 v122) 13 = J 13 := rfl
                  have m12q125 : Iq125 12 = J 12 := hqq125.2.2.1 12 rfl
                  have kwq125 := hxq125.1
                  have kpq125 : Hd _ := hxq125.2
                  clear hxq125
                  show jt _ 195 [(0, .ref m), (1, .int (jI f)), (2, .int (jI b)), (3, .int (jI i))] [] (gmf m f0 Iq125 Aq125) _ _ _
                  refine jt_iinc (L' := [(0, .ref m), (1, .int (jI f)), (2, .int (jI b)), (3, .int (jI (i + 1)))]) d_GM_path_195 rfl (Nat.le_of_ble_eq_true rfl) rfl ?_
                  refine jt_goto (t := 122) d_GM_path_198 rfl ?_
                  exact ih (i + 1) Iq125 Aq125 hpq125 ((hqq125.2.2.2 45 rfl).trans h45) (show Iq125 12 = K12 by omega) (show 0 ≤ Iq125 11 ∧ Iq125 11 ≤ 74 by omega) (show Iq125 12 ≤ 12 → Iq125 11 ≤ 2 + 6 * (Iq125 12 - 1) + 2 * (i + 1) by omega) (show Iq125 5 = 0 → I 5 = 0 ∧ Iq125 13 = 0 ∧ I 4 < Iq125 4 ∧ P4 + (i + 1) ≤ Iq125 4 by omega) (show 0 ≤ (i + 1) ∧ (i + 1) ≤ 3 ∧ (b = 0 → (i + 1) ≤ 1) by omega) (fun z => rPc_go (b := b) h12 hrw Iff.rfl (by omega) hPA1 hk1 (by have h9 := kpq125; exact h9) (show Iq125 12 = J 12 by omega) (gCv_f hcv (hqq125.2.2.2 44 rfl)) z) (fun z => he1 _ _ (kpq125.2.1 z)) (by omega)
            · skip
              obtain rfl := hbq119 gq119
              clear haq119 hbq119 hIq119 hAq119
              show jt _ 157 [(0, .ref m), (1, .int (jI f)), (2, .int (jI b)), (3, .int (jI i))] [.int (jI 0)] (gmf m f0 J B) _ _ _
              refine jt_if_eq (t := 173) d_GM_path_157 rfl (by unfold jRi; omega) (fun c126 => ?_) (fun c126 => ?_)
              · skip
                have hw8 := hpd.1 (by have h9 := gq119; unfold xV at h9; rw [f1, hJ.2.2.2 22 rfl, hJ.2.2.2 23 rfl] at h9; exact h9)
                refine jt_aload_n d_GM_path_173 rfl ?_
                refine gm_gI (k := 5) (v := J 5) d_GM_path_174 GM_f25 (by decide) rfl ?_
                refine jt_if_ne (t := 184) d_GM_path_177 rfl (by unfold jRi; omega) (fun c127 => ?_) (fun c127 => ?_)
                · skip
                  refine jt_aload_n d_GM_path_184 rfl ?_
                  refine gm_gI (k := 5) (v := J 5) d_GM_path_185 GM_f25 (by decide) rfl ?_
                  refine jt_if_ne (t := 195) d_GM_path_188 rfl (by unfold jRi; omega) (fun c128 => ?_) (fun c128 => ?_)
                  · skip
                    refine jt_iinc (L' := [(0, .ref m), (1, .int (jI f)), (2, .int (jI b)), (3, .int (jI (i + 1)))]) d_GM_path_195 rfl (Nat.le_of_ble_eq_true rfl) rfl ?_
                    refine jt_goto (t := 122) d_GM_path_198 rfl ?_
                    exfalso
                    omega
                  · skip
                    exfalso
                    omega
                · skip
                  refine jt_aload_n d_GM_path_180 rfl ?_
                  refine gct_call (Y := Y_GM_syntax) (As := []) (rest := []) d_GM_path_181 GM_c205 yk_GM_syntax yv_GM_syntax rfl (Nat.le_of_ble_eq_true rfl) rfl rfl (Nat.le_of_ble_eq_true rfl) (y_GM_syntax G _ m J B hJ.1 hJ.2.1 (by omega)) (fun rvq129 Iq129 Aq129 hq129 => ?_)
                  obtain ⟨rfl, hqq129, hxq129⟩ := hq129
                  have hpq129 := gPo.trans hJ hqq129 rfl rfl
                  have f1q129 : Iq129 1 = I 1 := hpq129.2.2.1 1 rfl
                  have m4q129 : Iq129 4 = J 4 := hqq129.2.2.1 4 rfl
                  have m11q129 : Iq129 11 = J 11 := hqq129.2.2.1 11 rfl
                  have m12q129 : Iq129 12 = J 12 := hqq129.2.2.1 12 rfl
                  have m13q129 : Iq129 13 = J 13 := hqq129.2.2.1 13 rfl
                  show jt _ 184 [(0, .ref m), (1, .int (jI f)), (2, .int (jI b)), (3, .int (jI i))] [] (gmf m f0 Iq129 Aq129) _ _ _
                  refine jt_aload_n d_GM_path_184 rfl ?_
                  refine gm_gI (k := 5) (v := Iq129 5) d_GM_path_185 GM_f25 (by decide) rfl ?_
                  have rb130 : -13 ≤ Iq129 5 ∧ Iq129 5 ≤ 0 := hpq129.1 5
                  refine jt_if_ne (t := 195) d_GM_path_188 rfl (by unfold jRi; omega) (fun c131 => ?_) (fun c131 => ?_)
                  · skip
                    refine jt_iinc (L' := [(0, .ref m), (1, .int (jI f)), (2, .int (jI b)), (3, .int (jI (i + 1)))]) d_GM_path_195 rfl (Nat.le_of_ble_eq_true rfl) rfl ?_
                    refine jt_goto (t := 122) d_GM_path_198 rfl ?_
                    exact ih (i + 1) Iq129 Aq129 hpq129 ((hqq129.2.2.2 45 rfl).trans h45) (show Iq129 12 = K12 by omega) (show 0 ≤ Iq129 11 ∧ Iq129 11 ≤ 74 by omega) (show Iq129 12 ≤ 12 → Iq129 11 ≤ 2 + 6 * (Iq129 12 - 1) + 2 * (i + 1) by omega) (show Iq129 5 = 0 → I 5 = 0 ∧ Iq129 13 = 0 ∧ I 4 < Iq129 4 ∧ P4 + (i + 1) ≤ Iq129 4 by omega) (show 0 ≤ (i + 1) ∧ (i + 1) ≤ 3 ∧ (b = 0 → (i + 1) ≤ 1) by omega) (fun z => absurd z hxq129.1) (fun _ => by rw [hxq129.2.1, hxq129.2.2]; exact hw8) (by omega)
                  · skip
                    exact absurd (by omega) hxq129.1
              · skip
                exfalso
                omega
    · skip
      refine jt_iconst d_GM_path_127 ?_
      refine jt_goto (t := 132) d_GM_path_128 rfl ?_
      refine jt_icmp_ge (t := 201) d_GM_path_132 rfl (by unfold jRi; omega) (by unfold jRi; omega) (fun c132 => ?_) (fun c132 => ?_)
      · skip
        exact hout i J B hJ h45 l0 q0 q1 k5 i0 hc hr (by omega) (fun z => by first | (rw [if_pos (by omega)]; omega) | (rw [if_neg (by omega)]; omega))
      · skip
        refine jt_aload_n d_GM_path_135 rfl ?_
        refine gm_gI (k := 5) (v := J 5) d_GM_path_136 GM_f25 (by decide) rfl ?_
        have rb133 : -13 ≤ J 5 ∧ J 5 ≤ 0 := hJ.1 5
        refine jt_if_ne (t := 201) d_GM_path_139 rfl (by unfold jRi; omega) (fun c134 => ?_) (fun c134 => ?_)
        · skip
          exact hout i J B hJ h45 l0 q0 q1 k5 i0 hc hr (by omega) (fun z => by first | (rw [if_pos (by omega)]; omega) | (rw [if_neg (by omega)]; omega))
        · skip
          have z5J : J 5 = 0 := by omega
          obtain ⟨L9, fs9, h12, hpc, hrw, hcv⟩ := hc z5J
          refine jt_aload_n d_GM_path_142 rfl ?_
          refine jt_iload_n d_GM_path_143 rfl ?_
          refine jt_if_eq (t := 152) d_GM_path_144 rfl (by unfold jRi; omega) (fun c135 => ?_) (fun c135 => ?_)
          · skip
            refine jt_bipush d_GM_path_152 (by omega) ?_
            rw [show ((if b = 1 then (3 : Int) else 1) - i).toNat = ((if b = 1 then (3 : Int) else 1) - (i + 1)).toNat + 1 by rw [if_neg (by omega)]; omega] at hpc
            have hpd : (¬ xW (I 1) (A 22) (A 23) (J 4) (if b = 1 then 7 else 8) → rp = .err (-8) (J 4)) ∧ (xW (I 1) (A 22) (A 23) (J 4) (if b = 1 then 7 else 8) → ∃ r1 : PRs, PA (I 1) (A 22) (A 23) V9 (J 4 + 1) (J 15 = 0) r1 ∧ (∀ c pl, r1 = .err c pl → rp = .err c pl) ∧ ∀ q F1 F2 g2, r1 = .ok q F1 F2 g2 → PC (I 1) (A 22) (A 23) V9 b ((if b = 1 then (3 : Int) else 1) - (i + 1)).toNat q L9 (fs9 ++ [F1, F2]) g2 rp) := hpc
            rw [if_neg (show ¬ b = 1 by omega)] at hpd
            clear hpc
            replace hpd : Hd _ := hpd
            refine gct_call (Y := Y_GM_word) (As := [.int (jI 8)]) (rest := []) d_GM_path_154 GM_c201 yk_GM_word yv_GM_word rfl (Nat.le_of_ble_eq_true rfl) rfl rfl (Nat.le_of_ble_eq_true rfl) (c_GM_word G _ m 8 J B (gP_of hJ.1 (gT_of hJ hT rfl rfl rfl)) (by unfold jRi; omega)) (fun rvq136 Iq136 Aq136 hq136 => ?_)
            obtain ⟨haq136, hbq136, hIq136, hAq136⟩ := hq136
            rw [hIq136, hAq136]
            by_cases gq136 : xV (J 1) (B 22) (B 23) (J 4) 8
            · skip
              obtain rfl := haq136 gq136
              clear haq136 hbq136 hIq136 hAq136
              have tq136 : J 1 ≤ 300 := (gT_of hJ hT rfl rfl rfl).2.1
              have kq136 : (J 4) < (J 1) ∧ B 22 (J 4) = 4 ∧ B 23 (J 4) = 8 := gq136
              show jt _ 157 [(0, .ref m), (1, .int (jI f)), (2, .int (jI b)), (3, .int (jI i))] [.int (jI 1)] (gmf m f0 J B) _ _ _
              refine jt_if_eq (t := 173) d_GM_path_157 rfl (by unfold jRi; omega) (fun c137 => ?_) (fun c137 => ?_)
              · skip
                exfalso
                omega
              · skip
                obtain ⟨r1, hPA1, he1, hk1⟩ := hpd.2 (by have h9 := gq136; unfold xV at h9; rw [f1, hJ.2.2.2 22 rfl, hJ.2.2.2 23 rfl] at h9; exact h9)
                refine jt_aload_n d_GM_path_160 rfl ?_
                refine jt_dup d_GM_path_161 rfl ?_
                refine gm_gI (k := 4) (v := J 4) d_GM_path_162 GM_f22 (by decide) rfl ?_
                have rb138 : 0 ≤ J 4 ∧ J 4 ≤ 300 := hJ.1 4
                refine jt_iconst d_GM_path_165 ?_
                refine jt_iadd d_GM_path_166 ?_
                refine jt_topi (fun v139 ev139 => ?_)
                refine gm_pI (k := 4) (v := v139) (J := va_up J 4 v139) d_GM_path_167 (GM_w22 _ rfl) (by decide) rfl rfl rfl ?_
                have p140 := gPo.I 4 v139 hJ rfl (show 0 ≤ v139 ∧ v139 ≤ 300 by omega)
                refine jt_goto (t := 184) d_GM_path_170 rfl ?_
                refine jt_aload_n d_GM_path_184 rfl ?_
                refine gm_gI (k := 5) (v := J 5) d_GM_path_185 GM_f25 (by decide) rfl ?_
                refine jt_if_ne (t := 195) d_GM_path_188 rfl (by unfold jRi; omega) (fun c141 => ?_) (fun c141 => ?_)
                · skip
                  refine jt_iinc (L' := [(0, .ref m), (1, .int (jI f)), (2, .int (jI b)), (3, .int (jI (i + 1)))]) d_GM_path_195 rfl (Nat.le_of_ble_eq_true rfl) rfl ?_
                  refine jt_goto (t := 122) d_GM_path_198 rfl ?_
                  exfalso
                  omega
                · skip
                  refine jt_aload_n d_GM_path_191 rfl ?_
                  refine gct_call (Y := Y_GM_pair) (As := []) (rest := []) d_GM_path_192 GM_c253 yk_GM_pair yv_GM_pair rfl (Nat.le_of_ble_eq_true rfl) rfl rfl (Nat.le_of_ble_eq_true rfl) (y_GM_pair G _ m (va_up J 4 v139) B (gT_of p140 hT rfl rfl rfl) p140.1 p140.2.1 (show 0 ≤ J 11 ∧ J 11 ≤ 74 by omega) (show J 5 = 0 by omega) (show J 13 = 0 by omega) V9 (by unfold gVr; rw [p140.2.2.2 30 rfl, p140.2.2.2 31 rfl]; exact hV) (J 15 = 0) Iff.rfl r1 (by show PA (J 1) (B 22) (B 23) V9 v139 (J 15 = 0) r1; rw [ev139, f1, hJ.2.2.2 22 rfl, hJ.2.2.2 23 rfl]; exact hPA1)) (fun rvq142 Iq142 Aq142 hq142 => ?_)
                  obtain ⟨rfl, hqq142, hxq142⟩ := hq142
                  have hpq142 := gPo.trans p140 hqq142 rfl rfl
                  have f1q142 : Iq142 1 = I 1 := hpq142.2.2.1 1 rfl
                  have s4q142 : (va_up J 4 v139) 4 = v139 := rfl
                  have s5q142 : (va_up J 4 v139) 5 = J 5 := rfl
                  have s11q142 : (va_up J 4 v139) 11 = J 11 := rfl
                  have s12q142 : (va_up J 4 v139) 12 = J 12 := rfl
                  have s13q142 : (va_up J 4 v139) 13 = J 13 := rfl
                  have m12q142 : Iq142 12 = J 12 := hqq142.2.2.1 12 rfl
                  have kwq142 := hxq142.1
                  have kpq142 : Hd _ := hxq142.2
                  clear hxq142
                  show jt _ 195 [(0, .ref m), (1, .int (jI f)), (2, .int (jI b)), (3, .int (jI i))] [] (gmf m f0 Iq142 Aq142) _ _ _
                  refine jt_iinc (L' := [(0, .ref m), (1, .int (jI f)), (2, .int (jI b)), (3, .int (jI (i + 1)))]) d_GM_path_195 rfl (Nat.le_of_ble_eq_true rfl) rfl ?_
                  refine jt_goto (t := 122) d_GM_path_198 rfl ?_
                  exact ih (i + 1) Iq142 Aq142 hpq142 ((hqq142.2.2.2 45 rfl).trans h45) (show Iq142 12 = K12 by omega) (show 0 ≤ Iq142 11 ∧ Iq142 11 ≤ 74 by omega) (show Iq142 12 ≤ 12 → Iq142 11 ≤ 2 + 6 * (Iq142 12 - 1) + 2 * (i + 1) by omega) (show Iq142 5 = 0 → I 5 = 0 ∧ Iq142 13 = 0 ∧ I 4 < Iq142 4 ∧ P4 + (i + 1) ≤ Iq142 4 by omega) (show 0 ≤ (i + 1) ∧ (i + 1) ≤ 3 ∧ (b = 0 → (i + 1) ≤ 1) by omega) (fun z => rPc_go (b := b) h12 hrw Iff.rfl (by omega) hPA1 hk1 (by have h9 := kpq142; exact h9) (show Iq142 12 = J 12 by omega) (gCv_f hcv (hqq142.2.2.2 44 rfl)) z) (fun z => he1 _ _ (kpq142.2.1 z)) (by omega)
            · skip
              obtain rfl := hbq136 gq136
              clear haq136 hbq136 hIq136 hAq136
              show jt _ 157 [(0, .ref m), (1, .int (jI f)), (2, .int (jI b)), (3, .int (jI i))] [.int (jI 0)] (gmf m f0 J B) _ _ _
              refine jt_if_eq (t := 173) d_GM_path_157 rfl (by unfold jRi; omega) (fun c143 => ?_) (fun c143 => ?_)
              · skip
                have hw8 := hpd.1 (by have h9 := gq136; unfold xV at h9; rw [f1, hJ.2.2.2 22 rfl, hJ.2.2.2 23 rfl] at h9; exact h9)
                refine jt_aload_n d_GM_path_173 rfl ?_
                refine gm_gI (k := 5) (v := J 5) d_GM_path_174 GM_f25 (by decide) rfl ?_
                refine jt_if_ne (t := 184) d_GM_path_177 rfl (by unfold jRi; omega) (fun c144 => ?_) (fun c144 => ?_)
                · skip
                  refine jt_aload_n d_GM_path_184 rfl ?_
                  refine gm_gI (k := 5) (v := J 5) d_GM_path_185 GM_f25 (by decide) rfl ?_
                  refine jt_if_ne (t := 195) d_GM_path_188 rfl (by unfold jRi; omega) (fun c145 => ?_) (fun c145 => ?_)
                  · skip
                    refine jt_iinc (L' := [(0, .ref m), (1, .int (jI f)), (2, .int (jI b)), (3, .int (jI (i + 1)))]) d_GM_path_195 rfl (Nat.le_of_ble_eq_true rfl) rfl ?_
                    refine jt_goto (t := 122) d_GM_path_198 rfl ?_
                    exfalso
                    omega
                  · skip
                    exfalso
                    omega
                · skip
                  refine jt_aload_n d_GM_path_180 rfl ?_
                  refine gct_call (Y := Y_GM_syntax) (As := []) (rest := []) d_GM_path_181 GM_c205 yk_GM_syntax yv_GM_syntax rfl (Nat.le_of_ble_eq_true rfl) rfl rfl (Nat.le_of_ble_eq_true rfl) (y_GM_syntax G _ m J B hJ.1 hJ.2.1 (by omega)) (fun rvq146 Iq146 Aq146 hq146 => ?_)
                  obtain ⟨rfl, hqq146, hxq146⟩ := hq146
                  have hpq146 := gPo.trans hJ hqq146 rfl rfl
                  have f1q146 : Iq146 1 = I 1 := hpq146.2.2.1 1 rfl
                  have m4q146 : Iq146 4 = J 4 := hqq146.2.2.1 4 rfl
                  have m11q146 : Iq146 11 = J 11 := hqq146.2.2.1 11 rfl
                  have m12q146 : Iq146 12 = J 12 := hqq146.2.2.1 12 rfl
                  have m13q146 : Iq146 13 = J 13 := hqq146.2.2.1 13 rfl
                  show jt _ 184 [(0, .ref m), (1, .int (jI f)), (2, .int (jI b)), (3, .int (jI i))] [] (gmf m f0 Iq146 Aq146) _ _ _
                  refine jt_aload_n d_GM_path_184 rfl ?_
                  refine gm_gI (k := 5) (v := Iq146 5) d_GM_path_185 GM_f25 (by decide) rfl ?_
                  have rb147 : -13 ≤ Iq146 5 ∧ Iq146 5 ≤ 0 := hpq146.1 5
                  refine jt_if_ne (t := 195) d_GM_path_188 rfl (by unfold jRi; omega) (fun c148 => ?_) (fun c148 => ?_)
                  · skip
                    refine jt_iinc (L' := [(0, .ref m), (1, .int (jI f)), (2, .int (jI b)), (3, .int (jI (i + 1)))]) d_GM_path_195 rfl (Nat.le_of_ble_eq_true rfl) rfl ?_
                    refine jt_goto (t := 122) d_GM_path_198 rfl ?_
                    exact ih (i + 1) Iq146 Aq146 hpq146 ((hqq146.2.2.2 45 rfl).trans h45) (show Iq146 12 = K12 by omega) (show 0 ≤ Iq146 11 ∧ Iq146 11 ≤ 74 by omega) (show Iq146 12 ≤ 12 → Iq146 11 ≤ 2 + 6 * (Iq146 12 - 1) + 2 * (i + 1) by omega) (show Iq146 5 = 0 → I 5 = 0 ∧ Iq146 13 = 0 ∧ I 4 < Iq146 4 ∧ P4 + (i + 1) ≤ Iq146 4 by omega) (show 0 ≤ (i + 1) ∧ (i + 1) ≤ 3 ∧ (b = 0 → (i + 1) ≤ 1) by omega) (fun z => absurd z hxq146.1) (fun _ => by rw [hxq146.2.1, hxq146.2.2]; exact hw8) (by omega)
                  · skip
                    exact absurd (by omega) hxq146.1
              · skip
                exfalso
                omega
          · skip
            refine jt_bipush d_GM_path_147 (by omega) ?_
            refine jt_goto (t := 154) d_GM_path_149 rfl ?_
            rw [show ((if b = 1 then (3 : Int) else 1) - i).toNat = ((if b = 1 then (3 : Int) else 1) - (i + 1)).toNat + 1 by rw [if_pos (by omega)]; omega] at hpc
            have hpd : (¬ xW (I 1) (A 22) (A 23) (J 4) (if b = 1 then 7 else 8) → rp = .err (-8) (J 4)) ∧ (xW (I 1) (A 22) (A 23) (J 4) (if b = 1 then 7 else 8) → ∃ r1 : PRs, PA (I 1) (A 22) (A 23) V9 (J 4 + 1) (J 15 = 0) r1 ∧ (∀ c pl, r1 = .err c pl → rp = .err c pl) ∧ ∀ q F1 F2 g2, r1 = .ok q F1 F2 g2 → PC (I 1) (A 22) (A 23) V9 b ((if b = 1 then (3 : Int) else 1) - (i + 1)).toNat q L9 (fs9 ++ [F1, F2]) g2 rp) := hpc
            rw [if_pos (show b = 1 by omega)] at hpd
            clear hpc
            replace hpd : Hd _ := hpd
            refine gct_call (Y := Y_GM_word) (As := [.int (jI 7)]) (rest := []) d_GM_path_154 GM_c201 yk_GM_word yv_GM_word rfl (Nat.le_of_ble_eq_true rfl) rfl rfl (Nat.le_of_ble_eq_true rfl) (c_GM_word G _ m 7 J B (gP_of hJ.1 (gT_of hJ hT rfl rfl rfl)) (by unfold jRi; omega)) (fun rvq149 Iq149 Aq149 hq149 => ?_)
            obtain ⟨haq149, hbq149, hIq149, hAq149⟩ := hq149
            rw [hIq149, hAq149]
            by_cases gq149 : xV (J 1) (B 22) (B 23) (J 4) 7
            · skip
              obtain rfl := haq149 gq149
              clear haq149 hbq149 hIq149 hAq149
              have tq149 : J 1 ≤ 300 := (gT_of hJ hT rfl rfl rfl).2.1
              have kq149 : (J 4) < (J 1) ∧ B 22 (J 4) = 4 ∧ B 23 (J 4) = 7 := gq149
              show jt _ 157 [(0, .ref m), (1, .int (jI f)), (2, .int (jI b)), (3, .int (jI i))] [.int (jI 1)] (gmf m f0 J B) _ _ _
              refine jt_if_eq (t := 173) d_GM_path_157 rfl (by unfold jRi; omega) (fun c150 => ?_) (fun c150 => ?_)
              · skip
                exfalso
                omega
              · skip
                obtain ⟨r1, hPA1, he1, hk1⟩ := hpd.2 (by have h9 := gq149; unfold xV at h9; rw [f1, hJ.2.2.2 22 rfl, hJ.2.2.2 23 rfl] at h9; exact h9)
                refine jt_aload_n d_GM_path_160 rfl ?_
                refine jt_dup d_GM_path_161 rfl ?_
                refine gm_gI (k := 4) (v := J 4) d_GM_path_162 GM_f22 (by decide) rfl ?_
                have rb151 : 0 ≤ J 4 ∧ J 4 ≤ 300 := hJ.1 4
                refine jt_iconst d_GM_path_165 ?_
                refine jt_iadd d_GM_path_166 ?_
                refine jt_topi (fun v152 ev152 => ?_)
                refine gm_pI (k := 4) (v := v152) (J := va_up J 4 v152) d_GM_path_167 (GM_w22 _ rfl) (by decide) rfl rfl rfl ?_
                have p153 := gPo.I 4 v152 hJ rfl (show 0 ≤ v152 ∧ v152 ≤ 300 by omega)
                refine jt_goto (t := 184) d_GM_path_170 rfl ?_
                refine jt_aload_n d_GM_path_184 rfl ?_
                refine gm_gI (k := 5) (v := J 5) d_GM_path_185 GM_f25 (by decide) rfl ?_
                refine jt_if_ne (t := 195) d_GM_path_188 rfl (by unfold jRi; omega) (fun c154 => ?_) (fun c154 => ?_)
                · skip
                  refine jt_iinc (L' := [(0, .ref m), (1, .int (jI f)), (2, .int (jI b)), (3, .int (jI (i + 1)))]) d_GM_path_195 rfl (Nat.le_of_ble_eq_true rfl) rfl ?_
                  refine jt_goto (t := 122) d_GM_path_198 rfl ?_
                  exfalso
                  omega
                · skip
                  refine jt_aload_n d_GM_path_191 rfl ?_
                  refine gct_call (Y := Y_GM_pair) (As := []) (rest := []) d_GM_path_192 GM_c253 yk_GM_pair yv_GM_pair rfl (Nat.le_of_ble_eq_true rfl) rfl rfl (Nat.le_of_ble_eq_true rfl) (y_GM_pair G _ m (va_up J 4 v152) B (gT_of p153 hT rfl rfl rfl) p153.1 p153.2.1 (show 0 ≤ J 11 ∧ J 11 ≤ 74 by omega) (show J 5 = 0 by omega) (show J 13 = 0 by omega) V9 (by unfold gVr; rw [p153.2.2.2 30 rfl, p153.2.2.2 31 rfl]; exact hV) (J 15 = 0) Iff.rfl r1 (by show PA (J 1) (B 22) (B 23) V9 v152 (J 15 = 0) r1; rw [ev152, f1, hJ.2.2.2 22 rfl, hJ.2.2.2 23 rfl]; exact hPA1)) (fun rvq155 Iq155 Aq155 hq155 => ?_)
                  obtain ⟨rfl, hqq155, hxq155⟩ := hq155
                  have hpq155 := gPo.trans p153 hqq155 rfl rfl
                  have f1q155 : Iq155 1 = I 1 := hpq155.2.2.1 1 rfl
                  have s4q155 : (va_up J 4 v152) 4 = v152 := rfl
                  have s5q155 : (va_up J 4 v152) 5 = J 5 := rfl
                  have s11q155 : (va_up J 4 v152) 11 = J 11 := rfl
                  have s12q155 : (va_up J 4 v152) 12 = J 12 := rfl
                  have s13q155 : (va_up J 4 v152) 13 = J 13 := rfl
                  have m12q155 : Iq155 12 = J 12 := hqq155.2.2.1 12 rfl
                  have kwq155 := hxq155.1
                  have kpq155 : Hd _ := hxq155.2
                  clear hxq155
                  show jt _ 195 [(0, .ref m), (1, .int (jI f)), (2, .int (jI b)), (3, .int (jI i))] [] (gmf m f0 Iq155 Aq155) _ _ _
                  refine jt_iinc (L' := [(0, .ref m), (1, .int (jI f)), (2, .int (jI b)), (3, .int (jI (i + 1)))]) d_GM_path_195 rfl (Nat.le_of_ble_eq_true rfl) rfl ?_
                  refine jt_goto (t := 122) d_GM_path_198 rfl ?_
                  exact ih (i + 1) Iq155 Aq155 hpq155 ((hqq155.2.2.2 45 rfl).trans h45) (show Iq155 12 = K12 by omega) (show 0 ≤ Iq155 11 ∧ Iq155 11 ≤ 74 by omega) (show Iq155 12 ≤ 12 → Iq155 11 ≤ 2 + 6 * (Iq155 12 - 1) + 2 * (i + 1) by omega) (show Iq155 5 = 0 → I 5 = 0 ∧ Iq155 13 = 0 ∧ I 4 < Iq155 4 ∧ P4 + (i + 1) ≤ Iq155 4 by omega) (show 0 ≤ (i + 1) ∧ (i + 1) ≤ 3 ∧ (b = 0 → (i + 1) ≤ 1) by omega) (fun z => rPc_go (b := b) h12 hrw Iff.rfl (by omega) hPA1 hk1 (by have h9 := kpq155; exact h9) (show Iq155 12 = J 12 by omega) (gCv_f hcv (hqq155.2.2.2 44 rfl)) z) (fun z => he1 _ _ (kpq155.2.1 z)) (by omega)
            · skip
              obtain rfl := hbq149 gq149
              clear haq149 hbq149 hIq149 hAq149
              show jt _ 157 [(0, .ref m), (1, .int (jI f)), (2, .int (jI b)), (3, .int (jI i))] [.int (jI 0)] (gmf m f0 J B) _ _ _
              refine jt_if_eq (t := 173) d_GM_path_157 rfl (by unfold jRi; omega) (fun c156 => ?_) (fun c156 => ?_)
              · skip
                have hw8 := hpd.1 (by have h9 := gq149; unfold xV at h9; rw [f1, hJ.2.2.2 22 rfl, hJ.2.2.2 23 rfl] at h9; exact h9)
                refine jt_aload_n d_GM_path_173 rfl ?_
                refine gm_gI (k := 5) (v := J 5) d_GM_path_174 GM_f25 (by decide) rfl ?_
                refine jt_if_ne (t := 184) d_GM_path_177 rfl (by unfold jRi; omega) (fun c157 => ?_) (fun c157 => ?_)
                · skip
                  refine jt_aload_n d_GM_path_184 rfl ?_
                  refine gm_gI (k := 5) (v := J 5) d_GM_path_185 GM_f25 (by decide) rfl ?_
                  refine jt_if_ne (t := 195) d_GM_path_188 rfl (by unfold jRi; omega) (fun c158 => ?_) (fun c158 => ?_)
                  · skip
                    refine jt_iinc (L' := [(0, .ref m), (1, .int (jI f)), (2, .int (jI b)), (3, .int (jI (i + 1)))]) d_GM_path_195 rfl (Nat.le_of_ble_eq_true rfl) rfl ?_
                    refine jt_goto (t := 122) d_GM_path_198 rfl ?_
                    exfalso
                    omega
                  · skip
                    exfalso
                    omega
                · skip
                  refine jt_aload_n d_GM_path_180 rfl ?_
                  refine gct_call (Y := Y_GM_syntax) (As := []) (rest := []) d_GM_path_181 GM_c205 yk_GM_syntax yv_GM_syntax rfl (Nat.le_of_ble_eq_true rfl) rfl rfl (Nat.le_of_ble_eq_true rfl) (y_GM_syntax G _ m J B hJ.1 hJ.2.1 (by omega)) (fun rvq159 Iq159 Aq159 hq159 => ?_)
                  obtain ⟨rfl, hqq159, hxq159⟩ := hq159
                  have hpq159 := gPo.trans hJ hqq159 rfl rfl
                  have f1q159 : Iq159 1 = I 1 := hpq159.2.2.1 1 rfl
                  have m4q159 : Iq159 4 = J 4 := hqq159.2.2.1 4 rfl
                  have m11q159 : Iq159 11 = J 11 := hqq159.2.2.1 11 rfl
                  have m12q159 : Iq159 12 = J 12 := hqq159.2.2.1 12 rfl
                  have m13q159 : Iq159 13 = J 13 := hqq159.2.2.1 13 rfl
                  show jt _ 184 [(0, .ref m), (1, .int (jI f)), (2, .int (jI b)), (3, .int (jI i))] [] (gmf m f0 Iq159 Aq159) _ _ _
                  refine jt_aload_n d_GM_path_184 rfl ?_
                  refine gm_gI (k := 5) (v := Iq159 5) d_GM_path_185 GM_f25 (by decide) rfl ?_
                  have rb160 : -13 ≤ Iq159 5 ∧ Iq159 5 ≤ 0 := hpq159.1 5
                  refine jt_if_ne (t := 195) d_GM_path_188 rfl (by unfold jRi; omega) (fun c161 => ?_) (fun c161 => ?_)
                  · skip
                    refine jt_iinc (L' := [(0, .ref m), (1, .int (jI f)), (2, .int (jI b)), (3, .int (jI (i + 1)))]) d_GM_path_195 rfl (Nat.le_of_ble_eq_true rfl) rfl ?_
                    refine jt_goto (t := 122) d_GM_path_198 rfl ?_
                    exact ih (i + 1) Iq159 Aq159 hpq159 ((hqq159.2.2.2 45 rfl).trans h45) (show Iq159 12 = K12 by omega) (show 0 ≤ Iq159 11 ∧ Iq159 11 ≤ 74 by omega) (show Iq159 12 ≤ 12 → Iq159 11 ≤ 2 + 6 * (Iq159 12 - 1) + 2 * (i + 1) by omega) (show Iq159 5 = 0 → I 5 = 0 ∧ Iq159 13 = 0 ∧ I 4 < Iq159 4 ∧ P4 + (i + 1) ≤ Iq159 4 by omega) (show 0 ≤ (i + 1) ∧ (i + 1) ≤ 3 ∧ (b = 0 → (i + 1) ≤ 1) by omega) (fun z => absurd z hxq159.1) (fun _ => by rw [hxq159.2.1, hxq159.2.2]; exact hw8) (by omega)
                  · skip
                    exact absurd (by omega) hxq159.1
              · skip
                exfalso
                omega
set_option maxRecDepth 100000 in
set_option maxHeartbeats 1000000 in
theorem l24_GM_pathy (G : jG) (d m : Nat) (f : Int) (I : Nat → Int) (A : Nat → Int → Int) (hT : gT I A) (hI : gSI I) (hA : gSA A) (hf : 0 ≤ f ∧ f ≤ 1) (hw : I 4 < I 1) (z5 : I 5 = 0) (h13 : I 13 = 0) (z15 : I 15 = 0) (V9 : Int → Int → Int) (hV : gVr V9 A) (rp : QR) (hR : PH (I 1) (A 22) (A 23) V9 (I 4 + 1) rp) (e9 : Int) (hE : ∀ (q : Int) (L : List Int) (fs : List (Int → Int)) (g : Prop), rp = .ok q L fs g → xW (I 1) (A 22) (A 23) q 6 → g → L.length ≤ 12 → TN fs e9) (f0 : jF) (sz : Nat)  : ∀ (n9 : Nat) (t : Int) (J : Nat → Int) (B : Nat → Int → Int), gPo [4, 5, 6, 9, 10, 11, 12, 13, 14, 15] [35, 36, 37, 38, 39, 40, 41, 42, 43, 44, 45] I A J B → (B 45 = A 45) → (J 5 = 0 → J 12 ≤ J 4) → (0 ≤ J 11 ∧ J 11 ≤ 74) → (J 12 ≤ 12 → J 11 ≤ 2 + 6 * J 12) → (J 5 = 0 → I 5 = 0 ∧ J 13 = 0 ∧ I 4 < J 4) → (J 5 = 0 → 301 - J 4 ≤ t) → (0 ≤ t) → (Hd (J 5 = 0 → rPl (I 1) (A 22) (A 23) V9 rp J B)) → (Hd (J 5 ≠ 0 → rp = .err (J 5) (J 6))) → t < (n9 : Int) → jt (jm G Y_GM_path (gR (d + 6)) (gQ m f0 sz (fun (rv : Option Value) (I2 : Nat → Int) (A2 : Nat → Int → Int) => rv = none ∧ gPo [4, 5, 6, 9, 10, 11, 12, 13, 14, 15] [35, 36, 37, 38, 39, 40, 41, 42, 43, 44, 45] I A I2 A2 ∧ (I2 5 = 0 → I 4 < I2 4) ∧ phQ (I 1) (A 22) (A 23) rp e9 f A I2 A2))) 24 [(0, .ref m), (1, .int (jI f))] [] (gmf m f0 J B) sz 0 0 := by
  have r4 : 0 ≤ I 4 ∧ I 4 ≤ 300 := hI 4
  have r5 : -13 ≤ I 5 ∧ I 5 ≤ 0 := hI 5
  have r13 : 0 ≤ I 13 ∧ I 13 ≤ 320 := hI 13
  obtain ⟨r0, hPA0, he0, hk0⟩ := PH_first hR
  have t0 := hT.1
  have t1 := hT.2.1
  intro n9
  induction n9 with
  | zero =>
    intro t J B hJ h45 l0 q0 q1 k5 ht t9 hl hr hmeas
    have q4 : 0 ≤ J 4 ∧ J 4 ≤ 300 := hJ.1 4
    have q5 : -13 ≤ J 5 ∧ J 5 ≤ 0 := hJ.1 5
    have q12 : 0 ≤ J 12 ∧ J 12 ≤ 300 := hJ.1 12
    have q13 : 0 ≤ J 13 ∧ J 13 ≤ 320 := hJ.1 13
    exfalso
    omega
  | succ n9 ih =>
    intro t J B hJ h45 l0 q0 q1 k5 ht t9 hl hr hmeas
    have f1 : J 1 = I 1 := hJ.2.2.1 1 rfl
    have q4 : 0 ≤ J 4 ∧ J 4 ≤ 300 := hJ.1 4
    have q5 : -13 ≤ J 5 ∧ J 5 ≤ 0 := hJ.1 5
    have q12 : 0 ≤ J 12 ∧ J 12 ≤ 300 := hJ.1 12
    have q13 : 0 ≤ J 13 ∧ J 13 ≤ 320 := hJ.1 13
    refine jt_aload_n d_GM_path_24 rfl ?_
    refine gm_gI (k := 5) (v := J 5) d_GM_path_25 GM_f25 (by decide) rfl ?_
    have rb201 : -13 ≤ J 5 ∧ J 5 ≤ 0 := hJ.1 5
    refine jt_if_ne (t := 204) d_GM_path_28 rfl (by unfold jRi; omega) (fun c202 => ?_) (fun c202 => ?_)
    · skip
      refine jt_aload_n d_GM_path_204 rfl ?_
      refine gm_gI (k := 5) (v := J 5) d_GM_path_205 GM_f25 (by decide) rfl ?_
      refine jt_if_eq (t := 212) d_GM_path_208 rfl (by unfold jRi; omega) (fun c203 => ?_) (fun c203 => ?_)
      · skip
        exfalso
        omega
      · skip
        exact gm_vret d_GM_path_211 rfl (⟨rfl, hJ, fun z => absurd z (by omega), ph_e (hr (by omega)) rfl rfl h45⟩)
    · skip
      refine jt_aload_n d_GM_path_31 rfl ?_
      refine jt_bipush d_GM_path_32 (by omega) ?_
      refine gct_call (Y := Y_GM_word) (As := [.int (jI 8)]) (rest := []) d_GM_path_34 GM_c201 yk_GM_word yv_GM_word rfl (Nat.le_of_ble_eq_true rfl) rfl rfl (Nat.le_of_ble_eq_true rfl) (c_GM_word G _ m 8 J B (gP_of hJ.1 (gT_of hJ hT rfl rfl rfl)) (by unfold jRi; omega)) (fun rvq204 Iq204 Aq204 hq204 => ?_)
      obtain ⟨haq204, hbq204, hIq204, hAq204⟩ := hq204
      rw [hIq204, hAq204]
      by_cases gq204 : xV (J 1) (B 22) (B 23) (J 4) 8
      · skip
        obtain rfl := haq204 gq204
        clear haq204 hbq204 hIq204 hAq204
        have tq204 : J 1 ≤ 300 := (gT_of hJ hT rfl rfl rfl).2.1
        have kq204 : (J 4) < (J 1) ∧ B 22 (J 4) = 4 ∧ B 23 (J 4) = 8 := gq204
        show jt _ 37 [(0, .ref m), (1, .int (jI f))] [.int (jI 1)] (gmf m f0 J B) _ _ _
        refine jt_if_eq (t := 58) d_GM_path_37 rfl (by unfold jRi; omega) (fun c205 => ?_) (fun c205 => ?_)
        · skip
          exfalso
          omega
        · skip
          refine jt_aload_n d_GM_path_40 rfl ?_
          refine jt_aload_n d_GM_path_41 rfl ?_
          refine gm_gI (k := 4) (v := J 4) d_GM_path_42 GM_f22 (by decide) rfl ?_
          have rb206 : 0 ≤ J 4 ∧ J 4 ≤ 300 := hJ.1 4
          refine jt_iconst d_GM_path_45 ?_
          refine jt_iadd d_GM_path_46 ?_
          refine jt_bipush d_GM_path_47 (by omega) ?_
          refine gct_call (Y := Y_GM_isWord) (As := [.int (jI ((J 4) + 1)), .int (jI 9)]) (rest := []) d_GM_path_49 GM_c156 yk_GM_isWord yv_GM_isWord rfl (Nat.le_of_ble_eq_true rfl) rfl rfl (Nat.le_of_ble_eq_true rfl) (c_GM_isWord G _ m ((J 4) + 1) 9 J B (by omega) (by unfold jRi; omega) (by unfold jRi; omega) (by have z9 := (gT_of hJ hT rfl rfl rfl).1; have z8 := (gT_of hJ hT rfl rfl rfl).2.1; unfold jRi; omega) (fun z => by have z8 := (gT_of hJ hT rfl rfl rfl).2.1; have z7 := (gT_of hJ hT rfl rfl rfl).2.2 ((J 4) + 1) (by omega) z; unfold gtok at z7; unfold jRi; omega)) (fun rvq207 Iq207 Aq207 hq207 => ?_)
          obtain ⟨haq207, hbq207, hIq207, hAq207⟩ := hq207
          rw [hIq207, hAq207]
          by_cases gq207 : xV (J 1) (B 22) (B 23) ((J 4) + 1) 9
          · skip
            obtain rfl := haq207 gq207
            clear haq207 hbq207 hIq207 hAq207
            have tq207 : J 1 ≤ 300 := (gT_of hJ hT rfl rfl rfl).2.1
            have kq207 : ((J 4) + 1) < (J 1) := gq207.1
            show jt _ 52 [(0, .ref m), (1, .int (jI f))] [.int (jI 1)] (gmf m f0 J B) _ _ _
            refine jt_if_eq (t := 58) d_GM_path_52 rfl (by unfold jRi; omega) (fun c208 => ?_) (fun c208 => ?_)
            · skip
              exfalso
              omega
            · skip
              refine jt_goto (t := 204) d_GM_path_55 rfl ?_
              have z5J : J 5 = 0 := by omega
              obtain ⟨L9, fs9, h12, hpl, hrw, hcv⟩ := hl z5J
              have hok := PL_fin hpl (by have h9 := gq204; unfold xV at h9; rw [f1, hJ.2.2.2 22 rfl, hJ.2.2.2 23 rfl] at h9; exact h9) (by have h9 := gq207; unfold xV at h9; rw [f1, hJ.2.2.2 22 rfl, hJ.2.2.2 23 rfl] at h9; exact h9)
              have k5z := k5 z5J
              refine jt_aload_n d_GM_path_204 rfl ?_
              refine gm_gI (k := 5) (v := J 5) d_GM_path_205 GM_f25 (by decide) rfl ?_
              refine jt_if_eq (t := 212) d_GM_path_208 rfl (by unfold jRi; omega) (fun c209 => ?_) (fun c209 => ?_)
              · skip
                refine jt_aload_n d_GM_path_212 rfl ?_
                refine jt_dup d_GM_path_213 rfl ?_
                refine gm_gI (k := 4) (v := J 4) d_GM_path_214 GM_f22 (by decide) rfl ?_
                refine jt_iconst d_GM_path_217 ?_
                refine jt_iadd d_GM_path_218 ?_
                refine jt_topi (fun v210 ev210 => ?_)
                refine gm_pI (k := 4) (v := v210) (J := va_up J 4 v210) d_GM_path_219 (GM_w22 _ rfl) (by decide) rfl rfl rfl ?_
                have p211 := gPo.I 4 v210 hJ rfl (show 0 ≤ v210 ∧ v210 ≤ 300 by omega)
                refine jt_aload_n d_GM_path_222 rfl ?_
                refine jt_bipush d_GM_path_223 (by omega) ?_
                refine gct_call (Y := Y_GM_need) (As := [.int (jI 6)]) (rest := []) d_GM_path_225 GM_c241 yk_GM_need yv_GM_need rfl (Nat.le_of_ble_eq_true rfl) rfl rfl (Nat.le_of_ble_eq_true rfl) (y_GM_need G _ m 6 (va_up J 4 v210) B (gT_of p211 hT rfl rfl rfl) p211.1 p211.2.1 (by unfold jRi; omega)) (fun rvq212 Iq212 Aq212 hq212 => ?_)
                obtain ⟨rfl, hqq212, hxq212⟩ := hq212
                have hpq212 := gPo.trans p211 hqq212 rfl rfl
                have f1q212 : Iq212 1 = I 1 := hpq212.2.2.1 1 rfl
                have s4q212 : (va_up J 4 v210) 4 = v210 := rfl
                have s5q212 : (va_up J 4 v210) 5 = J 5 := rfl
                have s11q212 : (va_up J 4 v210) 11 = J 11 := rfl
                have s12q212 : (va_up J 4 v210) 12 = J 12 := rfl
                have s13q212 : (va_up J 4 v210) 13 = J 13 := rfl
                have m11q212 : Iq212 11 = J 11 := hqq212.2.2.1 11 rfl
                have m12q212 : Iq212 12 = J 12 := hqq212.2.2.1 12 rfl
                have m13q212 : Iq212 13 = J 13 := hqq212.2.2.1 13 rfl
                replace hxq212 : Hd _ := hxq212
                show jt _ 228 [(0, .ref m), (1, .int (jI f))] [] (gmf m f0 Iq212 Aq212) _ _ _
                have e6w : ∀ q, Hd (gW (va_up J 4 v210) B q 6 ↔ xW (I 1) (A 22) (A 23) q 6) := fun q => by show xW (J 1) (B 22) (B 23) q 6 ↔ _; rw [f1, hJ.2.2.2 22 rfl, hJ.2.2.2 23 rfl]
                have nq : Hd (needQ 6 (va_up J 4 v210) B Iq212) := hxq212.2.1 z5J
                have ev4 : (va_up J 4 v210) 4 = J 4 + 2 := ev210
                have n15 : Iq212 15 = J 15 := hqq212.2.2.1 15 rfl
                refine jt_aload_n d_GM_path_228 rfl ?_
                refine gm_gI (k := 5) (v := Iq212 5) d_GM_path_229 GM_f25 (by decide) rfl ?_
                have rb213 : -13 ≤ Iq212 5 ∧ Iq212 5 ≤ 0 := hpq212.1 5
                refine jt_if_ne (t := 240) d_GM_path_232 rfl (by unfold jRi; omega) (fun c214 => ?_) (fun c214 => ?_)
                · skip
                  exact gm_vret d_GM_path_240 rfl (by
        have h8 := nq.2 (fun z => by have h7 := nq.1 z; omega)
        refine ⟨rfl, hpq212, fun z => absurd z (by omega), ph_6 hok (fun x => ?_) h8.1 (h8.2.1.trans ev4) ((hqq212.2.2.2 45 rfl).trans h45)⟩
        have h7 := nq.1 ((e6w _).mpr (by rw [ev4]; exact x))
        omega)
                · skip
                  have w6 : xV (I 1) (A 22) (A 23) (J 4 + 2) 6 := by rcases Classical.em (xV (I 1) (A 22) (A 23) (J 4 + 2) 6) with x | x; exact x; exact absurd (nq.2 (fun z => x ((e6w _).mp (by rw [ev4] at z; exact z)))).1 (by omega)
                  have n4 := (hxq212.1 (by omega)).2
                  have hsay := PH_say (by have h9 := hR; rw [hok] at h9; exact h9)
                  refine jt_aload_n d_GM_path_235 rfl ?_
                  refine jt_iload_n d_GM_path_236 rfl ?_
                  refine gct_call (Y := Y_GM_area) (As := [.int (jI f)]) (rest := []) d_GM_path_237 GM_c256 yk_GM_area yv_GM_area rfl (Nat.le_of_ble_eq_true rfl) rfl rfl (Nat.le_of_ble_eq_true rfl) (y_GM_area G _ m f Iq212 Aq212 hpq212.1 hpq212.2.1 (by omega) (show 0 ≤ Iq212 12 by omega) (show Iq212 5 = 0 by omega) fs9 (by rw [show Iq212 15 = J 15 by omega, show Iq212 12 = J 12 by omega, show Iq212 11 = J 11 by omega]; intro a c; exact ⟨(hrw c).1, gRo_fr ((hrw c).2 a) (fun z _ => by rw [hqq212.2.2.2 35 rfl])⟩) e9 (by rw [show Iq212 15 = J 15 by omega, show Iq212 12 = J 12 by omega]; intro a c; exact hE _ _ _ _ hok w6 a (by omega)) L9 (by rw [show Iq212 15 = J 15 by omega, show Iq212 12 = J 12 by omega]; intro a c; exact ⟨h12, gCv_f hcv (hqq212.2.2.2 44 rfl), hsay.2.1, hsay.2.2⟩)) (fun rvq215 Iq215 Aq215 hq215 => ?_)
                  obtain ⟨rfl, hqq215, hxq215⟩ := hq215
                  have hpq215 := gPo.trans hpq212 hqq215 rfl rfl
                  have f1q215 : Iq215 1 = I 1 := hpq215.2.2.1 1 rfl
                  have m4q215 : Iq215 4 = Iq212 4 := hqq215.2.2.1 4 rfl
                  have m11q215 : Iq215 11 = Iq212 11 := hqq215.2.2.1 11 rfl
                  have m12q215 : Iq215 12 = Iq212 12 := hqq215.2.2.1 12 rfl
                  have m13q215 : Iq215 13 = Iq212 13 := hqq215.2.2.1 13 rfl
                  replace hxq215 : Hd _ := hxq215
                  show jt _ 240 [(0, .ref m), (1, .int (jI f))] [] (gmf m f0 Iq215 Aq215) _ _ _
                  exact gm_vret d_GM_path_240 rfl (by
        obtain ⟨a1, a2, a3, a4, a5, a6⟩ := hxq215
        have s15 : Iq212 15 = J 15 := n15
        have a15 : Iq215 4 = Iq212 4 := hqq215.2.2.1 4 rfl
        have a45 : Aq212 45 = A 45 := (hqq212.2.2.2 45 rfl).trans h45
        have a6 : Iq215 5 ≠ 0 → Aq215 45 = A 45 := fun z => (a6 z).trans a45
        refine ⟨rfl, hpq215, fun _ => show I 4 < Iq215 4 by omega, ph_o hok w6 (show Iq215 4 = _ by omega) (fun z => ?_) (fun z y => ?_) (fun z y => ?_)⟩
        · have h1 := a1 (by rw [s15]; exact z)
          exact ⟨h1, by have h2 := a4 (by omega); omega, a6 (by omega)⟩
        · have h1 := a2 (by rw [s15]; exact z) (by omega)
          exact ⟨h1, by have h2 := a4 (by omega); omega, a6 (by omega)⟩
        · have h1 := a3 (by rw [s15]; exact z) (by omega)
          exact ⟨h1, fun x => ⟨by have h2 := a4 (by omega); omega, a6 (by omega)⟩, fun x => by have h2 := a5 (by omega); rw [a45] at h2; exact h2⟩)
              · skip
                exact gm_vret d_GM_path_211 rfl (by exfalso; omega)
          · skip
            obtain rfl := hbq207 gq207
            clear haq207 hbq207 hIq207 hAq207
            show jt _ 52 [(0, .ref m), (1, .int (jI f))] [.int (jI 0)] (gmf m f0 J B) _ _ _
            refine jt_if_eq (t := 58) d_GM_path_52 rfl (by unfold jRi; omega) (fun c216 => ?_) (fun c216 => ?_)
            · skip
              have z5J : J 5 = 0 := by omega
              obtain ⟨L9, fs9, h12, hpl, hrw, hcv⟩ := hl z5J
              refine jt_aload_n d_GM_path_58 rfl ?_
              refine jt_bipush d_GM_path_59 (by omega) ?_
              refine gct_call (Y := Y_GM_word) (As := [.int (jI 7)]) (rest := []) d_GM_path_61 GM_c201 yk_GM_word yv_GM_word rfl (Nat.le_of_ble_eq_true rfl) rfl rfl (Nat.le_of_ble_eq_true rfl) (c_GM_word G _ m 7 J B (gP_of hJ.1 (gT_of hJ hT rfl rfl rfl)) (by unfold jRi; omega)) (fun rvq217 Iq217 Aq217 hq217 => ?_)
              obtain ⟨haq217, hbq217, hIq217, hAq217⟩ := hq217
              rw [hIq217, hAq217]
              by_cases gq217 : xV (J 1) (B 22) (B 23) (J 4) 7
              · skip
                obtain rfl := haq217 gq217
                clear haq217 hbq217 hIq217 hAq217
                have tq217 : J 1 ≤ 300 := (gT_of hJ hT rfl rfl rfl).2.1
                have kq217 : (J 4) < (J 1) ∧ B 22 (J 4) = 4 ∧ B 23 (J 4) = 7 := gq217
                show jt _ 64 [(0, .ref m), (1, .int (jI f))] [.int (jI 1)] (gmf m f0 J B) _ _ _
                refine jt_istore_n (L' := [(0, .ref m), (1, .int (jI f)), (2, .int (jI 1))]) d_GM_path_64 (Nat.le_of_ble_eq_true rfl) rfl ?_
                refine jt_iload_n d_GM_path_65 rfl ?_
                refine jt_if_ne (t := 83) d_GM_path_66 rfl (by unfold jRi; omega) (fun c218 => ?_) (fun c218 => ?_)
                · skip
                  have hpc := PL_cur hpl (by have h9 := gq217; unfold xV at h9; rw [f1, hJ.2.2.2 22 rfl, hJ.2.2.2 23 rfl] at h9; exact h9)
                  refine jt_aload_n d_GM_path_83 rfl ?_
                  refine jt_dup d_GM_path_84 rfl ?_
                  refine gm_gI (k := 12) (v := J 12) d_GM_path_85 GM_f46 (by decide) rfl ?_
                  have rb219 : 0 ≤ J 12 ∧ J 12 ≤ 300 := hJ.1 12
                  refine jt_iconst d_GM_path_88 ?_
                  refine jt_iadd d_GM_path_89 ?_
                  refine jt_topi (fun v220 ev220 => ?_)
                  refine gm_pI (k := 12) (v := v220) (J := va_up J 12 v220) d_GM_path_90 (GM_w46 _ rfl) (by decide) rfl rfl rfl ?_
                  have p221 := gPo.I 12 v220 hJ rfl (show 0 ≤ v220 ∧ v220 ≤ 300 by omega)
                  refine jt_aload_n d_GM_path_93 rfl ?_
                  refine gm_gI (k := 12) (v := v220) d_GM_path_94 GM_f46 (by decide) rfl ?_
                  refine jt_bipush d_GM_path_97 (by omega) ?_
                  refine jt_icmp_ge (t := 120) d_GM_path_99 rfl (by unfold jRi; omega) (by unfold jRi; omega) (fun c222 => ?_) (fun c222 => ?_)
                  · skip
                    refine jt_iconst d_GM_path_120 ?_
                    refine jt_istore_n (L' := [(0, .ref m), (1, .int (jI f)), (2, .int (jI 1)), (3, .int (jI 0))]) d_GM_path_121 (Nat.le_of_ble_eq_true rfl) rfl ?_
                    refine l122_GM_pathy G d m f I A hT hI hA hf hw z5 h13 z15 V9 hV rp hR e9 hE f0 sz 1 ((by omega)) v220 (J 4) ((by omega)) (fun io223 Jo223 Bo223 hJo223 h45o223 l0o223 q0o223 q1o223 k5o223 i0o223 hco223 hro223 x9o223 x8o223 => ?_) 5 0 (va_up J 12 v220) B p221 h45 (show v220 = v220 by omega) (show 0 ≤ J 11 ∧ J 11 ≤ 74 by omega) (show v220 ≤ 12 → J 11 ≤ 2 + 6 * (v220 - 1) + 2 * (0) by omega) (show J 5 = 0 → I 5 = 0 ∧ J 13 = 0 ∧ I 4 < J 4 ∧ J 4 + (0) ≤ J 4 by omega) (show 0 ≤ 0 ∧ 0 ≤ 3 ∧ (1 = 0 → 0 ≤ 1) by omega) (fun _ => ⟨L9, fs9, show v220 = _ by omega, hpc, fun y => hrw (by have y9 : v220 ≤ 12 := y; omega), gCv_s (b := 1) hcv (fun d => by exfalso; omega) (fun d => rfl)⟩) (fun z => absurd (show J 5 = 0 by omega) z) (by omega)
                    have f1o223 : Jo223 1 = I 1 := hJo223.2.2.1 1 rfl
                    refine jt_goto (t := 24) d_GM_path_201 rfl ?_
                    refine jt_sub (L' := [(0, .ref m), (1, .int (jI f))]) (fun _ h => List.mem_append_left [(2, Value.int (jI 1)), (3, Value.int (jI io223))] h) ?_
                    exact ih (t - 1) Jo223 Bo223 hJo223 h45o223 (show Jo223 5 = 0 → Jo223 12 ≤ Jo223 4 by omega) (show 0 ≤ Jo223 11 ∧ Jo223 11 ≤ 74 by omega) (show Jo223 12 ≤ 12 → Jo223 11 ≤ 2 + 6 * Jo223 12 by omega) (show Jo223 5 = 0 → I 5 = 0 ∧ Jo223 13 = 0 ∧ I 4 < Jo223 4 by omega) (show Jo223 5 = 0 → 301 - Jo223 4 ≤ t - 1 by omega) (by omega) (fun z => rPc_end (b := 1) (by have h9 := hco223 z; rw [show ((if (1 : Int) = 1 then (3 : Int) else 1) - io223).toNat = 0 by have h8 := x8o223 z; rw [if_pos rfl] at h8 ⊢; omega] at h9; exact h9)) hro223 (by omega)
                  · skip
                    refine jt_aload_n d_GM_path_102 rfl ?_
                    refine gm_gA (k := 44) (a := m + 29) d_GM_path_103 GM_f145 (by decide) (by decide) rfl ?_
                    refine jt_aload_n d_GM_path_106 rfl ?_
                    refine gm_gI (k := 12) (v := v220) d_GM_path_107 GM_f46 (by decide) rfl ?_
                    refine jt_iload_n d_GM_path_110 rfl ?_
                    refine jt_if_eq (t := 118) d_GM_path_111 rfl (by unfold jRi; omega) (fun c224 => ?_) (fun c224 => ?_)
                    · skip
                      exfalso
                      omega
                    · skip
                      refine jt_iconst d_GM_path_114 ?_
                      refine jt_goto (t := 119) d_GM_path_115 rfl ?_
                      refine gm_st0 (k := 44) (n := 14) (B := va_up B 44 (ju (B 44) v220 1)) d_GM_path_119 rfl (by decide) (by decide) rfl rfl (by omega) (by omega) (by omega) rfl ?_
                      have p225 := gPo.A 44 (ju (B 44) v220 1) p221 rfl (gju (p221.2.1 44) (show 0 ≤ 1 ∧ 1 ≤ 1 by omega))
                      refine jt_iconst d_GM_path_120 ?_
                      refine jt_istore_n (L' := [(0, .ref m), (1, .int (jI f)), (2, .int (jI 1)), (3, .int (jI 0))]) d_GM_path_121 (Nat.le_of_ble_eq_true rfl) rfl ?_
                      refine l122_GM_pathy G d m f I A hT hI hA hf hw z5 h13 z15 V9 hV rp hR e9 hE f0 sz 1 ((by omega)) v220 (J 4) ((by omega)) (fun io226 Jo226 Bo226 hJo226 h45o226 l0o226 q0o226 q1o226 k5o226 i0o226 hco226 hro226 x9o226 x8o226 => ?_) 5 0 (va_up J 12 v220) (va_up B 44 (ju (B 44) v220 1)) p225 h45 (show v220 = v220 by omega) (show 0 ≤ J 11 ∧ J 11 ≤ 74 by omega) (show v220 ≤ 12 → J 11 ≤ 2 + 6 * (v220 - 1) + 2 * (0) by omega) (show J 5 = 0 → I 5 = 0 ∧ J 13 = 0 ∧ I 4 < J 4 ∧ J 4 + (0) ≤ J 4 by omega) (show 0 ≤ 0 ∧ 0 ≤ 3 ∧ (1 = 0 → 0 ≤ 1) by omega) (fun _ => ⟨L9, fs9, show v220 = _ by omega, hpc, fun y => hrw (by have y9 : v220 ≤ 12 := y; omega), gCv_s (b := 1) hcv (fun d => by show ju (B 44) v220 1 = _; rw [show v220 = (L9.length : Int) + 1 by omega]) (fun d => by exfalso; omega)⟩) (fun z => absurd (show J 5 = 0 by omega) z) (by omega)
                      have f1o226 : Jo226 1 = I 1 := hJo226.2.2.1 1 rfl
                      refine jt_goto (t := 24) d_GM_path_201 rfl ?_
                      refine jt_sub (L' := [(0, .ref m), (1, .int (jI f))]) (fun _ h => List.mem_append_left [(2, Value.int (jI 1)), (3, Value.int (jI io226))] h) ?_
                      exact ih (t - 1) Jo226 Bo226 hJo226 h45o226 (show Jo226 5 = 0 → Jo226 12 ≤ Jo226 4 by omega) (show 0 ≤ Jo226 11 ∧ Jo226 11 ≤ 74 by omega) (show Jo226 12 ≤ 12 → Jo226 11 ≤ 2 + 6 * Jo226 12 by omega) (show Jo226 5 = 0 → I 5 = 0 ∧ Jo226 13 = 0 ∧ I 4 < Jo226 4 by omega) (show Jo226 5 = 0 → 301 - Jo226 4 ≤ t - 1 by omega) (by omega) (fun z => rPc_end (b := 1) (by have h9 := hco226 z; rw [show ((if (1 : Int) = 1 then (3 : Int) else 1) - io226).toNat = 0 by have h8 := x8o226 z; rw [if_pos rfl] at h8 ⊢; omega] at h9; exact h9)) hro226 (by omega)
                · skip
                  exfalso
                  omega
              · skip
                obtain rfl := hbq217 gq217
                clear haq217 hbq217 hIq217 hAq217
                show jt _ 64 [(0, .ref m), (1, .int (jI f))] [.int (jI 0)] (gmf m f0 J B) _ _ _
                refine jt_istore_n (L' := [(0, .ref m), (1, .int (jI f)), (2, .int (jI 0))]) d_GM_path_64 (Nat.le_of_ble_eq_true rfl) rfl ?_
                refine jt_iload_n d_GM_path_65 rfl ?_
                refine jt_if_ne (t := 83) d_GM_path_66 rfl (by unfold jRi; omega) (fun c227 => ?_) (fun c227 => ?_)
                · skip
                  exfalso
                  omega
                · skip
                  refine jt_aload_n d_GM_path_69 rfl ?_
                  refine jt_bipush d_GM_path_70 (by omega) ?_
                  refine gct_call (Y := Y_GM_word) (As := [.int (jI 8)]) (rest := []) d_GM_path_72 GM_c201 yk_GM_word yv_GM_word rfl (Nat.le_of_ble_eq_true rfl) rfl rfl (Nat.le_of_ble_eq_true rfl) (c_GM_word G _ m 8 J B (gP_of hJ.1 (gT_of hJ hT rfl rfl rfl)) (by unfold jRi; omega)) (fun rvq228 Iq228 Aq228 hq228 => ?_)
                  obtain ⟨haq228, hbq228, hIq228, hAq228⟩ := hq228
                  rw [hIq228, hAq228]
                  by_cases gq228 : xV (J 1) (B 22) (B 23) (J 4) 8
                  · skip
                    obtain rfl := haq228 gq228
                    clear haq228 hbq228 hIq228 hAq228
                    have tq228 : J 1 ≤ 300 := (gT_of hJ hT rfl rfl rfl).2.1
                    have kq228 : (J 4) < (J 1) ∧ B 22 (J 4) = 4 ∧ B 23 (J 4) = 8 := gq228
                    show jt _ 75 [(0, .ref m), (1, .int (jI f)), (2, .int (jI 0))] [.int (jI 1)] (gmf m f0 J B) _ _ _
                    refine jt_if_ne (t := 83) d_GM_path_75 rfl (by unfold jRi; omega) (fun c229 => ?_) (fun c229 => ?_)
                    · skip
                      have hpc := PL_line hpl (by have h9 := gq204; unfold xV at h9; rw [f1, hJ.2.2.2 22 rfl, hJ.2.2.2 23 rfl] at h9; exact h9) (by have h9 := gq207; unfold xV at h9; rw [f1, hJ.2.2.2 22 rfl, hJ.2.2.2 23 rfl] at h9; exact h9)
                      refine jt_aload_n d_GM_path_83 rfl ?_
                      refine jt_dup d_GM_path_84 rfl ?_
                      refine gm_gI (k := 12) (v := J 12) d_GM_path_85 GM_f46 (by decide) rfl ?_
                      have rb230 : 0 ≤ J 12 ∧ J 12 ≤ 300 := hJ.1 12
                      refine jt_iconst d_GM_path_88 ?_
                      refine jt_iadd d_GM_path_89 ?_
                      refine jt_topi (fun v231 ev231 => ?_)
                      refine gm_pI (k := 12) (v := v231) (J := va_up J 12 v231) d_GM_path_90 (GM_w46 _ rfl) (by decide) rfl rfl rfl ?_
                      have p232 := gPo.I 12 v231 hJ rfl (show 0 ≤ v231 ∧ v231 ≤ 300 by omega)
                      refine jt_aload_n d_GM_path_93 rfl ?_
                      refine gm_gI (k := 12) (v := v231) d_GM_path_94 GM_f46 (by decide) rfl ?_
                      refine jt_bipush d_GM_path_97 (by omega) ?_
                      refine jt_icmp_ge (t := 120) d_GM_path_99 rfl (by unfold jRi; omega) (by unfold jRi; omega) (fun c233 => ?_) (fun c233 => ?_)
                      · skip
                        refine jt_iconst d_GM_path_120 ?_
                        refine jt_istore_n (L' := [(0, .ref m), (1, .int (jI f)), (2, .int (jI 0)), (3, .int (jI 0))]) d_GM_path_121 (Nat.le_of_ble_eq_true rfl) rfl ?_
                        refine l122_GM_pathy G d m f I A hT hI hA hf hw z5 h13 z15 V9 hV rp hR e9 hE f0 sz 0 ((by omega)) v231 (J 4) ((by omega)) (fun io234 Jo234 Bo234 hJo234 h45o234 l0o234 q0o234 q1o234 k5o234 i0o234 hco234 hro234 x9o234 x8o234 => ?_) 5 0 (va_up J 12 v231) B p232 h45 (show v231 = v231 by omega) (show 0 ≤ J 11 ∧ J 11 ≤ 74 by omega) (show v231 ≤ 12 → J 11 ≤ 2 + 6 * (v231 - 1) + 2 * (0) by omega) (show J 5 = 0 → I 5 = 0 ∧ J 13 = 0 ∧ I 4 < J 4 ∧ J 4 + (0) ≤ J 4 by omega) (show 0 ≤ 0 ∧ 0 ≤ 3 ∧ (0 = 0 → 0 ≤ 1) by omega) (fun _ => ⟨L9, fs9, show v231 = _ by omega, hpc, fun y => hrw (by have y9 : v231 ≤ 12 := y; omega), gCv_s (b := 0) hcv (fun d => by exfalso; omega) (fun d => rfl)⟩) (fun z => absurd (show J 5 = 0 by omega) z) (by omega)
                        have f1o234 : Jo234 1 = I 1 := hJo234.2.2.1 1 rfl
                        refine jt_goto (t := 24) d_GM_path_201 rfl ?_
                        refine jt_sub (L' := [(0, .ref m), (1, .int (jI f))]) (fun _ h => List.mem_append_left [(2, Value.int (jI 0)), (3, Value.int (jI io234))] h) ?_
                        exact ih (t - 1) Jo234 Bo234 hJo234 h45o234 (show Jo234 5 = 0 → Jo234 12 ≤ Jo234 4 by omega) (show 0 ≤ Jo234 11 ∧ Jo234 11 ≤ 74 by omega) (show Jo234 12 ≤ 12 → Jo234 11 ≤ 2 + 6 * Jo234 12 by omega) (show Jo234 5 = 0 → I 5 = 0 ∧ Jo234 13 = 0 ∧ I 4 < Jo234 4 by omega) (show Jo234 5 = 0 → 301 - Jo234 4 ≤ t - 1 by omega) (by omega) (fun z => rPc_end (b := 0) (by have h9 := hco234 z; rw [show ((if (0 : Int) = 1 then (3 : Int) else 1) - io234).toNat = 0 by have h8 := x8o234 z; rw [if_neg (by decide)] at h8 ⊢; omega] at h9; exact h9)) hro234 (by omega)
                      · skip
                        refine jt_aload_n d_GM_path_102 rfl ?_
                        refine gm_gA (k := 44) (a := m + 29) d_GM_path_103 GM_f145 (by decide) (by decide) rfl ?_
                        refine jt_aload_n d_GM_path_106 rfl ?_
                        refine gm_gI (k := 12) (v := v231) d_GM_path_107 GM_f46 (by decide) rfl ?_
                        refine jt_iload_n d_GM_path_110 rfl ?_
                        refine jt_if_eq (t := 118) d_GM_path_111 rfl (by unfold jRi; omega) (fun c235 => ?_) (fun c235 => ?_)
                        · skip
                          refine jt_iconst d_GM_path_118 ?_
                          refine gm_st0 (k := 44) (n := 14) (B := va_up B 44 (ju (B 44) v231 0)) d_GM_path_119 rfl (by decide) (by decide) rfl rfl (by omega) (by omega) (by omega) rfl ?_
                          have p236 := gPo.A 44 (ju (B 44) v231 0) p232 rfl (gju (p232.2.1 44) (show 0 ≤ 0 ∧ 0 ≤ 1 by omega))
                          refine jt_iconst d_GM_path_120 ?_
                          refine jt_istore_n (L' := [(0, .ref m), (1, .int (jI f)), (2, .int (jI 0)), (3, .int (jI 0))]) d_GM_path_121 (Nat.le_of_ble_eq_true rfl) rfl ?_
                          refine l122_GM_pathy G d m f I A hT hI hA hf hw z5 h13 z15 V9 hV rp hR e9 hE f0 sz 0 ((by omega)) v231 (J 4) ((by omega)) (fun io237 Jo237 Bo237 hJo237 h45o237 l0o237 q0o237 q1o237 k5o237 i0o237 hco237 hro237 x9o237 x8o237 => ?_) 5 0 (va_up J 12 v231) (va_up B 44 (ju (B 44) v231 0)) p236 h45 (show v231 = v231 by omega) (show 0 ≤ J 11 ∧ J 11 ≤ 74 by omega) (show v231 ≤ 12 → J 11 ≤ 2 + 6 * (v231 - 1) + 2 * (0) by omega) (show J 5 = 0 → I 5 = 0 ∧ J 13 = 0 ∧ I 4 < J 4 ∧ J 4 + (0) ≤ J 4 by omega) (show 0 ≤ 0 ∧ 0 ≤ 3 ∧ (0 = 0 → 0 ≤ 1) by omega) (fun _ => ⟨L9, fs9, show v231 = _ by omega, hpc, fun y => hrw (by have y9 : v231 ≤ 12 := y; omega), gCv_s (b := 0) hcv (fun d => by show ju (B 44) v231 0 = _; rw [show v231 = (L9.length : Int) + 1 by omega]) (fun d => by exfalso; omega)⟩) (fun z => absurd (show J 5 = 0 by omega) z) (by omega)
                          have f1o237 : Jo237 1 = I 1 := hJo237.2.2.1 1 rfl
                          refine jt_goto (t := 24) d_GM_path_201 rfl ?_
                          refine jt_sub (L' := [(0, .ref m), (1, .int (jI f))]) (fun _ h => List.mem_append_left [(2, Value.int (jI 0)), (3, Value.int (jI io237))] h) ?_
                          exact ih (t - 1) Jo237 Bo237 hJo237 h45o237 (show Jo237 5 = 0 → Jo237 12 ≤ Jo237 4 by omega) (show 0 ≤ Jo237 11 ∧ Jo237 11 ≤ 74 by omega) (show Jo237 12 ≤ 12 → Jo237 11 ≤ 2 + 6 * Jo237 12 by omega) (show Jo237 5 = 0 → I 5 = 0 ∧ Jo237 13 = 0 ∧ I 4 < Jo237 4 by omega) (show Jo237 5 = 0 → 301 - Jo237 4 ≤ t - 1 by omega) (by omega) (fun z => rPc_end (b := 0) (by have h9 := hco237 z; rw [show ((if (0 : Int) = 1 then (3 : Int) else 1) - io237).toNat = 0 by have h8 := x8o237 z; rw [if_neg (by decide)] at h8 ⊢; omega] at h9; exact h9)) hro237 (by omega)
                        · skip
                          exfalso
                          omega
                    · skip
                      exfalso
                      omega
                  · skip
                    obtain rfl := hbq228 gq228
                    clear haq228 hbq228 hIq228 hAq228
                    show jt _ 75 [(0, .ref m), (1, .int (jI f)), (2, .int (jI 0))] [.int (jI 0)] (gmf m f0 J B) _ _ _
                    refine jt_if_ne (t := 83) d_GM_path_75 rfl (by unfold jRi; omega) (fun c238 => ?_) (fun c238 => ?_)
                    · skip
                      exfalso
                      omega
                    · skip
                      refine jt_aload_n d_GM_path_78 rfl ?_
                      refine gct_call (Y := Y_GM_syntax) (As := []) (rest := []) d_GM_path_79 GM_c205 yk_GM_syntax yv_GM_syntax rfl (Nat.le_of_ble_eq_true rfl) rfl rfl (Nat.le_of_ble_eq_true rfl) (y_GM_syntax G _ m J B hJ.1 hJ.2.1 (by omega)) (fun rvq239 Iq239 Aq239 hq239 => ?_)
                      obtain ⟨rfl, hqq239, hxq239⟩ := hq239
                      have hpq239 := gPo.trans hJ hqq239 rfl rfl
                      have f1q239 : Iq239 1 = I 1 := hpq239.2.2.1 1 rfl
                      have m4q239 : Iq239 4 = J 4 := hqq239.2.2.1 4 rfl
                      have m11q239 : Iq239 11 = J 11 := hqq239.2.2.1 11 rfl
                      have m12q239 : Iq239 12 = J 12 := hqq239.2.2.1 12 rfl
                      have m13q239 : Iq239 13 = J 13 := hqq239.2.2.1 13 rfl
                      show jt _ 82 [(0, .ref m), (1, .int (jI f)), (2, .int (jI 0))] [] (gmf m f0 Iq239 Aq239) _ _ _
                      exact gm_vret d_GM_path_82 rfl (⟨rfl, hpq239, fun z => absurd z hxq239.1, ph_e (PL_bad hpl (by have h9 := gq228; unfold xV at h9; rw [f1, hJ.2.2.2 22 rfl, hJ.2.2.2 23 rfl] at h9; exact h9) (by have h9 := gq217; unfold xV at h9; rw [f1, hJ.2.2.2 22 rfl, hJ.2.2.2 23 rfl] at h9; exact h9)) hxq239.2.1 hxq239.2.2 ((hqq239.2.2.2 45 rfl).trans h45)⟩)
            · skip
              exfalso
              omega
      · skip
        obtain rfl := hbq204 gq204
        clear haq204 hbq204 hIq204 hAq204
        show jt _ 37 [(0, .ref m), (1, .int (jI f))] [.int (jI 0)] (gmf m f0 J B) _ _ _
        refine jt_if_eq (t := 58) d_GM_path_37 rfl (by unfold jRi; omega) (fun c240 => ?_) (fun c240 => ?_)
        · skip
          have z5J : J 5 = 0 := by omega
          obtain ⟨L9, fs9, h12, hpl, hrw, hcv⟩ := hl z5J
          refine jt_aload_n d_GM_path_58 rfl ?_
          refine jt_bipush d_GM_path_59 (by omega) ?_
          refine gct_call (Y := Y_GM_word) (As := [.int (jI 7)]) (rest := []) d_GM_path_61 GM_c201 yk_GM_word yv_GM_word rfl (Nat.le_of_ble_eq_true rfl) rfl rfl (Nat.le_of_ble_eq_true rfl) (c_GM_word G _ m 7 J B (gP_of hJ.1 (gT_of hJ hT rfl rfl rfl)) (by unfold jRi; omega)) (fun rvq241 Iq241 Aq241 hq241 => ?_)
          obtain ⟨haq241, hbq241, hIq241, hAq241⟩ := hq241
          rw [hIq241, hAq241]
          by_cases gq241 : xV (J 1) (B 22) (B 23) (J 4) 7
          · skip
            obtain rfl := haq241 gq241
            clear haq241 hbq241 hIq241 hAq241
            have tq241 : J 1 ≤ 300 := (gT_of hJ hT rfl rfl rfl).2.1
            have kq241 : (J 4) < (J 1) ∧ B 22 (J 4) = 4 ∧ B 23 (J 4) = 7 := gq241
            show jt _ 64 [(0, .ref m), (1, .int (jI f))] [.int (jI 1)] (gmf m f0 J B) _ _ _
            refine jt_istore_n (L' := [(0, .ref m), (1, .int (jI f)), (2, .int (jI 1))]) d_GM_path_64 (Nat.le_of_ble_eq_true rfl) rfl ?_
            refine jt_iload_n d_GM_path_65 rfl ?_
            refine jt_if_ne (t := 83) d_GM_path_66 rfl (by unfold jRi; omega) (fun c242 => ?_) (fun c242 => ?_)
            · skip
              have hpc := PL_cur hpl (by have h9 := gq241; unfold xV at h9; rw [f1, hJ.2.2.2 22 rfl, hJ.2.2.2 23 rfl] at h9; exact h9)
              refine jt_aload_n d_GM_path_83 rfl ?_
              refine jt_dup d_GM_path_84 rfl ?_
              refine gm_gI (k := 12) (v := J 12) d_GM_path_85 GM_f46 (by decide) rfl ?_
              have rb243 : 0 ≤ J 12 ∧ J 12 ≤ 300 := hJ.1 12
              refine jt_iconst d_GM_path_88 ?_
              refine jt_iadd d_GM_path_89 ?_
              refine jt_topi (fun v244 ev244 => ?_)
              refine gm_pI (k := 12) (v := v244) (J := va_up J 12 v244) d_GM_path_90 (GM_w46 _ rfl) (by decide) rfl rfl rfl ?_
              have p245 := gPo.I 12 v244 hJ rfl (show 0 ≤ v244 ∧ v244 ≤ 300 by omega)
              refine jt_aload_n d_GM_path_93 rfl ?_
              refine gm_gI (k := 12) (v := v244) d_GM_path_94 GM_f46 (by decide) rfl ?_
              refine jt_bipush d_GM_path_97 (by omega) ?_
              refine jt_icmp_ge (t := 120) d_GM_path_99 rfl (by unfold jRi; omega) (by unfold jRi; omega) (fun c246 => ?_) (fun c246 => ?_)
              · skip
                refine jt_iconst d_GM_path_120 ?_
                refine jt_istore_n (L' := [(0, .ref m), (1, .int (jI f)), (2, .int (jI 1)), (3, .int (jI 0))]) d_GM_path_121 (Nat.le_of_ble_eq_true rfl) rfl ?_
                refine l122_GM_pathy G d m f I A hT hI hA hf hw z5 h13 z15 V9 hV rp hR e9 hE f0 sz 1 ((by omega)) v244 (J 4) ((by omega)) (fun io247 Jo247 Bo247 hJo247 h45o247 l0o247 q0o247 q1o247 k5o247 i0o247 hco247 hro247 x9o247 x8o247 => ?_) 5 0 (va_up J 12 v244) B p245 h45 (show v244 = v244 by omega) (show 0 ≤ J 11 ∧ J 11 ≤ 74 by omega) (show v244 ≤ 12 → J 11 ≤ 2 + 6 * (v244 - 1) + 2 * (0) by omega) (show J 5 = 0 → I 5 = 0 ∧ J 13 = 0 ∧ I 4 < J 4 ∧ J 4 + (0) ≤ J 4 by omega) (show 0 ≤ 0 ∧ 0 ≤ 3 ∧ (1 = 0 → 0 ≤ 1) by omega) (fun _ => ⟨L9, fs9, show v244 = _ by omega, hpc, fun y => hrw (by have y9 : v244 ≤ 12 := y; omega), gCv_s (b := 1) hcv (fun d => by exfalso; omega) (fun d => rfl)⟩) (fun z => absurd (show J 5 = 0 by omega) z) (by omega)
                have f1o247 : Jo247 1 = I 1 := hJo247.2.2.1 1 rfl
                refine jt_goto (t := 24) d_GM_path_201 rfl ?_
                refine jt_sub (L' := [(0, .ref m), (1, .int (jI f))]) (fun _ h => List.mem_append_left [(2, Value.int (jI 1)), (3, Value.int (jI io247))] h) ?_
                exact ih (t - 1) Jo247 Bo247 hJo247 h45o247 (show Jo247 5 = 0 → Jo247 12 ≤ Jo247 4 by omega) (show 0 ≤ Jo247 11 ∧ Jo247 11 ≤ 74 by omega) (show Jo247 12 ≤ 12 → Jo247 11 ≤ 2 + 6 * Jo247 12 by omega) (show Jo247 5 = 0 → I 5 = 0 ∧ Jo247 13 = 0 ∧ I 4 < Jo247 4 by omega) (show Jo247 5 = 0 → 301 - Jo247 4 ≤ t - 1 by omega) (by omega) (fun z => rPc_end (b := 1) (by have h9 := hco247 z; rw [show ((if (1 : Int) = 1 then (3 : Int) else 1) - io247).toNat = 0 by have h8 := x8o247 z; rw [if_pos rfl] at h8 ⊢; omega] at h9; exact h9)) hro247 (by omega)
              · skip
                refine jt_aload_n d_GM_path_102 rfl ?_
                refine gm_gA (k := 44) (a := m + 29) d_GM_path_103 GM_f145 (by decide) (by decide) rfl ?_
                refine jt_aload_n d_GM_path_106 rfl ?_
                refine gm_gI (k := 12) (v := v244) d_GM_path_107 GM_f46 (by decide) rfl ?_
                refine jt_iload_n d_GM_path_110 rfl ?_
                refine jt_if_eq (t := 118) d_GM_path_111 rfl (by unfold jRi; omega) (fun c248 => ?_) (fun c248 => ?_)
                · skip
                  exfalso
                  omega
                · skip
                  refine jt_iconst d_GM_path_114 ?_
                  refine jt_goto (t := 119) d_GM_path_115 rfl ?_
                  refine gm_st0 (k := 44) (n := 14) (B := va_up B 44 (ju (B 44) v244 1)) d_GM_path_119 rfl (by decide) (by decide) rfl rfl (by omega) (by omega) (by omega) rfl ?_
                  have p249 := gPo.A 44 (ju (B 44) v244 1) p245 rfl (gju (p245.2.1 44) (show 0 ≤ 1 ∧ 1 ≤ 1 by omega))
                  refine jt_iconst d_GM_path_120 ?_
                  refine jt_istore_n (L' := [(0, .ref m), (1, .int (jI f)), (2, .int (jI 1)), (3, .int (jI 0))]) d_GM_path_121 (Nat.le_of_ble_eq_true rfl) rfl ?_
                  refine l122_GM_pathy G d m f I A hT hI hA hf hw z5 h13 z15 V9 hV rp hR e9 hE f0 sz 1 ((by omega)) v244 (J 4) ((by omega)) (fun io250 Jo250 Bo250 hJo250 h45o250 l0o250 q0o250 q1o250 k5o250 i0o250 hco250 hro250 x9o250 x8o250 => ?_) 5 0 (va_up J 12 v244) (va_up B 44 (ju (B 44) v244 1)) p249 h45 (show v244 = v244 by omega) (show 0 ≤ J 11 ∧ J 11 ≤ 74 by omega) (show v244 ≤ 12 → J 11 ≤ 2 + 6 * (v244 - 1) + 2 * (0) by omega) (show J 5 = 0 → I 5 = 0 ∧ J 13 = 0 ∧ I 4 < J 4 ∧ J 4 + (0) ≤ J 4 by omega) (show 0 ≤ 0 ∧ 0 ≤ 3 ∧ (1 = 0 → 0 ≤ 1) by omega) (fun _ => ⟨L9, fs9, show v244 = _ by omega, hpc, fun y => hrw (by have y9 : v244 ≤ 12 := y; omega), gCv_s (b := 1) hcv (fun d => by show ju (B 44) v244 1 = _; rw [show v244 = (L9.length : Int) + 1 by omega]) (fun d => by exfalso; omega)⟩) (fun z => absurd (show J 5 = 0 by omega) z) (by omega)
                  have f1o250 : Jo250 1 = I 1 := hJo250.2.2.1 1 rfl
                  refine jt_goto (t := 24) d_GM_path_201 rfl ?_
                  refine jt_sub (L' := [(0, .ref m), (1, .int (jI f))]) (fun _ h => List.mem_append_left [(2, Value.int (jI 1)), (3, Value.int (jI io250))] h) ?_
                  exact ih (t - 1) Jo250 Bo250 hJo250 h45o250 (show Jo250 5 = 0 → Jo250 12 ≤ Jo250 4 by omega) (show 0 ≤ Jo250 11 ∧ Jo250 11 ≤ 74 by omega) (show Jo250 12 ≤ 12 → Jo250 11 ≤ 2 + 6 * Jo250 12 by omega) (show Jo250 5 = 0 → I 5 = 0 ∧ Jo250 13 = 0 ∧ I 4 < Jo250 4 by omega) (show Jo250 5 = 0 → 301 - Jo250 4 ≤ t - 1 by omega) (by omega) (fun z => rPc_end (b := 1) (by have h9 := hco250 z; rw [show ((if (1 : Int) = 1 then (3 : Int) else 1) - io250).toNat = 0 by have h8 := x8o250 z; rw [if_pos rfl] at h8 ⊢; omega] at h9; exact h9)) hro250 (by omega)
            · skip
              exfalso
              omega
          · skip
            obtain rfl := hbq241 gq241
            clear haq241 hbq241 hIq241 hAq241
            show jt _ 64 [(0, .ref m), (1, .int (jI f))] [.int (jI 0)] (gmf m f0 J B) _ _ _
            refine jt_istore_n (L' := [(0, .ref m), (1, .int (jI f)), (2, .int (jI 0))]) d_GM_path_64 (Nat.le_of_ble_eq_true rfl) rfl ?_
            refine jt_iload_n d_GM_path_65 rfl ?_
            refine jt_if_ne (t := 83) d_GM_path_66 rfl (by unfold jRi; omega) (fun c251 => ?_) (fun c251 => ?_)
            · skip
              exfalso
              omega
            · skip
              refine jt_aload_n d_GM_path_69 rfl ?_
              refine jt_bipush d_GM_path_70 (by omega) ?_
              refine gct_call (Y := Y_GM_word) (As := [.int (jI 8)]) (rest := []) d_GM_path_72 GM_c201 yk_GM_word yv_GM_word rfl (Nat.le_of_ble_eq_true rfl) rfl rfl (Nat.le_of_ble_eq_true rfl) (c_GM_word G _ m 8 J B (gP_of hJ.1 (gT_of hJ hT rfl rfl rfl)) (by unfold jRi; omega)) (fun rvq252 Iq252 Aq252 hq252 => ?_)
              obtain ⟨haq252, hbq252, hIq252, hAq252⟩ := hq252
              rw [hIq252, hAq252]
              by_cases gq252 : xV (J 1) (B 22) (B 23) (J 4) 8
              · skip
                obtain rfl := haq252 gq252
                clear haq252 hbq252 hIq252 hAq252
                have tq252 : J 1 ≤ 300 := (gT_of hJ hT rfl rfl rfl).2.1
                have kq252 : (J 4) < (J 1) ∧ B 22 (J 4) = 4 ∧ B 23 (J 4) = 8 := gq252
                show jt _ 75 [(0, .ref m), (1, .int (jI f)), (2, .int (jI 0))] [.int (jI 1)] (gmf m f0 J B) _ _ _
                refine jt_if_ne (t := 83) d_GM_path_75 rfl (by unfold jRi; omega) (fun c253 => ?_) (fun c253 => ?_)
                · skip
                  exact absurd gq252 gq204
                · skip
                  exfalso
                  omega
              · skip
                obtain rfl := hbq252 gq252
                clear haq252 hbq252 hIq252 hAq252
                show jt _ 75 [(0, .ref m), (1, .int (jI f)), (2, .int (jI 0))] [.int (jI 0)] (gmf m f0 J B) _ _ _
                refine jt_if_ne (t := 83) d_GM_path_75 rfl (by unfold jRi; omega) (fun c254 => ?_) (fun c254 => ?_)
                · skip
                  exfalso
                  omega
                · skip
                  refine jt_aload_n d_GM_path_78 rfl ?_
                  refine gct_call (Y := Y_GM_syntax) (As := []) (rest := []) d_GM_path_79 GM_c205 yk_GM_syntax yv_GM_syntax rfl (Nat.le_of_ble_eq_true rfl) rfl rfl (Nat.le_of_ble_eq_true rfl) (y_GM_syntax G _ m J B hJ.1 hJ.2.1 (by omega)) (fun rvq255 Iq255 Aq255 hq255 => ?_)
                  obtain ⟨rfl, hqq255, hxq255⟩ := hq255
                  have hpq255 := gPo.trans hJ hqq255 rfl rfl
                  have f1q255 : Iq255 1 = I 1 := hpq255.2.2.1 1 rfl
                  have m4q255 : Iq255 4 = J 4 := hqq255.2.2.1 4 rfl
                  have m11q255 : Iq255 11 = J 11 := hqq255.2.2.1 11 rfl
                  have m12q255 : Iq255 12 = J 12 := hqq255.2.2.1 12 rfl
                  have m13q255 : Iq255 13 = J 13 := hqq255.2.2.1 13 rfl
                  show jt _ 82 [(0, .ref m), (1, .int (jI f)), (2, .int (jI 0))] [] (gmf m f0 Iq255 Aq255) _ _ _
                  exact gm_vret d_GM_path_82 rfl (⟨rfl, hpq255, fun z => absurd z hxq255.1, ph_e (PL_bad hpl (by have h9 := gq252; unfold xV at h9; rw [f1, hJ.2.2.2 22 rfl, hJ.2.2.2 23 rfl] at h9; exact h9) (by have h9 := gq241; unfold xV at h9; rw [f1, hJ.2.2.2 22 rfl, hJ.2.2.2 23 rfl] at h9; exact h9)) hxq255.2.1 hxq255.2.2 ((hqq255.2.2.2 45 rfl).trans h45)⟩)
        · skip
          exfalso
          omega
set_option maxRecDepth 100000 in
set_option maxHeartbeats 1000000 in
theorem y_GM_path (G : jG) (d m : Nat) (f : Int) (I : Nat → Int) (A : Nat → Int → Int) (hT : gT I A) (hI : gSI I) (hA : gSA A) (hf : 0 ≤ f ∧ f ≤ 1) (hw : I 4 < I 1) (z5 : I 5 = 0) (h13 : I 13 = 0) (z15 : I 15 = 0) (V9 : Int → Int → Int) (hV : gVr V9 A) (rp : QR) (hR : PH (I 1) (A 22) (A 23) V9 (I 4 + 1) rp) (e9 : Int) (hE : ∀ (q : Int) (L : List Int) (fs : List (Int → Int)) (g : Prop), rp = .ok q L fs g → xW (I 1) (A 22) (A 23) q 6 → g → L.length ≤ 12 → TN fs e9) : gct G Y_GM_path (d + 6) m [.int (jI f)] I A (fun (rv : Option Value) (I2 : Nat → Int) (A2 : Nat → Int → Int) => rv = none ∧ gPo [4, 5, 6, 9, 10, 11, 12, 13, 14, 15] [35, 36, 37, 38, 39, 40, 41, 42, 43, 44, 45] I A I2 A2 ∧ (I2 5 = 0 → I 4 < I2 4) ∧ phQ (I 1) (A 22) (A 23) rp e9 f A I2 A2) := by
  refine gct_of (by decide) (Nat.le_of_ble_eq_true rfl) (fun f0 sz => ?_)
  show jt _ 0 [(0, .ref m), (1, .int (jI f))] [] _ _ _ _
  have r4 : 0 ≤ I 4 ∧ I 4 ≤ 300 := hI 4
  have r5 : -13 ≤ I 5 ∧ I 5 ≤ 0 := hI 5
  have r13 : 0 ≤ I 13 ∧ I 13 ≤ 320 := hI 13
  obtain ⟨r0, hPA0, he0, hk0⟩ := PH_first hR
  have hz0 : gPo [4, 5, 6, 9, 10, 11, 12, 13, 14, 15] [35, 36, 37, 38, 39, 40, 41, 42, 43, 44, 45] I A I A := gPo.refl hI hA
  have t0 := hT.1
  have t1 := hT.2.1
  refine jt_aload_n d_GM_path_0 rfl ?_
  refine jt_dup d_GM_path_1 rfl ?_
  refine gm_gI (k := 4) (v := I 4) d_GM_path_2 GM_f22 (by decide) rfl ?_
  have rb1 : 0 ≤ I 4 ∧ I 4 ≤ 300 := hz0.1 4
  refine jt_iconst d_GM_path_5 ?_
  refine jt_iadd d_GM_path_6 ?_
  refine jt_topi (fun v2 ev2 => ?_)
  refine gm_pI (k := 4) (v := v2) (J := va_up I 4 v2) d_GM_path_7 (GM_w22 _ rfl) (by decide) rfl rfl rfl ?_
  have p3 := gPo.I 4 v2 hz0 rfl (show 0 ≤ v2 ∧ v2 ≤ 300 by omega)
  refine jt_aload_n d_GM_path_10 rfl ?_
  refine jt_iconst d_GM_path_11 ?_
  refine gm_pI (k := 11) (v := 0) (J := va_up (va_up I 4 v2) 11 0) d_GM_path_12 (GM_w43 _ rfl) (by decide) rfl rfl rfl ?_
  have p4 := gPo.I 11 0 p3 rfl (show 0 ≤ 0 ∧ 0 ≤ 76 by omega)
  refine jt_aload_n d_GM_path_15 rfl ?_
  refine jt_iconst d_GM_path_16 ?_
  refine gm_pI (k := 12) (v := 0) (J := va_up (va_up (va_up I 4 v2) 11 0) 12 0) d_GM_path_17 (GM_w46 _ rfl) (by decide) rfl rfl rfl ?_
  have p5 := gPo.I 12 0 p4 rfl (show 0 ≤ 0 ∧ 0 ≤ 300 by omega)
  refine jt_aload_n d_GM_path_20 rfl ?_
  refine gct_call (Y := Y_GM_pair) (As := []) (rest := []) d_GM_path_21 GM_c253 yk_GM_pair yv_GM_pair rfl (Nat.le_of_ble_eq_true rfl) rfl rfl (Nat.le_of_ble_eq_true rfl) (y_GM_pair G _ m (va_up (va_up (va_up I 4 v2) 11 0) 12 0) A (gT_of p5 hT rfl rfl rfl) p5.1 p5.2.1 (show (0 : Int) ≤ 0 ∧ (0 : Int) ≤ 74 by omega) z5 h13 V9 (by unfold gVr; rw [p5.2.2.2 30 rfl, p5.2.2.2 31 rfl]; exact hV) True ⟨fun _ => trivial, fun _ => z15⟩ r0 (by show PA (I 1) (A 22) (A 23) V9 v2 True r0; rw [ev2]; exact hPA0)) (fun rvq6 Iq6 Aq6 hq6 => ?_)
  obtain ⟨rfl, hqq6, hxq6⟩ := hq6
  have hpq6 := gPo.trans p5 hqq6 rfl rfl
  have f1q6 : Iq6 1 = I 1 := hpq6.2.2.1 1 rfl
  have s4q6 : (va_up (va_up (va_up I 4 v2) 11 0) 12 0) 4 = v2 := rfl
  have s5q6 : (va_up (va_up (va_up I 4 v2) 11 0) 12 0) 5 = I 5 := rfl
  have s11q6 : (va_up (va_up (va_up I 4 v2) 11 0) 12 0) 11 = 0 := rfl
  have s12q6 : (va_up (va_up (va_up I 4 v2) 11 0) 12 0) 12 = 0 := rfl
  have s13q6 : (va_up (va_up (va_up I 4 v2) 11 0) 12 0) 13 = I 13 := rfl
  have m12q6 : Iq6 12 = 0 := hqq6.2.2.1 12 rfl
  have kwq6 := hxq6.1
  have kpq6 : Hd _ := hxq6.2
  clear hxq6
  show jt _ 24 [(0, .ref m), (1, .int (jI f))] [] (gmf m f0 Iq6 Aq6) _ _ _
  exact l24_GM_pathy G d m f I A hT hI hA hf hw z5 h13 z15 V9 hV rp hR e9 hE f0 sz  303 301 Iq6 Aq6 hpq6 (hqq6.2.2.2 45 rfl) (show Iq6 5 = 0 → Iq6 12 ≤ Iq6 4 by omega) (show 0 ≤ Iq6 11 ∧ Iq6 11 ≤ 74 by omega) (show Iq6 12 ≤ 12 → Iq6 11 ≤ 2 + 6 * Iq6 12 by omega) (show Iq6 5 = 0 → I 5 = 0 ∧ Iq6 13 = 0 ∧ I 4 < Iq6 4 by omega) (show Iq6 5 = 0 → 301 - Iq6 4 ≤ 301 by omega) (by omega) (fun z => rPl_0 (show Iq6 12 = 0 from hqq6.2.2.1 12 rfl) rfl rfl hPA0 hk0 kpq6 z) (fun z => he0 _ _ (kpq6.2.1 z)) (by omega)

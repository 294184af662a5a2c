set_option maxRecDepth 100000 in
set_option maxHeartbeats 4000000 in
theorem v_TR_addAll_14_1_x (G : jG) (d b : Nat) (p : Int) (q : Int) (I : Nat → Nat → Int) (A : Nat → Int → Int) (hI : cSI I) (hA : cSA A) (hp : 0 ≤ p ∧ p ≤ 100000) (hq : 0 ≤ q ∧ q ≤ 120) : cct G Y_TR_addAll (d + 1) b [.ref (b + 14), .ref (b + 1), .int (jI p), .int (jI q)] I A (fun (rv : Option Value) (I2 : Nat → Nat → Int) (A2 : Nat → Int → Int) => rv = none ∧ cPx [227] [15, 16, 17] I A I2 A2 ∧ (cTok A → cTok A2) ∧ (p ≤ q → I 14 3 + (q - p) ≤ 40 → I2 14 3 = I 14 3 + (q - p) ∧ ∀ P : List (Int × Int × Int), (P.length : Int) = I 14 3 → gH (A 15) (A 16) (A 17) P → gH (A2 15) (A2 16) (A2 17) (P ++ xs (A 2) (A 3) (A 4) p q))) := by
  refine cct_of (by decide) (Nat.le_of_ble_eq_true rfl) (fun f0 sz => ?_)
  show jt _ 0 [(0, .ref (b + 14)), (1, .ref (b + 1)), (2, .int (jI p)), (3, .int (jI q))] [] _ _ _ _
  have hz0 : cPx [227] [15, 16, 17] I A I A := cPx.refl hI hA
  refine jt_iload_n d_TR_addAll_0 rfl ?_
  refine jt_iload_n d_TR_addAll_1 rfl ?_
  refine jt_isub d_TR_addAll_2 ?_
  refine jt_aload_n d_TR_addAll_3 rfl ?_
  refine cm_get (k := 14) (v := .ref (b + 15)) d_TR_addAll_4 TR_f9 (by decide) (cc_1 rfl) rfl ?_
  refine cm_len (k := 15) (n := 40) d_TR_addAll_7 jTy_0 (by decide) (cc_8 rfl rfl) ?_
  refine jt_aload_n d_TR_addAll_8 rfl ?_
  refine cm_get (k := 14) (v := .int (jI (I 14 3))) d_TR_addAll_9 TR_f21 (by decide) (cc_1 rfl) rfl ?_
  have rb1 : 0 ≤ I 14 3 ∧ I 14 3 ≤ 40 := hz0.1 14 3
  refine jt_isub d_TR_addAll_12 ?_
  refine jt_mmin d_TR_addAll_13 mw_min (by unfold jRi; omega) (by unfold jRi; omega) (show 1 ≤ d + 1 by omega) (show 0 + 13 ≤ (d + 1) * 40 by omega) (Nat.le_refl _) (Nat.le_refl _) ?_
  refine jt_topi (fun v2 ev2 => ?_)
  have mv2 : v2 ≤ q - p ∧ v2 ≤ 40 - (I 14 3) ∧ (v2 = q - p ∨ v2 = 40 - (I 14 3)) := by omega
  refine jt_istore (L' := [(0, .ref (b + 14)), (1, .ref (b + 1)), (2, .int (jI p)), (3, .int (jI q)), (4, .int (jI v2))]) d_TR_addAll_16 (Nat.le_of_ble_eq_true rfl) rfl ?_
  refine jt_iload_n d_TR_addAll_18 rfl ?_
  refine jt_if_lt (t := 92) d_TR_addAll_19 rfl (by unfold jRi; omega) (fun c3 => ?_) (fun c3 => ?_)
  · skip
    exact cm_vret d_TR_addAll_92 rfl (⟨rfl, hz0, fun z => z, fun z1 z2 => ⟨by omega, fun P hP hH => by rw [xs_nil _ _ _ _ _ (by omega), List.append_nil]; exact hH⟩⟩)
  · skip
    refine jt_iload d_TR_addAll_22 rfl ?_
    refine jt_if_le (t := 92) d_TR_addAll_24 rfl (by unfold jRi; omega) (fun c4 => ?_) (fun c4 => ?_)
    · skip
      exact cm_vret d_TR_addAll_92 rfl (⟨rfl, hz0, fun z => z, fun z1 z2 => ⟨by omega, fun P hP hH => by rw [xs_nil _ _ _ _ _ (by omega), List.append_nil]; exact hH⟩⟩)
    · skip
      refine jt_aload_n d_TR_addAll_27 rfl ?_
      refine cm_get (k := 1) (v := .ref (b + 2)) d_TR_addAll_28 TR_f9 (by decide) (cc_1 rfl) rfl ?_
      refine jt_iload_n d_TR_addAll_31 rfl ?_
      refine jt_aload_n d_TR_addAll_32 rfl ?_
      refine cm_get (k := 14) (v := .ref (b + 15)) d_TR_addAll_33 TR_f9 (by decide) (cc_1 rfl) rfl ?_
      refine jt_aload_n d_TR_addAll_36 rfl ?_
      refine cm_get (k := 14) (v := .int (jI (I 14 3))) d_TR_addAll_37 TR_f21 (by decide) (cc_1 rfl) rfl ?_
      refine jt_iload d_TR_addAll_40 rfl ?_
      refine cm_cpy (k0 := 2) (k1 := 15) (n0 := 120) (n1 := 40) (sp := p) (dp := (I 14 3)) (n := v2) d_TR_addAll_42 TR_ac34 (by decide) (by decide) rfl rfl rfl rfl (by omega) (by omega) (by omega) (by omega) (by omega) (by omega) (by omega) (show 1 ≤ d + 1 by omega) (by have e9 : nativeFrameWords "java/lang/System" "arraycopy" 5 = 7 := (by decide); rw [e9]; show 0 + (7 + 11) ≤ (d + 1) * 40; omega) ?_
      have p5 := cPx.A 15 (jcp (A 2) (A 15) p (I 14 3) v2) hz0 (Or.inl rfl) (jcp_r (hz0.2.1 2) (hz0.2.1 15))
      refine jt_aload_n d_TR_addAll_45 rfl ?_
      refine cm_get (k := 1) (v := .ref (b + 3)) d_TR_addAll_46 TR_f15 (by decide) (cc_1 rfl) rfl ?_
      refine jt_iload_n d_TR_addAll_49 rfl ?_
      refine jt_aload_n d_TR_addAll_50 rfl ?_
      refine cm_get (k := 14) (v := .ref (b + 16)) d_TR_addAll_51 TR_f15 (by decide) (cc_1 rfl) rfl ?_
      refine jt_aload_n d_TR_addAll_54 rfl ?_
      refine cm_get (k := 14) (v := .int (jI (I 14 3))) d_TR_addAll_55 TR_f21 (by decide) (cc_1 rfl) rfl ?_
      refine jt_iload d_TR_addAll_58 rfl ?_
      refine cm_cpy (k0 := 3) (k1 := 16) (n0 := 120) (n1 := 40) (sp := p) (dp := (I 14 3)) (n := v2) d_TR_addAll_60 TR_ac34 (by decide) (by decide) rfl rfl rfl rfl (by omega) (by omega) (by omega) (by omega) (by omega) (by omega) (by omega) (show 1 ≤ d + 1 by omega) (by have e9 : nativeFrameWords "java/lang/System" "arraycopy" 5 = 7 := (by decide); rw [e9]; show 0 + (7 + 11) ≤ (d + 1) * 40; omega) ?_
      have p6 := cPx.A 16 (jcp (A 3) (A 16) p (I 14 3) v2) p5 (Or.inl rfl) (jcp_r (p5.2.1 3) (p5.2.1 16))
      refine jt_aload_n d_TR_addAll_63 rfl ?_
      refine cm_get (k := 1) (v := .ref (b + 4)) d_TR_addAll_64 TR_f18 (by decide) (cc_1 rfl) rfl ?_
      refine jt_iload_n d_TR_addAll_67 rfl ?_
      refine jt_aload_n d_TR_addAll_68 rfl ?_
      refine cm_get (k := 14) (v := .ref (b + 17)) d_TR_addAll_69 TR_f18 (by decide) (cc_1 rfl) rfl ?_
      refine jt_aload_n d_TR_addAll_72 rfl ?_
      refine cm_get (k := 14) (v := .int (jI (I 14 3))) d_TR_addAll_73 TR_f21 (by decide) (cc_1 rfl) rfl ?_
      refine jt_iload d_TR_addAll_76 rfl ?_
      refine cm_cpy (k0 := 4) (k1 := 17) (n0 := 120) (n1 := 40) (sp := p) (dp := (I 14 3)) (n := v2) d_TR_addAll_78 TR_ac34 (by decide) (by decide) rfl rfl rfl rfl (by omega) (by omega) (by omega) (by omega) (by omega) (by omega) (by omega) (show 1 ≤ d + 1 by omega) (by have e9 : nativeFrameWords "java/lang/System" "arraycopy" 5 = 7 := (by decide); rw [e9]; show 0 + (7 + 11) ≤ (d + 1) * 40; omega) ?_
      have p7 := cPx.A 17 (jcp (A 4) (A 17) p (I 14 3) v2) p6 (Or.inl rfl) (jcp_r (p6.2.1 4) (p6.2.1 17))
      refine jt_aload_n d_TR_addAll_81 rfl ?_
      refine jt_dup d_TR_addAll_82 rfl ?_
      refine cm_get (k := 14) (v := .int (jI (I 14 3))) d_TR_addAll_83 TR_f21 (by decide) (cc_1 rfl) rfl ?_
      refine jt_iload d_TR_addAll_86 rfl ?_
      refine jt_iadd d_TR_addAll_88 ?_
      refine jt_topi (fun v8 ev8 => ?_)
      refine cm_put (k := 14) (j := 3) (v := v8) d_TR_addAll_89 (TR_w21 _ rfl) (by decide) (cc_1 rfl) rfl rfl (Nat.le_of_ble_eq_true rfl) rfl ?_
      have p9 := cPx.I 14 3 v8 p7 rfl (show 0 ≤ v8 ∧ v8 ≤ 40 by omega)
      exact cm_vret d_TR_addAll_92 rfl (⟨rfl, p9, fun z1 => cTok_n 17 _ (cTok_w 14 _ _ z1 (jcp_tok (z1 1 rfl) (z1 14 rfl)) rfl) rfl, fun z1 z2 => by
      obtain rfl : q = p + v2 := by omega
      exact ⟨show v8 = I 14 3 + (p + v2 - p) by omega, fun P hP hH => gH_jcp hH hP⟩⟩)
set_option maxRecDepth 100000 in
set_option maxHeartbeats 4000000 in
theorem v_TR_copy_14_x (G : jG) (d b : Nat)  (I : Nat → Nat → Int) (A : Nat → Int → Int) (hI : cSI I) (hA : cSA A) (h40 : I 1 3 ≤ 40) : cct G Y_TR_copy (d + 2) b [.ref (b + 14), .ref (b + 1)] I A (fun (rv : Option Value) (I2 : Nat → Nat → Int) (A2 : Nat → Int → Int) => rv = none ∧ cPx [227] [15, 16, 17] I A I2 A2 ∧ (cTok A → cTok A2) ∧ (I2 14 3 = I 1 3 ∧ gH (A2 15) (A2 16) (A2 17) (xs (A 2) (A 3) (A 4) 0 (I 1 3)))) := by
  refine cct_of (by decide) (Nat.le_of_ble_eq_true rfl) (fun f0 sz => ?_)
  show jt _ 0 [(0, .ref (b + 14)), (1, .ref (b + 1))] [] _ _ _ _
  have r13 : 0 ≤ I 1 3 ∧ I 1 3 ≤ 120 := hI 1 3
  have hz0 : cPx [227] [15, 16, 17] I A I A := cPx.refl hI hA
  refine jt_aload_n d_TR_copy_0 rfl ?_
  refine jt_iconst d_TR_copy_1 ?_
  refine cm_put (k := 14) (j := 3) (v := 0) d_TR_copy_2 (TR_w21 _ rfl) (by decide) (cc_1 rfl) rfl rfl (Nat.le_of_ble_eq_true rfl) rfl ?_
  have p1 := cPx.I 14 3 0 hz0 rfl (show 0 ≤ 0 ∧ 0 ≤ 40 by omega)
  refine jt_aload_n d_TR_copy_5 rfl ?_
  refine jt_aload_n d_TR_copy_6 rfl ?_
  refine jt_iconst d_TR_copy_7 ?_
  refine jt_aload_n d_TR_copy_8 rfl ?_
  refine cm_get (k := 1) (v := .int (jI (I 1 3))) d_TR_copy_9 TR_f21 (by decide) (cc_1 rfl) rfl ?_
  have rb2 : 0 ≤ I 1 3 ∧ I 1 3 ≤ 120 := p1.1 1 3
  refine cct_callV (Y := Y_TR_addAll) (ci := 0) (k := 14) (As := [.ref (b + 1), .int (jI 0), .int (jI (I 1 3))]) (rest := []) d_TR_copy_12 TR_c40 yk_TR_addAll yv_TR_addAll rfl (Nat.le_of_ble_eq_true rfl) (by decide) (cc_1 rfl) rfl rfl (Nat.le_of_ble_eq_true rfl) (v_TR_addAll_14_1_x G _ b 0 (I 1 3) (cu I 14 3 0) A p1.1 p1.2.1 (by omega) (by omega)) (fun rvq3 Iq3 Aq3 hq3 => ?_)
  obtain ⟨rfl, hqq3, hxq3⟩ := hq3
  have hpq3 := cPx.trans p1 hqq3 rfl rfl
  show jt _ 15 [(0, .ref (b + 14)), (1, .ref (b + 1))] [] (cmf b f0 Iq3 Aq3) _ _ _
  exact cm_vret d_TR_copy_15 rfl (⟨rfl, hpq3, hxq3.1, by
      have h9 := hxq3.2 (by omega) (show (0 : Int) + (I 1 3 - 0) ≤ 40 by omega)
      have h8 : Iq3 14 3 = (0 : Int) + (I 1 3 - 0) := h9.1
      exact ⟨by omega, by have h7 := h9.2 [] rfl (fun i t h => by simp at h); exact h7⟩⟩)
set_option maxRecDepth 100000 in
set_option maxHeartbeats 4000000 in
theorem v_TR_addAll_18_1_x (G : jG) (d b : Nat) (p : Int) (q : Int) (I : Nat → Nat → Int) (A : Nat → Int → Int) (hI : cSI I) (hA : cSA A) (hp : 0 ≤ p ∧ p ≤ 100000) (hq : 0 ≤ q ∧ q ≤ 120) : cct G Y_TR_addAll (d + 1) b [.ref (b + 18), .ref (b + 1), .int (jI p), .int (jI q)] I A (fun (rv : Option Value) (I2 : Nat → Nat → Int) (A2 : Nat → Int → Int) => rv = none ∧ cPx [291] [19, 20, 21] I A I2 A2 ∧ (cTok A → cTok A2) ∧ (p ≤ q → I 18 3 + (q - p) ≤ 40 → I2 18 3 = I 18 3 + (q - p) ∧ ∀ P : List (Int × Int × Int), (P.length : Int) = I 18 3 → gH (A 19) (A 20) (A 21) P → gH (A2 19) (A2 20) (A2 21) (P ++ xs (A 2) (A 3) (A 4) p q))) := by
  refine cct_of (by decide) (Nat.le_of_ble_eq_true rfl) (fun f0 sz => ?_)
  show jt _ 0 [(0, .ref (b + 18)), (1, .ref (b + 1)), (2, .int (jI p)), (3, .int (jI q))] [] _ _ _ _
  have hz0 : cPx [291] [19, 20, 21] I A I A := cPx.refl hI hA
  refine jt_iload_n d_TR_addAll_0 rfl ?_
  refine jt_iload_n d_TR_addAll_1 rfl ?_
  refine jt_isub d_TR_addAll_2 ?_
  refine jt_aload_n d_TR_addAll_3 rfl ?_
  refine cm_get (k := 18) (v := .ref (b + 19)) d_TR_addAll_4 TR_f9 (by decide) (cc_1 rfl) rfl ?_
  refine cm_len (k := 19) (n := 40) d_TR_addAll_7 jTy_0 (by decide) (cc_8 rfl rfl) ?_
  refine jt_aload_n d_TR_addAll_8 rfl ?_
  refine cm_get (k := 18) (v := .int (jI (I 18 3))) d_TR_addAll_9 TR_f21 (by decide) (cc_1 rfl) rfl ?_
  have rb1 : 0 ≤ I 18 3 ∧ I 18 3 ≤ 40 := hz0.1 18 3
  refine jt_isub d_TR_addAll_12 ?_
  refine jt_mmin d_TR_addAll_13 mw_min (by unfold jRi; omega) (by unfold jRi; omega) (show 1 ≤ d + 1 by omega) (show 0 + 13 ≤ (d + 1) * 40 by omega) (Nat.le_refl _) (Nat.le_refl _) ?_
  refine jt_topi (fun v2 ev2 => ?_)
  have mv2 : v2 ≤ q - p ∧ v2 ≤ 40 - (I 18 3) ∧ (v2 = q - p ∨ v2 = 40 - (I 18 3)) := by omega
  refine jt_istore (L' := [(0, .ref (b + 18)), (1, .ref (b + 1)), (2, .int (jI p)), (3, .int (jI q)), (4, .int (jI v2))]) d_TR_addAll_16 (Nat.le_of_ble_eq_true rfl) rfl ?_
  refine jt_iload_n d_TR_addAll_18 rfl ?_
  refine jt_if_lt (t := 92) d_TR_addAll_19 rfl (by unfold jRi; omega) (fun c3 => ?_) (fun c3 => ?_)
  · skip
    exact cm_vret d_TR_addAll_92 rfl (⟨rfl, hz0, fun z => z, fun z1 z2 => ⟨by omega, fun P hP hH => by rw [xs_nil _ _ _ _ _ (by omega), List.append_nil]; exact hH⟩⟩)
  · skip
    refine jt_iload d_TR_addAll_22 rfl ?_
    refine jt_if_le (t := 92) d_TR_addAll_24 rfl (by unfold jRi; omega) (fun c4 => ?_) (fun c4 => ?_)
    · skip
      exact cm_vret d_TR_addAll_92 rfl (⟨rfl, hz0, fun z => z, fun z1 z2 => ⟨by omega, fun P hP hH => by rw [xs_nil _ _ _ _ _ (by omega), List.append_nil]; exact hH⟩⟩)
    · skip
      refine jt_aload_n d_TR_addAll_27 rfl ?_
      refine cm_get (k := 1) (v := .ref (b + 2)) d_TR_addAll_28 TR_f9 (by decide) (cc_1 rfl) rfl ?_
      refine jt_iload_n d_TR_addAll_31 rfl ?_
      refine jt_aload_n d_TR_addAll_32 rfl ?_
      refine cm_get (k := 18) (v := .ref (b + 19)) d_TR_addAll_33 TR_f9 (by decide) (cc_1 rfl) rfl ?_
      refine jt_aload_n d_TR_addAll_36 rfl ?_
      refine cm_get (k := 18) (v := .int (jI (I 18 3))) d_TR_addAll_37 TR_f21 (by decide) (cc_1 rfl) rfl ?_
      refine jt_iload d_TR_addAll_40 rfl ?_
      refine cm_cpy (k0 := 2) (k1 := 19) (n0 := 120) (n1 := 40) (sp := p) (dp := (I 18 3)) (n := v2) d_TR_addAll_42 TR_ac34 (by decide) (by decide) rfl rfl rfl rfl (by omega) (by omega) (by omega) (by omega) (by omega) (by omega) (by omega) (show 1 ≤ d + 1 by omega) (by have e9 : nativeFrameWords "java/lang/System" "arraycopy" 5 = 7 := (by decide); rw [e9]; show 0 + (7 + 11) ≤ (d + 1) * 40; omega) ?_
      have p5 := cPx.A 19 (jcp (A 2) (A 19) p (I 18 3) v2) hz0 (Or.inl rfl) (jcp_r (hz0.2.1 2) (hz0.2.1 19))
      refine jt_aload_n d_TR_addAll_45 rfl ?_
      refine cm_get (k := 1) (v := .ref (b + 3)) d_TR_addAll_46 TR_f15 (by decide) (cc_1 rfl) rfl ?_
      refine jt_iload_n d_TR_addAll_49 rfl ?_
      refine jt_aload_n d_TR_addAll_50 rfl ?_
      refine cm_get (k := 18) (v := .ref (b + 20)) d_TR_addAll_51 TR_f15 (by decide) (cc_1 rfl) rfl ?_
      refine jt_aload_n d_TR_addAll_54 rfl ?_
      refine cm_get (k := 18) (v := .int (jI (I 18 3))) d_TR_addAll_55 TR_f21 (by decide) (cc_1 rfl) rfl ?_
      refine jt_iload d_TR_addAll_58 rfl ?_
      refine cm_cpy (k0 := 3) (k1 := 20) (n0 := 120) (n1 := 40) (sp := p) (dp := (I 18 3)) (n := v2) d_TR_addAll_60 TR_ac34 (by decide) (by decide) rfl rfl rfl rfl (by omega) (by omega) (by omega) (by omega) (by omega) (by omega) (by omega) (show 1 ≤ d + 1 by omega) (by have e9 : nativeFrameWords "java/lang/System" "arraycopy" 5 = 7 := (by decide); rw [e9]; show 0 + (7 + 11) ≤ (d + 1) * 40; omega) ?_
      have p6 := cPx.A 20 (jcp (A 3) (A 20) p (I 18 3) v2) p5 (Or.inl rfl) (jcp_r (p5.2.1 3) (p5.2.1 20))
      refine jt_aload_n d_TR_addAll_63 rfl ?_
      refine cm_get (k := 1) (v := .ref (b + 4)) d_TR_addAll_64 TR_f18 (by decide) (cc_1 rfl) rfl ?_
      refine jt_iload_n d_TR_addAll_67 rfl ?_
      refine jt_aload_n d_TR_addAll_68 rfl ?_
      refine cm_get (k := 18) (v := .ref (b + 21)) d_TR_addAll_69 TR_f18 (by decide) (cc_1 rfl) rfl ?_
      refine jt_aload_n d_TR_addAll_72 rfl ?_
      refine cm_get (k := 18) (v := .int (jI (I 18 3))) d_TR_addAll_73 TR_f21 (by decide) (cc_1 rfl) rfl ?_
      refine jt_iload d_TR_addAll_76 rfl ?_
      refine cm_cpy (k0 := 4) (k1 := 21) (n0 := 120) (n1 := 40) (sp := p) (dp := (I 18 3)) (n := v2) d_TR_addAll_78 TR_ac34 (by decide) (by decide) rfl rfl rfl rfl (by omega) (by omega) (by omega) (by omega) (by omega) (by omega) (by omega) (show 1 ≤ d + 1 by omega) (by have e9 : nativeFrameWords "java/lang/System" "arraycopy" 5 = 7 := (by decide); rw [e9]; show 0 + (7 + 11) ≤ (d + 1) * 40; omega) ?_
      have p7 := cPx.A 21 (jcp (A 4) (A 21) p (I 18 3) v2) p6 (Or.inl rfl) (jcp_r (p6.2.1 4) (p6.2.1 21))
      refine jt_aload_n d_TR_addAll_81 rfl ?_
      refine jt_dup d_TR_addAll_82 rfl ?_
      refine cm_get (k := 18) (v := .int (jI (I 18 3))) d_TR_addAll_83 TR_f21 (by decide) (cc_1 rfl) rfl ?_
      refine jt_iload d_TR_addAll_86 rfl ?_
      refine jt_iadd d_TR_addAll_88 ?_
      refine jt_topi (fun v8 ev8 => ?_)
      refine cm_put (k := 18) (j := 3) (v := v8) d_TR_addAll_89 (TR_w21 _ rfl) (by decide) (cc_1 rfl) rfl rfl (Nat.le_of_ble_eq_true rfl) rfl ?_
      have p9 := cPx.I 18 3 v8 p7 rfl (show 0 ≤ v8 ∧ v8 ≤ 40 by omega)
      exact cm_vret d_TR_addAll_92 rfl (⟨rfl, p9, fun z1 => cTok_n 21 _ (cTok_w 18 _ _ z1 (jcp_tok (z1 1 rfl) (z1 18 rfl)) rfl) rfl, fun z1 z2 => by
      obtain rfl : q = p + v2 := by omega
      exact ⟨show v8 = I 18 3 + (p + v2 - p) by omega, fun P hP hH => gH_jcp hH hP⟩⟩)
set_option maxRecDepth 100000 in
set_option maxHeartbeats 4000000 in
theorem v_TR_copy_18_x (G : jG) (d b : Nat)  (I : Nat → Nat → Int) (A : Nat → Int → Int) (hI : cSI I) (hA : cSA A) (h40 : I 1 3 ≤ 40) : cct G Y_TR_copy (d + 2) b [.ref (b + 18), .ref (b + 1)] I A (fun (rv : Option Value) (I2 : Nat → Nat → Int) (A2 : Nat → Int → Int) => rv = none ∧ cPx [291] [19, 20, 21] I A I2 A2 ∧ (cTok A → cTok A2) ∧ (I2 18 3 = I 1 3 ∧ gH (A2 19) (A2 20) (A2 21) (xs (A 2) (A 3) (A 4) 0 (I 1 3)))) := by
  refine cct_of (by decide) (Nat.le_of_ble_eq_true rfl) (fun f0 sz => ?_)
  show jt _ 0 [(0, .ref (b + 18)), (1, .ref (b + 1))] [] _ _ _ _
  have r13 : 0 ≤ I 1 3 ∧ I 1 3 ≤ 120 := hI 1 3
  have hz0 : cPx [291] [19, 20, 21] I A I A := cPx.refl hI hA
  refine jt_aload_n d_TR_copy_0 rfl ?_
  refine jt_iconst d_TR_copy_1 ?_
  refine cm_put (k := 18) (j := 3) (v := 0) d_TR_copy_2 (TR_w21 _ rfl) (by decide) (cc_1 rfl) rfl rfl (Nat.le_of_ble_eq_true rfl) rfl ?_
  have p1 := cPx.I 18 3 0 hz0 rfl (show 0 ≤ 0 ∧ 0 ≤ 40 by omega)
  refine jt_aload_n d_TR_copy_5 rfl ?_
  refine jt_aload_n d_TR_copy_6 rfl ?_
  refine jt_iconst d_TR_copy_7 ?_
  refine jt_aload_n d_TR_copy_8 rfl ?_
  refine cm_get (k := 1) (v := .int (jI (I 1 3))) d_TR_copy_9 TR_f21 (by decide) (cc_1 rfl) rfl ?_
  have rb2 : 0 ≤ I 1 3 ∧ I 1 3 ≤ 120 := p1.1 1 3
  refine cct_callV (Y := Y_TR_addAll) (ci := 0) (k := 18) (As := [.ref (b + 1), .int (jI 0), .int (jI (I 1 3))]) (rest := []) d_TR_copy_12 TR_c40 yk_TR_addAll yv_TR_addAll rfl (Nat.le_of_ble_eq_true rfl) (by decide) (cc_1 rfl) rfl rfl (Nat.le_of_ble_eq_true rfl) (v_TR_addAll_18_1_x G _ b 0 (I 1 3) (cu I 18 3 0) A p1.1 p1.2.1 (by omega) (by omega)) (fun rvq3 Iq3 Aq3 hq3 => ?_)
  obtain ⟨rfl, hqq3, hxq3⟩ := hq3
  have hpq3 := cPx.trans p1 hqq3 rfl rfl
  show jt _ 15 [(0, .ref (b + 18)), (1, .ref (b + 1))] [] (cmf b f0 Iq3 Aq3) _ _ _
  exact cm_vret d_TR_copy_15 rfl (⟨rfl, hpq3, hxq3.1, by
      have h9 := hxq3.2 (by omega) (show (0 : Int) + (I 1 3 - 0) ≤ 40 by omega)
      have h8 : Iq3 18 3 = (0 : Int) + (I 1 3 - 0) := h9.1
      exact ⟨by omega, by have h7 := h9.2 [] rfl (fun i t h => by simp at h); exact h7⟩⟩)
set_option maxRecDepth 100000 in
set_option maxHeartbeats 4000000 in
theorem v_TR_addAll_22_1_x (G : jG) (d b : Nat) (p : Int) (q : Int) (I : Nat → Nat → Int) (A : Nat → Int → Int) (hI : cSI I) (hA : cSA A) (hp : 0 ≤ p ∧ p ≤ 100000) (hq : 0 ≤ q ∧ q ≤ 120) : cct G Y_TR_addAll (d + 1) b [.ref (b + 22), .ref (b + 1), .int (jI p), .int (jI q)] I A (fun (rv : Option Value) (I2 : Nat → Nat → Int) (A2 : Nat → Int → Int) => rv = none ∧ cPx [355] [23, 24, 25] I A I2 A2 ∧ (cTok A → cTok A2) ∧ (p ≤ q → I 22 3 + (q - p) ≤ 40 → I2 22 3 = I 22 3 + (q - p) ∧ ∀ P : List (Int × Int × Int), (P.length : Int) = I 22 3 → gH (A 23) (A 24) (A 25) P → gH (A2 23) (A2 24) (A2 25) (P ++ xs (A 2) (A 3) (A 4) p q))) := by
  refine cct_of (by decide) (Nat.le_of_ble_eq_true rfl) (fun f0 sz => ?_)
  show jt _ 0 [(0, .ref (b + 22)), (1, .ref (b + 1)), (2, .int (jI p)), (3, .int (jI q))] [] _ _ _ _
  have hz0 : cPx [355] [23, 24, 25] I A I A := cPx.refl hI hA
  refine jt_iload_n d_TR_addAll_0 rfl ?_
  refine jt_iload_n d_TR_addAll_1 rfl ?_
  refine jt_isub d_TR_addAll_2 ?_
  refine jt_aload_n d_TR_addAll_3 rfl ?_
  refine cm_get (k := 22) (v := .ref (b + 23)) d_TR_addAll_4 TR_f9 (by decide) (cc_1 rfl) rfl ?_
  refine cm_len (k := 23) (n := 40) d_TR_addAll_7 jTy_0 (by decide) (cc_8 rfl rfl) ?_
  refine jt_aload_n d_TR_addAll_8 rfl ?_
  refine cm_get (k := 22) (v := .int (jI (I 22 3))) d_TR_addAll_9 TR_f21 (by decide) (cc_1 rfl) rfl ?_
  have rb1 : 0 ≤ I 22 3 ∧ I 22 3 ≤ 40 := hz0.1 22 3
  refine jt_isub d_TR_addAll_12 ?_
  refine jt_mmin d_TR_addAll_13 mw_min (by unfold jRi; omega) (by unfold jRi; omega) (show 1 ≤ d + 1 by omega) (show 0 + 13 ≤ (d + 1) * 40 by omega) (Nat.le_refl _) (Nat.le_refl _) ?_
  refine jt_topi (fun v2 ev2 => ?_)
  have mv2 : v2 ≤ q - p ∧ v2 ≤ 40 - (I 22 3) ∧ (v2 = q - p ∨ v2 = 40 - (I 22 3)) := by omega
  refine jt_istore (L' := [(0, .ref (b + 22)), (1, .ref (b + 1)), (2, .int (jI p)), (3, .int (jI q)), (4, .int (jI v2))]) d_TR_addAll_16 (Nat.le_of_ble_eq_true rfl) rfl ?_
  refine jt_iload_n d_TR_addAll_18 rfl ?_
  refine jt_if_lt (t := 92) d_TR_addAll_19 rfl (by unfold jRi; omega) (fun c3 => ?_) (fun c3 => ?_)
  · skip
    exact cm_vret d_TR_addAll_92 rfl (⟨rfl, hz0, fun z => z, fun z1 z2 => ⟨by omega, fun P hP hH => by rw [xs_nil _ _ _ _ _ (by omega), List.append_nil]; exact hH⟩⟩)
  · skip
    refine jt_iload d_TR_addAll_22 rfl ?_
    refine jt_if_le (t := 92) d_TR_addAll_24 rfl (by unfold jRi; omega) (fun c4 => ?_) (fun c4 => ?_)
    · skip
      exact cm_vret d_TR_addAll_92 rfl (⟨rfl, hz0, fun z => z, fun z1 z2 => ⟨by omega, fun P hP hH => by rw [xs_nil _ _ _ _ _ (by omega), List.append_nil]; exact hH⟩⟩)
    · skip
      refine jt_aload_n d_TR_addAll_27 rfl ?_
      refine cm_get (k := 1) (v := .ref (b + 2)) d_TR_addAll_28 TR_f9 (by decide) (cc_1 rfl) rfl ?_
      refine jt_iload_n d_TR_addAll_31 rfl ?_
      refine jt_aload_n d_TR_addAll_32 rfl ?_
      refine cm_get (k := 22) (v := .ref (b + 23)) d_TR_addAll_33 TR_f9 (by decide) (cc_1 rfl) rfl ?_
      refine jt_aload_n d_TR_addAll_36 rfl ?_
      refine cm_get (k := 22) (v := .int (jI (I 22 3))) d_TR_addAll_37 TR_f21 (by decide) (cc_1 rfl) rfl ?_
      refine jt_iload d_TR_addAll_40 rfl ?_
      refine cm_cpy (k0 := 2) (k1 := 23) (n0 := 120) (n1 := 40) (sp := p) (dp := (I 22 3)) (n := v2) d_TR_addAll_42 TR_ac34 (by decide) (by decide) rfl rfl rfl rfl (by omega) (by omega) (by omega) (by omega) (by omega) (by omega) (by omega) (show 1 ≤ d + 1 by omega) (by have e9 : nativeFrameWords "java/lang/System" "arraycopy" 5 = 7 := (by decide); rw [e9]; show 0 + (7 + 11) ≤ (d + 1) * 40; omega) ?_
      have p5 := cPx.A 23 (jcp (A 2) (A 23) p (I 22 3) v2) hz0 (Or.inl rfl) (jcp_r (hz0.2.1 2) (hz0.2.1 23))
      refine jt_aload_n d_TR_addAll_45 rfl ?_
      refine cm_get (k := 1) (v := .ref (b + 3)) d_TR_addAll_46 TR_f15 (by decide) (cc_1 rfl) rfl ?_
      refine jt_iload_n d_TR_addAll_49 rfl ?_
      refine jt_aload_n d_TR_addAll_50 rfl ?_
      refine cm_get (k := 22) (v := .ref (b + 24)) d_TR_addAll_51 TR_f15 (by decide) (cc_1 rfl) rfl ?_
      refine jt_aload_n d_TR_addAll_54 rfl ?_
      refine cm_get (k := 22) (v := .int (jI (I 22 3))) d_TR_addAll_55 TR_f21 (by decide) (cc_1 rfl) rfl ?_
      refine jt_iload d_TR_addAll_58 rfl ?_
      refine cm_cpy (k0 := 3) (k1 := 24) (n0 := 120) (n1 := 40) (sp := p) (dp := (I 22 3)) (n := v2) d_TR_addAll_60 TR_ac34 (by decide) (by decide) rfl rfl rfl rfl (by omega) (by omega) (by omega) (by omega) (by omega) (by omega) (by omega) (show 1 ≤ d + 1 by omega) (by have e9 : nativeFrameWords "java/lang/System" "arraycopy" 5 = 7 := (by decide); rw [e9]; show 0 + (7 + 11) ≤ (d + 1) * 40; omega) ?_
      have p6 := cPx.A 24 (jcp (A 3) (A 24) p (I 22 3) v2) p5 (Or.inl rfl) (jcp_r (p5.2.1 3) (p5.2.1 24))
      refine jt_aload_n d_TR_addAll_63 rfl ?_
      refine cm_get (k := 1) (v := .ref (b + 4)) d_TR_addAll_64 TR_f18 (by decide) (cc_1 rfl) rfl ?_
      refine jt_iload_n d_TR_addAll_67 rfl ?_
      refine jt_aload_n d_TR_addAll_68 rfl ?_
      refine cm_get (k := 22) (v := .ref (b + 25)) d_TR_addAll_69 TR_f18 (by decide) (cc_1 rfl) rfl ?_
      refine jt_aload_n d_TR_addAll_72 rfl ?_
      refine cm_get (k := 22) (v := .int (jI (I 22 3))) d_TR_addAll_73 TR_f21 (by decide) (cc_1 rfl) rfl ?_
      refine jt_iload d_TR_addAll_76 rfl ?_
      refine cm_cpy (k0 := 4) (k1 := 25) (n0 := 120) (n1 := 40) (sp := p) (dp := (I 22 3)) (n := v2) d_TR_addAll_78 TR_ac34 (by decide) (by decide) rfl rfl rfl rfl (by omega) (by omega) (by omega) (by omega) (by omega) (by omega) (by omega) (show 1 ≤ d + 1 by omega) (by have e9 : nativeFrameWords "java/lang/System" "arraycopy" 5 = 7 := (by decide); rw [e9]; show 0 + (7 + 11) ≤ (d + 1) * 40; omega) ?_
      have p7 := cPx.A 25 (jcp (A 4) (A 25) p (I 22 3) v2) p6 (Or.inl rfl) (jcp_r (p6.2.1 4) (p6.2.1 25))
      refine jt_aload_n d_TR_addAll_81 rfl ?_
      refine jt_dup d_TR_addAll_82 rfl ?_
      refine cm_get (k := 22) (v := .int (jI (I 22 3))) d_TR_addAll_83 TR_f21 (by decide) (cc_1 rfl) rfl ?_
      refine jt_iload d_TR_addAll_86 rfl ?_
      refine jt_iadd d_TR_addAll_88 ?_
      refine jt_topi (fun v8 ev8 => ?_)
      refine cm_put (k := 22) (j := 3) (v := v8) d_TR_addAll_89 (TR_w21 _ rfl) (by decide) (cc_1 rfl) rfl rfl (Nat.le_of_ble_eq_true rfl) rfl ?_
      have p9 := cPx.I 22 3 v8 p7 rfl (show 0 ≤ v8 ∧ v8 ≤ 40 by omega)
      exact cm_vret d_TR_addAll_92 rfl (⟨rfl, p9, fun z1 => cTok_n 25 _ (cTok_w 22 _ _ z1 (jcp_tok (z1 1 rfl) (z1 22 rfl)) rfl) rfl, fun z1 z2 => by
      obtain rfl : q = p + v2 := by omega
      exact ⟨show v8 = I 22 3 + (p + v2 - p) by omega, fun P hP hH => gH_jcp hH hP⟩⟩)
set_option maxRecDepth 100000 in
set_option maxHeartbeats 4000000 in
theorem v_TR_copy_22_x (G : jG) (d b : Nat)  (I : Nat → Nat → Int) (A : Nat → Int → Int) (hI : cSI I) (hA : cSA A) (h40 : I 1 3 ≤ 40) : cct G Y_TR_copy (d + 2) b [.ref (b + 22), .ref (b + 1)] I A (fun (rv : Option Value) (I2 : Nat → Nat → Int) (A2 : Nat → Int → Int) => rv = none ∧ cPx [355] [23, 24, 25] I A I2 A2 ∧ (cTok A → cTok A2) ∧ (I2 22 3 = I 1 3 ∧ gH (A2 23) (A2 24) (A2 25) (xs (A 2) (A 3) (A 4) 0 (I 1 3)))) := by
  refine cct_of (by decide) (Nat.le_of_ble_eq_true rfl) (fun f0 sz => ?_)
  show jt _ 0 [(0, .ref (b + 22)), (1, .ref (b + 1))] [] _ _ _ _
  have r13 : 0 ≤ I 1 3 ∧ I 1 3 ≤ 120 := hI 1 3
  have hz0 : cPx [355] [23, 24, 25] I A I A := cPx.refl hI hA
  refine jt_aload_n d_TR_copy_0 rfl ?_
  refine jt_iconst d_TR_copy_1 ?_
  refine cm_put (k := 22) (j := 3) (v := 0) d_TR_copy_2 (TR_w21 _ rfl) (by decide) (cc_1 rfl) rfl rfl (Nat.le_of_ble_eq_true rfl) rfl ?_
  have p1 := cPx.I 22 3 0 hz0 rfl (show 0 ≤ 0 ∧ 0 ≤ 40 by omega)
  refine jt_aload_n d_TR_copy_5 rfl ?_
  refine jt_aload_n d_TR_copy_6 rfl ?_
  refine jt_iconst d_TR_copy_7 ?_
  refine jt_aload_n d_TR_copy_8 rfl ?_
  refine cm_get (k := 1) (v := .int (jI (I 1 3))) d_TR_copy_9 TR_f21 (by decide) (cc_1 rfl) rfl ?_
  have rb2 : 0 ≤ I 1 3 ∧ I 1 3 ≤ 120 := p1.1 1 3
  refine cct_callV (Y := Y_TR_addAll) (ci := 0) (k := 22) (As := [.ref (b + 1), .int (jI 0), .int (jI (I 1 3))]) (rest := []) d_TR_copy_12 TR_c40 yk_TR_addAll yv_TR_addAll rfl (Nat.le_of_ble_eq_true rfl) (by decide) (cc_1 rfl) rfl rfl (Nat.le_of_ble_eq_true rfl) (v_TR_addAll_22_1_x G _ b 0 (I 1 3) (cu I 22 3 0) A p1.1 p1.2.1 (by omega) (by omega)) (fun rvq3 Iq3 Aq3 hq3 => ?_)
  obtain ⟨rfl, hqq3, hxq3⟩ := hq3
  have hpq3 := cPx.trans p1 hqq3 rfl rfl
  show jt _ 15 [(0, .ref (b + 22)), (1, .ref (b + 1))] [] (cmf b f0 Iq3 Aq3) _ _ _
  exact cm_vret d_TR_copy_15 rfl (⟨rfl, hpq3, hxq3.1, by
      have h9 := hxq3.2 (by omega) (show (0 : Int) + (I 1 3 - 0) ≤ 40 by omega)
      have h8 : Iq3 22 3 = (0 : Int) + (I 1 3 - 0) := h9.1
      exact ⟨by omega, by have h7 := h9.2 [] rfl (fun i t h => by simp at h); exact h7⟩⟩)
set_option maxRecDepth 100000 in
set_option maxHeartbeats 4000000 in
theorem v_TR_addAll_26_1_x (G : jG) (d b : Nat) (p : Int) (q : Int) (I : Nat → Nat → Int) (A : Nat → Int → Int) (hI : cSI I) (hA : cSA A) (hp : 0 ≤ p ∧ p ≤ 100000) (hq : 0 ≤ q ∧ q ≤ 120) : cct G Y_TR_addAll (d + 1) b [.ref (b + 26), .ref (b + 1), .int (jI p), .int (jI q)] I A (fun (rv : Option Value) (I2 : Nat → Nat → Int) (A2 : Nat → Int → Int) => rv = none ∧ cPx [419] [27, 28, 29] I A I2 A2 ∧ (cTok A → cTok A2) ∧ (p ≤ q → I 26 3 + (q - p) ≤ 40 → I2 26 3 = I 26 3 + (q - p) ∧ ∀ P : List (Int × Int × Int), (P.length : Int) = I 26 3 → gH (A 27) (A 28) (A 29) P → gH (A2 27) (A2 28) (A2 29) (P ++ xs (A 2) (A 3) (A 4) p q))) := by
  refine cct_of (by decide) (Nat.le_of_ble_eq_true rfl) (fun f0 sz => ?_)
  show jt _ 0 [(0, .ref (b + 26)), (1, .ref (b + 1)), (2, .int (jI p)), (3, .int (jI q))] [] _ _ _ _
  have hz0 : cPx [419] [27, 28, 29] I A I A := cPx.refl hI hA
  refine jt_iload_n d_TR_addAll_0 rfl ?_
  refine jt_iload_n d_TR_addAll_1 rfl ?_
  refine jt_isub d_TR_addAll_2 ?_
  refine jt_aload_n d_TR_addAll_3 rfl ?_
  refine cm_get (k := 26) (v := .ref (b + 27)) d_TR_addAll_4 TR_f9 (by decide) (cc_1 rfl) rfl ?_
  refine cm_len (k := 27) (n := 40) d_TR_addAll_7 jTy_0 (by decide) (cc_8 rfl rfl) ?_
  refine jt_aload_n d_TR_addAll_8 rfl ?_
  refine cm_get (k := 26) (v := .int (jI (I 26 3))) d_TR_addAll_9 TR_f21 (by decide) (cc_1 rfl) rfl ?_
  have rb1 : 0 ≤ I 26 3 ∧ I 26 3 ≤ 40 := hz0.1 26 3
  refine jt_isub d_TR_addAll_12 ?_
  refine jt_mmin d_TR_addAll_13 mw_min (by unfold jRi; omega) (by unfold jRi; omega) (show 1 ≤ d + 1 by omega) (show 0 + 13 ≤ (d + 1) * 40 by omega) (Nat.le_refl _) (Nat.le_refl _) ?_
  refine jt_topi (fun v2 ev2 => ?_)
  have mv2 : v2 ≤ q - p ∧ v2 ≤ 40 - (I 26 3) ∧ (v2 = q - p ∨ v2 = 40 - (I 26 3)) := by omega
  refine jt_istore (L' := [(0, .ref (b + 26)), (1, .ref (b + 1)), (2, .int (jI p)), (3, .int (jI q)), (4, .int (jI v2))]) d_TR_addAll_16 (Nat.le_of_ble_eq_true rfl) rfl ?_
  refine jt_iload_n d_TR_addAll_18 rfl ?_
  refine jt_if_lt (t := 92) d_TR_addAll_19 rfl (by unfold jRi; omega) (fun c3 => ?_) (fun c3 => ?_)
  · skip
    exact cm_vret d_TR_addAll_92 rfl (⟨rfl, hz0, fun z => z, fun z1 z2 => ⟨by omega, fun P hP hH => by rw [xs_nil _ _ _ _ _ (by omega), List.append_nil]; exact hH⟩⟩)
  · skip
    refine jt_iload d_TR_addAll_22 rfl ?_
    refine jt_if_le (t := 92) d_TR_addAll_24 rfl (by unfold jRi; omega) (fun c4 => ?_) (fun c4 => ?_)
    · skip
      exact cm_vret d_TR_addAll_92 rfl (⟨rfl, hz0, fun z => z, fun z1 z2 => ⟨by omega, fun P hP hH => by rw [xs_nil _ _ _ _ _ (by omega), List.append_nil]; exact hH⟩⟩)
    · skip
      refine jt_aload_n d_TR_addAll_27 rfl ?_
      refine cm_get (k := 1) (v := .ref (b + 2)) d_TR_addAll_28 TR_f9 (by decide) (cc_1 rfl) rfl ?_
      refine jt_iload_n d_TR_addAll_31 rfl ?_
      refine jt_aload_n d_TR_addAll_32 rfl ?_
      refine cm_get (k := 26) (v := .ref (b + 27)) d_TR_addAll_33 TR_f9 (by decide) (cc_1 rfl) rfl ?_
      refine jt_aload_n d_TR_addAll_36 rfl ?_
      refine cm_get (k := 26) (v := .int (jI (I 26 3))) d_TR_addAll_37 TR_f21 (by decide) (cc_1 rfl) rfl ?_
      refine jt_iload d_TR_addAll_40 rfl ?_
      refine cm_cpy (k0 := 2) (k1 := 27) (n0 := 120) (n1 := 40) (sp := p) (dp := (I 26 3)) (n := v2) d_TR_addAll_42 TR_ac34 (by decide) (by decide) rfl rfl rfl rfl (by omega) (by omega) (by omega) (by omega) (by omega) (by omega) (by omega) (show 1 ≤ d + 1 by omega) (by have e9 : nativeFrameWords "java/lang/System" "arraycopy" 5 = 7 := (by decide); rw [e9]; show 0 + (7 + 11) ≤ (d + 1) * 40; omega) ?_
      have p5 := cPx.A 27 (jcp (A 2) (A 27) p (I 26 3) v2) hz0 (Or.inl rfl) (jcp_r (hz0.2.1 2) (hz0.2.1 27))
      refine jt_aload_n d_TR_addAll_45 rfl ?_
      refine cm_get (k := 1) (v := .ref (b + 3)) d_TR_addAll_46 TR_f15 (by decide) (cc_1 rfl) rfl ?_
      refine jt_iload_n d_TR_addAll_49 rfl ?_
      refine jt_aload_n d_TR_addAll_50 rfl ?_
      refine cm_get (k := 26) (v := .ref (b + 28)) d_TR_addAll_51 TR_f15 (by decide) (cc_1 rfl) rfl ?_
      refine jt_aload_n d_TR_addAll_54 rfl ?_
      refine cm_get (k := 26) (v := .int (jI (I 26 3))) d_TR_addAll_55 TR_f21 (by decide) (cc_1 rfl) rfl ?_
      refine jt_iload d_TR_addAll_58 rfl ?_
      refine cm_cpy (k0 := 3) (k1 := 28) (n0 := 120) (n1 := 40) (sp := p) (dp := (I 26 3)) (n := v2) d_TR_addAll_60 TR_ac34 (by decide) (by decide) rfl rfl rfl rfl (by omega) (by omega) (by omega) (by omega) (by omega) (by omega) (by omega) (show 1 ≤ d + 1 by omega) (by have e9 : nativeFrameWords "java/lang/System" "arraycopy" 5 = 7 := (by decide); rw [e9]; show 0 + (7 + 11) ≤ (d + 1) * 40; omega) ?_
      have p6 := cPx.A 28 (jcp (A 3) (A 28) p (I 26 3) v2) p5 (Or.inl rfl) (jcp_r (p5.2.1 3) (p5.2.1 28))
      refine jt_aload_n d_TR_addAll_63 rfl ?_
      refine cm_get (k := 1) (v := .ref (b + 4)) d_TR_addAll_64 TR_f18 (by decide) (cc_1 rfl) rfl ?_
      refine jt_iload_n d_TR_addAll_67 rfl ?_
      refine jt_aload_n d_TR_addAll_68 rfl ?_
      refine cm_get (k := 26) (v := .ref (b + 29)) d_TR_addAll_69 TR_f18 (by decide) (cc_1 rfl) rfl ?_
      refine jt_aload_n d_TR_addAll_72 rfl ?_
      refine cm_get (k := 26) (v := .int (jI (I 26 3))) d_TR_addAll_73 TR_f21 (by decide) (cc_1 rfl) rfl ?_
      refine jt_iload d_TR_addAll_76 rfl ?_
      refine cm_cpy (k0 := 4) (k1 := 29) (n0 := 120) (n1 := 40) (sp := p) (dp := (I 26 3)) (n := v2) d_TR_addAll_78 TR_ac34 (by decide) (by decide) rfl rfl rfl rfl (by omega) (by omega) (by omega) (by omega) (by omega) (by omega) (by omega) (show 1 ≤ d + 1 by omega) (by have e9 : nativeFrameWords "java/lang/System" "arraycopy" 5 = 7 := (by decide); rw [e9]; show 0 + (7 + 11) ≤ (d + 1) * 40; omega) ?_
      have p7 := cPx.A 29 (jcp (A 4) (A 29) p (I 26 3) v2) p6 (Or.inl rfl) (jcp_r (p6.2.1 4) (p6.2.1 29))
      refine jt_aload_n d_TR_addAll_81 rfl ?_
      refine jt_dup d_TR_addAll_82 rfl ?_
      refine cm_get (k := 26) (v := .int (jI (I 26 3))) d_TR_addAll_83 TR_f21 (by decide) (cc_1 rfl) rfl ?_
      refine jt_iload d_TR_addAll_86 rfl ?_
      refine jt_iadd d_TR_addAll_88 ?_
      refine jt_topi (fun v8 ev8 => ?_)
      refine cm_put (k := 26) (j := 3) (v := v8) d_TR_addAll_89 (TR_w21 _ rfl) (by decide) (cc_1 rfl) rfl rfl (Nat.le_of_ble_eq_true rfl) rfl ?_
      have p9 := cPx.I 26 3 v8 p7 rfl (show 0 ≤ v8 ∧ v8 ≤ 40 by omega)
      exact cm_vret d_TR_addAll_92 rfl (⟨rfl, p9, fun z1 => cTok_n 29 _ (cTok_w 26 _ _ z1 (jcp_tok (z1 1 rfl) (z1 26 rfl)) rfl) rfl, fun z1 z2 => by
      obtain rfl : q = p + v2 := by omega
      exact ⟨show v8 = I 26 3 + (p + v2 - p) by omega, fun P hP hH => gH_jcp hH hP⟩⟩)
set_option maxRecDepth 100000 in
set_option maxHeartbeats 4000000 in
theorem v_TR_copy_26_x (G : jG) (d b : Nat)  (I : Nat → Nat → Int) (A : Nat → Int → Int) (hI : cSI I) (hA : cSA A) (h40 : I 1 3 ≤ 40) : cct G Y_TR_copy (d + 2) b [.ref (b + 26), .ref (b + 1)] I A (fun (rv : Option Value) (I2 : Nat → Nat → Int) (A2 : Nat → Int → Int) => rv = none ∧ cPx [419] [27, 28, 29] I A I2 A2 ∧ (cTok A → cTok A2) ∧ (I2 26 3 = I 1 3 ∧ gH (A2 27) (A2 28) (A2 29) (xs (A 2) (A 3) (A 4) 0 (I 1 3)))) := by
  refine cct_of (by decide) (Nat.le_of_ble_eq_true rfl) (fun f0 sz => ?_)
  show jt _ 0 [(0, .ref (b + 26)), (1, .ref (b + 1))] [] _ _ _ _
  have r13 : 0 ≤ I 1 3 ∧ I 1 3 ≤ 120 := hI 1 3
  have hz0 : cPx [419] [27, 28, 29] I A I A := cPx.refl hI hA
  refine jt_aload_n d_TR_copy_0 rfl ?_
  refine jt_iconst d_TR_copy_1 ?_
  refine cm_put (k := 26) (j := 3) (v := 0) d_TR_copy_2 (TR_w21 _ rfl) (by decide) (cc_1 rfl) rfl rfl (Nat.le_of_ble_eq_true rfl) rfl ?_
  have p1 := cPx.I 26 3 0 hz0 rfl (show 0 ≤ 0 ∧ 0 ≤ 40 by omega)
  refine jt_aload_n d_TR_copy_5 rfl ?_
  refine jt_aload_n d_TR_copy_6 rfl ?_
  refine jt_iconst d_TR_copy_7 ?_
  refine jt_aload_n d_TR_copy_8 rfl ?_
  refine cm_get (k := 1) (v := .int (jI (I 1 3))) d_TR_copy_9 TR_f21 (by decide) (cc_1 rfl) rfl ?_
  have rb2 : 0 ≤ I 1 3 ∧ I 1 3 ≤ 120 := p1.1 1 3
  refine cct_callV (Y := Y_TR_addAll) (ci := 0) (k := 26) (As := [.ref (b + 1), .int (jI 0), .int (jI (I 1 3))]) (rest := []) d_TR_copy_12 TR_c40 yk_TR_addAll yv_TR_addAll rfl (Nat.le_of_ble_eq_true rfl) (by decide) (cc_1 rfl) rfl rfl (Nat.le_of_ble_eq_true rfl) (v_TR_addAll_26_1_x G _ b 0 (I 1 3) (cu I 26 3 0) A p1.1 p1.2.1 (by omega) (by omega)) (fun rvq3 Iq3 Aq3 hq3 => ?_)
  obtain ⟨rfl, hqq3, hxq3⟩ := hq3
  have hpq3 := cPx.trans p1 hqq3 rfl rfl
  show jt _ 15 [(0, .ref (b + 26)), (1, .ref (b + 1))] [] (cmf b f0 Iq3 Aq3) _ _ _
  exact cm_vret d_TR_copy_15 rfl (⟨rfl, hpq3, hxq3.1, by
      have h9 := hxq3.2 (by omega) (show (0 : Int) + (I 1 3 - 0) ≤ 40 by omega)
      have h8 : Iq3 26 3 = (0 : Int) + (I 1 3 - 0) := h9.1
      exact ⟨by omega, by have h7 := h9.2 [] rfl (fun i t h => by simp at h); exact h7⟩⟩)
set_option maxRecDepth 100000 in
set_option maxHeartbeats 4000000 in
theorem v_TR_addAll_30_1_x (G : jG) (d b : Nat) (p : Int) (q : Int) (I : Nat → Nat → Int) (A : Nat → Int → Int) (hI : cSI I) (hA : cSA A) (hp : 0 ≤ p ∧ p ≤ 100000) (hq : 0 ≤ q ∧ q ≤ 120) : cct G Y_TR_addAll (d + 1) b [.ref (b + 30), .ref (b + 1), .int (jI p), .int (jI q)] I A (fun (rv : Option Value) (I2 : Nat → Nat → Int) (A2 : Nat → Int → Int) => rv = none ∧ cPx [483] [31, 32, 33] I A I2 A2 ∧ (cTok A → cTok A2) ∧ (p ≤ q → I 30 3 + (q - p) ≤ 40 → I2 30 3 = I 30 3 + (q - p) ∧ ∀ P : List (Int × Int × Int), (P.length : Int) = I 30 3 → gH (A 31) (A 32) (A 33) P → gH (A2 31) (A2 32) (A2 33) (P ++ xs (A 2) (A 3) (A 4) p q))) := by
  refine cct_of (by decide) (Nat.le_of_ble_eq_true rfl) (fun f0 sz => ?_)
  show jt _ 0 [(0, .ref (b + 30)), (1, .ref (b + 1)), (2, .int (jI p)), (3, .int (jI q))] [] _ _ _ _
  have hz0 : cPx [483] [31, 32, 33] I A I A := cPx.refl hI hA
  refine jt_iload_n d_TR_addAll_0 rfl ?_
  refine jt_iload_n d_TR_addAll_1 rfl ?_
  refine jt_isub d_TR_addAll_2 ?_
  refine jt_aload_n d_TR_addAll_3 rfl ?_
  refine cm_get (k := 30) (v := .ref (b + 31)) d_TR_addAll_4 TR_f9 (by decide) (cc_1 rfl) rfl ?_
  refine cm_len (k := 31) (n := 40) d_TR_addAll_7 jTy_0 (by decide) (cc_8 rfl rfl) ?_
  refine jt_aload_n d_TR_addAll_8 rfl ?_
  refine cm_get (k := 30) (v := .int (jI (I 30 3))) d_TR_addAll_9 TR_f21 (by decide) (cc_1 rfl) rfl ?_
  have rb1 : 0 ≤ I 30 3 ∧ I 30 3 ≤ 40 := hz0.1 30 3
  refine jt_isub d_TR_addAll_12 ?_
  refine jt_mmin d_TR_addAll_13 mw_min (by unfold jRi; omega) (by unfold jRi; omega) (show 1 ≤ d + 1 by omega) (show 0 + 13 ≤ (d + 1) * 40 by omega) (Nat.le_refl _) (Nat.le_refl _) ?_
  refine jt_topi (fun v2 ev2 => ?_)
  have mv2 : v2 ≤ q - p ∧ v2 ≤ 40 - (I 30 3) ∧ (v2 = q - p ∨ v2 = 40 - (I 30 3)) := by omega
  refine jt_istore (L' := [(0, .ref (b + 30)), (1, .ref (b + 1)), (2, .int (jI p)), (3, .int (jI q)), (4, .int (jI v2))]) d_TR_addAll_16 (Nat.le_of_ble_eq_true rfl) rfl ?_
  refine jt_iload_n d_TR_addAll_18 rfl ?_
  refine jt_if_lt (t := 92) d_TR_addAll_19 rfl (by unfold jRi; omega) (fun c3 => ?_) (fun c3 => ?_)
  · skip
    exact cm_vret d_TR_addAll_92 rfl (⟨rfl, hz0, fun z => z, fun z1 z2 => ⟨by omega, fun P hP hH => by rw [xs_nil _ _ _ _ _ (by omega), List.append_nil]; exact hH⟩⟩)
  · skip
    refine jt_iload d_TR_addAll_22 rfl ?_
    refine jt_if_le (t := 92) d_TR_addAll_24 rfl (by unfold jRi; omega) (fun c4 => ?_) (fun c4 => ?_)
    · skip
      exact cm_vret d_TR_addAll_92 rfl (⟨rfl, hz0, fun z => z, fun z1 z2 => ⟨by omega, fun P hP hH => by rw [xs_nil _ _ _ _ _ (by omega), List.append_nil]; exact hH⟩⟩)
    · skip
      refine jt_aload_n d_TR_addAll_27 rfl ?_
      refine cm_get (k := 1) (v := .ref (b + 2)) d_TR_addAll_28 TR_f9 (by decide) (cc_1 rfl) rfl ?_
      refine jt_iload_n d_TR_addAll_31 rfl ?_
      refine jt_aload_n d_TR_addAll_32 rfl ?_
      refine cm_get (k := 30) (v := .ref (b + 31)) d_TR_addAll_33 TR_f9 (by decide) (cc_1 rfl) rfl ?_
      refine jt_aload_n d_TR_addAll_36 rfl ?_
      refine cm_get (k := 30) (v := .int (jI (I 30 3))) d_TR_addAll_37 TR_f21 (by decide) (cc_1 rfl) rfl ?_
      refine jt_iload d_TR_addAll_40 rfl ?_
      refine cm_cpy (k0 := 2) (k1 := 31) (n0 := 120) (n1 := 40) (sp := p) (dp := (I 30 3)) (n := v2) d_TR_addAll_42 TR_ac34 (by decide) (by decide) rfl rfl rfl rfl (by omega) (by omega) (by omega) (by omega) (by omega) (by omega) (by omega) (show 1 ≤ d + 1 by omega) (by have e9 : nativeFrameWords "java/lang/System" "arraycopy" 5 = 7 := (by decide); rw [e9]; show 0 + (7 + 11) ≤ (d + 1) * 40; omega) ?_
      have p5 := cPx.A 31 (jcp (A 2) (A 31) p (I 30 3) v2) hz0 (Or.inl rfl) (jcp_r (hz0.2.1 2) (hz0.2.1 31))
      refine jt_aload_n d_TR_addAll_45 rfl ?_
      refine cm_get (k := 1) (v := .ref (b + 3)) d_TR_addAll_46 TR_f15 (by decide) (cc_1 rfl) rfl ?_
      refine jt_iload_n d_TR_addAll_49 rfl ?_
      refine jt_aload_n d_TR_addAll_50 rfl ?_
      refine cm_get (k := 30) (v := .ref (b + 32)) d_TR_addAll_51 TR_f15 (by decide) (cc_1 rfl) rfl ?_
      refine jt_aload_n d_TR_addAll_54 rfl ?_
      refine cm_get (k := 30) (v := .int (jI (I 30 3))) d_TR_addAll_55 TR_f21 (by decide) (cc_1 rfl) rfl ?_
      refine jt_iload d_TR_addAll_58 rfl ?_
      refine cm_cpy (k0 := 3) (k1 := 32) (n0 := 120) (n1 := 40) (sp := p) (dp := (I 30 3)) (n := v2) d_TR_addAll_60 TR_ac34 (by decide) (by decide) rfl rfl rfl rfl (by omega) (by omega) (by omega) (by omega) (by omega) (by omega) (by omega) (show 1 ≤ d + 1 by omega) (by have e9 : nativeFrameWords "java/lang/System" "arraycopy" 5 = 7 := (by decide); rw [e9]; show 0 + (7 + 11) ≤ (d + 1) * 40; omega) ?_
      have p6 := cPx.A 32 (jcp (A 3) (A 32) p (I 30 3) v2) p5 (Or.inl rfl) (jcp_r (p5.2.1 3) (p5.2.1 32))
      refine jt_aload_n d_TR_addAll_63 rfl ?_
      refine cm_get (k := 1) (v := .ref (b + 4)) d_TR_addAll_64 TR_f18 (by decide) (cc_1 rfl) rfl ?_
      refine jt_iload_n d_TR_addAll_67 rfl ?_
      refine jt_aload_n d_TR_addAll_68 rfl ?_
      refine cm_get (k := 30) (v := .ref (b + 33)) d_TR_addAll_69 TR_f18 (by decide) (cc_1 rfl) rfl ?_
      refine jt_aload_n d_TR_addAll_72 rfl ?_
      refine cm_get (k := 30) (v := .int (jI (I 30 3))) d_TR_addAll_73 TR_f21 (by decide) (cc_1 rfl) rfl ?_
      refine jt_iload d_TR_addAll_76 rfl ?_
      refine cm_cpy (k0 := 4) (k1 := 33) (n0 := 120) (n1 := 40) (sp := p) (dp := (I 30 3)) (n := v2) d_TR_addAll_78 TR_ac34 (by decide) (by decide) rfl rfl rfl rfl (by omega) (by omega) (by omega) (by omega) (by omega) (by omega) (by omega) (show 1 ≤ d + 1 by omega) (by have e9 : nativeFrameWords "java/lang/System" "arraycopy" 5 = 7 := (by decide); rw [e9]; show 0 + (7 + 11) ≤ (d + 1) * 40; omega) ?_
      have p7 := cPx.A 33 (jcp (A 4) (A 33) p (I 30 3) v2) p6 (Or.inl rfl) (jcp_r (p6.2.1 4) (p6.2.1 33))
      refine jt_aload_n d_TR_addAll_81 rfl ?_
      refine jt_dup d_TR_addAll_82 rfl ?_
      refine cm_get (k := 30) (v := .int (jI (I 30 3))) d_TR_addAll_83 TR_f21 (by decide) (cc_1 rfl) rfl ?_
      refine jt_iload d_TR_addAll_86 rfl ?_
      refine jt_iadd d_TR_addAll_88 ?_
      refine jt_topi (fun v8 ev8 => ?_)
      refine cm_put (k := 30) (j := 3) (v := v8) d_TR_addAll_89 (TR_w21 _ rfl) (by decide) (cc_1 rfl) rfl rfl (Nat.le_of_ble_eq_true rfl) rfl ?_
      have p9 := cPx.I 30 3 v8 p7 rfl (show 0 ≤ v8 ∧ v8 ≤ 40 by omega)
      exact cm_vret d_TR_addAll_92 rfl (⟨rfl, p9, fun z1 => cTok_n 33 _ (cTok_w 30 _ _ z1 (jcp_tok (z1 1 rfl) (z1 30 rfl)) rfl) rfl, fun z1 z2 => by
      obtain rfl : q = p + v2 := by omega
      exact ⟨show v8 = I 30 3 + (p + v2 - p) by omega, fun P hP hH => gH_jcp hH hP⟩⟩)
set_option maxRecDepth 100000 in
set_option maxHeartbeats 4000000 in
theorem v_TR_copy_30_x (G : jG) (d b : Nat)  (I : Nat → Nat → Int) (A : Nat → Int → Int) (hI : cSI I) (hA : cSA A) (h40 : I 1 3 ≤ 40) : cct G Y_TR_copy (d + 2) b [.ref (b + 30), .ref (b + 1)] I A (fun (rv : Option Value) (I2 : Nat → Nat → Int) (A2 : Nat → Int → Int) => rv = none ∧ cPx [483] [31, 32, 33] I A I2 A2 ∧ (cTok A → cTok A2) ∧ (I2 30 3 = I 1 3 ∧ gH (A2 31) (A2 32) (A2 33) (xs (A 2) (A 3) (A 4) 0 (I 1 3)))) := by
  refine cct_of (by decide) (Nat.le_of_ble_eq_true rfl) (fun f0 sz => ?_)
  show jt _ 0 [(0, .ref (b + 30)), (1, .ref (b + 1))] [] _ _ _ _
  have r13 : 0 ≤ I 1 3 ∧ I 1 3 ≤ 120 := hI 1 3
  have hz0 : cPx [483] [31, 32, 33] I A I A := cPx.refl hI hA
  refine jt_aload_n d_TR_copy_0 rfl ?_
  refine jt_iconst d_TR_copy_1 ?_
  refine cm_put (k := 30) (j := 3) (v := 0) d_TR_copy_2 (TR_w21 _ rfl) (by decide) (cc_1 rfl) rfl rfl (Nat.le_of_ble_eq_true rfl) rfl ?_
  have p1 := cPx.I 30 3 0 hz0 rfl (show 0 ≤ 0 ∧ 0 ≤ 40 by omega)
  refine jt_aload_n d_TR_copy_5 rfl ?_
  refine jt_aload_n d_TR_copy_6 rfl ?_
  refine jt_iconst d_TR_copy_7 ?_
  refine jt_aload_n d_TR_copy_8 rfl ?_
  refine cm_get (k := 1) (v := .int (jI (I 1 3))) d_TR_copy_9 TR_f21 (by decide) (cc_1 rfl) rfl ?_
  have rb2 : 0 ≤ I 1 3 ∧ I 1 3 ≤ 120 := p1.1 1 3
  refine cct_callV (Y := Y_TR_addAll) (ci := 0) (k := 30) (As := [.ref (b + 1), .int (jI 0), .int (jI (I 1 3))]) (rest := []) d_TR_copy_12 TR_c40 yk_TR_addAll yv_TR_addAll rfl (Nat.le_of_ble_eq_true rfl) (by decide) (cc_1 rfl) rfl rfl (Nat.le_of_ble_eq_true rfl) (v_TR_addAll_30_1_x G _ b 0 (I 1 3) (cu I 30 3 0) A p1.1 p1.2.1 (by omega) (by omega)) (fun rvq3 Iq3 Aq3 hq3 => ?_)
  obtain ⟨rfl, hqq3, hxq3⟩ := hq3
  have hpq3 := cPx.trans p1 hqq3 rfl rfl
  show jt _ 15 [(0, .ref (b + 30)), (1, .ref (b + 1))] [] (cmf b f0 Iq3 Aq3) _ _ _
  exact cm_vret d_TR_copy_15 rfl (⟨rfl, hpq3, hxq3.1, by
      have h9 := hxq3.2 (by omega) (show (0 : Int) + (I 1 3 - 0) ≤ 40 by omega)
      have h8 : Iq3 30 3 = (0 : Int) + (I 1 3 - 0) := h9.1
      exact ⟨by omega, by have h7 := h9.2 [] rfl (fun i t h => by simp at h); exact h7⟩⟩)
set_option maxRecDepth 100000 in
set_option maxHeartbeats 4000000 in
theorem v_TR_addAll_34_1_x (G : jG) (d b : Nat) (p : Int) (q : Int) (I : Nat → Nat → Int) (A : Nat → Int → Int) (hI : cSI I) (hA : cSA A) (hp : 0 ≤ p ∧ p ≤ 100000) (hq : 0 ≤ q ∧ q ≤ 120) : cct G Y_TR_addAll (d + 1) b [.ref (b + 34), .ref (b + 1), .int (jI p), .int (jI q)] I A (fun (rv : Option Value) (I2 : Nat → Nat → Int) (A2 : Nat → Int → Int) => rv = none ∧ cPx [547] [35, 36, 37] I A I2 A2 ∧ (cTok A → cTok A2) ∧ (p ≤ q → I 34 3 + (q - p) ≤ 40 → I2 34 3 = I 34 3 + (q - p) ∧ ∀ P : List (Int × Int × Int), (P.length : Int) = I 34 3 → gH (A 35) (A 36) (A 37) P → gH (A2 35) (A2 36) (A2 37) (P ++ xs (A 2) (A 3) (A 4) p q))) := by
  refine cct_of (by decide) (Nat.le_of_ble_eq_true rfl) (fun f0 sz => ?_)
  show jt _ 0 [(0, .ref (b + 34)), (1, .ref (b + 1)), (2, .int (jI p)), (3, .int (jI q))] [] _ _ _ _
  have hz0 : cPx [547] [35, 36, 37] I A I A := cPx.refl hI hA
  refine jt_iload_n d_TR_addAll_0 rfl ?_
  refine jt_iload_n d_TR_addAll_1 rfl ?_
  refine jt_isub d_TR_addAll_2 ?_
  refine jt_aload_n d_TR_addAll_3 rfl ?_
  refine cm_get (k := 34) (v := .ref (b + 35)) d_TR_addAll_4 TR_f9 (by decide) (cc_1 rfl) rfl ?_
  refine cm_len (k := 35) (n := 40) d_TR_addAll_7 jTy_0 (by decide) (cc_8 rfl rfl) ?_
  refine jt_aload_n d_TR_addAll_8 rfl ?_
  refine cm_get (k := 34) (v := .int (jI (I 34 3))) d_TR_addAll_9 TR_f21 (by decide) (cc_1 rfl) rfl ?_
  have rb1 : 0 ≤ I 34 3 ∧ I 34 3 ≤ 40 := hz0.1 34 3
  refine jt_isub d_TR_addAll_12 ?_
  refine jt_mmin d_TR_addAll_13 mw_min (by unfold jRi; omega) (by unfold jRi; omega) (show 1 ≤ d + 1 by omega) (show 0 + 13 ≤ (d + 1) * 40 by omega) (Nat.le_refl _) (Nat.le_refl _) ?_
  refine jt_topi (fun v2 ev2 => ?_)
  have mv2 : v2 ≤ q - p ∧ v2 ≤ 40 - (I 34 3) ∧ (v2 = q - p ∨ v2 = 40 - (I 34 3)) := by omega
  refine jt_istore (L' := [(0, .ref (b + 34)), (1, .ref (b + 1)), (2, .int (jI p)), (3, .int (jI q)), (4, .int (jI v2))]) d_TR_addAll_16 (Nat.le_of_ble_eq_true rfl) rfl ?_
  refine jt_iload_n d_TR_addAll_18 rfl ?_
  refine jt_if_lt (t := 92) d_TR_addAll_19 rfl (by unfold jRi; omega) (fun c3 => ?_) (fun c3 => ?_)
  · skip
    exact cm_vret d_TR_addAll_92 rfl (⟨rfl, hz0, fun z => z, fun z1 z2 => ⟨by omega, fun P hP hH => by rw [xs_nil _ _ _ _ _ (by omega), List.append_nil]; exact hH⟩⟩)
  · skip
    refine jt_iload d_TR_addAll_22 rfl ?_
    refine jt_if_le (t := 92) d_TR_addAll_24 rfl (by unfold jRi; omega) (fun c4 => ?_) (fun c4 => ?_)
    · skip
      exact cm_vret d_TR_addAll_92 rfl (⟨rfl, hz0, fun z => z, fun z1 z2 => ⟨by omega, fun P hP hH => by rw [xs_nil _ _ _ _ _ (by omega), List.append_nil]; exact hH⟩⟩)
    · skip
      refine jt_aload_n d_TR_addAll_27 rfl ?_
      refine cm_get (k := 1) (v := .ref (b + 2)) d_TR_addAll_28 TR_f9 (by decide) (cc_1 rfl) rfl ?_
      refine jt_iload_n d_TR_addAll_31 rfl ?_
      refine jt_aload_n d_TR_addAll_32 rfl ?_
      refine cm_get (k := 34) (v := .ref (b + 35)) d_TR_addAll_33 TR_f9 (by decide) (cc_1 rfl) rfl ?_
      refine jt_aload_n d_TR_addAll_36 rfl ?_
      refine cm_get (k := 34) (v := .int (jI (I 34 3))) d_TR_addAll_37 TR_f21 (by decide) (cc_1 rfl) rfl ?_
      refine jt_iload d_TR_addAll_40 rfl ?_
      refine cm_cpy (k0 := 2) (k1 := 35) (n0 := 120) (n1 := 40) (sp := p) (dp := (I 34 3)) (n := v2) d_TR_addAll_42 TR_ac34 (by decide) (by decide) rfl rfl rfl rfl (by omega) (by omega) (by omega) (by omega) (by omega) (by omega) (by omega) (show 1 ≤ d + 1 by omega) (by have e9 : nativeFrameWords "java/lang/System" "arraycopy" 5 = 7 := (by decide); rw [e9]; show 0 + (7 + 11) ≤ (d + 1) * 40; omega) ?_
      have p5 := cPx.A 35 (jcp (A 2) (A 35) p (I 34 3) v2) hz0 (Or.inl rfl) (jcp_r (hz0.2.1 2) (hz0.2.1 35))
      refine jt_aload_n d_TR_addAll_45 rfl ?_
      refine cm_get (k := 1) (v := .ref (b + 3)) d_TR_addAll_46 TR_f15 (by decide) (cc_1 rfl) rfl ?_
      refine jt_iload_n d_TR_addAll_49 rfl ?_
      refine jt_aload_n d_TR_addAll_50 rfl ?_
      refine cm_get (k := 34) (v := .ref (b + 36)) d_TR_addAll_51 TR_f15 (by decide) (cc_1 rfl) rfl ?_
      refine jt_aload_n d_TR_addAll_54 rfl ?_
      refine cm_get (k := 34) (v := .int (jI (I 34 3))) d_TR_addAll_55 TR_f21 (by decide) (cc_1 rfl) rfl ?_
      refine jt_iload d_TR_addAll_58 rfl ?_
      refine cm_cpy (k0 := 3) (k1 := 36) (n0 := 120) (n1 := 40) (sp := p) (dp := (I 34 3)) (n := v2) d_TR_addAll_60 TR_ac34 (by decide) (by decide) rfl rfl rfl rfl (by omega) (by omega) (by omega) (by omega) (by omega) (by omega) (by omega) (show 1 ≤ d + 1 by omega) (by have e9 : nativeFrameWords "java/lang/System" "arraycopy" 5 = 7 := (by decide); rw [e9]; show 0 + (7 + 11) ≤ (d + 1) * 40; omega) ?_
      have p6 := cPx.A 36 (jcp (A 3) (A 36) p (I 34 3) v2) p5 (Or.inl rfl) (jcp_r (p5.2.1 3) (p5.2.1 36))
      refine jt_aload_n d_TR_addAll_63 rfl ?_
      refine cm_get (k := 1) (v := .ref (b + 4)) d_TR_addAll_64 TR_f18 (by decide) (cc_1 rfl) rfl ?_
      refine jt_iload_n d_TR_addAll_67 rfl ?_
      refine jt_aload_n d_TR_addAll_68 rfl ?_
      refine cm_get (k := 34) (v := .ref (b + 37)) d_TR_addAll_69 TR_f18 (by decide) (cc_1 rfl) rfl ?_
      refine jt_aload_n d_TR_addAll_72 rfl ?_
      refine cm_get (k := 34) (v := .int (jI (I 34 3))) d_TR_addAll_73 TR_f21 (by decide) (cc_1 rfl) rfl ?_
      refine jt_iload d_TR_addAll_76 rfl ?_
      refine cm_cpy (k0 := 4) (k1 := 37) (n0 := 120) (n1 := 40) (sp := p) (dp := (I 34 3)) (n := v2) d_TR_addAll_78 TR_ac34 (by decide) (by decide) rfl rfl rfl rfl (by omega) (by omega) (by omega) (by omega) (by omega) (by omega) (by omega) (show 1 ≤ d + 1 by omega) (by have e9 : nativeFrameWords "java/lang/System" "arraycopy" 5 = 7 := (by decide); rw [e9]; show 0 + (7 + 11) ≤ (d + 1) * 40; omega) ?_
      have p7 := cPx.A 37 (jcp (A 4) (A 37) p (I 34 3) v2) p6 (Or.inl rfl) (jcp_r (p6.2.1 4) (p6.2.1 37))
      refine jt_aload_n d_TR_addAll_81 rfl ?_
      refine jt_dup d_TR_addAll_82 rfl ?_
      refine cm_get (k := 34) (v := .int (jI (I 34 3))) d_TR_addAll_83 TR_f21 (by decide) (cc_1 rfl) rfl ?_
      refine jt_iload d_TR_addAll_86 rfl ?_
      refine jt_iadd d_TR_addAll_88 ?_
      refine jt_topi (fun v8 ev8 => ?_)
      refine cm_put (k := 34) (j := 3) (v := v8) d_TR_addAll_89 (TR_w21 _ rfl) (by decide) (cc_1 rfl) rfl rfl (Nat.le_of_ble_eq_true rfl) rfl ?_
      have p9 := cPx.I 34 3 v8 p7 rfl (show 0 ≤ v8 ∧ v8 ≤ 40 by omega)
      exact cm_vret d_TR_addAll_92 rfl (⟨rfl, p9, fun z1 => cTok_n 37 _ (cTok_w 34 _ _ z1 (jcp_tok (z1 1 rfl) (z1 34 rfl)) rfl) rfl, fun z1 z2 => by
      obtain rfl : q = p + v2 := by omega
      exact ⟨show v8 = I 34 3 + (p + v2 - p) by omega, fun P hP hH => gH_jcp hH hP⟩⟩)
set_option maxRecDepth 100000 in
set_option maxHeartbeats 4000000 in
theorem v_TR_copy_34_x (G : jG) (d b : Nat)  (I : Nat → Nat → Int) (A : Nat → Int → Int) (hI : cSI I) (hA : cSA A) (h40 : I 1 3 ≤ 40) : cct G Y_TR_copy (d + 2) b [.ref (b + 34), .ref (b + 1)] I A (fun (rv : Option Value) (I2 : Nat → Nat → Int) (A2 : Nat → Int → Int) => rv = none ∧ cPx [547] [35, 36, 37] I A I2 A2 ∧ (cTok A → cTok A2) ∧ (I2 34 3 = I 1 3 ∧ gH (A2 35) (A2 36) (A2 37) (xs (A 2) (A 3) (A 4) 0 (I 1 3)))) := by
  refine cct_of (by decide) (Nat.le_of_ble_eq_true rfl) (fun f0 sz => ?_)
  show jt _ 0 [(0, .ref (b + 34)), (1, .ref (b + 1))] [] _ _ _ _
  have r13 : 0 ≤ I 1 3 ∧ I 1 3 ≤ 120 := hI 1 3
  have hz0 : cPx [547] [35, 36, 37] I A I A := cPx.refl hI hA
  refine jt_aload_n d_TR_copy_0 rfl ?_
  refine jt_iconst d_TR_copy_1 ?_
  refine cm_put (k := 34) (j := 3) (v := 0) d_TR_copy_2 (TR_w21 _ rfl) (by decide) (cc_1 rfl) rfl rfl (Nat.le_of_ble_eq_true rfl) rfl ?_
  have p1 := cPx.I 34 3 0 hz0 rfl (show 0 ≤ 0 ∧ 0 ≤ 40 by omega)
  refine jt_aload_n d_TR_copy_5 rfl ?_
  refine jt_aload_n d_TR_copy_6 rfl ?_
  refine jt_iconst d_TR_copy_7 ?_
  refine jt_aload_n d_TR_copy_8 rfl ?_
  refine cm_get (k := 1) (v := .int (jI (I 1 3))) d_TR_copy_9 TR_f21 (by decide) (cc_1 rfl) rfl ?_
  have rb2 : 0 ≤ I 1 3 ∧ I 1 3 ≤ 120 := p1.1 1 3
  refine cct_callV (Y := Y_TR_addAll) (ci := 0) (k := 34) (As := [.ref (b + 1), .int (jI 0), .int (jI (I 1 3))]) (rest := []) d_TR_copy_12 TR_c40 yk_TR_addAll yv_TR_addAll rfl (Nat.le_of_ble_eq_true rfl) (by decide) (cc_1 rfl) rfl rfl (Nat.le_of_ble_eq_true rfl) (v_TR_addAll_34_1_x G _ b 0 (I 1 3) (cu I 34 3 0) A p1.1 p1.2.1 (by omega) (by omega)) (fun rvq3 Iq3 Aq3 hq3 => ?_)
  obtain ⟨rfl, hqq3, hxq3⟩ := hq3
  have hpq3 := cPx.trans p1 hqq3 rfl rfl
  show jt _ 15 [(0, .ref (b + 34)), (1, .ref (b + 1))] [] (cmf b f0 Iq3 Aq3) _ _ _
  exact cm_vret d_TR_copy_15 rfl (⟨rfl, hpq3, hxq3.1, by
      have h9 := hxq3.2 (by omega) (show (0 : Int) + (I 1 3 - 0) ≤ 40 by omega)
      have h8 : Iq3 34 3 = (0 : Int) + (I 1 3 - 0) := h9.1
      exact ⟨by omega, by have h7 := h9.2 [] rfl (fun i t h => by simp at h); exact h7⟩⟩)
set_option maxRecDepth 100000 in
set_option maxHeartbeats 4000000 in
theorem v_EX_define_x (G : jG) (d b : Nat) (q : Int) (n : Int) (I : Nat → Nat → Int) (A : Nat → Int → Int) (hI : cSI I) (hA : cSA A) (hK : cTok A) (hq : 0 ≤ q ∧ q ≤ 5) (hn : 0 ≤ n ∧ n ≤ 3) (h40 : I 1 3 ≤ 40) : cct G Y_EX_define (d + 3) b [.ref (b + 5), .int (jI q), .int (jI n), .ref (b + 1)] I A (fun (rv : Option Value) (I2 : Nat → Nat → Int) (A2 : Nat → Int → Int) => rv = none ∧ cPx [227, 291, 355, 419, 483, 547] [7, 15, 16, 17, 19, 20, 21, 23, 24, 25, 27, 28, 29, 31, 32, 33, 35, 36, 37] I A I2 A2 ∧ cTok A2 ∧ mDf q n I A I2 A2) := by
  refine cct_of (by decide) (Nat.le_of_ble_eq_true rfl) (fun f0 sz => ?_)
  show jt _ 0 [(0, .ref (b + 5)), (1, .int (jI q)), (2, .int (jI n)), (3, .ref (b + 1))] [] _ _ _ _
  have hz0 : cPx [227, 291, 355, 419, 483, 547] [7, 15, 16, 17, 19, 20, 21, 23, 24, 25, 27, 28, 29, 31, 32, 33, 35, 36, 37] I A I A := cPx.refl hI hA
  refine jt_aload_n d_EX_define_0 rfl ?_
  refine cm_get (k := 5) (v := .ref (b + 6)) d_EX_define_1 EX_f13 (by decide) cc_2 rfl ?_
  refine jt_iload_n d_EX_define_4 rfl ?_
  have h6 : q = 0 ∨ q = 1 ∨ q = 2 ∨ q = 3 ∨ q = 4 ∨ q = 5 := by omega
  rcases h6 with h6 | h6 | h6 | h6 | h6 | h6
  · skip
    subst h6
    refine cm_ldT (z := 0) d_EX_define_5 (by omega) (by omega) ?_
    show jt _ 6 [(0, .ref (b + 5)), (1, .int (jI 0)), (2, .int (jI n)), (3, .ref (b + 1))] [.ref (b + 14)] (cmf b f0 I A) _ _ _
    refine jt_aload_n d_EX_define_6 rfl ?_
    refine cct_callV (Y := Y_TR_copy) (ci := 0) (k := 14) (As := [.ref (b + 1)]) (rest := []) d_EX_define_7 EX_c34 yk_TR_copy yv_TR_copy rfl (Nat.le_of_ble_eq_true rfl) (by decide) (cc_1 rfl) rfl rfl (Nat.le_of_ble_eq_true rfl) (v_TR_copy_14_x G _ b  I A hz0.1 hz0.2.1 (by omega)) (fun rvq1 Iq1 Aq1 hq1 => ?_)
    obtain ⟨rfl, hqq1, hxq1⟩ := hq1
    have hpq1 := cPx.trans hz0 hqq1 rfl rfl
    show jt _ 10 [(0, .ref (b + 5)), (1, .int (jI 0)), (2, .int (jI n)), (3, .ref (b + 1))] [] (cmf b f0 Iq1 Aq1) _ _ _
    refine jt_aload_n d_EX_define_10 rfl ?_
    refine cm_get (k := 5) (v := .ref (b + 7)) d_EX_define_11 EX_f17 (by decide) cc_2 rfl ?_
    refine jt_iload_n d_EX_define_14 rfl ?_
    refine jt_iload_n d_EX_define_15 rfl ?_
    refine cm_st0 (k := 7) (n := 6) (v := n) d_EX_define_16 (by decide) rfl rfl (by omega) (by omega) (by omega) ?_
    have p2 := cPx.A 7 (ju (Aq1 7) 0 n) hpq1 (Or.inl rfl) (gju (hpq1.2.1 7) (show -1 ≤ n ∧ n ≤ 3 by omega))
    exact cm_vret d_EX_define_17 rfl (⟨rfl, p2, cTok_n 7 _ (hxq1.1 hK) rfl, by
        show ju (Aq1 7) 0 n = _
        rw [hqq1.2.2.2 7 rfl trivial], fun z z0 z1 => ⟨fun e9 => by
        subst e9
        exact ⟨hxq1.2.1, fun j j0 j1 => gH_rd hxq1.2.2 (by omega) j0 j1⟩, fun e9 => ⟨hqq1.2.2.1 (14 + 4 * z.toNat) 3 (ctn1 (by omega)), (va_up_ne _ _ (by omega)).trans (hqq1.2.2.2 _ (ctn3 (by omega) (by omega) (by omega)) trivial), (va_up_ne _ _ (by omega)).trans (hqq1.2.2.2 _ (ctn3 (by omega) (by omega) (by omega)) trivial)⟩⟩⟩)
  · skip
    subst h6
    refine cm_ldT (z := 1) d_EX_define_5 (by omega) (by omega) ?_
    show jt _ 6 [(0, .ref (b + 5)), (1, .int (jI 1)), (2, .int (jI n)), (3, .ref (b + 1))] [.ref (b + 18)] (cmf b f0 I A) _ _ _
    refine jt_aload_n d_EX_define_6 rfl ?_
    refine cct_callV (Y := Y_TR_copy) (ci := 0) (k := 18) (As := [.ref (b + 1)]) (rest := []) d_EX_define_7 EX_c34 yk_TR_copy yv_TR_copy rfl (Nat.le_of_ble_eq_true rfl) (by decide) (cc_1 rfl) rfl rfl (Nat.le_of_ble_eq_true rfl) (v_TR_copy_18_x G _ b  I A hz0.1 hz0.2.1 (by omega)) (fun rvq3 Iq3 Aq3 hq3 => ?_)
    obtain ⟨rfl, hqq3, hxq3⟩ := hq3
    have hpq3 := cPx.trans hz0 hqq3 rfl rfl
    show jt _ 10 [(0, .ref (b + 5)), (1, .int (jI 1)), (2, .int (jI n)), (3, .ref (b + 1))] [] (cmf b f0 Iq3 Aq3) _ _ _
    refine jt_aload_n d_EX_define_10 rfl ?_
    refine cm_get (k := 5) (v := .ref (b + 7)) d_EX_define_11 EX_f17 (by decide) cc_2 rfl ?_
    refine jt_iload_n d_EX_define_14 rfl ?_
    refine jt_iload_n d_EX_define_15 rfl ?_
    refine cm_st0 (k := 7) (n := 6) (v := n) d_EX_define_16 (by decide) rfl rfl (by omega) (by omega) (by omega) ?_
    have p4 := cPx.A 7 (ju (Aq3 7) 1 n) hpq3 (Or.inl rfl) (gju (hpq3.2.1 7) (show -1 ≤ n ∧ n ≤ 3 by omega))
    exact cm_vret d_EX_define_17 rfl (⟨rfl, p4, cTok_n 7 _ (hxq3.1 hK) rfl, by
        show ju (Aq3 7) 1 n = _
        rw [hqq3.2.2.2 7 rfl trivial], fun z z0 z1 => ⟨fun e9 => by
        subst e9
        exact ⟨hxq3.2.1, fun j j0 j1 => gH_rd hxq3.2.2 (by omega) j0 j1⟩, fun e9 => ⟨hqq3.2.2.1 (14 + 4 * z.toNat) 3 (ctn1 (by omega)), (va_up_ne _ _ (by omega)).trans (hqq3.2.2.2 _ (ctn3 (by omega) (by omega) (by omega)) trivial), (va_up_ne _ _ (by omega)).trans (hqq3.2.2.2 _ (ctn3 (by omega) (by omega) (by omega)) trivial)⟩⟩⟩)
  · skip
    subst h6
    refine cm_ldT (z := 2) d_EX_define_5 (by omega) (by omega) ?_
    show jt _ 6 [(0, .ref (b + 5)), (1, .int (jI 2)), (2, .int (jI n)), (3, .ref (b + 1))] [.ref (b + 22)] (cmf b f0 I A) _ _ _
    refine jt_aload_n d_EX_define_6 rfl ?_
    refine cct_callV (Y := Y_TR_copy) (ci := 0) (k := 22) (As := [.ref (b + 1)]) (rest := []) d_EX_define_7 EX_c34 yk_TR_copy yv_TR_copy rfl (Nat.le_of_ble_eq_true rfl) (by decide) (cc_1 rfl) rfl rfl (Nat.le_of_ble_eq_true rfl) (v_TR_copy_22_x G _ b  I A hz0.1 hz0.2.1 (by omega)) (fun rvq5 Iq5 Aq5 hq5 => ?_)
    obtain ⟨rfl, hqq5, hxq5⟩ := hq5
    have hpq5 := cPx.trans hz0 hqq5 rfl rfl
    show jt _ 10 [(0, .ref (b + 5)), (1, .int (jI 2)), (2, .int (jI n)), (3, .ref (b + 1))] [] (cmf b f0 Iq5 Aq5) _ _ _
    refine jt_aload_n d_EX_define_10 rfl ?_
    refine cm_get (k := 5) (v := .ref (b + 7)) d_EX_define_11 EX_f17 (by decide) cc_2 rfl ?_
    refine jt_iload_n d_EX_define_14 rfl ?_
    refine jt_iload_n d_EX_define_15 rfl ?_
    refine cm_st0 (k := 7) (n := 6) (v := n) d_EX_define_16 (by decide) rfl rfl (by omega) (by omega) (by omega) ?_
    have p6 := cPx.A 7 (ju (Aq5 7) 2 n) hpq5 (Or.inl rfl) (gju (hpq5.2.1 7) (show -1 ≤ n ∧ n ≤ 3 by omega))
    exact cm_vret d_EX_define_17 rfl (⟨rfl, p6, cTok_n 7 _ (hxq5.1 hK) rfl, by
        show ju (Aq5 7) 2 n = _
        rw [hqq5.2.2.2 7 rfl trivial], fun z z0 z1 => ⟨fun e9 => by
        subst e9
        exact ⟨hxq5.2.1, fun j j0 j1 => gH_rd hxq5.2.2 (by omega) j0 j1⟩, fun e9 => ⟨hqq5.2.2.1 (14 + 4 * z.toNat) 3 (ctn1 (by omega)), (va_up_ne _ _ (by omega)).trans (hqq5.2.2.2 _ (ctn3 (by omega) (by omega) (by omega)) trivial), (va_up_ne _ _ (by omega)).trans (hqq5.2.2.2 _ (ctn3 (by omega) (by omega) (by omega)) trivial)⟩⟩⟩)
  · skip
    subst h6
    refine cm_ldT (z := 3) d_EX_define_5 (by omega) (by omega) ?_
    show jt _ 6 [(0, .ref (b + 5)), (1, .int (jI 3)), (2, .int (jI n)), (3, .ref (b + 1))] [.ref (b + 26)] (cmf b f0 I A) _ _ _
    refine jt_aload_n d_EX_define_6 rfl ?_
    refine cct_callV (Y := Y_TR_copy) (ci := 0) (k := 26) (As := [.ref (b + 1)]) (rest := []) d_EX_define_7 EX_c34 yk_TR_copy yv_TR_copy rfl (Nat.le_of_ble_eq_true rfl) (by decide) (cc_1 rfl) rfl rfl (Nat.le_of_ble_eq_true rfl) (v_TR_copy_26_x G _ b  I A hz0.1 hz0.2.1 (by omega)) (fun rvq7 Iq7 Aq7 hq7 => ?_)
    obtain ⟨rfl, hqq7, hxq7⟩ := hq7
    have hpq7 := cPx.trans hz0 hqq7 rfl rfl
    show jt _ 10 [(0, .ref (b + 5)), (1, .int (jI 3)), (2, .int (jI n)), (3, .ref (b + 1))] [] (cmf b f0 Iq7 Aq7) _ _ _
    refine jt_aload_n d_EX_define_10 rfl ?_
    refine cm_get (k := 5) (v := .ref (b + 7)) d_EX_define_11 EX_f17 (by decide) cc_2 rfl ?_
    refine jt_iload_n d_EX_define_14 rfl ?_
    refine jt_iload_n d_EX_define_15 rfl ?_
    refine cm_st0 (k := 7) (n := 6) (v := n) d_EX_define_16 (by decide) rfl rfl (by omega) (by omega) (by omega) ?_
    have p8 := cPx.A 7 (ju (Aq7 7) 3 n) hpq7 (Or.inl rfl) (gju (hpq7.2.1 7) (show -1 ≤ n ∧ n ≤ 3 by omega))
    exact cm_vret d_EX_define_17 rfl (⟨rfl, p8, cTok_n 7 _ (hxq7.1 hK) rfl, by
        show ju (Aq7 7) 3 n = _
        rw [hqq7.2.2.2 7 rfl trivial], fun z z0 z1 => ⟨fun e9 => by
        subst e9
        exact ⟨hxq7.2.1, fun j j0 j1 => gH_rd hxq7.2.2 (by omega) j0 j1⟩, fun e9 => ⟨hqq7.2.2.1 (14 + 4 * z.toNat) 3 (ctn1 (by omega)), (va_up_ne _ _ (by omega)).trans (hqq7.2.2.2 _ (ctn3 (by omega) (by omega) (by omega)) trivial), (va_up_ne _ _ (by omega)).trans (hqq7.2.2.2 _ (ctn3 (by omega) (by omega) (by omega)) trivial)⟩⟩⟩)
  · skip
    subst h6
    refine cm_ldT (z := 4) d_EX_define_5 (by omega) (by omega) ?_
    show jt _ 6 [(0, .ref (b + 5)), (1, .int (jI 4)), (2, .int (jI n)), (3, .ref (b + 1))] [.ref (b + 30)] (cmf b f0 I A) _ _ _
    refine jt_aload_n d_EX_define_6 rfl ?_
    refine cct_callV (Y := Y_TR_copy) (ci := 0) (k := 30) (As := [.ref (b + 1)]) (rest := []) d_EX_define_7 EX_c34 yk_TR_copy yv_TR_copy rfl (Nat.le_of_ble_eq_true rfl) (by decide) (cc_1 rfl) rfl rfl (Nat.le_of_ble_eq_true rfl) (v_TR_copy_30_x G _ b  I A hz0.1 hz0.2.1 (by omega)) (fun rvq9 Iq9 Aq9 hq9 => ?_)
    obtain ⟨rfl, hqq9, hxq9⟩ := hq9
    have hpq9 := cPx.trans hz0 hqq9 rfl rfl
    show jt _ 10 [(0, .ref (b + 5)), (1, .int (jI 4)), (2, .int (jI n)), (3, .ref (b + 1))] [] (cmf b f0 Iq9 Aq9) _ _ _
    refine jt_aload_n d_EX_define_10 rfl ?_
    refine cm_get (k := 5) (v := .ref (b + 7)) d_EX_define_11 EX_f17 (by decide) cc_2 rfl ?_
    refine jt_iload_n d_EX_define_14 rfl ?_
    refine jt_iload_n d_EX_define_15 rfl ?_
    refine cm_st0 (k := 7) (n := 6) (v := n) d_EX_define_16 (by decide) rfl rfl (by omega) (by omega) (by omega) ?_
    have p10 := cPx.A 7 (ju (Aq9 7) 4 n) hpq9 (Or.inl rfl) (gju (hpq9.2.1 7) (show -1 ≤ n ∧ n ≤ 3 by omega))
    exact cm_vret d_EX_define_17 rfl (⟨rfl, p10, cTok_n 7 _ (hxq9.1 hK) rfl, by
        show ju (Aq9 7) 4 n = _
        rw [hqq9.2.2.2 7 rfl trivial], fun z z0 z1 => ⟨fun e9 => by
        subst e9
        exact ⟨hxq9.2.1, fun j j0 j1 => gH_rd hxq9.2.2 (by omega) j0 j1⟩, fun e9 => ⟨hqq9.2.2.1 (14 + 4 * z.toNat) 3 (ctn1 (by omega)), (va_up_ne _ _ (by omega)).trans (hqq9.2.2.2 _ (ctn3 (by omega) (by omega) (by omega)) trivial), (va_up_ne _ _ (by omega)).trans (hqq9.2.2.2 _ (ctn3 (by omega) (by omega) (by omega)) trivial)⟩⟩⟩)
  · skip
    subst h6
    refine cm_ldT (z := 5) d_EX_define_5 (by omega) (by omega) ?_
    show jt _ 6 [(0, .ref (b + 5)), (1, .int (jI 5)), (2, .int (jI n)), (3, .ref (b + 1))] [.ref (b + 34)] (cmf b f0 I A) _ _ _
    refine jt_aload_n d_EX_define_6 rfl ?_
    refine cct_callV (Y := Y_TR_copy) (ci := 0) (k := 34) (As := [.ref (b + 1)]) (rest := []) d_EX_define_7 EX_c34 yk_TR_copy yv_TR_copy rfl (Nat.le_of_ble_eq_true rfl) (by decide) (cc_1 rfl) rfl rfl (Nat.le_of_ble_eq_true rfl) (v_TR_copy_34_x G _ b  I A hz0.1 hz0.2.1 (by omega)) (fun rvq11 Iq11 Aq11 hq11 => ?_)
    obtain ⟨rfl, hqq11, hxq11⟩ := hq11
    have hpq11 := cPx.trans hz0 hqq11 rfl rfl
    show jt _ 10 [(0, .ref (b + 5)), (1, .int (jI 5)), (2, .int (jI n)), (3, .ref (b + 1))] [] (cmf b f0 Iq11 Aq11) _ _ _
    refine jt_aload_n d_EX_define_10 rfl ?_
    refine cm_get (k := 5) (v := .ref (b + 7)) d_EX_define_11 EX_f17 (by decide) cc_2 rfl ?_
    refine jt_iload_n d_EX_define_14 rfl ?_
    refine jt_iload_n d_EX_define_15 rfl ?_
    refine cm_st0 (k := 7) (n := 6) (v := n) d_EX_define_16 (by decide) rfl rfl (by omega) (by omega) (by omega) ?_
    have p12 := cPx.A 7 (ju (Aq11 7) 5 n) hpq11 (Or.inl rfl) (gju (hpq11.2.1 7) (show -1 ≤ n ∧ n ≤ 3 by omega))
    exact cm_vret d_EX_define_17 rfl (⟨rfl, p12, cTok_n 7 _ (hxq11.1 hK) rfl, by
        show ju (Aq11 7) 5 n = _
        rw [hqq11.2.2.2 7 rfl trivial], fun z z0 z1 => ⟨fun e9 => by
        subst e9
        exact ⟨hxq11.2.1, fun j j0 j1 => gH_rd hxq11.2.2 (by omega) j0 j1⟩, fun e9 => ⟨hqq11.2.2.1 (14 + 4 * z.toNat) 3 (ctn1 (by omega)), (va_up_ne _ _ (by omega)).trans (hqq11.2.2.2 _ (ctn3 (by omega) (by omega) (by omega)) trivial), (va_up_ne _ _ (by omega)).trans (hqq11.2.2.2 _ (ctn3 (by omega) (by omega) (by omega)) trivial)⟩⟩⟩)

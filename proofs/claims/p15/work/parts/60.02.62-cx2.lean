set_option maxRecDepth 100000 in
set_option maxHeartbeats 4000000 in
theorem v_TR_add_8_x (G : jG) (d b : Nat) (k : Int) (v : Int) (e : Int) (I : Nat → Nat → Int) (A : Nat → Int → Int) (hI : cSI I) (hA : cSA A) (hk : -2147483648 ≤ k ∧ k ≤ 2147483647) (hv : -2147483648 ≤ v ∧ v ≤ 2147483647) (he : -2147483648 ≤ e ∧ e ≤ 2147483647) : cct G Y_TR_add d b [.ref (b + 8), .int (jI k), .int (jI v), .int (jI e)] I A (fun (rv : Option Value) (I2 : Nat → Nat → Int) (A2 : Nat → Int → Int) => rv = none ∧ cPx [131] [9, 10, 11] I A I2 A2 ∧ (cTok A → gtok k v → cTok A2) ∧ (I 8 3 < 300 → I2 8 3 = I 8 3 + 1 ∧ ∀ P : List (Int × Int × Int), (P.length : Int) = I 8 3 → gH (A 9) (A 10) (A 11) P → gH (A2 9) (A2 10) (A2 11) (P ++ [(k, v, e)]))) := by
  refine cct_of (by decide) (Nat.le_of_ble_eq_true rfl) (fun f0 sz => ?_)
  show jt _ 0 [(0, .ref (b + 8)), (1, .int (jI k)), (2, .int (jI v)), (3, .int (jI e))] [] _ _ _ _
  have hz0 : cPx [131] [9, 10, 11] I A I A := cPx.refl hI hA
  refine jt_aload_n d_TR_add_0 rfl ?_
  refine cm_get (k := 8) (v := .int (jI (I 8 3))) d_TR_add_1 TR_f21 (by decide) (cc_1 rfl) rfl ?_
  have rb1 : 0 ≤ I 8 3 ∧ I 8 3 ≤ 300 := hz0.1 8 3
  refine jt_aload_n d_TR_add_4 rfl ?_
  refine cm_get (k := 8) (v := .ref (b + 9)) d_TR_add_5 TR_f9 (by decide) (cc_1 rfl) rfl ?_
  refine cm_len (k := 9) (n := 300) d_TR_add_8 jTy_0 (by decide) (cc_8 rfl rfl) ?_
  refine jt_icmp_ge (t := 52) d_TR_add_9 rfl (by unfold jRi; omega) (by unfold jRi; omega) (fun c2 => ?_) (fun c2 => ?_)
  · skip
    exact cm_vret d_TR_add_52 rfl (⟨rfl, hz0, fun z _ => z, fun z => by omega⟩)
  · skip
    refine jt_aload_n d_TR_add_12 rfl ?_
    refine cm_get (k := 8) (v := .ref (b + 9)) d_TR_add_13 TR_f9 (by decide) (cc_1 rfl) rfl ?_
    refine jt_aload_n d_TR_add_16 rfl ?_
    refine cm_get (k := 8) (v := .int (jI (I 8 3))) d_TR_add_17 TR_f21 (by decide) (cc_1 rfl) rfl ?_
    refine jt_iload_n d_TR_add_20 rfl ?_
    refine cm_st0 (k := 9) (n := 300) (v := k) d_TR_add_21 (by decide) rfl rfl (by omega) (by omega) (by omega) ?_
    have p3 := cPx.A 9 (ju (A 9) (I 8 3) k) hz0 (Or.inl rfl) (gju (hz0.2.1 9) (show -2147483648 ≤ k ∧ k ≤ 2147483647 by omega))
    refine jt_aload_n d_TR_add_22 rfl ?_
    refine cm_get (k := 8) (v := .ref (b + 10)) d_TR_add_23 TR_f15 (by decide) (cc_1 rfl) rfl ?_
    refine jt_aload_n d_TR_add_26 rfl ?_
    refine cm_get (k := 8) (v := .int (jI (I 8 3))) d_TR_add_27 TR_f21 (by decide) (cc_1 rfl) rfl ?_
    refine jt_iload_n d_TR_add_30 rfl ?_
    refine cm_st0 (k := 10) (n := 300) (v := v) d_TR_add_31 (by decide) rfl rfl (by omega) (by omega) (by omega) ?_
    have p4 := cPx.A 10 (ju (A 10) (I 8 3) v) p3 (Or.inl rfl) (gju (p3.2.1 10) (show -2147483648 ≤ v ∧ v ≤ 2147483647 by omega))
    refine jt_aload_n d_TR_add_32 rfl ?_
    refine cm_get (k := 8) (v := .ref (b + 11)) d_TR_add_33 TR_f18 (by decide) (cc_1 rfl) rfl ?_
    refine jt_aload_n d_TR_add_36 rfl ?_
    refine cm_get (k := 8) (v := .int (jI (I 8 3))) d_TR_add_37 TR_f21 (by decide) (cc_1 rfl) rfl ?_
    refine jt_iload_n d_TR_add_40 rfl ?_
    refine cm_st0 (k := 11) (n := 300) (v := e) d_TR_add_41 (by decide) rfl rfl (by omega) (by omega) (by omega) ?_
    have p5 := cPx.A 11 (ju (A 11) (I 8 3) e) p4 (Or.inl rfl) (gju (p4.2.1 11) (show -2147483648 ≤ e ∧ e ≤ 2147483647 by omega))
    refine jt_aload_n d_TR_add_42 rfl ?_
    refine jt_dup d_TR_add_43 rfl ?_
    refine cm_get (k := 8) (v := .int (jI (I 8 3))) d_TR_add_44 TR_f21 (by decide) (cc_1 rfl) rfl ?_
    refine jt_iconst d_TR_add_47 ?_
    refine jt_iadd d_TR_add_48 ?_
    refine jt_topi (fun v6 ev6 => ?_)
    refine cm_put (k := 8) (j := 3) (v := v6) d_TR_add_49 (TR_w21 _ rfl) (by decide) (cc_1 rfl) rfl rfl (Nat.le_of_ble_eq_true rfl) rfl ?_
    have p7 := cPx.I 8 3 v6 p5 rfl (show 0 ≤ v6 ∧ v6 ≤ 300 by omega)
    exact cm_vret d_TR_add_52 rfl (⟨rfl, p7, fun z1 z2 => cTok_n 11 _ (cTok_w 8 _ _ z1 (ju_tok z2 (z1 8 rfl)) rfl) rfl, fun _ => ⟨show v6 = I 8 3 + 1 by omega, fun P hP hH => gH_ju hH hP⟩⟩)
set_option maxRecDepth 100000 in
set_option maxHeartbeats 4000000 in
theorem v_TR_addAll_39_1_x (G : jG) (d b : Nat) (p : Int) (q : Int) (I : Nat → Nat → Int) (A : Nat → Int → Int) (hI : cSI I) (hA : cSA A) (hp : 0 ≤ p ∧ p ≤ 100000) (hq : 0 ≤ q ∧ q ≤ 120) : cct G Y_TR_addAll (d + 1) b [.ref (b + 39), .ref (b + 1), .int (jI p), .int (jI q)] I A (fun (rv : Option Value) (I2 : Nat → Nat → Int) (A2 : Nat → Int → Int) => rv = none ∧ cPx [627] [40, 41, 42] I A I2 A2 ∧ (cTok A → cTok A2) ∧ (p ≤ q → I 39 3 + (q - p) ≤ 300 → I2 39 3 = I 39 3 + (q - p) ∧ ∀ P : List (Int × Int × Int), (P.length : Int) = I 39 3 → gH (A 40) (A 41) (A 42) P → gH (A2 40) (A2 41) (A2 42) (P ++ xs (A 2) (A 3) (A 4) p q))) := by
  refine cct_of (by decide) (Nat.le_of_ble_eq_true rfl) (fun f0 sz => ?_)
  show jt _ 0 [(0, .ref (b + 39)), (1, .ref (b + 1)), (2, .int (jI p)), (3, .int (jI q))] [] _ _ _ _
  have hz0 : cPx [627] [40, 41, 42] I A I A := cPx.refl hI hA
  refine jt_iload_n d_TR_addAll_0 rfl ?_
  refine jt_iload_n d_TR_addAll_1 rfl ?_
  refine jt_isub d_TR_addAll_2 ?_
  refine jt_aload_n d_TR_addAll_3 rfl ?_
  refine cm_get (k := 39) (v := .ref (b + 40)) d_TR_addAll_4 TR_f9 (by decide) (cc_1 rfl) rfl ?_
  refine cm_len (k := 40) (n := 300) d_TR_addAll_7 jTy_0 (by decide) (cc_8 rfl rfl) ?_
  refine jt_aload_n d_TR_addAll_8 rfl ?_
  refine cm_get (k := 39) (v := .int (jI (I 39 3))) d_TR_addAll_9 TR_f21 (by decide) (cc_1 rfl) rfl ?_
  have rb1 : 0 ≤ I 39 3 ∧ I 39 3 ≤ 300 := hz0.1 39 3
  refine jt_isub d_TR_addAll_12 ?_
  refine jt_mmin d_TR_addAll_13 mw_min (by unfold jRi; omega) (by unfold jRi; omega) (show 1 ≤ d + 1 by omega) (show 0 + 13 ≤ (d + 1) * 40 by omega) (Nat.le_refl _) (Nat.le_refl _) ?_
  refine jt_topi (fun v2 ev2 => ?_)
  have mv2 : v2 ≤ q - p ∧ v2 ≤ 300 - (I 39 3) ∧ (v2 = q - p ∨ v2 = 300 - (I 39 3)) := by omega
  refine jt_istore (L' := [(0, .ref (b + 39)), (1, .ref (b + 1)), (2, .int (jI p)), (3, .int (jI q)), (4, .int (jI v2))]) d_TR_addAll_16 (Nat.le_of_ble_eq_true rfl) rfl ?_
  refine jt_iload_n d_TR_addAll_18 rfl ?_
  refine jt_if_lt (t := 92) d_TR_addAll_19 rfl (by unfold jRi; omega) (fun c3 => ?_) (fun c3 => ?_)
  · skip
    exact cm_vret d_TR_addAll_92 rfl (⟨rfl, hz0, fun z => z, fun z1 z2 => ⟨by omega, fun P hP hH => by rw [xs_nil _ _ _ _ _ (by omega), List.append_nil]; exact hH⟩⟩)
  · skip
    refine jt_iload d_TR_addAll_22 rfl ?_
    refine jt_if_le (t := 92) d_TR_addAll_24 rfl (by unfold jRi; omega) (fun c4 => ?_) (fun c4 => ?_)
    · skip
      exact cm_vret d_TR_addAll_92 rfl (⟨rfl, hz0, fun z => z, fun z1 z2 => ⟨by omega, fun P hP hH => by rw [xs_nil _ _ _ _ _ (by omega), List.append_nil]; exact hH⟩⟩)
    · skip
      refine jt_aload_n d_TR_addAll_27 rfl ?_
      refine cm_get (k := 1) (v := .ref (b + 2)) d_TR_addAll_28 TR_f9 (by decide) (cc_1 rfl) rfl ?_
      refine jt_iload_n d_TR_addAll_31 rfl ?_
      refine jt_aload_n d_TR_addAll_32 rfl ?_
      refine cm_get (k := 39) (v := .ref (b + 40)) d_TR_addAll_33 TR_f9 (by decide) (cc_1 rfl) rfl ?_
      refine jt_aload_n d_TR_addAll_36 rfl ?_
      refine cm_get (k := 39) (v := .int (jI (I 39 3))) d_TR_addAll_37 TR_f21 (by decide) (cc_1 rfl) rfl ?_
      refine jt_iload d_TR_addAll_40 rfl ?_
      refine cm_cpy (k0 := 2) (k1 := 40) (n0 := 120) (n1 := 300) (sp := p) (dp := (I 39 3)) (n := v2) d_TR_addAll_42 TR_ac34 (by decide) (by decide) rfl rfl rfl rfl (by omega) (by omega) (by omega) (by omega) (by omega) (by omega) (by omega) (show 1 ≤ d + 1 by omega) (by have e9 : nativeFrameWords "java/lang/System" "arraycopy" 5 = 7 := (by decide); rw [e9]; show 0 + (7 + 11) ≤ (d + 1) * 40; omega) ?_
      have p5 := cPx.A 40 (jcp (A 2) (A 40) p (I 39 3) v2) hz0 (Or.inl rfl) (jcp_r (hz0.2.1 2) (hz0.2.1 40))
      refine jt_aload_n d_TR_addAll_45 rfl ?_
      refine cm_get (k := 1) (v := .ref (b + 3)) d_TR_addAll_46 TR_f15 (by decide) (cc_1 rfl) rfl ?_
      refine jt_iload_n d_TR_addAll_49 rfl ?_
      refine jt_aload_n d_TR_addAll_50 rfl ?_
      refine cm_get (k := 39) (v := .ref (b + 41)) d_TR_addAll_51 TR_f15 (by decide) (cc_1 rfl) rfl ?_
      refine jt_aload_n d_TR_addAll_54 rfl ?_
      refine cm_get (k := 39) (v := .int (jI (I 39 3))) d_TR_addAll_55 TR_f21 (by decide) (cc_1 rfl) rfl ?_
      refine jt_iload d_TR_addAll_58 rfl ?_
      refine cm_cpy (k0 := 3) (k1 := 41) (n0 := 120) (n1 := 300) (sp := p) (dp := (I 39 3)) (n := v2) d_TR_addAll_60 TR_ac34 (by decide) (by decide) rfl rfl rfl rfl (by omega) (by omega) (by omega) (by omega) (by omega) (by omega) (by omega) (show 1 ≤ d + 1 by omega) (by have e9 : nativeFrameWords "java/lang/System" "arraycopy" 5 = 7 := (by decide); rw [e9]; show 0 + (7 + 11) ≤ (d + 1) * 40; omega) ?_
      have p6 := cPx.A 41 (jcp (A 3) (A 41) p (I 39 3) v2) p5 (Or.inl rfl) (jcp_r (p5.2.1 3) (p5.2.1 41))
      refine jt_aload_n d_TR_addAll_63 rfl ?_
      refine cm_get (k := 1) (v := .ref (b + 4)) d_TR_addAll_64 TR_f18 (by decide) (cc_1 rfl) rfl ?_
      refine jt_iload_n d_TR_addAll_67 rfl ?_
      refine jt_aload_n d_TR_addAll_68 rfl ?_
      refine cm_get (k := 39) (v := .ref (b + 42)) d_TR_addAll_69 TR_f18 (by decide) (cc_1 rfl) rfl ?_
      refine jt_aload_n d_TR_addAll_72 rfl ?_
      refine cm_get (k := 39) (v := .int (jI (I 39 3))) d_TR_addAll_73 TR_f21 (by decide) (cc_1 rfl) rfl ?_
      refine jt_iload d_TR_addAll_76 rfl ?_
      refine cm_cpy (k0 := 4) (k1 := 42) (n0 := 120) (n1 := 300) (sp := p) (dp := (I 39 3)) (n := v2) d_TR_addAll_78 TR_ac34 (by decide) (by decide) rfl rfl rfl rfl (by omega) (by omega) (by omega) (by omega) (by omega) (by omega) (by omega) (show 1 ≤ d + 1 by omega) (by have e9 : nativeFrameWords "java/lang/System" "arraycopy" 5 = 7 := (by decide); rw [e9]; show 0 + (7 + 11) ≤ (d + 1) * 40; omega) ?_
      have p7 := cPx.A 42 (jcp (A 4) (A 42) p (I 39 3) v2) p6 (Or.inl rfl) (jcp_r (p6.2.1 4) (p6.2.1 42))
      refine jt_aload_n d_TR_addAll_81 rfl ?_
      refine jt_dup d_TR_addAll_82 rfl ?_
      refine cm_get (k := 39) (v := .int (jI (I 39 3))) d_TR_addAll_83 TR_f21 (by decide) (cc_1 rfl) rfl ?_
      refine jt_iload d_TR_addAll_86 rfl ?_
      refine jt_iadd d_TR_addAll_88 ?_
      refine jt_topi (fun v8 ev8 => ?_)
      refine cm_put (k := 39) (j := 3) (v := v8) d_TR_addAll_89 (TR_w21 _ rfl) (by decide) (cc_1 rfl) rfl rfl (Nat.le_of_ble_eq_true rfl) rfl ?_
      have p9 := cPx.I 39 3 v8 p7 rfl (show 0 ≤ v8 ∧ v8 ≤ 300 by omega)
      exact cm_vret d_TR_addAll_92 rfl (⟨rfl, p9, fun z1 => cTok_n 42 _ (cTok_w 39 _ _ z1 (jcp_tok (z1 1 rfl) (z1 39 rfl)) rfl) rfl, fun z1 z2 => by
      obtain rfl : q = p + v2 := by omega
      exact ⟨show v8 = I 39 3 + (p + v2 - p) by omega, fun P hP hH => gH_jcp hH hP⟩⟩)
set_option maxRecDepth 100000 in
set_option maxHeartbeats 4000000 in
theorem v_TR_addAll_8_39_x (G : jG) (d b : Nat) (p : Int) (q : Int) (I : Nat → Nat → Int) (A : Nat → Int → Int) (hI : cSI I) (hA : cSA A) (hp : 0 ≤ p ∧ p ≤ 100000) (hq : 0 ≤ q ∧ q ≤ 300) : cct G Y_TR_addAll (d + 1) b [.ref (b + 8), .ref (b + 39), .int (jI p), .int (jI q)] I A (fun (rv : Option Value) (I2 : Nat → Nat → Int) (A2 : Nat → Int → Int) => rv = none ∧ cPx [131] [9, 10, 11] I A I2 A2 ∧ (cTok A → cTok A2) ∧ (p ≤ q → I 8 3 + (q - p) ≤ 300 → I2 8 3 = I 8 3 + (q - p) ∧ ∀ P : List (Int × Int × Int), (P.length : Int) = I 8 3 → gH (A 9) (A 10) (A 11) P → gH (A2 9) (A2 10) (A2 11) (P ++ xs (A 40) (A 41) (A 42) p q))) := by
  refine cct_of (by decide) (Nat.le_of_ble_eq_true rfl) (fun f0 sz => ?_)
  show jt _ 0 [(0, .ref (b + 8)), (1, .ref (b + 39)), (2, .int (jI p)), (3, .int (jI q))] [] _ _ _ _
  have hz0 : cPx [131] [9, 10, 11] I A I A := cPx.refl hI hA
  refine jt_iload_n d_TR_addAll_0 rfl ?_
  refine jt_iload_n d_TR_addAll_1 rfl ?_
  refine jt_isub d_TR_addAll_2 ?_
  refine jt_aload_n d_TR_addAll_3 rfl ?_
  refine cm_get (k := 8) (v := .ref (b + 9)) d_TR_addAll_4 TR_f9 (by decide) (cc_1 rfl) rfl ?_
  refine cm_len (k := 9) (n := 300) d_TR_addAll_7 jTy_0 (by decide) (cc_8 rfl rfl) ?_
  refine jt_aload_n d_TR_addAll_8 rfl ?_
  refine cm_get (k := 8) (v := .int (jI (I 8 3))) d_TR_addAll_9 TR_f21 (by decide) (cc_1 rfl) rfl ?_
  have rb1 : 0 ≤ I 8 3 ∧ I 8 3 ≤ 300 := hz0.1 8 3
  refine jt_isub d_TR_addAll_12 ?_
  refine jt_mmin d_TR_addAll_13 mw_min (by unfold jRi; omega) (by unfold jRi; omega) (show 1 ≤ d + 1 by omega) (show 0 + 13 ≤ (d + 1) * 40 by omega) (Nat.le_refl _) (Nat.le_refl _) ?_
  refine jt_topi (fun v2 ev2 => ?_)
  have mv2 : v2 ≤ q - p ∧ v2 ≤ 300 - (I 8 3) ∧ (v2 = q - p ∨ v2 = 300 - (I 8 3)) := by omega
  refine jt_istore (L' := [(0, .ref (b + 8)), (1, .ref (b + 39)), (2, .int (jI p)), (3, .int (jI q)), (4, .int (jI v2))]) d_TR_addAll_16 (Nat.le_of_ble_eq_true rfl) rfl ?_
  refine jt_iload_n d_TR_addAll_18 rfl ?_
  refine jt_if_lt (t := 92) d_TR_addAll_19 rfl (by unfold jRi; omega) (fun c3 => ?_) (fun c3 => ?_)
  · skip
    exact cm_vret d_TR_addAll_92 rfl (⟨rfl, hz0, fun z => z, fun z1 z2 => ⟨by omega, fun P hP hH => by rw [xs_nil _ _ _ _ _ (by omega), List.append_nil]; exact hH⟩⟩)
  · skip
    refine jt_iload d_TR_addAll_22 rfl ?_
    refine jt_if_le (t := 92) d_TR_addAll_24 rfl (by unfold jRi; omega) (fun c4 => ?_) (fun c4 => ?_)
    · skip
      exact cm_vret d_TR_addAll_92 rfl (⟨rfl, hz0, fun z => z, fun z1 z2 => ⟨by omega, fun P hP hH => by rw [xs_nil _ _ _ _ _ (by omega), List.append_nil]; exact hH⟩⟩)
    · skip
      refine jt_aload_n d_TR_addAll_27 rfl ?_
      refine cm_get (k := 39) (v := .ref (b + 40)) d_TR_addAll_28 TR_f9 (by decide) (cc_1 rfl) rfl ?_
      refine jt_iload_n d_TR_addAll_31 rfl ?_
      refine jt_aload_n d_TR_addAll_32 rfl ?_
      refine cm_get (k := 8) (v := .ref (b + 9)) d_TR_addAll_33 TR_f9 (by decide) (cc_1 rfl) rfl ?_
      refine jt_aload_n d_TR_addAll_36 rfl ?_
      refine cm_get (k := 8) (v := .int (jI (I 8 3))) d_TR_addAll_37 TR_f21 (by decide) (cc_1 rfl) rfl ?_
      refine jt_iload d_TR_addAll_40 rfl ?_
      refine cm_cpy (k0 := 40) (k1 := 9) (n0 := 300) (n1 := 300) (sp := p) (dp := (I 8 3)) (n := v2) d_TR_addAll_42 TR_ac34 (by decide) (by decide) rfl rfl rfl rfl (by omega) (by omega) (by omega) (by omega) (by omega) (by omega) (by omega) (show 1 ≤ d + 1 by omega) (by have e9 : nativeFrameWords "java/lang/System" "arraycopy" 5 = 7 := (by decide); rw [e9]; show 0 + (7 + 11) ≤ (d + 1) * 40; omega) ?_
      have p5 := cPx.A 9 (jcp (A 40) (A 9) p (I 8 3) v2) hz0 (Or.inl rfl) (jcp_r (hz0.2.1 40) (hz0.2.1 9))
      refine jt_aload_n d_TR_addAll_45 rfl ?_
      refine cm_get (k := 39) (v := .ref (b + 41)) d_TR_addAll_46 TR_f15 (by decide) (cc_1 rfl) rfl ?_
      refine jt_iload_n d_TR_addAll_49 rfl ?_
      refine jt_aload_n d_TR_addAll_50 rfl ?_
      refine cm_get (k := 8) (v := .ref (b + 10)) d_TR_addAll_51 TR_f15 (by decide) (cc_1 rfl) rfl ?_
      refine jt_aload_n d_TR_addAll_54 rfl ?_
      refine cm_get (k := 8) (v := .int (jI (I 8 3))) d_TR_addAll_55 TR_f21 (by decide) (cc_1 rfl) rfl ?_
      refine jt_iload d_TR_addAll_58 rfl ?_
      refine cm_cpy (k0 := 41) (k1 := 10) (n0 := 300) (n1 := 300) (sp := p) (dp := (I 8 3)) (n := v2) d_TR_addAll_60 TR_ac34 (by decide) (by decide) rfl rfl rfl rfl (by omega) (by omega) (by omega) (by omega) (by omega) (by omega) (by omega) (show 1 ≤ d + 1 by omega) (by have e9 : nativeFrameWords "java/lang/System" "arraycopy" 5 = 7 := (by decide); rw [e9]; show 0 + (7 + 11) ≤ (d + 1) * 40; omega) ?_
      have p6 := cPx.A 10 (jcp (A 41) (A 10) p (I 8 3) v2) p5 (Or.inl rfl) (jcp_r (p5.2.1 41) (p5.2.1 10))
      refine jt_aload_n d_TR_addAll_63 rfl ?_
      refine cm_get (k := 39) (v := .ref (b + 42)) d_TR_addAll_64 TR_f18 (by decide) (cc_1 rfl) rfl ?_
      refine jt_iload_n d_TR_addAll_67 rfl ?_
      refine jt_aload_n d_TR_addAll_68 rfl ?_
      refine cm_get (k := 8) (v := .ref (b + 11)) d_TR_addAll_69 TR_f18 (by decide) (cc_1 rfl) rfl ?_
      refine jt_aload_n d_TR_addAll_72 rfl ?_
      refine cm_get (k := 8) (v := .int (jI (I 8 3))) d_TR_addAll_73 TR_f21 (by decide) (cc_1 rfl) rfl ?_
      refine jt_iload d_TR_addAll_76 rfl ?_
      refine cm_cpy (k0 := 42) (k1 := 11) (n0 := 300) (n1 := 300) (sp := p) (dp := (I 8 3)) (n := v2) d_TR_addAll_78 TR_ac34 (by decide) (by decide) rfl rfl rfl rfl (by omega) (by omega) (by omega) (by omega) (by omega) (by omega) (by omega) (show 1 ≤ d + 1 by omega) (by have e9 : nativeFrameWords "java/lang/System" "arraycopy" 5 = 7 := (by decide); rw [e9]; show 0 + (7 + 11) ≤ (d + 1) * 40; omega) ?_
      have p7 := cPx.A 11 (jcp (A 42) (A 11) p (I 8 3) v2) p6 (Or.inl rfl) (jcp_r (p6.2.1 42) (p6.2.1 11))
      refine jt_aload_n d_TR_addAll_81 rfl ?_
      refine jt_dup d_TR_addAll_82 rfl ?_
      refine cm_get (k := 8) (v := .int (jI (I 8 3))) d_TR_addAll_83 TR_f21 (by decide) (cc_1 rfl) rfl ?_
      refine jt_iload d_TR_addAll_86 rfl ?_
      refine jt_iadd d_TR_addAll_88 ?_
      refine jt_topi (fun v8 ev8 => ?_)
      refine cm_put (k := 8) (j := 3) (v := v8) d_TR_addAll_89 (TR_w21 _ rfl) (by decide) (cc_1 rfl) rfl rfl (Nat.le_of_ble_eq_true rfl) rfl ?_
      have p9 := cPx.I 8 3 v8 p7 rfl (show 0 ≤ v8 ∧ v8 ≤ 300 by omega)
      exact cm_vret d_TR_addAll_92 rfl (⟨rfl, p9, fun z1 => cTok_n 11 _ (cTok_w 8 _ _ z1 (jcp_tok (z1 39 rfl) (z1 8 rfl)) rfl) rfl, fun z1 z2 => by
      obtain rfl : q = p + v2 := by omega
      exact ⟨show v8 = I 8 3 + (p + v2 - p) by omega, fun P hP hH => gH_jcp hH hP⟩⟩)
set_option maxRecDepth 100000 in
set_option maxHeartbeats 4000000 in
theorem v_TR_addAll_39_8_x (G : jG) (d b : Nat) (p : Int) (q : Int) (I : Nat → Nat → Int) (A : Nat → Int → Int) (hI : cSI I) (hA : cSA A) (hp : 0 ≤ p ∧ p ≤ 100000) (hq : 0 ≤ q ∧ q ≤ 300) : cct G Y_TR_addAll (d + 1) b [.ref (b + 39), .ref (b + 8), .int (jI p), .int (jI q)] I A (fun (rv : Option Value) (I2 : Nat → Nat → Int) (A2 : Nat → Int → Int) => rv = none ∧ cPx [627] [40, 41, 42] I A I2 A2 ∧ (cTok A → cTok A2) ∧ (p ≤ q → I 39 3 + (q - p) ≤ 300 → I2 39 3 = I 39 3 + (q - p) ∧ ∀ P : List (Int × Int × Int), (P.length : Int) = I 39 3 → gH (A 40) (A 41) (A 42) P → gH (A2 40) (A2 41) (A2 42) (P ++ xs (A 9) (A 10) (A 11) p q))) := by
  refine cct_of (by decide) (Nat.le_of_ble_eq_true rfl) (fun f0 sz => ?_)
  show jt _ 0 [(0, .ref (b + 39)), (1, .ref (b + 8)), (2, .int (jI p)), (3, .int (jI q))] [] _ _ _ _
  have hz0 : cPx [627] [40, 41, 42] I A I A := cPx.refl hI hA
  refine jt_iload_n d_TR_addAll_0 rfl ?_
  refine jt_iload_n d_TR_addAll_1 rfl ?_
  refine jt_isub d_TR_addAll_2 ?_
  refine jt_aload_n d_TR_addAll_3 rfl ?_
  refine cm_get (k := 39) (v := .ref (b + 40)) d_TR_addAll_4 TR_f9 (by decide) (cc_1 rfl) rfl ?_
  refine cm_len (k := 40) (n := 300) d_TR_addAll_7 jTy_0 (by decide) (cc_8 rfl rfl) ?_
  refine jt_aload_n d_TR_addAll_8 rfl ?_
  refine cm_get (k := 39) (v := .int (jI (I 39 3))) d_TR_addAll_9 TR_f21 (by decide) (cc_1 rfl) rfl ?_
  have rb1 : 0 ≤ I 39 3 ∧ I 39 3 ≤ 300 := hz0.1 39 3
  refine jt_isub d_TR_addAll_12 ?_
  refine jt_mmin d_TR_addAll_13 mw_min (by unfold jRi; omega) (by unfold jRi; omega) (show 1 ≤ d + 1 by omega) (show 0 + 13 ≤ (d + 1) * 40 by omega) (Nat.le_refl _) (Nat.le_refl _) ?_
  refine jt_topi (fun v2 ev2 => ?_)
  have mv2 : v2 ≤ q - p ∧ v2 ≤ 300 - (I 39 3) ∧ (v2 = q - p ∨ v2 = 300 - (I 39 3)) := by omega
  refine jt_istore (L' := [(0, .ref (b + 39)), (1, .ref (b + 8)), (2, .int (jI p)), (3, .int (jI q)), (4, .int (jI v2))]) d_TR_addAll_16 (Nat.le_of_ble_eq_true rfl) rfl ?_
  refine jt_iload_n d_TR_addAll_18 rfl ?_
  refine jt_if_lt (t := 92) d_TR_addAll_19 rfl (by unfold jRi; omega) (fun c3 => ?_) (fun c3 => ?_)
  · skip
    exact cm_vret d_TR_addAll_92 rfl (⟨rfl, hz0, fun z => z, fun z1 z2 => ⟨by omega, fun P hP hH => by rw [xs_nil _ _ _ _ _ (by omega), List.append_nil]; exact hH⟩⟩)
  · skip
    refine jt_iload d_TR_addAll_22 rfl ?_
    refine jt_if_le (t := 92) d_TR_addAll_24 rfl (by unfold jRi; omega) (fun c4 => ?_) (fun c4 => ?_)
    · skip
      exact cm_vret d_TR_addAll_92 rfl (⟨rfl, hz0, fun z => z, fun z1 z2 => ⟨by omega, fun P hP hH => by rw [xs_nil _ _ _ _ _ (by omega), List.append_nil]; exact hH⟩⟩)
    · skip
      refine jt_aload_n d_TR_addAll_27 rfl ?_
      refine cm_get (k := 8) (v := .ref (b + 9)) d_TR_addAll_28 TR_f9 (by decide) (cc_1 rfl) rfl ?_
      refine jt_iload_n d_TR_addAll_31 rfl ?_
      refine jt_aload_n d_TR_addAll_32 rfl ?_
      refine cm_get (k := 39) (v := .ref (b + 40)) d_TR_addAll_33 TR_f9 (by decide) (cc_1 rfl) rfl ?_
      refine jt_aload_n d_TR_addAll_36 rfl ?_
      refine cm_get (k := 39) (v := .int (jI (I 39 3))) d_TR_addAll_37 TR_f21 (by decide) (cc_1 rfl) rfl ?_
      refine jt_iload d_TR_addAll_40 rfl ?_
      refine cm_cpy (k0 := 9) (k1 := 40) (n0 := 300) (n1 := 300) (sp := p) (dp := (I 39 3)) (n := v2) d_TR_addAll_42 TR_ac34 (by decide) (by decide) rfl rfl rfl rfl (by omega) (by omega) (by omega) (by omega) (by omega) (by omega) (by omega) (show 1 ≤ d + 1 by omega) (by have e9 : nativeFrameWords "java/lang/System" "arraycopy" 5 = 7 := (by decide); rw [e9]; show 0 + (7 + 11) ≤ (d + 1) * 40; omega) ?_
      have p5 := cPx.A 40 (jcp (A 9) (A 40) p (I 39 3) v2) hz0 (Or.inl rfl) (jcp_r (hz0.2.1 9) (hz0.2.1 40))
      refine jt_aload_n d_TR_addAll_45 rfl ?_
      refine cm_get (k := 8) (v := .ref (b + 10)) d_TR_addAll_46 TR_f15 (by decide) (cc_1 rfl) rfl ?_
      refine jt_iload_n d_TR_addAll_49 rfl ?_
      refine jt_aload_n d_TR_addAll_50 rfl ?_
      refine cm_get (k := 39) (v := .ref (b + 41)) d_TR_addAll_51 TR_f15 (by decide) (cc_1 rfl) rfl ?_
      refine jt_aload_n d_TR_addAll_54 rfl ?_
      refine cm_get (k := 39) (v := .int (jI (I 39 3))) d_TR_addAll_55 TR_f21 (by decide) (cc_1 rfl) rfl ?_
      refine jt_iload d_TR_addAll_58 rfl ?_
      refine cm_cpy (k0 := 10) (k1 := 41) (n0 := 300) (n1 := 300) (sp := p) (dp := (I 39 3)) (n := v2) d_TR_addAll_60 TR_ac34 (by decide) (by decide) rfl rfl rfl rfl (by omega) (by omega) (by omega) (by omega) (by omega) (by omega) (by omega) (show 1 ≤ d + 1 by omega) (by have e9 : nativeFrameWords "java/lang/System" "arraycopy" 5 = 7 := (by decide); rw [e9]; show 0 + (7 + 11) ≤ (d + 1) * 40; omega) ?_
      have p6 := cPx.A 41 (jcp (A 10) (A 41) p (I 39 3) v2) p5 (Or.inl rfl) (jcp_r (p5.2.1 10) (p5.2.1 41))
      refine jt_aload_n d_TR_addAll_63 rfl ?_
      refine cm_get (k := 8) (v := .ref (b + 11)) d_TR_addAll_64 TR_f18 (by decide) (cc_1 rfl) rfl ?_
      refine jt_iload_n d_TR_addAll_67 rfl ?_
      refine jt_aload_n d_TR_addAll_68 rfl ?_
      refine cm_get (k := 39) (v := .ref (b + 42)) d_TR_addAll_69 TR_f18 (by decide) (cc_1 rfl) rfl ?_
      refine jt_aload_n d_TR_addAll_72 rfl ?_
      refine cm_get (k := 39) (v := .int (jI (I 39 3))) d_TR_addAll_73 TR_f21 (by decide) (cc_1 rfl) rfl ?_
      refine jt_iload d_TR_addAll_76 rfl ?_
      refine cm_cpy (k0 := 11) (k1 := 42) (n0 := 300) (n1 := 300) (sp := p) (dp := (I 39 3)) (n := v2) d_TR_addAll_78 TR_ac34 (by decide) (by decide) rfl rfl rfl rfl (by omega) (by omega) (by omega) (by omega) (by omega) (by omega) (by omega) (show 1 ≤ d + 1 by omega) (by have e9 : nativeFrameWords "java/lang/System" "arraycopy" 5 = 7 := (by decide); rw [e9]; show 0 + (7 + 11) ≤ (d + 1) * 40; omega) ?_
      have p7 := cPx.A 42 (jcp (A 11) (A 42) p (I 39 3) v2) p6 (Or.inl rfl) (jcp_r (p6.2.1 11) (p6.2.1 42))
      refine jt_aload_n d_TR_addAll_81 rfl ?_
      refine jt_dup d_TR_addAll_82 rfl ?_
      refine cm_get (k := 39) (v := .int (jI (I 39 3))) d_TR_addAll_83 TR_f21 (by decide) (cc_1 rfl) rfl ?_
      refine jt_iload d_TR_addAll_86 rfl ?_
      refine jt_iadd d_TR_addAll_88 ?_
      refine jt_topi (fun v8 ev8 => ?_)
      refine cm_put (k := 39) (j := 3) (v := v8) d_TR_addAll_89 (TR_w21 _ rfl) (by decide) (cc_1 rfl) rfl rfl (Nat.le_of_ble_eq_true rfl) rfl ?_
      have p9 := cPx.I 39 3 v8 p7 rfl (show 0 ≤ v8 ∧ v8 ≤ 300 by omega)
      exact cm_vret d_TR_addAll_92 rfl (⟨rfl, p9, fun z1 => cTok_n 42 _ (cTok_w 39 _ _ z1 (jcp_tok (z1 8 rfl) (z1 39 rfl)) rfl) rfl, fun z1 z2 => by
      obtain rfl : q = p + v2 := by omega
      exact ⟨show v8 = I 39 3 + (p + v2 - p) by omega, fun P hP hH => gH_jcp hH hP⟩⟩)
set_option maxRecDepth 100000 in
set_option maxHeartbeats 4000000 in
theorem v_TR_copy_39_x (G : jG) (d b : Nat)  (I : Nat → Nat → Int) (A : Nat → Int → Int) (hI : cSI I) (hA : cSA A) : cct G Y_TR_copy (d + 2) b [.ref (b + 39), .ref (b + 1)] I A (fun (rv : Option Value) (I2 : Nat → Nat → Int) (A2 : Nat → Int → Int) => rv = none ∧ cPx [627] [40, 41, 42] I A I2 A2 ∧ (cTok A → cTok A2) ∧ (I2 39 3 = I 1 3 ∧ gH (A2 40) (A2 41) (A2 42) (xs (A 2) (A 3) (A 4) 0 (I 1 3)))) := by
  refine cct_of (by decide) (Nat.le_of_ble_eq_true rfl) (fun f0 sz => ?_)
  show jt _ 0 [(0, .ref (b + 39)), (1, .ref (b + 1))] [] _ _ _ _
  have r13 : 0 ≤ I 1 3 ∧ I 1 3 ≤ 120 := hI 1 3
  have hz0 : cPx [627] [40, 41, 42] I A I A := cPx.refl hI hA
  refine jt_aload_n d_TR_copy_0 rfl ?_
  refine jt_iconst d_TR_copy_1 ?_
  refine cm_put (k := 39) (j := 3) (v := 0) d_TR_copy_2 (TR_w21 _ rfl) (by decide) (cc_1 rfl) rfl rfl (Nat.le_of_ble_eq_true rfl) rfl ?_
  have p1 := cPx.I 39 3 0 hz0 rfl (show 0 ≤ 0 ∧ 0 ≤ 300 by omega)
  refine jt_aload_n d_TR_copy_5 rfl ?_
  refine jt_aload_n d_TR_copy_6 rfl ?_
  refine jt_iconst d_TR_copy_7 ?_
  refine jt_aload_n d_TR_copy_8 rfl ?_
  refine cm_get (k := 1) (v := .int (jI (I 1 3))) d_TR_copy_9 TR_f21 (by decide) (cc_1 rfl) rfl ?_
  have rb2 : 0 ≤ I 1 3 ∧ I 1 3 ≤ 120 := p1.1 1 3
  refine cct_callV (Y := Y_TR_addAll) (ci := 0) (k := 39) (As := [.ref (b + 1), .int (jI 0), .int (jI (I 1 3))]) (rest := []) d_TR_copy_12 TR_c40 yk_TR_addAll yv_TR_addAll rfl (Nat.le_of_ble_eq_true rfl) (by decide) (cc_1 rfl) rfl rfl (Nat.le_of_ble_eq_true rfl) (v_TR_addAll_39_1_x G _ b 0 (I 1 3) (cu I 39 3 0) A p1.1 p1.2.1 (by omega) (by omega)) (fun rvq3 Iq3 Aq3 hq3 => ?_)
  obtain ⟨rfl, hqq3, hxq3⟩ := hq3
  have hpq3 := cPx.trans p1 hqq3 rfl rfl
  show jt _ 15 [(0, .ref (b + 39)), (1, .ref (b + 1))] [] (cmf b f0 Iq3 Aq3) _ _ _
  exact cm_vret d_TR_copy_15 rfl (⟨rfl, hpq3, hxq3.1, by
      have h9 := hxq3.2 (by omega) (show (0 : Int) + (I 1 3 - 0) ≤ 300 by omega)
      have h8 : Iq3 39 3 = (0 : Int) + (I 1 3 - 0) := h9.1
      exact ⟨by omega, by have h7 := h9.2 [] rfl (fun i t h => by simp at h); exact h7⟩⟩)

set_option maxRecDepth 100000 in
set_option maxHeartbeats 4000000 in
theorem l16_EX_lengthAfter_14_xv (G : jG) (d b : Nat) (q : Int) (I : Nat → Nat → Int) (A : Nat → Int → Int) (hI : cSI I) (hA : cSA A) (hK : cTok A) (X9 : Int → Int) (hX : A 40 = X9) (Y9 : Int → Int) (hY : A 41 = Y9) (D9 : Int → Int) (hD : A 42 = D9) (N9 : Int) (hN : I 39 3 = N9) (hq : 0 ≤ q ∧ q ≤ 301) (hb : ∀ j, 0 ≤ j → j < I 14 3 → A 15 j = 2 → 0 ≤ A 12 (A 16 j) ∧ A 12 (A 16 j) ≤ A 13 (A 16 j) ∧ A 13 (A 16 j) ≤ N9) (f0 : jF) (sz : Nat)   : ∀ (n9 : Nat) (l : Int) (i : Int) (J : Nat → Nat → Int) (B : Nat → Int → Int), cPx [] [] I A J B → (0 ≤ i ∧ i ≤ I 14 3) → (-700 - 300 * i ≤ l ∧ l ≤ 700 + 300 * i) → (l = I 5 5 + N9 - q + ((xbd (A 15) (A 16) (A 12) (A 13) X9 Y9 D9 (D9 (I 5 5) + 1) i.toNat).length : Int)) → (J = I) → (B = A) → (B 40 = X9) → (B 41 = Y9) → (B 42 = D9) → (J 39 3 = N9) → 40 - i < (n9 : Int) → jt (jm G Y_EX_lengthAfter (gR d) (cQ b f0 sz (fun (rv : Option Value) (I2 : Nat → Nat → Int) (A2 : Nat → Int → Int) => ∃ y : Int, rv = some (.int (jI y)) ∧ (-2147483648 ≤ y ∧ y ≤ 2147483647) ∧ I2 = I ∧ A2 = A ∧ y = I 5 5 + N9 - q + ((xbd (A 15) (A 16) (A 12) (A 13) X9 Y9 D9 (D9 (I 5 5) + 1) (I 14 3).toNat).length : Int)))) 16 [(0, .ref (b + 5)), (1, .ref (b + 39)), (2, .ref (b + 14)), (3, .int (jI q)), (4, .int (jI l)), (5, .int (jI i))] [] (cmf b f0 J B) sz 0 0 := by
  have r55 : 0 ≤ I 5 5 ∧ I 5 5 ≤ 300 := hI 5 5
  have r39 : 0 ≤ I 39 3 ∧ I 39 3 ≤ 300 := hI 39 3
  have rx3 : 0 ≤ I 14 3 ∧ I 14 3 ≤ 40 := hI 14 3
  intro n9
  induction n9 with
  | zero =>
    intro l i J B hJ i0 l0 hl eJ eB cX cY cD cN hmeas
    have tk : gtok (B 15 i) (B 16 i) := (cTok_of (cPx.po hJ) hK rfl) 14 rfl i
    unfold gtok at tk
    rw [eB] at tk
    have fJ := congrFun (congrFun eJ 14) 3
    exfalso
    omega
  | succ n9 ih =>
    intro l i J B hJ i0 l0 hl eJ eB cX cY cD cN hmeas
    have tk : gtok (B 15 i) (B 16 i) := (cTok_of (cPx.po hJ) hK rfl) 14 rfl i
    unfold gtok at tk
    rw [eB] at tk
    have fJ := congrFun (congrFun eJ 14) 3
    refine jt_iload d_EX_lengthAfter_16 rfl ?_
    refine jt_aload_n d_EX_lengthAfter_18 rfl ?_
    refine cm_get (k := 14) (v := .int (jI (J 14 3))) d_EX_lengthAfter_19 EX_f38 (by decide) (cc_1 rfl) rfl ?_
    have rb101 : 0 ≤ J 14 3 ∧ J 14 3 ≤ 40 := hJ.1 14 3
    refine jt_icmp_ge (t := 75) d_EX_lengthAfter_22 rfl (by unfold jRi; omega) (by unfold jRi; omega) (fun c102 => ?_) (fun c102 => ?_)
    · skip
      refine jt_iload d_EX_lengthAfter_75 rfl ?_
      exact cm_ret d_EX_lengthAfter_77 rfl rfl (⟨l, rfl, by omega, eJ, eB, by rw [hl, show i = I 14 3 by omega]⟩)
    · skip
      refine jt_aload_n d_EX_lengthAfter_25 rfl ?_
      refine cm_get (k := 14) (v := .ref (b + 16)) d_EX_lengthAfter_26 EX_f55 (by decide) (cc_1 rfl) rfl ?_
      refine jt_iload d_EX_lengthAfter_29 rfl ?_
      refine cm_ld0 (k := 16) (n := 40) (v := (B 16) i) d_EX_lengthAfter_31 (by decide) rfl rfl (by omega) (by omega) (by omega) rfl ?_
      refine jt_topi (fun v103 ev103 => ?_)
      have bv103 : -2147483648 ≤ v103 ∧ v103 ≤ 2147483647 := by rw [ev103]; exact hJ.2.1 16 i
      rw [eB] at ev103
      refine jt_istore (L' := [(0, .ref (b + 5)), (1, .ref (b + 39)), (2, .ref (b + 14)), (3, .int (jI q)), (4, .int (jI l)), (5, .int (jI i)), (6, .int (jI v103))]) d_EX_lengthAfter_32 (Nat.le_of_ble_eq_true rfl) rfl ?_
      refine jt_iload d_EX_lengthAfter_34 rfl ?_
      refine jt_aload_n d_EX_lengthAfter_36 rfl ?_
      refine cm_get (k := 14) (v := .ref (b + 15)) d_EX_lengthAfter_37 EX_f48 (by decide) (cc_1 rfl) rfl ?_
      refine jt_iload d_EX_lengthAfter_40 rfl ?_
      refine cm_ld0 (k := 15) (n := 40) (v := (B 15) i) d_EX_lengthAfter_42 (by decide) rfl rfl (by omega) (by omega) (by omega) rfl ?_
      refine jt_topi (fun v104 ev104 => ?_)
      have bv104 : -2147483648 ≤ v104 ∧ v104 ≤ 2147483647 := by rw [ev104]; exact hJ.2.1 15 i
      rw [eB] at ev104
      refine jt_iconst d_EX_lengthAfter_43 ?_
      refine jt_icmp_ne (t := 65) d_EX_lengthAfter_44 rfl (by unfold jRi; omega) (by unfold jRi; omega) (fun c105 => ?_) (fun c105 => ?_)
      · skip
        have hk2 : ¬ A 15 i = 2 := by omega
        have es2 := xbd_s (A 15) (A 16) (A 12) (A 13) X9 Y9 D9 (D9 (I 5 5) + 1) i (by omega)
        unfold xb1 at es2
        rw [if_neg hk2] at es2
        have es := congrArg List.length es2
        rw [List.length_append] at es
        have es1 : (xbd (A 15) (A 16) (A 12) (A 13) X9 Y9 D9 (D9 (I 5 5) + 1) (i + 1).toNat).length = (xbd (A 15) (A 16) (A 12) (A 13) X9 Y9 D9 (D9 (I 5 5) + 1) i.toNat).length + 1 := es
        refine jt_iconst d_EX_lengthAfter_65 ?_
        refine jt_iadd d_EX_lengthAfter_66 ?_
        refine jt_topi (fun v106 ev106 => ?_)
        refine jt_istore (L' := [(0, .ref (b + 5)), (1, .ref (b + 39)), (2, .ref (b + 14)), (3, .int (jI q)), (4, .int (jI v106)), (5, .int (jI i)), (6, .int (jI v103))]) d_EX_lengthAfter_67 (Nat.le_of_ble_eq_true rfl) rfl ?_
        refine jt_iinc (L' := [(0, .ref (b + 5)), (1, .ref (b + 39)), (2, .ref (b + 14)), (3, .int (jI q)), (4, .int (jI v106)), (5, .int (jI (i + 1))), (6, .int (jI v103))]) d_EX_lengthAfter_69 rfl (Nat.le_of_ble_eq_true rfl) rfl ?_
        refine jt_goto (t := 16) d_EX_lengthAfter_72 rfl ?_
        refine jt_sub (L' := [(0, .ref (b + 5)), (1, .ref (b + 39)), (2, .ref (b + 14)), (3, .int (jI q)), (4, .int (jI v106)), (5, .int (jI (i + 1)))]) (fun _ h => List.mem_append_left [(6, Value.int (jI v103))] h) ?_
        exact ih v106 (i + 1) J B hJ (by omega) (by omega) (by omega) eJ eB cX cY cD cN (by omega)
      · skip
        have hk2 : A 15 i = 2 := by omega
        have es2 := xbd_s (A 15) (A 16) (A 12) (A 13) X9 Y9 D9 (D9 (I 5 5) + 1) i (by omega)
        unfold xb1 at es2
        rw [if_pos hk2] at es2
        have es := congrArg List.length es2
        rw [List.length_append] at es
        rw [xs_len] at es
        have q9 := hb i (by omega) (by omega) hk2
        rw [← ev103] at q9 es es2
        refine jt_aload_n d_EX_lengthAfter_47 rfl ?_
        refine cm_get (k := 5) (v := .ref (b + 13)) d_EX_lengthAfter_48 EX_f31 (by decide) cc_2 rfl ?_
        refine jt_iload d_EX_lengthAfter_51 rfl ?_
        refine cm_ld0 (k := 13) (n := 3) (v := (B 13) v103) d_EX_lengthAfter_53 (by decide) rfl rfl (by omega) (by omega) (by omega) rfl ?_
        refine jt_topi (fun v107 ev107 => ?_)
        have bv107 : 0 ≤ v107 ∧ v107 ≤ 300 := by rw [ev107]; exact hJ.2.1 13 v103
        rw [eB] at ev107
        refine jt_aload_n d_EX_lengthAfter_54 rfl ?_
        refine cm_get (k := 5) (v := .ref (b + 12)) d_EX_lengthAfter_55 EX_f28 (by decide) cc_2 rfl ?_
        refine jt_iload d_EX_lengthAfter_58 rfl ?_
        refine cm_ld0 (k := 12) (n := 3) (v := (B 12) v103) d_EX_lengthAfter_60 (by decide) rfl rfl (by omega) (by omega) (by omega) rfl ?_
        refine jt_topi (fun v108 ev108 => ?_)
        have bv108 : 0 ≤ v108 ∧ v108 ≤ 300 := by rw [ev108]; exact hJ.2.1 12 v103
        rw [eB] at ev108
        refine jt_isub d_EX_lengthAfter_61 ?_
        refine jt_goto (t := 66) d_EX_lengthAfter_62 rfl ?_
        refine jt_iadd d_EX_lengthAfter_66 ?_
        refine jt_topi (fun v109 ev109 => ?_)
        refine jt_istore (L' := [(0, .ref (b + 5)), (1, .ref (b + 39)), (2, .ref (b + 14)), (3, .int (jI q)), (4, .int (jI v109)), (5, .int (jI i)), (6, .int (jI v103))]) d_EX_lengthAfter_67 (Nat.le_of_ble_eq_true rfl) rfl ?_
        refine jt_iinc (L' := [(0, .ref (b + 5)), (1, .ref (b + 39)), (2, .ref (b + 14)), (3, .int (jI q)), (4, .int (jI v109)), (5, .int (jI (i + 1))), (6, .int (jI v103))]) d_EX_lengthAfter_69 rfl (Nat.le_of_ble_eq_true rfl) rfl ?_
        refine jt_goto (t := 16) d_EX_lengthAfter_72 rfl ?_
        refine jt_sub (L' := [(0, .ref (b + 5)), (1, .ref (b + 39)), (2, .ref (b + 14)), (3, .int (jI q)), (4, .int (jI v109)), (5, .int (jI (i + 1)))]) (fun _ h => List.mem_append_left [(6, Value.int (jI v103))] h) ?_
        exact ih v109 (i + 1) J B hJ (by omega) (by omega) (by omega) eJ eB cX cY cD cN (by omega)
set_option maxRecDepth 100000 in
set_option maxHeartbeats 4000000 in
theorem v_EX_lengthAfter_14_x (G : jG) (d b : Nat) (q : Int) (I : Nat → Nat → Int) (A : Nat → Int → Int) (hI : cSI I) (hA : cSA A) (hK : cTok A) (X9 : Int → Int) (hX : A 40 = X9) (Y9 : Int → Int) (hY : A 41 = Y9) (D9 : Int → Int) (hD : A 42 = D9) (N9 : Int) (hN : I 39 3 = N9) (hq : 0 ≤ q ∧ q ≤ 301) (hb : ∀ j, 0 ≤ j → j < I 14 3 → A 15 j = 2 → 0 ≤ A 12 (A 16 j) ∧ A 12 (A 16 j) ≤ A 13 (A 16 j) ∧ A 13 (A 16 j) ≤ N9) : cct G Y_EX_lengthAfter d b [.ref (b + 5), .ref (b + 39), .ref (b + 14), .int (jI q)] I A (fun (rv : Option Value) (I2 : Nat → Nat → Int) (A2 : Nat → Int → Int) => ∃ y : Int, rv = some (.int (jI y)) ∧ (-2147483648 ≤ y ∧ y ≤ 2147483647) ∧ I2 = I ∧ A2 = A ∧ y = I 5 5 + N9 - q + ((xbd (A 15) (A 16) (A 12) (A 13) X9 Y9 D9 (D9 (I 5 5) + 1) (I 14 3).toNat).length : Int)) := by
  refine cct_of (by decide) (Nat.le_of_ble_eq_true rfl) (fun f0 sz => ?_)
  show jt _ 0 [(0, .ref (b + 5)), (1, .ref (b + 39)), (2, .ref (b + 14)), (3, .int (jI q))] [] _ _ _ _
  have r55 : 0 ≤ I 5 5 ∧ I 5 5 ≤ 300 := hI 5 5
  have r39 : 0 ≤ I 39 3 ∧ I 39 3 ≤ 300 := hI 39 3
  have rx3 : 0 ≤ I 14 3 ∧ I 14 3 ≤ 40 := hI 14 3
  have hz0 : cPx [] [] I A I A := cPx.refl hI hA
  refine jt_aload_n d_EX_lengthAfter_0 rfl ?_
  refine cm_get (k := 5) (v := .int (jI (I 5 5))) d_EX_lengthAfter_1 EX_f42 (by decide) cc_2 rfl ?_
  have rb1 : 0 ≤ I 5 5 ∧ I 5 5 ≤ 300 := hz0.1 5 5
  refine jt_aload_n d_EX_lengthAfter_4 rfl ?_
  refine cm_get (k := 39) (v := .int (jI (I 39 3))) d_EX_lengthAfter_5 EX_f38 (by decide) (cc_1 rfl) rfl ?_
  have rb2 : 0 ≤ I 39 3 ∧ I 39 3 ≤ 300 := hz0.1 39 3
  refine jt_iadd d_EX_lengthAfter_8 ?_
  refine jt_iload_n d_EX_lengthAfter_9 rfl ?_
  refine jt_isub d_EX_lengthAfter_10 ?_
  refine jt_topi (fun v3 ev3 => ?_)
  refine jt_istore (L' := [(0, .ref (b + 5)), (1, .ref (b + 39)), (2, .ref (b + 14)), (3, .int (jI q)), (4, .int (jI v3))]) d_EX_lengthAfter_11 (Nat.le_of_ble_eq_true rfl) rfl ?_
  refine jt_iconst d_EX_lengthAfter_13 ?_
  refine jt_istore (L' := [(0, .ref (b + 5)), (1, .ref (b + 39)), (2, .ref (b + 14)), (3, .int (jI q)), (4, .int (jI v3)), (5, .int (jI 0))]) d_EX_lengthAfter_14 (Nat.le_of_ble_eq_true rfl) rfl ?_
  exact l16_EX_lengthAfter_14_xv G d b q I A hI hA hK X9 hX Y9 hY D9 hD N9 hN hq hb f0 sz  41 v3 0 I A hz0 (by omega) (by omega) (show _ = I 5 5 + N9 - q + (((xbd (A 15) (A 16) (A 12) (A 13) X9 Y9 D9 (D9 (I 5 5) + 1) 0).length : Nat) : Int) by show _ = I 5 5 + N9 - q + (0 : Int); omega) rfl rfl hX hY hD hN (by omega)
set_option maxRecDepth 100000 in
set_option maxHeartbeats 4000000 in
theorem l16_EX_lengthAfter_18_xv (G : jG) (d b : Nat) (q : Int) (I : Nat → Nat → Int) (A : Nat → Int → Int) (hI : cSI I) (hA : cSA A) (hK : cTok A) (X9 : Int → Int) (hX : A 40 = X9) (Y9 : Int → Int) (hY : A 41 = Y9) (D9 : Int → Int) (hD : A 42 = D9) (N9 : Int) (hN : I 39 3 = N9) (hq : 0 ≤ q ∧ q ≤ 301) (hb : ∀ j, 0 ≤ j → j < I 18 3 → A 19 j = 2 → 0 ≤ A 12 (A 20 j) ∧ A 12 (A 20 j) ≤ A 13 (A 20 j) ∧ A 13 (A 20 j) ≤ N9) (f0 : jF) (sz : Nat)   : ∀ (n9 : Nat) (l : Int) (i : Int) (J : Nat → Nat → Int) (B : Nat → Int → Int), cPx [] [] I A J B → (0 ≤ i ∧ i ≤ I 18 3) → (-700 - 300 * i ≤ l ∧ l ≤ 700 + 300 * i) → (l = I 5 5 + N9 - q + ((xbd (A 19) (A 20) (A 12) (A 13) X9 Y9 D9 (D9 (I 5 5) + 1) i.toNat).length : Int)) → (J = I) → (B = A) → (B 40 = X9) → (B 41 = Y9) → (B 42 = D9) → (J 39 3 = N9) → 40 - i < (n9 : Int) → jt (jm G Y_EX_lengthAfter (gR d) (cQ b f0 sz (fun (rv : Option Value) (I2 : Nat → Nat → Int) (A2 : Nat → Int → Int) => ∃ y : Int, rv = some (.int (jI y)) ∧ (-2147483648 ≤ y ∧ y ≤ 2147483647) ∧ I2 = I ∧ A2 = A ∧ y = I 5 5 + N9 - q + ((xbd (A 19) (A 20) (A 12) (A 13) X9 Y9 D9 (D9 (I 5 5) + 1) (I 18 3).toNat).length : Int)))) 16 [(0, .ref (b + 5)), (1, .ref (b + 39)), (2, .ref (b + 18)), (3, .int (jI q)), (4, .int (jI l)), (5, .int (jI i))] [] (cmf b f0 J B) sz 0 0 := by
  have r55 : 0 ≤ I 5 5 ∧ I 5 5 ≤ 300 := hI 5 5
  have r39 : 0 ≤ I 39 3 ∧ I 39 3 ≤ 300 := hI 39 3
  have rx3 : 0 ≤ I 18 3 ∧ I 18 3 ≤ 40 := hI 18 3
  intro n9
  induction n9 with
  | zero =>
    intro l i J B hJ i0 l0 hl eJ eB cX cY cD cN hmeas
    have tk : gtok (B 19 i) (B 20 i) := (cTok_of (cPx.po hJ) hK rfl) 18 rfl i
    unfold gtok at tk
    rw [eB] at tk
    have fJ := congrFun (congrFun eJ 18) 3
    exfalso
    omega
  | succ n9 ih =>
    intro l i J B hJ i0 l0 hl eJ eB cX cY cD cN hmeas
    have tk : gtok (B 19 i) (B 20 i) := (cTok_of (cPx.po hJ) hK rfl) 18 rfl i
    unfold gtok at tk
    rw [eB] at tk
    have fJ := congrFun (congrFun eJ 18) 3
    refine jt_iload d_EX_lengthAfter_16 rfl ?_
    refine jt_aload_n d_EX_lengthAfter_18 rfl ?_
    refine cm_get (k := 18) (v := .int (jI (J 18 3))) d_EX_lengthAfter_19 EX_f38 (by decide) (cc_1 rfl) rfl ?_
    have rb101 : 0 ≤ J 18 3 ∧ J 18 3 ≤ 40 := hJ.1 18 3
    refine jt_icmp_ge (t := 75) d_EX_lengthAfter_22 rfl (by unfold jRi; omega) (by unfold jRi; omega) (fun c102 => ?_) (fun c102 => ?_)
    · skip
      refine jt_iload d_EX_lengthAfter_75 rfl ?_
      exact cm_ret d_EX_lengthAfter_77 rfl rfl (⟨l, rfl, by omega, eJ, eB, by rw [hl, show i = I 18 3 by omega]⟩)
    · skip
      refine jt_aload_n d_EX_lengthAfter_25 rfl ?_
      refine cm_get (k := 18) (v := .ref (b + 20)) d_EX_lengthAfter_26 EX_f55 (by decide) (cc_1 rfl) rfl ?_
      refine jt_iload d_EX_lengthAfter_29 rfl ?_
      refine cm_ld0 (k := 20) (n := 40) (v := (B 20) i) d_EX_lengthAfter_31 (by decide) rfl rfl (by omega) (by omega) (by omega) rfl ?_
      refine jt_topi (fun v103 ev103 => ?_)
      have bv103 : -2147483648 ≤ v103 ∧ v103 ≤ 2147483647 := by rw [ev103]; exact hJ.2.1 20 i
      rw [eB] at ev103
      refine jt_istore (L' := [(0, .ref (b + 5)), (1, .ref (b + 39)), (2, .ref (b + 18)), (3, .int (jI q)), (4, .int (jI l)), (5, .int (jI i)), (6, .int (jI v103))]) d_EX_lengthAfter_32 (Nat.le_of_ble_eq_true rfl) rfl ?_
      refine jt_iload d_EX_lengthAfter_34 rfl ?_
      refine jt_aload_n d_EX_lengthAfter_36 rfl ?_
      refine cm_get (k := 18) (v := .ref (b + 19)) d_EX_lengthAfter_37 EX_f48 (by decide) (cc_1 rfl) rfl ?_
      refine jt_iload d_EX_lengthAfter_40 rfl ?_
      refine cm_ld0 (k := 19) (n := 40) (v := (B 19) i) d_EX_lengthAfter_42 (by decide) rfl rfl (by omega) (by omega) (by omega) rfl ?_
      refine jt_topi (fun v104 ev104 => ?_)
      have bv104 : -2147483648 ≤ v104 ∧ v104 ≤ 2147483647 := by rw [ev104]; exact hJ.2.1 19 i
      rw [eB] at ev104
      refine jt_iconst d_EX_lengthAfter_43 ?_
      refine jt_icmp_ne (t := 65) d_EX_lengthAfter_44 rfl (by unfold jRi; omega) (by unfold jRi; omega) (fun c105 => ?_) (fun c105 => ?_)
      · skip
        have hk2 : ¬ A 19 i = 2 := by omega
        have es2 := xbd_s (A 19) (A 20) (A 12) (A 13) X9 Y9 D9 (D9 (I 5 5) + 1) i (by omega)
        unfold xb1 at es2
        rw [if_neg hk2] at es2
        have es := congrArg List.length es2
        rw [List.length_append] at es
        have es1 : (xbd (A 19) (A 20) (A 12) (A 13) X9 Y9 D9 (D9 (I 5 5) + 1) (i + 1).toNat).length = (xbd (A 19) (A 20) (A 12) (A 13) X9 Y9 D9 (D9 (I 5 5) + 1) i.toNat).length + 1 := es
        refine jt_iconst d_EX_lengthAfter_65 ?_
        refine jt_iadd d_EX_lengthAfter_66 ?_
        refine jt_topi (fun v106 ev106 => ?_)
        refine jt_istore (L' := [(0, .ref (b + 5)), (1, .ref (b + 39)), (2, .ref (b + 18)), (3, .int (jI q)), (4, .int (jI v106)), (5, .int (jI i)), (6, .int (jI v103))]) d_EX_lengthAfter_67 (Nat.le_of_ble_eq_true rfl) rfl ?_
        refine jt_iinc (L' := [(0, .ref (b + 5)), (1, .ref (b + 39)), (2, .ref (b + 18)), (3, .int (jI q)), (4, .int (jI v106)), (5, .int (jI (i + 1))), (6, .int (jI v103))]) d_EX_lengthAfter_69 rfl (Nat.le_of_ble_eq_true rfl) rfl ?_
        refine jt_goto (t := 16) d_EX_lengthAfter_72 rfl ?_
        refine jt_sub (L' := [(0, .ref (b + 5)), (1, .ref (b + 39)), (2, .ref (b + 18)), (3, .int (jI q)), (4, .int (jI v106)), (5, .int (jI (i + 1)))]) (fun _ h => List.mem_append_left [(6, Value.int (jI v103))] h) ?_
        exact ih v106 (i + 1) J B hJ (by omega) (by omega) (by omega) eJ eB cX cY cD cN (by omega)
      · skip
        have hk2 : A 19 i = 2 := by omega
        have es2 := xbd_s (A 19) (A 20) (A 12) (A 13) X9 Y9 D9 (D9 (I 5 5) + 1) i (by omega)
        unfold xb1 at es2
        rw [if_pos hk2] at es2
        have es := congrArg List.length es2
        rw [List.length_append] at es
        rw [xs_len] at es
        have q9 := hb i (by omega) (by omega) hk2
        rw [← ev103] at q9 es es2
        refine jt_aload_n d_EX_lengthAfter_47 rfl ?_
        refine cm_get (k := 5) (v := .ref (b + 13)) d_EX_lengthAfter_48 EX_f31 (by decide) cc_2 rfl ?_
        refine jt_iload d_EX_lengthAfter_51 rfl ?_
        refine cm_ld0 (k := 13) (n := 3) (v := (B 13) v103) d_EX_lengthAfter_53 (by decide) rfl rfl (by omega) (by omega) (by omega) rfl ?_
        refine jt_topi (fun v107 ev107 => ?_)
        have bv107 : 0 ≤ v107 ∧ v107 ≤ 300 := by rw [ev107]; exact hJ.2.1 13 v103
        rw [eB] at ev107
        refine jt_aload_n d_EX_lengthAfter_54 rfl ?_
        refine cm_get (k := 5) (v := .ref (b + 12)) d_EX_lengthAfter_55 EX_f28 (by decide) cc_2 rfl ?_
        refine jt_iload d_EX_lengthAfter_58 rfl ?_
        refine cm_ld0 (k := 12) (n := 3) (v := (B 12) v103) d_EX_lengthAfter_60 (by decide) rfl rfl (by omega) (by omega) (by omega) rfl ?_
        refine jt_topi (fun v108 ev108 => ?_)
        have bv108 : 0 ≤ v108 ∧ v108 ≤ 300 := by rw [ev108]; exact hJ.2.1 12 v103
        rw [eB] at ev108
        refine jt_isub d_EX_lengthAfter_61 ?_
        refine jt_goto (t := 66) d_EX_lengthAfter_62 rfl ?_
        refine jt_iadd d_EX_lengthAfter_66 ?_
        refine jt_topi (fun v109 ev109 => ?_)
        refine jt_istore (L' := [(0, .ref (b + 5)), (1, .ref (b + 39)), (2, .ref (b + 18)), (3, .int (jI q)), (4, .int (jI v109)), (5, .int (jI i)), (6, .int (jI v103))]) d_EX_lengthAfter_67 (Nat.le_of_ble_eq_true rfl) rfl ?_
        refine jt_iinc (L' := [(0, .ref (b + 5)), (1, .ref (b + 39)), (2, .ref (b + 18)), (3, .int (jI q)), (4, .int (jI v109)), (5, .int (jI (i + 1))), (6, .int (jI v103))]) d_EX_lengthAfter_69 rfl (Nat.le_of_ble_eq_true rfl) rfl ?_
        refine jt_goto (t := 16) d_EX_lengthAfter_72 rfl ?_
        refine jt_sub (L' := [(0, .ref (b + 5)), (1, .ref (b + 39)), (2, .ref (b + 18)), (3, .int (jI q)), (4, .int (jI v109)), (5, .int (jI (i + 1)))]) (fun _ h => List.mem_append_left [(6, Value.int (jI v103))] h) ?_
        exact ih v109 (i + 1) J B hJ (by omega) (by omega) (by omega) eJ eB cX cY cD cN (by omega)
set_option maxRecDepth 100000 in
set_option maxHeartbeats 4000000 in
theorem v_EX_lengthAfter_18_x (G : jG) (d b : Nat) (q : Int) (I : Nat → Nat → Int) (A : Nat → Int → Int) (hI : cSI I) (hA : cSA A) (hK : cTok A) (X9 : Int → Int) (hX : A 40 = X9) (Y9 : Int → Int) (hY : A 41 = Y9) (D9 : Int → Int) (hD : A 42 = D9) (N9 : Int) (hN : I 39 3 = N9) (hq : 0 ≤ q ∧ q ≤ 301) (hb : ∀ j, 0 ≤ j → j < I 18 3 → A 19 j = 2 → 0 ≤ A 12 (A 20 j) ∧ A 12 (A 20 j) ≤ A 13 (A 20 j) ∧ A 13 (A 20 j) ≤ N9) : cct G Y_EX_lengthAfter d b [.ref (b + 5), .ref (b + 39), .ref (b + 18), .int (jI q)] I A (fun (rv : Option Value) (I2 : Nat → Nat → Int) (A2 : Nat → Int → Int) => ∃ y : Int, rv = some (.int (jI y)) ∧ (-2147483648 ≤ y ∧ y ≤ 2147483647) ∧ I2 = I ∧ A2 = A ∧ y = I 5 5 + N9 - q + ((xbd (A 19) (A 20) (A 12) (A 13) X9 Y9 D9 (D9 (I 5 5) + 1) (I 18 3).toNat).length : Int)) := by
  refine cct_of (by decide) (Nat.le_of_ble_eq_true rfl) (fun f0 sz => ?_)
  show jt _ 0 [(0, .ref (b + 5)), (1, .ref (b + 39)), (2, .ref (b + 18)), (3, .int (jI q))] [] _ _ _ _
  have r55 : 0 ≤ I 5 5 ∧ I 5 5 ≤ 300 := hI 5 5
  have r39 : 0 ≤ I 39 3 ∧ I 39 3 ≤ 300 := hI 39 3
  have rx3 : 0 ≤ I 18 3 ∧ I 18 3 ≤ 40 := hI 18 3
  have hz0 : cPx [] [] I A I A := cPx.refl hI hA
  refine jt_aload_n d_EX_lengthAfter_0 rfl ?_
  refine cm_get (k := 5) (v := .int (jI (I 5 5))) d_EX_lengthAfter_1 EX_f42 (by decide) cc_2 rfl ?_
  have rb1 : 0 ≤ I 5 5 ∧ I 5 5 ≤ 300 := hz0.1 5 5
  refine jt_aload_n d_EX_lengthAfter_4 rfl ?_
  refine cm_get (k := 39) (v := .int (jI (I 39 3))) d_EX_lengthAfter_5 EX_f38 (by decide) (cc_1 rfl) rfl ?_
  have rb2 : 0 ≤ I 39 3 ∧ I 39 3 ≤ 300 := hz0.1 39 3
  refine jt_iadd d_EX_lengthAfter_8 ?_
  refine jt_iload_n d_EX_lengthAfter_9 rfl ?_
  refine jt_isub d_EX_lengthAfter_10 ?_
  refine jt_topi (fun v3 ev3 => ?_)
  refine jt_istore (L' := [(0, .ref (b + 5)), (1, .ref (b + 39)), (2, .ref (b + 18)), (3, .int (jI q)), (4, .int (jI v3))]) d_EX_lengthAfter_11 (Nat.le_of_ble_eq_true rfl) rfl ?_
  refine jt_iconst d_EX_lengthAfter_13 ?_
  refine jt_istore (L' := [(0, .ref (b + 5)), (1, .ref (b + 39)), (2, .ref (b + 18)), (3, .int (jI q)), (4, .int (jI v3)), (5, .int (jI 0))]) d_EX_lengthAfter_14 (Nat.le_of_ble_eq_true rfl) rfl ?_
  exact l16_EX_lengthAfter_18_xv G d b q I A hI hA hK X9 hX Y9 hY D9 hD N9 hN hq hb f0 sz  41 v3 0 I A hz0 (by omega) (by omega) (show _ = I 5 5 + N9 - q + (((xbd (A 19) (A 20) (A 12) (A 13) X9 Y9 D9 (D9 (I 5 5) + 1) 0).length : Nat) : Int) by show _ = I 5 5 + N9 - q + (0 : Int); omega) rfl rfl hX hY hD hN (by omega)
set_option maxRecDepth 100000 in
set_option maxHeartbeats 4000000 in
theorem l16_EX_lengthAfter_22_xv (G : jG) (d b : Nat) (q : Int) (I : Nat → Nat → Int) (A : Nat → Int → Int) (hI : cSI I) (hA : cSA A) (hK : cTok A) (X9 : Int → Int) (hX : A 40 = X9) (Y9 : Int → Int) (hY : A 41 = Y9) (D9 : Int → Int) (hD : A 42 = D9) (N9 : Int) (hN : I 39 3 = N9) (hq : 0 ≤ q ∧ q ≤ 301) (hb : ∀ j, 0 ≤ j → j < I 22 3 → A 23 j = 2 → 0 ≤ A 12 (A 24 j) ∧ A 12 (A 24 j) ≤ A 13 (A 24 j) ∧ A 13 (A 24 j) ≤ N9) (f0 : jF) (sz : Nat)   : ∀ (n9 : Nat) (l : Int) (i : Int) (J : Nat → Nat → Int) (B : Nat → Int → Int), cPx [] [] I A J B → (0 ≤ i ∧ i ≤ I 22 3) → (-700 - 300 * i ≤ l ∧ l ≤ 700 + 300 * i) → (l = I 5 5 + N9 - q + ((xbd (A 23) (A 24) (A 12) (A 13) X9 Y9 D9 (D9 (I 5 5) + 1) i.toNat).length : Int)) → (J = I) → (B = A) → (B 40 = X9) → (B 41 = Y9) → (B 42 = D9) → (J 39 3 = N9) → 40 - i < (n9 : Int) → jt (jm G Y_EX_lengthAfter (gR d) (cQ b f0 sz (fun (rv : Option Value) (I2 : Nat → Nat → Int) (A2 : Nat → Int → Int) => ∃ y : Int, rv = some (.int (jI y)) ∧ (-2147483648 ≤ y ∧ y ≤ 2147483647) ∧ I2 = I ∧ A2 = A ∧ y = I 5 5 + N9 - q + ((xbd (A 23) (A 24) (A 12) (A 13) X9 Y9 D9 (D9 (I 5 5) + 1) (I 22 3).toNat).length : Int)))) 16 [(0, .ref (b + 5)), (1, .ref (b + 39)), (2, .ref (b + 22)), (3, .int (jI q)), (4, .int (jI l)), (5, .int (jI i))] [] (cmf b f0 J B) sz 0 0 := by
  have r55 : 0 ≤ I 5 5 ∧ I 5 5 ≤ 300 := hI 5 5
  have r39 : 0 ≤ I 39 3 ∧ I 39 3 ≤ 300 := hI 39 3
  have rx3 : 0 ≤ I 22 3 ∧ I 22 3 ≤ 40 := hI 22 3
  intro n9
  induction n9 with
  | zero =>
    intro l i J B hJ i0 l0 hl eJ eB cX cY cD cN hmeas
    have tk : gtok (B 23 i) (B 24 i) := (cTok_of (cPx.po hJ) hK rfl) 22 rfl i
    unfold gtok at tk
    rw [eB] at tk
    have fJ := congrFun (congrFun eJ 22) 3
    exfalso
    omega
  | succ n9 ih =>
    intro l i J B hJ i0 l0 hl eJ eB cX cY cD cN hmeas
    have tk : gtok (B 23 i) (B 24 i) := (cTok_of (cPx.po hJ) hK rfl) 22 rfl i
    unfold gtok at tk
    rw [eB] at tk
    have fJ := congrFun (congrFun eJ 22) 3
    refine jt_iload d_EX_lengthAfter_16 rfl ?_
    refine jt_aload_n d_EX_lengthAfter_18 rfl ?_
    refine cm_get (k := 22) (v := .int (jI (J 22 3))) d_EX_lengthAfter_19 EX_f38 (by decide) (cc_1 rfl) rfl ?_
    have rb101 : 0 ≤ J 22 3 ∧ J 22 3 ≤ 40 := hJ.1 22 3
    refine jt_icmp_ge (t := 75) d_EX_lengthAfter_22 rfl (by unfold jRi; omega) (by unfold jRi; omega) (fun c102 => ?_) (fun c102 => ?_)
    · skip
      refine jt_iload d_EX_lengthAfter_75 rfl ?_
      exact cm_ret d_EX_lengthAfter_77 rfl rfl (⟨l, rfl, by omega, eJ, eB, by rw [hl, show i = I 22 3 by omega]⟩)
    · skip
      refine jt_aload_n d_EX_lengthAfter_25 rfl ?_
      refine cm_get (k := 22) (v := .ref (b + 24)) d_EX_lengthAfter_26 EX_f55 (by decide) (cc_1 rfl) rfl ?_
      refine jt_iload d_EX_lengthAfter_29 rfl ?_
      refine cm_ld0 (k := 24) (n := 40) (v := (B 24) i) d_EX_lengthAfter_31 (by decide) rfl rfl (by omega) (by omega) (by omega) rfl ?_
      refine jt_topi (fun v103 ev103 => ?_)
      have bv103 : -2147483648 ≤ v103 ∧ v103 ≤ 2147483647 := by rw [ev103]; exact hJ.2.1 24 i
      rw [eB] at ev103
      refine jt_istore (L' := [(0, .ref (b + 5)), (1, .ref (b + 39)), (2, .ref (b + 22)), (3, .int (jI q)), (4, .int (jI l)), (5, .int (jI i)), (6, .int (jI v103))]) d_EX_lengthAfter_32 (Nat.le_of_ble_eq_true rfl) rfl ?_
      refine jt_iload d_EX_lengthAfter_34 rfl ?_
      refine jt_aload_n d_EX_lengthAfter_36 rfl ?_
      refine cm_get (k := 22) (v := .ref (b + 23)) d_EX_lengthAfter_37 EX_f48 (by decide) (cc_1 rfl) rfl ?_
      refine jt_iload d_EX_lengthAfter_40 rfl ?_
      refine cm_ld0 (k := 23) (n := 40) (v := (B 23) i) d_EX_lengthAfter_42 (by decide) rfl rfl (by omega) (by omega) (by omega) rfl ?_
      refine jt_topi (fun v104 ev104 => ?_)
      have bv104 : -2147483648 ≤ v104 ∧ v104 ≤ 2147483647 := by rw [ev104]; exact hJ.2.1 23 i
      rw [eB] at ev104
      refine jt_iconst d_EX_lengthAfter_43 ?_
      refine jt_icmp_ne (t := 65) d_EX_lengthAfter_44 rfl (by unfold jRi; omega) (by unfold jRi; omega) (fun c105 => ?_) (fun c105 => ?_)
      · skip
        have hk2 : ¬ A 23 i = 2 := by omega
        have es2 := xbd_s (A 23) (A 24) (A 12) (A 13) X9 Y9 D9 (D9 (I 5 5) + 1) i (by omega)
        unfold xb1 at es2
        rw [if_neg hk2] at es2
        have es := congrArg List.length es2
        rw [List.length_append] at es
        have es1 : (xbd (A 23) (A 24) (A 12) (A 13) X9 Y9 D9 (D9 (I 5 5) + 1) (i + 1).toNat).length = (xbd (A 23) (A 24) (A 12) (A 13) X9 Y9 D9 (D9 (I 5 5) + 1) i.toNat).length + 1 := es
        refine jt_iconst d_EX_lengthAfter_65 ?_
        refine jt_iadd d_EX_lengthAfter_66 ?_
        refine jt_topi (fun v106 ev106 => ?_)
        refine jt_istore (L' := [(0, .ref (b + 5)), (1, .ref (b + 39)), (2, .ref (b + 22)), (3, .int (jI q)), (4, .int (jI v106)), (5, .int (jI i)), (6, .int (jI v103))]) d_EX_lengthAfter_67 (Nat.le_of_ble_eq_true rfl) rfl ?_
        refine jt_iinc (L' := [(0, .ref (b + 5)), (1, .ref (b + 39)), (2, .ref (b + 22)), (3, .int (jI q)), (4, .int (jI v106)), (5, .int (jI (i + 1))), (6, .int (jI v103))]) d_EX_lengthAfter_69 rfl (Nat.le_of_ble_eq_true rfl) rfl ?_
        refine jt_goto (t := 16) d_EX_lengthAfter_72 rfl ?_
        refine jt_sub (L' := [(0, .ref (b + 5)), (1, .ref (b + 39)), (2, .ref (b + 22)), (3, .int (jI q)), (4, .int (jI v106)), (5, .int (jI (i + 1)))]) (fun _ h => List.mem_append_left [(6, Value.int (jI v103))] h) ?_
        exact ih v106 (i + 1) J B hJ (by omega) (by omega) (by omega) eJ eB cX cY cD cN (by omega)
      · skip
        have hk2 : A 23 i = 2 := by omega
        have es2 := xbd_s (A 23) (A 24) (A 12) (A 13) X9 Y9 D9 (D9 (I 5 5) + 1) i (by omega)
        unfold xb1 at es2
        rw [if_pos hk2] at es2
        have es := congrArg List.length es2
        rw [List.length_append] at es
        rw [xs_len] at es
        have q9 := hb i (by omega) (by omega) hk2
        rw [← ev103] at q9 es es2
        refine jt_aload_n d_EX_lengthAfter_47 rfl ?_
        refine cm_get (k := 5) (v := .ref (b + 13)) d_EX_lengthAfter_48 EX_f31 (by decide) cc_2 rfl ?_
        refine jt_iload d_EX_lengthAfter_51 rfl ?_
        refine cm_ld0 (k := 13) (n := 3) (v := (B 13) v103) d_EX_lengthAfter_53 (by decide) rfl rfl (by omega) (by omega) (by omega) rfl ?_
        refine jt_topi (fun v107 ev107 => ?_)
        have bv107 : 0 ≤ v107 ∧ v107 ≤ 300 := by rw [ev107]; exact hJ.2.1 13 v103
        rw [eB] at ev107
        refine jt_aload_n d_EX_lengthAfter_54 rfl ?_
        refine cm_get (k := 5) (v := .ref (b + 12)) d_EX_lengthAfter_55 EX_f28 (by decide) cc_2 rfl ?_
        refine jt_iload d_EX_lengthAfter_58 rfl ?_
        refine cm_ld0 (k := 12) (n := 3) (v := (B 12) v103) d_EX_lengthAfter_60 (by decide) rfl rfl (by omega) (by omega) (by omega) rfl ?_
        refine jt_topi (fun v108 ev108 => ?_)
        have bv108 : 0 ≤ v108 ∧ v108 ≤ 300 := by rw [ev108]; exact hJ.2.1 12 v103
        rw [eB] at ev108
        refine jt_isub d_EX_lengthAfter_61 ?_
        refine jt_goto (t := 66) d_EX_lengthAfter_62 rfl ?_
        refine jt_iadd d_EX_lengthAfter_66 ?_
        refine jt_topi (fun v109 ev109 => ?_)
        refine jt_istore (L' := [(0, .ref (b + 5)), (1, .ref (b + 39)), (2, .ref (b + 22)), (3, .int (jI q)), (4, .int (jI v109)), (5, .int (jI i)), (6, .int (jI v103))]) d_EX_lengthAfter_67 (Nat.le_of_ble_eq_true rfl) rfl ?_
        refine jt_iinc (L' := [(0, .ref (b + 5)), (1, .ref (b + 39)), (2, .ref (b + 22)), (3, .int (jI q)), (4, .int (jI v109)), (5, .int (jI (i + 1))), (6, .int (jI v103))]) d_EX_lengthAfter_69 rfl (Nat.le_of_ble_eq_true rfl) rfl ?_
        refine jt_goto (t := 16) d_EX_lengthAfter_72 rfl ?_
        refine jt_sub (L' := [(0, .ref (b + 5)), (1, .ref (b + 39)), (2, .ref (b + 22)), (3, .int (jI q)), (4, .int (jI v109)), (5, .int (jI (i + 1)))]) (fun _ h => List.mem_append_left [(6, Value.int (jI v103))] h) ?_
        exact ih v109 (i + 1) J B hJ (by omega) (by omega) (by omega) eJ eB cX cY cD cN (by omega)
set_option maxRecDepth 100000 in
set_option maxHeartbeats 4000000 in
theorem v_EX_lengthAfter_22_x (G : jG) (d b : Nat) (q : Int) (I : Nat → Nat → Int) (A : Nat → Int → Int) (hI : cSI I) (hA : cSA A) (hK : cTok A) (X9 : Int → Int) (hX : A 40 = X9) (Y9 : Int → Int) (hY : A 41 = Y9) (D9 : Int → Int) (hD : A 42 = D9) (N9 : Int) (hN : I 39 3 = N9) (hq : 0 ≤ q ∧ q ≤ 301) (hb : ∀ j, 0 ≤ j → j < I 22 3 → A 23 j = 2 → 0 ≤ A 12 (A 24 j) ∧ A 12 (A 24 j) ≤ A 13 (A 24 j) ∧ A 13 (A 24 j) ≤ N9) : cct G Y_EX_lengthAfter d b [.ref (b + 5), .ref (b + 39), .ref (b + 22), .int (jI q)] I A (fun (rv : Option Value) (I2 : Nat → Nat → Int) (A2 : Nat → Int → Int) => ∃ y : Int, rv = some (.int (jI y)) ∧ (-2147483648 ≤ y ∧ y ≤ 2147483647) ∧ I2 = I ∧ A2 = A ∧ y = I 5 5 + N9 - q + ((xbd (A 23) (A 24) (A 12) (A 13) X9 Y9 D9 (D9 (I 5 5) + 1) (I 22 3).toNat).length : Int)) := by
  refine cct_of (by decide) (Nat.le_of_ble_eq_true rfl) (fun f0 sz => ?_)
  show jt _ 0 [(0, .ref (b + 5)), (1, .ref (b + 39)), (2, .ref (b + 22)), (3, .int (jI q))] [] _ _ _ _
  have r55 : 0 ≤ I 5 5 ∧ I 5 5 ≤ 300 := hI 5 5
  have r39 : 0 ≤ I 39 3 ∧ I 39 3 ≤ 300 := hI 39 3
  have rx3 : 0 ≤ I 22 3 ∧ I 22 3 ≤ 40 := hI 22 3
  have hz0 : cPx [] [] I A I A := cPx.refl hI hA
  refine jt_aload_n d_EX_lengthAfter_0 rfl ?_
  refine cm_get (k := 5) (v := .int (jI (I 5 5))) d_EX_lengthAfter_1 EX_f42 (by decide) cc_2 rfl ?_
  have rb1 : 0 ≤ I 5 5 ∧ I 5 5 ≤ 300 := hz0.1 5 5
  refine jt_aload_n d_EX_lengthAfter_4 rfl ?_
  refine cm_get (k := 39) (v := .int (jI (I 39 3))) d_EX_lengthAfter_5 EX_f38 (by decide) (cc_1 rfl) rfl ?_
  have rb2 : 0 ≤ I 39 3 ∧ I 39 3 ≤ 300 := hz0.1 39 3
  refine jt_iadd d_EX_lengthAfter_8 ?_
  refine jt_iload_n d_EX_lengthAfter_9 rfl ?_
  refine jt_isub d_EX_lengthAfter_10 ?_
  refine jt_topi (fun v3 ev3 => ?_)
  refine jt_istore (L' := [(0, .ref (b + 5)), (1, .ref (b + 39)), (2, .ref (b + 22)), (3, .int (jI q)), (4, .int (jI v3))]) d_EX_lengthAfter_11 (Nat.le_of_ble_eq_true rfl) rfl ?_
  refine jt_iconst d_EX_lengthAfter_13 ?_
  refine jt_istore (L' := [(0, .ref (b + 5)), (1, .ref (b + 39)), (2, .ref (b + 22)), (3, .int (jI q)), (4, .int (jI v3)), (5, .int (jI 0))]) d_EX_lengthAfter_14 (Nat.le_of_ble_eq_true rfl) rfl ?_
  exact l16_EX_lengthAfter_22_xv G d b q I A hI hA hK X9 hX Y9 hY D9 hD N9 hN hq hb f0 sz  41 v3 0 I A hz0 (by omega) (by omega) (show _ = I 5 5 + N9 - q + (((xbd (A 23) (A 24) (A 12) (A 13) X9 Y9 D9 (D9 (I 5 5) + 1) 0).length : Nat) : Int) by show _ = I 5 5 + N9 - q + (0 : Int); omega) rfl rfl hX hY hD hN (by omega)
set_option maxRecDepth 100000 in
set_option maxHeartbeats 4000000 in
theorem l16_EX_lengthAfter_26_xv (G : jG) (d b : Nat) (q : Int) (I : Nat → Nat → Int) (A : Nat → Int → Int) (hI : cSI I) (hA : cSA A) (hK : cTok A) (X9 : Int → Int) (hX : A 40 = X9) (Y9 : Int → Int) (hY : A 41 = Y9) (D9 : Int → Int) (hD : A 42 = D9) (N9 : Int) (hN : I 39 3 = N9) (hq : 0 ≤ q ∧ q ≤ 301) (hb : ∀ j, 0 ≤ j → j < I 26 3 → A 27 j = 2 → 0 ≤ A 12 (A 28 j) ∧ A 12 (A 28 j) ≤ A 13 (A 28 j) ∧ A 13 (A 28 j) ≤ N9) (f0 : jF) (sz : Nat)   : ∀ (n9 : Nat) (l : Int) (i : Int) (J : Nat → Nat → Int) (B : Nat → Int → Int), cPx [] [] I A J B → (0 ≤ i ∧ i ≤ I 26 3) → (-700 - 300 * i ≤ l ∧ l ≤ 700 + 300 * i) → (l = I 5 5 + N9 - q + ((xbd (A 27) (A 28) (A 12) (A 13) X9 Y9 D9 (D9 (I 5 5) + 1) i.toNat).length : Int)) → (J = I) → (B = A) → (B 40 = X9) → (B 41 = Y9) → (B 42 = D9) → (J 39 3 = N9) → 40 - i < (n9 : Int) → jt (jm G Y_EX_lengthAfter (gR d) (cQ b f0 sz (fun (rv : Option Value) (I2 : Nat → Nat → Int) (A2 : Nat → Int → Int) => ∃ y : Int, rv = some (.int (jI y)) ∧ (-2147483648 ≤ y ∧ y ≤ 2147483647) ∧ I2 = I ∧ A2 = A ∧ y = I 5 5 + N9 - q + ((xbd (A 27) (A 28) (A 12) (A 13) X9 Y9 D9 (D9 (I 5 5) + 1) (I 26 3).toNat).length : Int)))) 16 [(0, .ref (b + 5)), (1, .ref (b + 39)), (2, .ref (b + 26)), (3, .int (jI q)), (4, .int (jI l)), (5, .int (jI i))] [] (cmf b f0 J B) sz 0 0 := by
  have r55 : 0 ≤ I 5 5 ∧ I 5 5 ≤ 300 := hI 5 5
  have r39 : 0 ≤ I 39 3 ∧ I 39 3 ≤ 300 := hI 39 3
  have rx3 : 0 ≤ I 26 3 ∧ I 26 3 ≤ 40 := hI 26 3
  intro n9
  induction n9 with
  | zero =>
    intro l i J B hJ i0 l0 hl eJ eB cX cY cD cN hmeas
    have tk : gtok (B 27 i) (B 28 i) := (cTok_of (cPx.po hJ) hK rfl) 26 rfl i
    unfold gtok at tk
    rw [eB] at tk
    have fJ := congrFun (congrFun eJ 26) 3
    exfalso
    omega
  | succ n9 ih =>
    intro l i J B hJ i0 l0 hl eJ eB cX cY cD cN hmeas
    have tk : gtok (B 27 i) (B 28 i) := (cTok_of (cPx.po hJ) hK rfl) 26 rfl i
    unfold gtok at tk
    rw [eB] at tk
    have fJ := congrFun (congrFun eJ 26) 3
    refine jt_iload d_EX_lengthAfter_16 rfl ?_
    refine jt_aload_n d_EX_lengthAfter_18 rfl ?_
    refine cm_get (k := 26) (v := .int (jI (J 26 3))) d_EX_lengthAfter_19 EX_f38 (by decide) (cc_1 rfl) rfl ?_
    have rb101 : 0 ≤ J 26 3 ∧ J 26 3 ≤ 40 := hJ.1 26 3
    refine jt_icmp_ge (t := 75) d_EX_lengthAfter_22 rfl (by unfold jRi; omega) (by unfold jRi; omega) (fun c102 => ?_) (fun c102 => ?_)
    · skip
      refine jt_iload d_EX_lengthAfter_75 rfl ?_
      exact cm_ret d_EX_lengthAfter_77 rfl rfl (⟨l, rfl, by omega, eJ, eB, by rw [hl, show i = I 26 3 by omega]⟩)
    · skip
      refine jt_aload_n d_EX_lengthAfter_25 rfl ?_
      refine cm_get (k := 26) (v := .ref (b + 28)) d_EX_lengthAfter_26 EX_f55 (by decide) (cc_1 rfl) rfl ?_
      refine jt_iload d_EX_lengthAfter_29 rfl ?_
      refine cm_ld0 (k := 28) (n := 40) (v := (B 28) i) d_EX_lengthAfter_31 (by decide) rfl rfl (by omega) (by omega) (by omega) rfl ?_
      refine jt_topi (fun v103 ev103 => ?_)
      have bv103 : -2147483648 ≤ v103 ∧ v103 ≤ 2147483647 := by rw [ev103]; exact hJ.2.1 28 i
      rw [eB] at ev103
      refine jt_istore (L' := [(0, .ref (b + 5)), (1, .ref (b + 39)), (2, .ref (b + 26)), (3, .int (jI q)), (4, .int (jI l)), (5, .int (jI i)), (6, .int (jI v103))]) d_EX_lengthAfter_32 (Nat.le_of_ble_eq_true rfl) rfl ?_
      refine jt_iload d_EX_lengthAfter_34 rfl ?_
      refine jt_aload_n d_EX_lengthAfter_36 rfl ?_
      refine cm_get (k := 26) (v := .ref (b + 27)) d_EX_lengthAfter_37 EX_f48 (by decide) (cc_1 rfl) rfl ?_
      refine jt_iload d_EX_lengthAfter_40 rfl ?_
      refine cm_ld0 (k := 27) (n := 40) (v := (B 27) i) d_EX_lengthAfter_42 (by decide) rfl rfl (by omega) (by omega) (by omega) rfl ?_
      refine jt_topi (fun v104 ev104 => ?_)
      have bv104 : -2147483648 ≤ v104 ∧ v104 ≤ 2147483647 := by rw [ev104]; exact hJ.2.1 27 i
      rw [eB] at ev104
      refine jt_iconst d_EX_lengthAfter_43 ?_
      refine jt_icmp_ne (t := 65) d_EX_lengthAfter_44 rfl (by unfold jRi; omega) (by unfold jRi; omega) (fun c105 => ?_) (fun c105 => ?_)
      · skip
        have hk2 : ¬ A 27 i = 2 := by omega
        have es2 := xbd_s (A 27) (A 28) (A 12) (A 13) X9 Y9 D9 (D9 (I 5 5) + 1) i (by omega)
        unfold xb1 at es2
        rw [if_neg hk2] at es2
        have es := congrArg List.length es2
        rw [List.length_append] at es
        have es1 : (xbd (A 27) (A 28) (A 12) (A 13) X9 Y9 D9 (D9 (I 5 5) + 1) (i + 1).toNat).length = (xbd (A 27) (A 28) (A 12) (A 13) X9 Y9 D9 (D9 (I 5 5) + 1) i.toNat).length + 1 := es
        refine jt_iconst d_EX_lengthAfter_65 ?_
        refine jt_iadd d_EX_lengthAfter_66 ?_
        refine jt_topi (fun v106 ev106 => ?_)
        refine jt_istore (L' := [(0, .ref (b + 5)), (1, .ref (b + 39)), (2, .ref (b + 26)), (3, .int (jI q)), (4, .int (jI v106)), (5, .int (jI i)), (6, .int (jI v103))]) d_EX_lengthAfter_67 (Nat.le_of_ble_eq_true rfl) rfl ?_
        refine jt_iinc (L' := [(0, .ref (b + 5)), (1, .ref (b + 39)), (2, .ref (b + 26)), (3, .int (jI q)), (4, .int (jI v106)), (5, .int (jI (i + 1))), (6, .int (jI v103))]) d_EX_lengthAfter_69 rfl (Nat.le_of_ble_eq_true rfl) rfl ?_
        refine jt_goto (t := 16) d_EX_lengthAfter_72 rfl ?_
        refine jt_sub (L' := [(0, .ref (b + 5)), (1, .ref (b + 39)), (2, .ref (b + 26)), (3, .int (jI q)), (4, .int (jI v106)), (5, .int (jI (i + 1)))]) (fun _ h => List.mem_append_left [(6, Value.int (jI v103))] h) ?_
        exact ih v106 (i + 1) J B hJ (by omega) (by omega) (by omega) eJ eB cX cY cD cN (by omega)
      · skip
        have hk2 : A 27 i = 2 := by omega
        have es2 := xbd_s (A 27) (A 28) (A 12) (A 13) X9 Y9 D9 (D9 (I 5 5) + 1) i (by omega)
        unfold xb1 at es2
        rw [if_pos hk2] at es2
        have es := congrArg List.length es2
        rw [List.length_append] at es
        rw [xs_len] at es
        have q9 := hb i (by omega) (by omega) hk2
        rw [← ev103] at q9 es es2
        refine jt_aload_n d_EX_lengthAfter_47 rfl ?_
        refine cm_get (k := 5) (v := .ref (b + 13)) d_EX_lengthAfter_48 EX_f31 (by decide) cc_2 rfl ?_
        refine jt_iload d_EX_lengthAfter_51 rfl ?_
        refine cm_ld0 (k := 13) (n := 3) (v := (B 13) v103) d_EX_lengthAfter_53 (by decide) rfl rfl (by omega) (by omega) (by omega) rfl ?_
        refine jt_topi (fun v107 ev107 => ?_)
        have bv107 : 0 ≤ v107 ∧ v107 ≤ 300 := by rw [ev107]; exact hJ.2.1 13 v103
        rw [eB] at ev107
        refine jt_aload_n d_EX_lengthAfter_54 rfl ?_
        refine cm_get (k := 5) (v := .ref (b + 12)) d_EX_lengthAfter_55 EX_f28 (by decide) cc_2 rfl ?_
        refine jt_iload d_EX_lengthAfter_58 rfl ?_
        refine cm_ld0 (k := 12) (n := 3) (v := (B 12) v103) d_EX_lengthAfter_60 (by decide) rfl rfl (by omega) (by omega) (by omega) rfl ?_
        refine jt_topi (fun v108 ev108 => ?_)
        have bv108 : 0 ≤ v108 ∧ v108 ≤ 300 := by rw [ev108]; exact hJ.2.1 12 v103
        rw [eB] at ev108
        refine jt_isub d_EX_lengthAfter_61 ?_
        refine jt_goto (t := 66) d_EX_lengthAfter_62 rfl ?_
        refine jt_iadd d_EX_lengthAfter_66 ?_
        refine jt_topi (fun v109 ev109 => ?_)
        refine jt_istore (L' := [(0, .ref (b + 5)), (1, .ref (b + 39)), (2, .ref (b + 26)), (3, .int (jI q)), (4, .int (jI v109)), (5, .int (jI i)), (6, .int (jI v103))]) d_EX_lengthAfter_67 (Nat.le_of_ble_eq_true rfl) rfl ?_
        refine jt_iinc (L' := [(0, .ref (b + 5)), (1, .ref (b + 39)), (2, .ref (b + 26)), (3, .int (jI q)), (4, .int (jI v109)), (5, .int (jI (i + 1))), (6, .int (jI v103))]) d_EX_lengthAfter_69 rfl (Nat.le_of_ble_eq_true rfl) rfl ?_
        refine jt_goto (t := 16) d_EX_lengthAfter_72 rfl ?_
        refine jt_sub (L' := [(0, .ref (b + 5)), (1, .ref (b + 39)), (2, .ref (b + 26)), (3, .int (jI q)), (4, .int (jI v109)), (5, .int (jI (i + 1)))]) (fun _ h => List.mem_append_left [(6, Value.int (jI v103))] h) ?_
        exact ih v109 (i + 1) J B hJ (by omega) (by omega) (by omega) eJ eB cX cY cD cN (by omega)
set_option maxRecDepth 100000 in
set_option maxHeartbeats 4000000 in
theorem v_EX_lengthAfter_26_x (G : jG) (d b : Nat) (q : Int) (I : Nat → Nat → Int) (A : Nat → Int → Int) (hI : cSI I) (hA : cSA A) (hK : cTok A) (X9 : Int → Int) (hX : A 40 = X9) (Y9 : Int → Int) (hY : A 41 = Y9) (D9 : Int → Int) (hD : A 42 = D9) (N9 : Int) (hN : I 39 3 = N9) (hq : 0 ≤ q ∧ q ≤ 301) (hb : ∀ j, 0 ≤ j → j < I 26 3 → A 27 j = 2 → 0 ≤ A 12 (A 28 j) ∧ A 12 (A 28 j) ≤ A 13 (A 28 j) ∧ A 13 (A 28 j) ≤ N9) : cct G Y_EX_lengthAfter d b [.ref (b + 5), .ref (b + 39), .ref (b + 26), .int (jI q)] I A (fun (rv : Option Value) (I2 : Nat → Nat → Int) (A2 : Nat → Int → Int) => ∃ y : Int, rv = some (.int (jI y)) ∧ (-2147483648 ≤ y ∧ y ≤ 2147483647) ∧ I2 = I ∧ A2 = A ∧ y = I 5 5 + N9 - q + ((xbd (A 27) (A 28) (A 12) (A 13) X9 Y9 D9 (D9 (I 5 5) + 1) (I 26 3).toNat).length : Int)) := by
  refine cct_of (by decide) (Nat.le_of_ble_eq_true rfl) (fun f0 sz => ?_)
  show jt _ 0 [(0, .ref (b + 5)), (1, .ref (b + 39)), (2, .ref (b + 26)), (3, .int (jI q))] [] _ _ _ _
  have r55 : 0 ≤ I 5 5 ∧ I 5 5 ≤ 300 := hI 5 5
  have r39 : 0 ≤ I 39 3 ∧ I 39 3 ≤ 300 := hI 39 3
  have rx3 : 0 ≤ I 26 3 ∧ I 26 3 ≤ 40 := hI 26 3
  have hz0 : cPx [] [] I A I A := cPx.refl hI hA
  refine jt_aload_n d_EX_lengthAfter_0 rfl ?_
  refine cm_get (k := 5) (v := .int (jI (I 5 5))) d_EX_lengthAfter_1 EX_f42 (by decide) cc_2 rfl ?_
  have rb1 : 0 ≤ I 5 5 ∧ I 5 5 ≤ 300 := hz0.1 5 5
  refine jt_aload_n d_EX_lengthAfter_4 rfl ?_
  refine cm_get (k := 39) (v := .int (jI (I 39 3))) d_EX_lengthAfter_5 EX_f38 (by decide) (cc_1 rfl) rfl ?_
  have rb2 : 0 ≤ I 39 3 ∧ I 39 3 ≤ 300 := hz0.1 39 3
  refine jt_iadd d_EX_lengthAfter_8 ?_
  refine jt_iload_n d_EX_lengthAfter_9 rfl ?_
  refine jt_isub d_EX_lengthAfter_10 ?_
  refine jt_topi (fun v3 ev3 => ?_)
  refine jt_istore (L' := [(0, .ref (b + 5)), (1, .ref (b + 39)), (2, .ref (b + 26)), (3, .int (jI q)), (4, .int (jI v3))]) d_EX_lengthAfter_11 (Nat.le_of_ble_eq_true rfl) rfl ?_
  refine jt_iconst d_EX_lengthAfter_13 ?_
  refine jt_istore (L' := [(0, .ref (b + 5)), (1, .ref (b + 39)), (2, .ref (b + 26)), (3, .int (jI q)), (4, .int (jI v3)), (5, .int (jI 0))]) d_EX_lengthAfter_14 (Nat.le_of_ble_eq_true rfl) rfl ?_
  exact l16_EX_lengthAfter_26_xv G d b q I A hI hA hK X9 hX Y9 hY D9 hD N9 hN hq hb f0 sz  41 v3 0 I A hz0 (by omega) (by omega) (show _ = I 5 5 + N9 - q + (((xbd (A 27) (A 28) (A 12) (A 13) X9 Y9 D9 (D9 (I 5 5) + 1) 0).length : Nat) : Int) by show _ = I 5 5 + N9 - q + (0 : Int); omega) rfl rfl hX hY hD hN (by omega)
set_option maxRecDepth 100000 in
set_option maxHeartbeats 4000000 in
theorem l16_EX_lengthAfter_30_xv (G : jG) (d b : Nat) (q : Int) (I : Nat → Nat → Int) (A : Nat → Int → Int) (hI : cSI I) (hA : cSA A) (hK : cTok A) (X9 : Int → Int) (hX : A 40 = X9) (Y9 : Int → Int) (hY : A 41 = Y9) (D9 : Int → Int) (hD : A 42 = D9) (N9 : Int) (hN : I 39 3 = N9) (hq : 0 ≤ q ∧ q ≤ 301) (hb : ∀ j, 0 ≤ j → j < I 30 3 → A 31 j = 2 → 0 ≤ A 12 (A 32 j) ∧ A 12 (A 32 j) ≤ A 13 (A 32 j) ∧ A 13 (A 32 j) ≤ N9) (f0 : jF) (sz : Nat)   : ∀ (n9 : Nat) (l : Int) (i : Int) (J : Nat → Nat → Int) (B : Nat → Int → Int), cPx [] [] I A J B → (0 ≤ i ∧ i ≤ I 30 3) → (-700 - 300 * i ≤ l ∧ l ≤ 700 + 300 * i) → (l = I 5 5 + N9 - q + ((xbd (A 31) (A 32) (A 12) (A 13) X9 Y9 D9 (D9 (I 5 5) + 1) i.toNat).length : Int)) → (J = I) → (B = A) → (B 40 = X9) → (B 41 = Y9) → (B 42 = D9) → (J 39 3 = N9) → 40 - i < (n9 : Int) → jt (jm G Y_EX_lengthAfter (gR d) (cQ b f0 sz (fun (rv : Option Value) (I2 : Nat → Nat → Int) (A2 : Nat → Int → Int) => ∃ y : Int, rv = some (.int (jI y)) ∧ (-2147483648 ≤ y ∧ y ≤ 2147483647) ∧ I2 = I ∧ A2 = A ∧ y = I 5 5 + N9 - q + ((xbd (A 31) (A 32) (A 12) (A 13) X9 Y9 D9 (D9 (I 5 5) + 1) (I 30 3).toNat).length : Int)))) 16 [(0, .ref (b + 5)), (1, .ref (b + 39)), (2, .ref (b + 30)), (3, .int (jI q)), (4, .int (jI l)), (5, .int (jI i))] [] (cmf b f0 J B) sz 0 0 := by
  have r55 : 0 ≤ I 5 5 ∧ I 5 5 ≤ 300 := hI 5 5
  have r39 : 0 ≤ I 39 3 ∧ I 39 3 ≤ 300 := hI 39 3
  have rx3 : 0 ≤ I 30 3 ∧ I 30 3 ≤ 40 := hI 30 3
  intro n9
  induction n9 with
  | zero =>
    intro l i J B hJ i0 l0 hl eJ eB cX cY cD cN hmeas
    have tk : gtok (B 31 i) (B 32 i) := (cTok_of (cPx.po hJ) hK rfl) 30 rfl i
    unfold gtok at tk
    rw [eB] at tk
    have fJ := congrFun (congrFun eJ 30) 3
    exfalso
    omega
  | succ n9 ih =>
    intro l i J B hJ i0 l0 hl eJ eB cX cY cD cN hmeas
    have tk : gtok (B 31 i) (B 32 i) := (cTok_of (cPx.po hJ) hK rfl) 30 rfl i
    unfold gtok at tk
    rw [eB] at tk
    have fJ := congrFun (congrFun eJ 30) 3
    refine jt_iload d_EX_lengthAfter_16 rfl ?_
    refine jt_aload_n d_EX_lengthAfter_18 rfl ?_
    refine cm_get (k := 30) (v := .int (jI (J 30 3))) d_EX_lengthAfter_19 EX_f38 (by decide) (cc_1 rfl) rfl ?_
    have rb101 : 0 ≤ J 30 3 ∧ J 30 3 ≤ 40 := hJ.1 30 3
    refine jt_icmp_ge (t := 75) d_EX_lengthAfter_22 rfl (by unfold jRi; omega) (by unfold jRi; omega) (fun c102 => ?_) (fun c102 => ?_)
    · skip
      refine jt_iload d_EX_lengthAfter_75 rfl ?_
      exact cm_ret d_EX_lengthAfter_77 rfl rfl (⟨l, rfl, by omega, eJ, eB, by rw [hl, show i = I 30 3 by omega]⟩)
    · skip
      refine jt_aload_n d_EX_lengthAfter_25 rfl ?_
      refine cm_get (k := 30) (v := .ref (b + 32)) d_EX_lengthAfter_26 EX_f55 (by decide) (cc_1 rfl) rfl ?_
      refine jt_iload d_EX_lengthAfter_29 rfl ?_
      refine cm_ld0 (k := 32) (n := 40) (v := (B 32) i) d_EX_lengthAfter_31 (by decide) rfl rfl (by omega) (by omega) (by omega) rfl ?_
      refine jt_topi (fun v103 ev103 => ?_)
      have bv103 : -2147483648 ≤ v103 ∧ v103 ≤ 2147483647 := by rw [ev103]; exact hJ.2.1 32 i
      rw [eB] at ev103
      refine jt_istore (L' := [(0, .ref (b + 5)), (1, .ref (b + 39)), (2, .ref (b + 30)), (3, .int (jI q)), (4, .int (jI l)), (5, .int (jI i)), (6, .int (jI v103))]) d_EX_lengthAfter_32 (Nat.le_of_ble_eq_true rfl) rfl ?_
      refine jt_iload d_EX_lengthAfter_34 rfl ?_
      refine jt_aload_n d_EX_lengthAfter_36 rfl ?_
      refine cm_get (k := 30) (v := .ref (b + 31)) d_EX_lengthAfter_37 EX_f48 (by decide) (cc_1 rfl) rfl ?_
      refine jt_iload d_EX_lengthAfter_40 rfl ?_
      refine cm_ld0 (k := 31) (n := 40) (v := (B 31) i) d_EX_lengthAfter_42 (by decide) rfl rfl (by omega) (by omega) (by omega) rfl ?_
      refine jt_topi (fun v104 ev104 => ?_)
      have bv104 : -2147483648 ≤ v104 ∧ v104 ≤ 2147483647 := by rw [ev104]; exact hJ.2.1 31 i
      rw [eB] at ev104
      refine jt_iconst d_EX_lengthAfter_43 ?_
      refine jt_icmp_ne (t := 65) d_EX_lengthAfter_44 rfl (by unfold jRi; omega) (by unfold jRi; omega) (fun c105 => ?_) (fun c105 => ?_)
      · skip
        have hk2 : ¬ A 31 i = 2 := by omega
        have es2 := xbd_s (A 31) (A 32) (A 12) (A 13) X9 Y9 D9 (D9 (I 5 5) + 1) i (by omega)
        unfold xb1 at es2
        rw [if_neg hk2] at es2
        have es := congrArg List.length es2
        rw [List.length_append] at es
        have es1 : (xbd (A 31) (A 32) (A 12) (A 13) X9 Y9 D9 (D9 (I 5 5) + 1) (i + 1).toNat).length = (xbd (A 31) (A 32) (A 12) (A 13) X9 Y9 D9 (D9 (I 5 5) + 1) i.toNat).length + 1 := es
        refine jt_iconst d_EX_lengthAfter_65 ?_
        refine jt_iadd d_EX_lengthAfter_66 ?_
        refine jt_topi (fun v106 ev106 => ?_)
        refine jt_istore (L' := [(0, .ref (b + 5)), (1, .ref (b + 39)), (2, .ref (b + 30)), (3, .int (jI q)), (4, .int (jI v106)), (5, .int (jI i)), (6, .int (jI v103))]) d_EX_lengthAfter_67 (Nat.le_of_ble_eq_true rfl) rfl ?_
        refine jt_iinc (L' := [(0, .ref (b + 5)), (1, .ref (b + 39)), (2, .ref (b + 30)), (3, .int (jI q)), (4, .int (jI v106)), (5, .int (jI (i + 1))), (6, .int (jI v103))]) d_EX_lengthAfter_69 rfl (Nat.le_of_ble_eq_true rfl) rfl ?_
        refine jt_goto (t := 16) d_EX_lengthAfter_72 rfl ?_
        refine jt_sub (L' := [(0, .ref (b + 5)), (1, .ref (b + 39)), (2, .ref (b + 30)), (3, .int (jI q)), (4, .int (jI v106)), (5, .int (jI (i + 1)))]) (fun _ h => List.mem_append_left [(6, Value.int (jI v103))] h) ?_
        exact ih v106 (i + 1) J B hJ (by omega) (by omega) (by omega) eJ eB cX cY cD cN (by omega)
      · skip
        have hk2 : A 31 i = 2 := by omega
        have es2 := xbd_s (A 31) (A 32) (A 12) (A 13) X9 Y9 D9 (D9 (I 5 5) + 1) i (by omega)
        unfold xb1 at es2
        rw [if_pos hk2] at es2
        have es := congrArg List.length es2
        rw [List.length_append] at es
        rw [xs_len] at es
        have q9 := hb i (by omega) (by omega) hk2
        rw [← ev103] at q9 es es2
        refine jt_aload_n d_EX_lengthAfter_47 rfl ?_
        refine cm_get (k := 5) (v := .ref (b + 13)) d_EX_lengthAfter_48 EX_f31 (by decide) cc_2 rfl ?_
        refine jt_iload d_EX_lengthAfter_51 rfl ?_
        refine cm_ld0 (k := 13) (n := 3) (v := (B 13) v103) d_EX_lengthAfter_53 (by decide) rfl rfl (by omega) (by omega) (by omega) rfl ?_
        refine jt_topi (fun v107 ev107 => ?_)
        have bv107 : 0 ≤ v107 ∧ v107 ≤ 300 := by rw [ev107]; exact hJ.2.1 13 v103
        rw [eB] at ev107
        refine jt_aload_n d_EX_lengthAfter_54 rfl ?_
        refine cm_get (k := 5) (v := .ref (b + 12)) d_EX_lengthAfter_55 EX_f28 (by decide) cc_2 rfl ?_
        refine jt_iload d_EX_lengthAfter_58 rfl ?_
        refine cm_ld0 (k := 12) (n := 3) (v := (B 12) v103) d_EX_lengthAfter_60 (by decide) rfl rfl (by omega) (by omega) (by omega) rfl ?_
        refine jt_topi (fun v108 ev108 => ?_)
        have bv108 : 0 ≤ v108 ∧ v108 ≤ 300 := by rw [ev108]; exact hJ.2.1 12 v103
        rw [eB] at ev108
        refine jt_isub d_EX_lengthAfter_61 ?_
        refine jt_goto (t := 66) d_EX_lengthAfter_62 rfl ?_
        refine jt_iadd d_EX_lengthAfter_66 ?_
        refine jt_topi (fun v109 ev109 => ?_)
        refine jt_istore (L' := [(0, .ref (b + 5)), (1, .ref (b + 39)), (2, .ref (b + 30)), (3, .int (jI q)), (4, .int (jI v109)), (5, .int (jI i)), (6, .int (jI v103))]) d_EX_lengthAfter_67 (Nat.le_of_ble_eq_true rfl) rfl ?_
        refine jt_iinc (L' := [(0, .ref (b + 5)), (1, .ref (b + 39)), (2, .ref (b + 30)), (3, .int (jI q)), (4, .int (jI v109)), (5, .int (jI (i + 1))), (6, .int (jI v103))]) d_EX_lengthAfter_69 rfl (Nat.le_of_ble_eq_true rfl) rfl ?_
        refine jt_goto (t := 16) d_EX_lengthAfter_72 rfl ?_
        refine jt_sub (L' := [(0, .ref (b + 5)), (1, .ref (b + 39)), (2, .ref (b + 30)), (3, .int (jI q)), (4, .int (jI v109)), (5, .int (jI (i + 1)))]) (fun _ h => List.mem_append_left [(6, Value.int (jI v103))] h) ?_
        exact ih v109 (i + 1) J B hJ (by omega) (by omega) (by omega) eJ eB cX cY cD cN (by omega)
set_option maxRecDepth 100000 in
set_option maxHeartbeats 4000000 in
theorem v_EX_lengthAfter_30_x (G : jG) (d b : Nat) (q : Int) (I : Nat → Nat → Int) (A : Nat → Int → Int) (hI : cSI I) (hA : cSA A) (hK : cTok A) (X9 : Int → Int) (hX : A 40 = X9) (Y9 : Int → Int) (hY : A 41 = Y9) (D9 : Int → Int) (hD : A 42 = D9) (N9 : Int) (hN : I 39 3 = N9) (hq : 0 ≤ q ∧ q ≤ 301) (hb : ∀ j, 0 ≤ j → j < I 30 3 → A 31 j = 2 → 0 ≤ A 12 (A 32 j) ∧ A 12 (A 32 j) ≤ A 13 (A 32 j) ∧ A 13 (A 32 j) ≤ N9) : cct G Y_EX_lengthAfter d b [.ref (b + 5), .ref (b + 39), .ref (b + 30), .int (jI q)] I A (fun (rv : Option Value) (I2 : Nat → Nat → Int) (A2 : Nat → Int → Int) => ∃ y : Int, rv = some (.int (jI y)) ∧ (-2147483648 ≤ y ∧ y ≤ 2147483647) ∧ I2 = I ∧ A2 = A ∧ y = I 5 5 + N9 - q + ((xbd (A 31) (A 32) (A 12) (A 13) X9 Y9 D9 (D9 (I 5 5) + 1) (I 30 3).toNat).length : Int)) := by
  refine cct_of (by decide) (Nat.le_of_ble_eq_true rfl) (fun f0 sz => ?_)
  show jt _ 0 [(0, .ref (b + 5)), (1, .ref (b + 39)), (2, .ref (b + 30)), (3, .int (jI q))] [] _ _ _ _
  have r55 : 0 ≤ I 5 5 ∧ I 5 5 ≤ 300 := hI 5 5
  have r39 : 0 ≤ I 39 3 ∧ I 39 3 ≤ 300 := hI 39 3
  have rx3 : 0 ≤ I 30 3 ∧ I 30 3 ≤ 40 := hI 30 3
  have hz0 : cPx [] [] I A I A := cPx.refl hI hA
  refine jt_aload_n d_EX_lengthAfter_0 rfl ?_
  refine cm_get (k := 5) (v := .int (jI (I 5 5))) d_EX_lengthAfter_1 EX_f42 (by decide) cc_2 rfl ?_
  have rb1 : 0 ≤ I 5 5 ∧ I 5 5 ≤ 300 := hz0.1 5 5
  refine jt_aload_n d_EX_lengthAfter_4 rfl ?_
  refine cm_get (k := 39) (v := .int (jI (I 39 3))) d_EX_lengthAfter_5 EX_f38 (by decide) (cc_1 rfl) rfl ?_
  have rb2 : 0 ≤ I 39 3 ∧ I 39 3 ≤ 300 := hz0.1 39 3
  refine jt_iadd d_EX_lengthAfter_8 ?_
  refine jt_iload_n d_EX_lengthAfter_9 rfl ?_
  refine jt_isub d_EX_lengthAfter_10 ?_
  refine jt_topi (fun v3 ev3 => ?_)
  refine jt_istore (L' := [(0, .ref (b + 5)), (1, .ref (b + 39)), (2, .ref (b + 30)), (3, .int (jI q)), (4, .int (jI v3))]) d_EX_lengthAfter_11 (Nat.le_of_ble_eq_true rfl) rfl ?_
  refine jt_iconst d_EX_lengthAfter_13 ?_
  refine jt_istore (L' := [(0, .ref (b + 5)), (1, .ref (b + 39)), (2, .ref (b + 30)), (3, .int (jI q)), (4, .int (jI v3)), (5, .int (jI 0))]) d_EX_lengthAfter_14 (Nat.le_of_ble_eq_true rfl) rfl ?_
  exact l16_EX_lengthAfter_30_xv G d b q I A hI hA hK X9 hX Y9 hY D9 hD N9 hN hq hb f0 sz  41 v3 0 I A hz0 (by omega) (by omega) (show _ = I 5 5 + N9 - q + (((xbd (A 31) (A 32) (A 12) (A 13) X9 Y9 D9 (D9 (I 5 5) + 1) 0).length : Nat) : Int) by show _ = I 5 5 + N9 - q + (0 : Int); omega) rfl rfl hX hY hD hN (by omega)
set_option maxRecDepth 100000 in
set_option maxHeartbeats 4000000 in
theorem l16_EX_lengthAfter_34_xv (G : jG) (d b : Nat) (q : Int) (I : Nat → Nat → Int) (A : Nat → Int → Int) (hI : cSI I) (hA : cSA A) (hK : cTok A) (X9 : Int → Int) (hX : A 40 = X9) (Y9 : Int → Int) (hY : A 41 = Y9) (D9 : Int → Int) (hD : A 42 = D9) (N9 : Int) (hN : I 39 3 = N9) (hq : 0 ≤ q ∧ q ≤ 301) (hb : ∀ j, 0 ≤ j → j < I 34 3 → A 35 j = 2 → 0 ≤ A 12 (A 36 j) ∧ A 12 (A 36 j) ≤ A 13 (A 36 j) ∧ A 13 (A 36 j) ≤ N9) (f0 : jF) (sz : Nat)   : ∀ (n9 : Nat) (l : Int) (i : Int) (J : Nat → Nat → Int) (B : Nat → Int → Int), cPx [] [] I A J B → (0 ≤ i ∧ i ≤ I 34 3) → (-700 - 300 * i ≤ l ∧ l ≤ 700 + 300 * i) → (l = I 5 5 + N9 - q + ((xbd (A 35) (A 36) (A 12) (A 13) X9 Y9 D9 (D9 (I 5 5) + 1) i.toNat).length : Int)) → (J = I) → (B = A) → (B 40 = X9) → (B 41 = Y9) → (B 42 = D9) → (J 39 3 = N9) → 40 - i < (n9 : Int) → jt (jm G Y_EX_lengthAfter (gR d) (cQ b f0 sz (fun (rv : Option Value) (I2 : Nat → Nat → Int) (A2 : Nat → Int → Int) => ∃ y : Int, rv = some (.int (jI y)) ∧ (-2147483648 ≤ y ∧ y ≤ 2147483647) ∧ I2 = I ∧ A2 = A ∧ y = I 5 5 + N9 - q + ((xbd (A 35) (A 36) (A 12) (A 13) X9 Y9 D9 (D9 (I 5 5) + 1) (I 34 3).toNat).length : Int)))) 16 [(0, .ref (b + 5)), (1, .ref (b + 39)), (2, .ref (b + 34)), (3, .int (jI q)), (4, .int (jI l)), (5, .int (jI i))] [] (cmf b f0 J B) sz 0 0 := by
  have r55 : 0 ≤ I 5 5 ∧ I 5 5 ≤ 300 := hI 5 5
  have r39 : 0 ≤ I 39 3 ∧ I 39 3 ≤ 300 := hI 39 3
  have rx3 : 0 ≤ I 34 3 ∧ I 34 3 ≤ 40 := hI 34 3
  intro n9
  induction n9 with
  | zero =>
    intro l i J B hJ i0 l0 hl eJ eB cX cY cD cN hmeas
    have tk : gtok (B 35 i) (B 36 i) := (cTok_of (cPx.po hJ) hK rfl) 34 rfl i
    unfold gtok at tk
    rw [eB] at tk
    have fJ := congrFun (congrFun eJ 34) 3
    exfalso
    omega
  | succ n9 ih =>
    intro l i J B hJ i0 l0 hl eJ eB cX cY cD cN hmeas
    have tk : gtok (B 35 i) (B 36 i) := (cTok_of (cPx.po hJ) hK rfl) 34 rfl i
    unfold gtok at tk
    rw [eB] at tk
    have fJ := congrFun (congrFun eJ 34) 3
    refine jt_iload d_EX_lengthAfter_16 rfl ?_
    refine jt_aload_n d_EX_lengthAfter_18 rfl ?_
    refine cm_get (k := 34) (v := .int (jI (J 34 3))) d_EX_lengthAfter_19 EX_f38 (by decide) (cc_1 rfl) rfl ?_
    have rb101 : 0 ≤ J 34 3 ∧ J 34 3 ≤ 40 := hJ.1 34 3
    refine jt_icmp_ge (t := 75) d_EX_lengthAfter_22 rfl (by unfold jRi; omega) (by unfold jRi; omega) (fun c102 => ?_) (fun c102 => ?_)
    · skip
      refine jt_iload d_EX_lengthAfter_75 rfl ?_
      exact cm_ret d_EX_lengthAfter_77 rfl rfl (⟨l, rfl, by omega, eJ, eB, by rw [hl, show i = I 34 3 by omega]⟩)
    · skip
      refine jt_aload_n d_EX_lengthAfter_25 rfl ?_
      refine cm_get (k := 34) (v := .ref (b + 36)) d_EX_lengthAfter_26 EX_f55 (by decide) (cc_1 rfl) rfl ?_
      refine jt_iload d_EX_lengthAfter_29 rfl ?_
      refine cm_ld0 (k := 36) (n := 40) (v := (B 36) i) d_EX_lengthAfter_31 (by decide) rfl rfl (by omega) (by omega) (by omega) rfl ?_
      refine jt_topi (fun v103 ev103 => ?_)
      have bv103 : -2147483648 ≤ v103 ∧ v103 ≤ 2147483647 := by rw [ev103]; exact hJ.2.1 36 i
      rw [eB] at ev103
      refine jt_istore (L' := [(0, .ref (b + 5)), (1, .ref (b + 39)), (2, .ref (b + 34)), (3, .int (jI q)), (4, .int (jI l)), (5, .int (jI i)), (6, .int (jI v103))]) d_EX_lengthAfter_32 (Nat.le_of_ble_eq_true rfl) rfl ?_
      refine jt_iload d_EX_lengthAfter_34 rfl ?_
      refine jt_aload_n d_EX_lengthAfter_36 rfl ?_
      refine cm_get (k := 34) (v := .ref (b + 35)) d_EX_lengthAfter_37 EX_f48 (by decide) (cc_1 rfl) rfl ?_
      refine jt_iload d_EX_lengthAfter_40 rfl ?_
      refine cm_ld0 (k := 35) (n := 40) (v := (B 35) i) d_EX_lengthAfter_42 (by decide) rfl rfl (by omega) (by omega) (by omega) rfl ?_
      refine jt_topi (fun v104 ev104 => ?_)
      have bv104 : -2147483648 ≤ v104 ∧ v104 ≤ 2147483647 := by rw [ev104]; exact hJ.2.1 35 i
      rw [eB] at ev104
      refine jt_iconst d_EX_lengthAfter_43 ?_
      refine jt_icmp_ne (t := 65) d_EX_lengthAfter_44 rfl (by unfold jRi; omega) (by unfold jRi; omega) (fun c105 => ?_) (fun c105 => ?_)
      · skip
        have hk2 : ¬ A 35 i = 2 := by omega
        have es2 := xbd_s (A 35) (A 36) (A 12) (A 13) X9 Y9 D9 (D9 (I 5 5) + 1) i (by omega)
        unfold xb1 at es2
        rw [if_neg hk2] at es2
        have es := congrArg List.length es2
        rw [List.length_append] at es
        have es1 : (xbd (A 35) (A 36) (A 12) (A 13) X9 Y9 D9 (D9 (I 5 5) + 1) (i + 1).toNat).length = (xbd (A 35) (A 36) (A 12) (A 13) X9 Y9 D9 (D9 (I 5 5) + 1) i.toNat).length + 1 := es
        refine jt_iconst d_EX_lengthAfter_65 ?_
        refine jt_iadd d_EX_lengthAfter_66 ?_
        refine jt_topi (fun v106 ev106 => ?_)
        refine jt_istore (L' := [(0, .ref (b + 5)), (1, .ref (b + 39)), (2, .ref (b + 34)), (3, .int (jI q)), (4, .int (jI v106)), (5, .int (jI i)), (6, .int (jI v103))]) d_EX_lengthAfter_67 (Nat.le_of_ble_eq_true rfl) rfl ?_
        refine jt_iinc (L' := [(0, .ref (b + 5)), (1, .ref (b + 39)), (2, .ref (b + 34)), (3, .int (jI q)), (4, .int (jI v106)), (5, .int (jI (i + 1))), (6, .int (jI v103))]) d_EX_lengthAfter_69 rfl (Nat.le_of_ble_eq_true rfl) rfl ?_
        refine jt_goto (t := 16) d_EX_lengthAfter_72 rfl ?_
        refine jt_sub (L' := [(0, .ref (b + 5)), (1, .ref (b + 39)), (2, .ref (b + 34)), (3, .int (jI q)), (4, .int (jI v106)), (5, .int (jI (i + 1)))]) (fun _ h => List.mem_append_left [(6, Value.int (jI v103))] h) ?_
        exact ih v106 (i + 1) J B hJ (by omega) (by omega) (by omega) eJ eB cX cY cD cN (by omega)
      · skip
        have hk2 : A 35 i = 2 := by omega
        have es2 := xbd_s (A 35) (A 36) (A 12) (A 13) X9 Y9 D9 (D9 (I 5 5) + 1) i (by omega)
        unfold xb1 at es2
        rw [if_pos hk2] at es2
        have es := congrArg List.length es2
        rw [List.length_append] at es
        rw [xs_len] at es
        have q9 := hb i (by omega) (by omega) hk2
        rw [← ev103] at q9 es es2
        refine jt_aload_n d_EX_lengthAfter_47 rfl ?_
        refine cm_get (k := 5) (v := .ref (b + 13)) d_EX_lengthAfter_48 EX_f31 (by decide) cc_2 rfl ?_
        refine jt_iload d_EX_lengthAfter_51 rfl ?_
        refine cm_ld0 (k := 13) (n := 3) (v := (B 13) v103) d_EX_lengthAfter_53 (by decide) rfl rfl (by omega) (by omega) (by omega) rfl ?_
        refine jt_topi (fun v107 ev107 => ?_)
        have bv107 : 0 ≤ v107 ∧ v107 ≤ 300 := by rw [ev107]; exact hJ.2.1 13 v103
        rw [eB] at ev107
        refine jt_aload_n d_EX_lengthAfter_54 rfl ?_
        refine cm_get (k := 5) (v := .ref (b + 12)) d_EX_lengthAfter_55 EX_f28 (by decide) cc_2 rfl ?_
        refine jt_iload d_EX_lengthAfter_58 rfl ?_
        refine cm_ld0 (k := 12) (n := 3) (v := (B 12) v103) d_EX_lengthAfter_60 (by decide) rfl rfl (by omega) (by omega) (by omega) rfl ?_
        refine jt_topi (fun v108 ev108 => ?_)
        have bv108 : 0 ≤ v108 ∧ v108 ≤ 300 := by rw [ev108]; exact hJ.2.1 12 v103
        rw [eB] at ev108
        refine jt_isub d_EX_lengthAfter_61 ?_
        refine jt_goto (t := 66) d_EX_lengthAfter_62 rfl ?_
        refine jt_iadd d_EX_lengthAfter_66 ?_
        refine jt_topi (fun v109 ev109 => ?_)
        refine jt_istore (L' := [(0, .ref (b + 5)), (1, .ref (b + 39)), (2, .ref (b + 34)), (3, .int (jI q)), (4, .int (jI v109)), (5, .int (jI i)), (6, .int (jI v103))]) d_EX_lengthAfter_67 (Nat.le_of_ble_eq_true rfl) rfl ?_
        refine jt_iinc (L' := [(0, .ref (b + 5)), (1, .ref (b + 39)), (2, .ref (b + 34)), (3, .int (jI q)), (4, .int (jI v109)), (5, .int (jI (i + 1))), (6, .int (jI v103))]) d_EX_lengthAfter_69 rfl (Nat.le_of_ble_eq_true rfl) rfl ?_
        refine jt_goto (t := 16) d_EX_lengthAfter_72 rfl ?_
        refine jt_sub (L' := [(0, .ref (b + 5)), (1, .ref (b + 39)), (2, .ref (b + 34)), (3, .int (jI q)), (4, .int (jI v109)), (5, .int (jI (i + 1)))]) (fun _ h => List.mem_append_left [(6, Value.int (jI v103))] h) ?_
        exact ih v109 (i + 1) J B hJ (by omega) (by omega) (by omega) eJ eB cX cY cD cN (by omega)
set_option maxRecDepth 100000 in
set_option maxHeartbeats 4000000 in
theorem v_EX_lengthAfter_34_x (G : jG) (d b : Nat) (q : Int) (I : Nat → Nat → Int) (A : Nat → Int → Int) (hI : cSI I) (hA : cSA A) (hK : cTok A) (X9 : Int → Int) (hX : A 40 = X9) (Y9 : Int → Int) (hY : A 41 = Y9) (D9 : Int → Int) (hD : A 42 = D9) (N9 : Int) (hN : I 39 3 = N9) (hq : 0 ≤ q ∧ q ≤ 301) (hb : ∀ j, 0 ≤ j → j < I 34 3 → A 35 j = 2 → 0 ≤ A 12 (A 36 j) ∧ A 12 (A 36 j) ≤ A 13 (A 36 j) ∧ A 13 (A 36 j) ≤ N9) : cct G Y_EX_lengthAfter d b [.ref (b + 5), .ref (b + 39), .ref (b + 34), .int (jI q)] I A (fun (rv : Option Value) (I2 : Nat → Nat → Int) (A2 : Nat → Int → Int) => ∃ y : Int, rv = some (.int (jI y)) ∧ (-2147483648 ≤ y ∧ y ≤ 2147483647) ∧ I2 = I ∧ A2 = A ∧ y = I 5 5 + N9 - q + ((xbd (A 35) (A 36) (A 12) (A 13) X9 Y9 D9 (D9 (I 5 5) + 1) (I 34 3).toNat).length : Int)) := by
  refine cct_of (by decide) (Nat.le_of_ble_eq_true rfl) (fun f0 sz => ?_)
  show jt _ 0 [(0, .ref (b + 5)), (1, .ref (b + 39)), (2, .ref (b + 34)), (3, .int (jI q))] [] _ _ _ _
  have r55 : 0 ≤ I 5 5 ∧ I 5 5 ≤ 300 := hI 5 5
  have r39 : 0 ≤ I 39 3 ∧ I 39 3 ≤ 300 := hI 39 3
  have rx3 : 0 ≤ I 34 3 ∧ I 34 3 ≤ 40 := hI 34 3
  have hz0 : cPx [] [] I A I A := cPx.refl hI hA
  refine jt_aload_n d_EX_lengthAfter_0 rfl ?_
  refine cm_get (k := 5) (v := .int (jI (I 5 5))) d_EX_lengthAfter_1 EX_f42 (by decide) cc_2 rfl ?_
  have rb1 : 0 ≤ I 5 5 ∧ I 5 5 ≤ 300 := hz0.1 5 5
  refine jt_aload_n d_EX_lengthAfter_4 rfl ?_
  refine cm_get (k := 39) (v := .int (jI (I 39 3))) d_EX_lengthAfter_5 EX_f38 (by decide) (cc_1 rfl) rfl ?_
  have rb2 : 0 ≤ I 39 3 ∧ I 39 3 ≤ 300 := hz0.1 39 3
  refine jt_iadd d_EX_lengthAfter_8 ?_
  refine jt_iload_n d_EX_lengthAfter_9 rfl ?_
  refine jt_isub d_EX_lengthAfter_10 ?_
  refine jt_topi (fun v3 ev3 => ?_)
  refine jt_istore (L' := [(0, .ref (b + 5)), (1, .ref (b + 39)), (2, .ref (b + 34)), (3, .int (jI q)), (4, .int (jI v3))]) d_EX_lengthAfter_11 (Nat.le_of_ble_eq_true rfl) rfl ?_
  refine jt_iconst d_EX_lengthAfter_13 ?_
  refine jt_istore (L' := [(0, .ref (b + 5)), (1, .ref (b + 39)), (2, .ref (b + 34)), (3, .int (jI q)), (4, .int (jI v3)), (5, .int (jI 0))]) d_EX_lengthAfter_14 (Nat.le_of_ble_eq_true rfl) rfl ?_
  exact l16_EX_lengthAfter_34_xv G d b q I A hI hA hK X9 hX Y9 hY D9 hD N9 hN hq hb f0 sz  41 v3 0 I A hz0 (by omega) (by omega) (show _ = I 5 5 + N9 - q + (((xbd (A 35) (A 36) (A 12) (A 13) X9 Y9 D9 (D9 (I 5 5) + 1) 0).length : Nat) : Int) by show _ = I 5 5 + N9 - q + (0 : Int); omega) rfl rfl hX hY hD hN (by omega)

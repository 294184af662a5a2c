set_option maxRecDepth 100000 in
set_option maxHeartbeats 4000000 in
theorem l24_EX_putBody_14_xv (G : jG) (d b : Nat) (q : Int) (I : Nat → Nat → Int) (A : Nat → Int → Int) (hI : cSI I) (hA : cSA A) (hK : cTok A) (X9 : Int → Int) (hX : A 40 = X9) (Y9 : Int → Int) (hY : A 41 = Y9) (D9 : Int → Int) (hD : A 42 = D9) (N9 : Int) (hN : I 39 3 = N9) (hq : I 5 5 < q ∧ q ≤ N9) (hb : ∀ j, 0 ≤ j → j < I 14 3 → A 15 j = 2 → 0 ≤ A 12 (A 16 j) ∧ A 12 (A 16 j) ≤ A 13 (A 16 j) ∧ A 13 (A 16 j) ≤ N9) (hlen : I 5 5 + N9 - q + ((xbd (A 15) (A 16) (A 12) (A 13) X9 Y9 D9 (D9 (I 5 5) + 1) (I 14 3).toNat).length : Int) ≤ 300) (hd : 0 ≤ D9 (I 5 5) ∧ D9 (I 5 5) ≤ 6) (f0 : jF) (sz : Nat)  (e : Int) (e0 : e = D9 (I 5 5) + 1) (hout : ∀ (i : Int) (J : Nat → Nat → Int) (B : Nat → Int → Int), cPx [131, 627] [9, 10, 11, 40, 41, 42] I A J B → (0 ≤ i ∧ i ≤ I 14 3) → (cTok B) → (J 8 3 = ((xbd (A 15) (A 16) (A 12) (A 13) X9 Y9 D9 (D9 (I 5 5) + 1) i.toNat).length : Int)) → (gH (B 9) (B 10) (B 11) (xbd (A 15) (A 16) (A 12) (A 13) X9 Y9 D9 (D9 (I 5 5) + 1) i.toNat)) → (B 40 = X9) → (B 41 = Y9) → (B 42 = D9) → (J 39 3 = N9) → (i = I 14 3) → jt (jm G Y_EX_putBody (gR (d + 2)) (cQ b f0 sz (fun (rv : Option Value) (I2 : Nat → Nat → Int) (A2 : Nat → Int → Int) => rv = none ∧ cPx [131, 627] [9, 10, 11, 40, 41, 42] I A I2 A2 ∧ cTok A2 ∧ (I2 39 3 = ((xs X9 Y9 D9 0 (I 5 5) ++ (xbd (A 15) (A 16) (A 12) (A 13) X9 Y9 D9 (D9 (I 5 5) + 1) (I 14 3).toNat) ++ xs X9 Y9 D9 q N9).length : Int) ∧ gH (A2 40) (A2 41) (A2 42) (xs X9 Y9 D9 0 (I 5 5) ++ (xbd (A 15) (A 16) (A 12) (A 13) X9 Y9 D9 (D9 (I 5 5) + 1) (I 14 3).toNat) ++ xs X9 Y9 D9 q N9))))) 102 [(0, .ref (b + 5)), (1, .ref (b + 39)), (2, .ref (b + 14)), (3, .int (jI q)), (4, .int (jI e)), (5, .int (jI i))] [] (cmf b f0 J B) sz 0 0) : ∀ (n9 : Nat) (i : Int) (J : Nat → Nat → Int) (B : Nat → Int → Int), cPx [131, 627] [9, 10, 11, 40, 41, 42] I A J B → (0 ≤ i ∧ i ≤ I 14 3) → (cTok B) → (J 8 3 = ((xbd (A 15) (A 16) (A 12) (A 13) X9 Y9 D9 (D9 (I 5 5) + 1) i.toNat).length : Int)) → (gH (B 9) (B 10) (B 11) (xbd (A 15) (A 16) (A 12) (A 13) X9 Y9 D9 (D9 (I 5 5) + 1) i.toNat)) → (B 40 = X9) → (B 41 = Y9) → (B 42 = D9) → (J 39 3 = N9) → 40 - i < (n9 : Int) → jt (jm G Y_EX_putBody (gR (d + 2)) (cQ b f0 sz (fun (rv : Option Value) (I2 : Nat → Nat → Int) (A2 : Nat → Int → Int) => rv = none ∧ cPx [131, 627] [9, 10, 11, 40, 41, 42] I A I2 A2 ∧ cTok A2 ∧ (I2 39 3 = ((xs X9 Y9 D9 0 (I 5 5) ++ (xbd (A 15) (A 16) (A 12) (A 13) X9 Y9 D9 (D9 (I 5 5) + 1) (I 14 3).toNat) ++ xs X9 Y9 D9 q N9).length : Int) ∧ gH (A2 40) (A2 41) (A2 42) (xs X9 Y9 D9 0 (I 5 5) ++ (xbd (A 15) (A 16) (A 12) (A 13) X9 Y9 D9 (D9 (I 5 5) + 1) (I 14 3).toNat) ++ xs X9 Y9 D9 q N9))))) 24 [(0, .ref (b + 5)), (1, .ref (b + 39)), (2, .ref (b + 14)), (3, .int (jI q)), (4, .int (jI e)), (5, .int (jI i))] [] (cmf b f0 J B) sz 0 0 := by
  have r55 : 0 ≤ I 5 5 ∧ I 5 5 ≤ 300 := hI 5 5
  have r39 : 0 ≤ I 39 3 ∧ I 39 3 ≤ 300 := hI 39 3
  have rx3 : 0 ≤ I 14 3 ∧ I 14 3 ≤ 40 := hI 14 3
  intro n9
  induction n9 with
  | zero =>
    intro i J B hJ i0 hKJ hl hH cX cY cD cN hmeas
    have tk : gtok (B 15 i) (B 16 i) := hKJ 14 rfl i
    have f15 : B 15 = A 15 := hJ.2.2.2 15 rfl trivial
    have f16 : B 16 = A 16 := hJ.2.2.2 16 rfl trivial
    have f12 : B 12 = A 12 := hJ.2.2.2 12 rfl trivial
    have f13 : B 13 = A 13 := hJ.2.2.2 13 rfl trivial
    rw [f15, f16] at tk
    have tk2 := tk
    unfold gtok at tk
    have f55 : J 5 5 = I 5 5 := hJ.2.2.1 5 5 rfl
    have fx3 : J 14 3 = I 14 3 := hJ.2.2.1 14 3 rfl
    exfalso
    omega
  | succ n9 ih =>
    intro i J B hJ i0 hKJ hl hH cX cY cD cN hmeas
    have tk : gtok (B 15 i) (B 16 i) := hKJ 14 rfl i
    have f15 : B 15 = A 15 := hJ.2.2.2 15 rfl trivial
    have f16 : B 16 = A 16 := hJ.2.2.2 16 rfl trivial
    have f12 : B 12 = A 12 := hJ.2.2.2 12 rfl trivial
    have f13 : B 13 = A 13 := hJ.2.2.2 13 rfl trivial
    rw [f15, f16] at tk
    have tk2 := tk
    unfold gtok at tk
    have f55 : J 5 5 = I 5 5 := hJ.2.2.1 5 5 rfl
    have fx3 : J 14 3 = I 14 3 := hJ.2.2.1 14 3 rfl
    refine jt_iload d_EX_putBody_24 rfl ?_
    refine jt_aload_n d_EX_putBody_26 rfl ?_
    refine cm_get (k := 14) (v := .int (jI (J 14 3))) d_EX_putBody_27 EX_f38 (by decide) (cc_1 rfl) rfl ?_
    have rb101 : 0 ≤ J 14 3 ∧ J 14 3 ≤ 40 := hJ.1 14 3
    refine jt_icmp_ge (t := 102) d_EX_putBody_30 rfl (by unfold jRi; omega) (by unfold jRi; omega) (fun c102 => ?_) (fun c102 => ?_)
    · skip
      exact hout i J B hJ i0 hKJ hl hH cX cY cD cN (by omega)
    · skip
      refine jt_aload_n d_EX_putBody_33 rfl ?_
      refine cm_get (k := 14) (v := .ref (b + 16)) d_EX_putBody_34 EX_f55 (by decide) (cc_1 rfl) rfl ?_
      refine jt_iload d_EX_putBody_37 rfl ?_
      refine cm_ld0 (k := 16) (n := 40) (v := (B 16) i) d_EX_putBody_39 (by decide) rfl rfl (by omega) (by omega) (by omega) rfl ?_
      refine jt_topi (fun v103 ev103 => ?_)
      have bv103 : -2147483648 ≤ v103 ∧ v103 ≤ 2147483647 := by rw [ev103]; exact hJ.2.1 16 i
      rw [f16] at ev103
      refine jt_istore (L' := [(0, .ref (b + 5)), (1, .ref (b + 39)), (2, .ref (b + 14)), (3, .int (jI q)), (4, .int (jI e)), (5, .int (jI i)), (6, .int (jI v103))]) d_EX_putBody_40 (Nat.le_of_ble_eq_true rfl) rfl ?_
      refine jt_aload_n d_EX_putBody_42 rfl ?_
      refine cm_get (k := 14) (v := .ref (b + 15)) d_EX_putBody_43 EX_f48 (by decide) (cc_1 rfl) rfl ?_
      refine jt_iload d_EX_putBody_46 rfl ?_
      refine cm_ld0 (k := 15) (n := 40) (v := (B 15) i) d_EX_putBody_48 (by decide) rfl rfl (by omega) (by omega) (by omega) rfl ?_
      refine jt_topi (fun v104 ev104 => ?_)
      have bv104 : -2147483648 ≤ v104 ∧ v104 ≤ 2147483647 := by rw [ev104]; exact hJ.2.1 15 i
      rw [f15] at ev104
      refine jt_iconst d_EX_putBody_49 ?_
      refine jt_icmp_ne (t := 78) d_EX_putBody_50 rfl (by unfold jRi; omega) (by unfold jRi; omega) (fun c105 => ?_) (fun c105 => ?_)
      · skip
        have hk2 : ¬ A 15 i = 2 := by omega
        have es2 := xbd_s (A 15) (A 16) (A 12) (A 13) X9 Y9 D9 (D9 (I 5 5) + 1) i (by omega)
        unfold xb1 at es2
        rw [if_neg hk2] at es2
        have es := congrArg List.length es2
        rw [List.length_append] at es
        have hle := xbd_le (A 15) (A 16) (A 12) (A 13) X9 Y9 D9 (D9 (I 5 5) + 1) (i + 1).toNat (I 14 3).toNat (by omega)
        have es1 : (xbd (A 15) (A 16) (A 12) (A 13) X9 Y9 D9 (D9 (I 5 5) + 1) (i + 1).toNat).length = (xbd (A 15) (A 16) (A 12) (A 13) X9 Y9 D9 (D9 (I 5 5) + 1) i.toNat).length + 1 := es
        refine jt_aload_n d_EX_putBody_78 rfl ?_
        refine cm_get (k := 5) (v := .ref (b + 8)) d_EX_putBody_79 EX_f24 (by decide) cc_2 rfl ?_
        refine jt_aload_n d_EX_putBody_82 rfl ?_
        refine cm_get (k := 14) (v := .ref (b + 15)) d_EX_putBody_83 EX_f48 (by decide) (cc_1 rfl) rfl ?_
        refine jt_iload d_EX_putBody_86 rfl ?_
        refine cm_ld0 (k := 15) (n := 40) (v := (B 15) i) d_EX_putBody_88 (by decide) rfl rfl (by omega) (by omega) (by omega) rfl ?_
        refine jt_topi (fun v106 ev106 => ?_)
        have bv106 : -2147483648 ≤ v106 ∧ v106 ≤ 2147483647 := by rw [ev106]; exact hJ.2.1 15 i
        rw [f15] at ev106
        refine jt_iload d_EX_putBody_89 rfl ?_
        refine jt_iload d_EX_putBody_91 rfl ?_
        refine cct_callV (Y := Y_TR_add) (ci := 0) (k := 8) (As := [.int (jI v106), .int (jI v103), .int (jI e)]) (rest := []) d_EX_putBody_93 EX_c84 yk_TR_add yv_TR_add rfl (Nat.le_of_ble_eq_true rfl) (by decide) (cc_1 rfl) rfl rfl (Nat.le_of_ble_eq_true rfl) (v_TR_add_8_x G _ b v106 v103 e J B hJ.1 hJ.2.1 (by omega) (by omega) (by omega)) (fun rvq107 Iq107 Aq107 hq107 => ?_)
        obtain ⟨rfl, hqq107, hxq107⟩ := hq107
        have hpq107 := cPx.trans hJ hqq107 rfl rfl
        have cXq107 : Aq107 40 = X9 := (hqq107.2.2.2 40 rfl (by decide)).trans cX
        have cYq107 : Aq107 41 = Y9 := (hqq107.2.2.2 41 rfl (by decide)).trans cY
        have cDq107 : Aq107 42 = D9 := (hqq107.2.2.2 42 rfl (by decide)).trans cD
        have cNq107 : Iq107 39 3 = N9 := (hqq107.2.2.1 39 3 rfl).trans cN
        have m39_3q107 : Iq107 39 3 = J 39 3 := hqq107.2.2.1 39 3 rfl
        have m5_5q107 : Iq107 5 5 = J 5 5 := hqq107.2.2.1 5 5 rfl
        show jt _ 96 [(0, .ref (b + 5)), (1, .ref (b + 39)), (2, .ref (b + 14)), (3, .int (jI q)), (4, .int (jI e)), (5, .int (jI i)), (6, .int (jI v103))] [] (cmf b f0 Iq107 Aq107) _ _ _
        refine jt_iinc (L' := [(0, .ref (b + 5)), (1, .ref (b + 39)), (2, .ref (b + 14)), (3, .int (jI q)), (4, .int (jI e)), (5, .int (jI (i + 1))), (6, .int (jI v103))]) d_EX_putBody_96 rfl (Nat.le_of_ble_eq_true rfl) rfl ?_
        refine jt_goto (t := 24) d_EX_putBody_99 rfl ?_
        refine jt_sub (L' := [(0, .ref (b + 5)), (1, .ref (b + 39)), (2, .ref (b + 14)), (3, .int (jI q)), (4, .int (jI e)), (5, .int (jI (i + 1)))]) (fun _ h => List.mem_append_left [(6, Value.int (jI v103))] h) ?_
        exact ih (i + 1) Iq107 Aq107 hpq107 (by omega) (hxq107.1 hKJ (by rw [ev106, ev103]; exact tk2)) (show Iq107 8 3 = ((xbd (A 15) (A 16) (A 12) (A 13) X9 Y9 D9 (D9 (I 5 5) + 1) (i + 1).toNat).length : Int) by have h9 := (hxq107.2 (by omega)).1; omega) (by have h9 := (hxq107.2 (by omega)).2 _ hl.symm hH; rw [e0] at h9; rw [es2, ← ev106, ← ev103]; exact h9) cXq107 cYq107 cDq107 cNq107 (by omega)
      · skip
        have hk2 : A 15 i = 2 := by omega
        have es2 := xbd_s (A 15) (A 16) (A 12) (A 13) X9 Y9 D9 (D9 (I 5 5) + 1) i (by omega)
        unfold xb1 at es2
        rw [if_pos hk2] at es2
        have es := congrArg List.length es2
        rw [List.length_append] at es
        have hle := xbd_le (A 15) (A 16) (A 12) (A 13) X9 Y9 D9 (D9 (I 5 5) + 1) (i + 1).toNat (I 14 3).toNat (by omega)
        rw [xs_len] at es
        have q9 := hb i (by omega) (by omega) hk2
        rw [← ev103] at q9 es es2
        refine jt_aload_n d_EX_putBody_53 rfl ?_
        refine cm_get (k := 5) (v := .ref (b + 8)) d_EX_putBody_54 EX_f24 (by decide) cc_2 rfl ?_
        refine jt_aload_n d_EX_putBody_57 rfl ?_
        refine jt_aload_n d_EX_putBody_58 rfl ?_
        refine cm_get (k := 5) (v := .ref (b + 12)) d_EX_putBody_59 EX_f28 (by decide) cc_2 rfl ?_
        refine jt_iload d_EX_putBody_62 rfl ?_
        refine cm_ld0 (k := 12) (n := 3) (v := (B 12) v103) d_EX_putBody_64 (by decide) rfl rfl (by omega) (by omega) (by omega) rfl ?_
        refine jt_topi (fun v108 ev108 => ?_)
        have bv108 : 0 ≤ v108 ∧ v108 ≤ 300 := by rw [ev108]; exact hJ.2.1 12 v103
        rw [f12] at ev108
        refine jt_aload_n d_EX_putBody_65 rfl ?_
        refine cm_get (k := 5) (v := .ref (b + 13)) d_EX_putBody_66 EX_f31 (by decide) cc_2 rfl ?_
        refine jt_iload d_EX_putBody_69 rfl ?_
        refine cm_ld0 (k := 13) (n := 3) (v := (B 13) v103) d_EX_putBody_71 (by decide) rfl rfl (by omega) (by omega) (by omega) rfl ?_
        refine jt_topi (fun v109 ev109 => ?_)
        have bv109 : 0 ≤ v109 ∧ v109 ≤ 300 := by rw [ev109]; exact hJ.2.1 13 v103
        rw [f13] at ev109
        refine cct_callV (Y := Y_TR_addAll) (ci := 0) (k := 8) (As := [.ref (b + 39), .int (jI v108), .int (jI v109)]) (rest := []) d_EX_putBody_72 EX_c80 yk_TR_addAll yv_TR_addAll rfl (Nat.le_of_ble_eq_true rfl) (by decide) (cc_1 rfl) rfl rfl (Nat.le_of_ble_eq_true rfl) (v_TR_addAll_8_39_x G _ b v108 v109 J B hJ.1 hJ.2.1 (by omega) (by omega)) (fun rvq110 Iq110 Aq110 hq110 => ?_)
        obtain ⟨rfl, hqq110, hxq110⟩ := hq110
        have hpq110 := cPx.trans hJ hqq110 rfl rfl
        have cXq110 : Aq110 40 = X9 := (hqq110.2.2.2 40 rfl (by decide)).trans cX
        have cYq110 : Aq110 41 = Y9 := (hqq110.2.2.2 41 rfl (by decide)).trans cY
        have cDq110 : Aq110 42 = D9 := (hqq110.2.2.2 42 rfl (by decide)).trans cD
        have cNq110 : Iq110 39 3 = N9 := (hqq110.2.2.1 39 3 rfl).trans cN
        have m39_3q110 : Iq110 39 3 = J 39 3 := hqq110.2.2.1 39 3 rfl
        have m5_5q110 : Iq110 5 5 = J 5 5 := hqq110.2.2.1 5 5 rfl
        show jt _ 75 [(0, .ref (b + 5)), (1, .ref (b + 39)), (2, .ref (b + 14)), (3, .int (jI q)), (4, .int (jI e)), (5, .int (jI i)), (6, .int (jI v103))] [] (cmf b f0 Iq110 Aq110) _ _ _
        refine jt_goto (t := 96) d_EX_putBody_75 rfl ?_
        refine jt_iinc (L' := [(0, .ref (b + 5)), (1, .ref (b + 39)), (2, .ref (b + 14)), (3, .int (jI q)), (4, .int (jI e)), (5, .int (jI (i + 1))), (6, .int (jI v103))]) d_EX_putBody_96 rfl (Nat.le_of_ble_eq_true rfl) rfl ?_
        refine jt_goto (t := 24) d_EX_putBody_99 rfl ?_
        refine jt_sub (L' := [(0, .ref (b + 5)), (1, .ref (b + 39)), (2, .ref (b + 14)), (3, .int (jI q)), (4, .int (jI e)), (5, .int (jI (i + 1)))]) (fun _ h => List.mem_append_left [(6, Value.int (jI v103))] h) ?_
        exact ih (i + 1) Iq110 Aq110 hpq110 (by omega) (hxq110.1 hKJ) (show Iq110 8 3 = ((xbd (A 15) (A 16) (A 12) (A 13) X9 Y9 D9 (D9 (I 5 5) + 1) (i + 1).toNat).length : Int) by have h9 := (hxq110.2 (by omega) (by omega)).1; omega) (by have h9 := (hxq110.2 (by omega) (by omega)).2 _ hl.symm hH; rw [cX, cY, cD] at h9; rw [es2, ← ev108, ← ev109]; exact h9) cXq110 cYq110 cDq110 cNq110 (by omega)
set_option maxRecDepth 100000 in
set_option maxHeartbeats 4000000 in
theorem v_EX_putBody_14_x (G : jG) (d b : Nat) (q : Int) (I : Nat → Nat → Int) (A : Nat → Int → Int) (hI : cSI I) (hA : cSA A) (hK : cTok A) (X9 : Int → Int) (hX : A 40 = X9) (Y9 : Int → Int) (hY : A 41 = Y9) (D9 : Int → Int) (hD : A 42 = D9) (N9 : Int) (hN : I 39 3 = N9) (hq : I 5 5 < q ∧ q ≤ N9) (hb : ∀ j, 0 ≤ j → j < I 14 3 → A 15 j = 2 → 0 ≤ A 12 (A 16 j) ∧ A 12 (A 16 j) ≤ A 13 (A 16 j) ∧ A 13 (A 16 j) ≤ N9) (hlen : I 5 5 + N9 - q + ((xbd (A 15) (A 16) (A 12) (A 13) X9 Y9 D9 (D9 (I 5 5) + 1) (I 14 3).toNat).length : Int) ≤ 300) (hd : 0 ≤ D9 (I 5 5) ∧ D9 (I 5 5) ≤ 6) : cct G Y_EX_putBody (d + 2) b [.ref (b + 5), .ref (b + 39), .ref (b + 14), .int (jI q)] I A (fun (rv : Option Value) (I2 : Nat → Nat → Int) (A2 : Nat → Int → Int) => rv = none ∧ cPx [131, 627] [9, 10, 11, 40, 41, 42] I A I2 A2 ∧ cTok A2 ∧ (I2 39 3 = ((xs X9 Y9 D9 0 (I 5 5) ++ (xbd (A 15) (A 16) (A 12) (A 13) X9 Y9 D9 (D9 (I 5 5) + 1) (I 14 3).toNat) ++ xs X9 Y9 D9 q N9).length : Int) ∧ gH (A2 40) (A2 41) (A2 42) (xs X9 Y9 D9 0 (I 5 5) ++ (xbd (A 15) (A 16) (A 12) (A 13) X9 Y9 D9 (D9 (I 5 5) + 1) (I 14 3).toNat) ++ xs X9 Y9 D9 q N9))) := by
  refine cct_of (by decide) (Nat.le_of_ble_eq_true rfl) (fun f0 sz => ?_)
  show jt _ 0 [(0, .ref (b + 5)), (1, .ref (b + 39)), (2, .ref (b + 14)), (3, .int (jI q))] [] _ _ _ _
  have r55 : 0 ≤ I 5 5 ∧ I 5 5 ≤ 300 := hI 5 5
  have r39 : 0 ≤ I 39 3 ∧ I 39 3 ≤ 300 := hI 39 3
  have rx3 : 0 ≤ I 14 3 ∧ I 14 3 ≤ 40 := hI 14 3
  have hz0 : cPx [131, 627] [9, 10, 11, 40, 41, 42] I A I A := cPx.refl hI hA
  refine jt_aload_n d_EX_putBody_0 rfl ?_
  refine cm_get (k := 39) (v := .ref (b + 42)) d_EX_putBody_1 EX_f58 (by decide) (cc_1 rfl) rfl ?_
  refine jt_aload_n d_EX_putBody_4 rfl ?_
  refine cm_get (k := 5) (v := .int (jI (I 5 5))) d_EX_putBody_5 EX_f42 (by decide) cc_2 rfl ?_
  have rb1 : 0 ≤ I 5 5 ∧ I 5 5 ≤ 300 := hz0.1 5 5
  refine cm_ld0 (k := 42) (n := 300) (v := (A 42) (I 5 5)) d_EX_putBody_8 (by decide) rfl rfl (by omega) (by omega) (by omega) rfl ?_
  refine jt_topi (fun v2 ev2 => ?_)
  have bv2 : -2147483648 ≤ v2 ∧ v2 ≤ 2147483647 := by rw [ev2]; exact hz0.2.1 42 (I 5 5)
  rw [hD] at ev2
  refine jt_iconst d_EX_putBody_9 ?_
  refine jt_iadd d_EX_putBody_10 ?_
  refine jt_topi (fun v3 ev3 => ?_)
  refine jt_istore (L' := [(0, .ref (b + 5)), (1, .ref (b + 39)), (2, .ref (b + 14)), (3, .int (jI q)), (4, .int (jI v3))]) d_EX_putBody_11 (Nat.le_of_ble_eq_true rfl) rfl ?_
  refine jt_aload_n d_EX_putBody_13 rfl ?_
  refine cm_get (k := 5) (v := .ref (b + 8)) d_EX_putBody_14 EX_f24 (by decide) cc_2 rfl ?_
  refine jt_iconst d_EX_putBody_17 ?_
  refine cm_put (k := 8) (j := 3) (v := 0) d_EX_putBody_18 (EX_w38 _ rfl) (by decide) (cc_1 rfl) rfl rfl (Nat.le_of_ble_eq_true rfl) rfl ?_
  have p4 := cPx.I 8 3 0 hz0 rfl (show 0 ≤ 0 ∧ 0 ≤ 300 by omega)
  refine jt_iconst d_EX_putBody_21 ?_
  refine jt_istore (L' := [(0, .ref (b + 5)), (1, .ref (b + 39)), (2, .ref (b + 14)), (3, .int (jI q)), (4, .int (jI v3)), (5, .int (jI 0))]) d_EX_putBody_22 (Nat.le_of_ble_eq_true rfl) rfl ?_
  refine l24_EX_putBody_14_xv G d b q I A hI hA hK X9 hX Y9 hY D9 hD N9 hN hq hb hlen hd f0 sz v3 ((by omega)) (fun io5 Jo5 Bo5 hJo5 i0o5 hKJo5 hlo5 hHo5 cXo5 cYo5 cDo5 cNo5 ixo5 => ?_) 41 0 (cu I 8 3 0) A p4 (by omega) hK (show (0 : Int) = (((xbd (A 15) (A 16) (A 12) (A 13) X9 Y9 D9 (D9 (I 5 5) + 1) 0).length : Nat) : Int) from rfl) (fun i t h => by simp [xbd] at h) hX hY hD hN (by omega)
  refine jt_aload_n d_EX_putBody_102 rfl ?_
  refine cm_get (k := 5) (v := .ref (b + 8)) d_EX_putBody_103 EX_f24 (by decide) cc_2 rfl ?_
  refine jt_aload_n d_EX_putBody_106 rfl ?_
  refine jt_iload_n d_EX_putBody_107 rfl ?_
  refine jt_aload_n d_EX_putBody_108 rfl ?_
  refine cm_get (k := 39) (v := .int (jI (Jo5 39 3))) d_EX_putBody_109 EX_f38 (by decide) (cc_1 rfl) rfl ?_
  have rb6 : 0 ≤ Jo5 39 3 ∧ Jo5 39 3 ≤ 300 := hJo5.1 39 3
  refine cct_callV (Y := Y_TR_addAll) (ci := 0) (k := 8) (As := [.ref (b + 39), .int (jI q), .int (jI (Jo5 39 3))]) (rest := []) d_EX_putBody_112 EX_c80 yk_TR_addAll yv_TR_addAll rfl (Nat.le_of_ble_eq_true rfl) (by decide) (cc_1 rfl) rfl rfl (Nat.le_of_ble_eq_true rfl) (v_TR_addAll_8_39_x G _ b q (Jo5 39 3) Jo5 Bo5 hJo5.1 hJo5.2.1 (by omega) (by omega)) (fun rvq7 Iq7 Aq7 hq7 => ?_)
  obtain ⟨rfl, hqq7, hxq7⟩ := hq7
  have hpq7 := cPx.trans hJo5 hqq7 rfl rfl
  have cXq7 : Aq7 40 = X9 := (hqq7.2.2.2 40 rfl (by decide)).trans cXo5
  have cYq7 : Aq7 41 = Y9 := (hqq7.2.2.2 41 rfl (by decide)).trans cYo5
  have cDq7 : Aq7 42 = D9 := (hqq7.2.2.2 42 rfl (by decide)).trans cDo5
  have cNq7 : Iq7 39 3 = N9 := (hqq7.2.2.1 39 3 rfl).trans cNo5
  have m39_3q7 : Iq7 39 3 = Jo5 39 3 := hqq7.2.2.1 39 3 rfl
  have m5_5q7 : Iq7 5 5 = Jo5 5 5 := hqq7.2.2.1 5 5 rfl
  show jt _ 115 [(0, .ref (b + 5)), (1, .ref (b + 39)), (2, .ref (b + 14)), (3, .int (jI q)), (4, .int (jI v3)), (5, .int (jI io5))] [] (cmf b f0 Iq7 Aq7) _ _ _
  refine jt_aload_n d_EX_putBody_115 rfl ?_
  refine jt_aload_n d_EX_putBody_116 rfl ?_
  refine cm_get (k := 5) (v := .int (jI (Iq7 5 5))) d_EX_putBody_117 EX_f42 (by decide) cc_2 rfl ?_
  have rb8 : 0 ≤ Iq7 5 5 ∧ Iq7 5 5 ≤ 300 := hpq7.1 5 5
  refine cm_put (k := 39) (j := 3) (v := (Iq7 5 5)) d_EX_putBody_120 (EX_w38 _ rfl) (by decide) (cc_1 rfl) rfl rfl (Nat.le_of_ble_eq_true rfl) rfl ?_
  have p9 := cPx.I 39 3 (Iq7 5 5) hpq7 rfl (show 0 ≤ Iq7 5 5 ∧ Iq7 5 5 ≤ 300 by omega)
  refine jt_aload_n d_EX_putBody_123 rfl ?_
  refine jt_aload_n d_EX_putBody_124 rfl ?_
  refine cm_get (k := 5) (v := .ref (b + 8)) d_EX_putBody_125 EX_f24 (by decide) cc_2 rfl ?_
  refine jt_iconst d_EX_putBody_128 ?_
  refine jt_aload_n d_EX_putBody_129 rfl ?_
  refine cm_get (k := 5) (v := .ref (b + 8)) d_EX_putBody_130 EX_f24 (by decide) cc_2 rfl ?_
  refine cm_get (k := 8) (v := .int (jI (Iq7 8 3))) d_EX_putBody_133 EX_f38 (by decide) (cc_1 rfl) rfl ?_
  have rb10 : 0 ≤ Iq7 8 3 ∧ Iq7 8 3 ≤ 300 := p9.1 8 3
  refine cct_callV (Y := Y_TR_addAll) (ci := 0) (k := 39) (As := [.ref (b + 8), .int (jI 0), .int (jI (Iq7 8 3))]) (rest := []) d_EX_putBody_136 EX_c80 yk_TR_addAll yv_TR_addAll rfl (Nat.le_of_ble_eq_true rfl) (by decide) (cc_1 rfl) rfl rfl (Nat.le_of_ble_eq_true rfl) (v_TR_addAll_39_8_x G _ b 0 (Iq7 8 3) (cu Iq7 39 3 (Iq7 5 5)) Aq7 p9.1 p9.2.1 (by omega) (by omega)) (fun rvq11 Iq11 Aq11 hq11 => ?_)
  obtain ⟨rfl, hqq11, hxq11⟩ := hq11
  have hpq11 := cPx.trans p9 hqq11 rfl rfl
  have s39_3q11 : (cu Iq7 39 3 (Iq7 5 5)) 39 3 = Iq7 5 5 := rfl
  have s5_5q11 : (cu Iq7 39 3 (Iq7 5 5)) 5 5 = Iq7 5 5 := rfl
  have s8_3q11 : (cu Iq7 39 3 (Iq7 5 5)) 8 3 = Iq7 8 3 := rfl
  have m5_5q11 : Iq11 5 5 = Iq7 5 5 := hqq11.2.2.1 5 5 rfl
  have m8_3q11 : Iq11 8 3 = Iq7 8 3 := hqq11.2.2.1 8 3 rfl
  show jt _ 139 [(0, .ref (b + 5)), (1, .ref (b + 39)), (2, .ref (b + 14)), (3, .int (jI q)), (4, .int (jI v3)), (5, .int (jI io5))] [] (cmf b f0 Iq11 Aq11) _ _ _
  exact cm_vret d_EX_putBody_139 rfl (⟨rfl, hpq11, (hxq11.1 (hxq7.1 hKJo5)), by
      have f55 : Jo5 5 5 = I 5 5 := hJo5.2.2.1 5 5 rfl
      have lb : Jo5 8 3 = ((xbd (A 15) (A 16) (A 12) (A 13) X9 Y9 D9 (D9 (I 5 5) + 1) (I 14 3).toNat).length : Int) := by rw [hlo5, show io5 = I 14 3 by omega]
      have gb : gH (Bo5 9) (Bo5 10) (Bo5 11) (xbd (A 15) (A 16) (A 12) (A 13) X9 Y9 D9 (D9 (I 5 5) + 1) (I 14 3).toNat) := by have h9 := hHo5; rw [show io5 = I 14 3 by omega] at h9; exact h9
      have h1 := hxq7.2 (by omega) (by omega)
      have g1 := h1.2 _ lb.symm gb
      rw [cXo5, cYo5, cDo5, cNo5] at g1
      have l1 := xs_len X9 Y9 D9 q N9
      have l0 := xs_len X9 Y9 D9 0 (I 5 5)
      have g3 := gH_at g1 (by rw [List.length_append]; omega)
      have h2 := hxq11.2 (by omega) (show Iq7 5 5 + (Iq7 8 3 - 0) ≤ 300 by omega)
      have g2 := h2.2 (xs X9 Y9 D9 0 (I 5 5)) (show _ = Iq7 5 5 by omega) (show gH (Aq7 40) (Aq7 41) (Aq7 42) _ by rw [cXq7, cYq7, cDq7]; exact gH_xs _ _ _ _)
      have h3 : Iq11 39 3 = Iq7 5 5 + (Iq7 8 3 - 0) := h2.1
      have g4 : xs (Aq7 9) (Aq7 10) (Aq7 11) 0 (Iq7 8 3) = (xbd (A 15) (A 16) (A 12) (A 13) X9 Y9 D9 (D9 (I 5 5) + 1) (I 14 3).toNat) ++ xs X9 Y9 D9 q N9 := by rw [show Iq7 8 3 = (((xbd (A 15) (A 16) (A 12) (A 13) X9 Y9 D9 (D9 (I 5 5) + 1) (I 14 3).toNat) ++ xs X9 Y9 D9 q N9).length : Int) by rw [List.length_append]; omega]; exact g3.symm
      have g5 : gH (Aq11 40) (Aq11 41) (Aq11 42) (xs X9 Y9 D9 0 (I 5 5) ++ xs (Aq7 9) (Aq7 10) (Aq7 11) 0 (Iq7 8 3)) := g2
      rw [g4, ← List.append_assoc] at g5
      exact ⟨by rw [List.length_append, List.length_append]; omega, g5⟩⟩)
set_option maxRecDepth 100000 in
set_option maxHeartbeats 4000000 in
theorem l24_EX_putBody_18_xv (G : jG) (d b : Nat) (q : Int) (I : Nat → Nat → Int) (A : Nat → Int → Int) (hI : cSI I) (hA : cSA A) (hK : cTok A) (X9 : Int → Int) (hX : A 40 = X9) (Y9 : Int → Int) (hY : A 41 = Y9) (D9 : Int → Int) (hD : A 42 = D9) (N9 : Int) (hN : I 39 3 = N9) (hq : I 5 5 < q ∧ q ≤ N9) (hb : ∀ j, 0 ≤ j → j < I 18 3 → A 19 j = 2 → 0 ≤ A 12 (A 20 j) ∧ A 12 (A 20 j) ≤ A 13 (A 20 j) ∧ A 13 (A 20 j) ≤ N9) (hlen : I 5 5 + N9 - q + ((xbd (A 19) (A 20) (A 12) (A 13) X9 Y9 D9 (D9 (I 5 5) + 1) (I 18 3).toNat).length : Int) ≤ 300) (hd : 0 ≤ D9 (I 5 5) ∧ D9 (I 5 5) ≤ 6) (f0 : jF) (sz : Nat)  (e : Int) (e0 : e = D9 (I 5 5) + 1) (hout : ∀ (i : Int) (J : Nat → Nat → Int) (B : Nat → Int → Int), cPx [131, 627] [9, 10, 11, 40, 41, 42] I A J B → (0 ≤ i ∧ i ≤ I 18 3) → (cTok B) → (J 8 3 = ((xbd (A 19) (A 20) (A 12) (A 13) X9 Y9 D9 (D9 (I 5 5) + 1) i.toNat).length : Int)) → (gH (B 9) (B 10) (B 11) (xbd (A 19) (A 20) (A 12) (A 13) X9 Y9 D9 (D9 (I 5 5) + 1) i.toNat)) → (B 40 = X9) → (B 41 = Y9) → (B 42 = D9) → (J 39 3 = N9) → (i = I 18 3) → jt (jm G Y_EX_putBody (gR (d + 2)) (cQ b f0 sz (fun (rv : Option Value) (I2 : Nat → Nat → Int) (A2 : Nat → Int → Int) => rv = none ∧ cPx [131, 627] [9, 10, 11, 40, 41, 42] I A I2 A2 ∧ cTok A2 ∧ (I2 39 3 = ((xs X9 Y9 D9 0 (I 5 5) ++ (xbd (A 19) (A 20) (A 12) (A 13) X9 Y9 D9 (D9 (I 5 5) + 1) (I 18 3).toNat) ++ xs X9 Y9 D9 q N9).length : Int) ∧ gH (A2 40) (A2 41) (A2 42) (xs X9 Y9 D9 0 (I 5 5) ++ (xbd (A 19) (A 20) (A 12) (A 13) X9 Y9 D9 (D9 (I 5 5) + 1) (I 18 3).toNat) ++ xs X9 Y9 D9 q N9))))) 102 [(0, .ref (b + 5)), (1, .ref (b + 39)), (2, .ref (b + 18)), (3, .int (jI q)), (4, .int (jI e)), (5, .int (jI i))] [] (cmf b f0 J B) sz 0 0) : ∀ (n9 : Nat) (i : Int) (J : Nat → Nat → Int) (B : Nat → Int → Int), cPx [131, 627] [9, 10, 11, 40, 41, 42] I A J B → (0 ≤ i ∧ i ≤ I 18 3) → (cTok B) → (J 8 3 = ((xbd (A 19) (A 20) (A 12) (A 13) X9 Y9 D9 (D9 (I 5 5) + 1) i.toNat).length : Int)) → (gH (B 9) (B 10) (B 11) (xbd (A 19) (A 20) (A 12) (A 13) X9 Y9 D9 (D9 (I 5 5) + 1) i.toNat)) → (B 40 = X9) → (B 41 = Y9) → (B 42 = D9) → (J 39 3 = N9) → 40 - i < (n9 : Int) → jt (jm G Y_EX_putBody (gR (d + 2)) (cQ b f0 sz (fun (rv : Option Value) (I2 : Nat → Nat → Int) (A2 : Nat → Int → Int) => rv = none ∧ cPx [131, 627] [9, 10, 11, 40, 41, 42] I A I2 A2 ∧ cTok A2 ∧ (I2 39 3 = ((xs X9 Y9 D9 0 (I 5 5) ++ (xbd (A 19) (A 20) (A 12) (A 13) X9 Y9 D9 (D9 (I 5 5) + 1) (I 18 3).toNat) ++ xs X9 Y9 D9 q N9).length : Int) ∧ gH (A2 40) (A2 41) (A2 42) (xs X9 Y9 D9 0 (I 5 5) ++ (xbd (A 19) (A 20) (A 12) (A 13) X9 Y9 D9 (D9 (I 5 5) + 1) (I 18 3).toNat) ++ xs X9 Y9 D9 q N9))))) 24 [(0, .ref (b + 5)), (1, .ref (b + 39)), (2, .ref (b + 18)), (3, .int (jI q)), (4, .int (jI e)), (5, .int (jI i))] [] (cmf b f0 J B) sz 0 0 := by
  have r55 : 0 ≤ I 5 5 ∧ I 5 5 ≤ 300 := hI 5 5
  have r39 : 0 ≤ I 39 3 ∧ I 39 3 ≤ 300 := hI 39 3
  have rx3 : 0 ≤ I 18 3 ∧ I 18 3 ≤ 40 := hI 18 3
  intro n9
  induction n9 with
  | zero =>
    intro i J B hJ i0 hKJ hl hH cX cY cD cN hmeas
    have tk : gtok (B 19 i) (B 20 i) := hKJ 18 rfl i
    have f19 : B 19 = A 19 := hJ.2.2.2 19 rfl trivial
    have f20 : B 20 = A 20 := hJ.2.2.2 20 rfl trivial
    have f12 : B 12 = A 12 := hJ.2.2.2 12 rfl trivial
    have f13 : B 13 = A 13 := hJ.2.2.2 13 rfl trivial
    rw [f19, f20] at tk
    have tk2 := tk
    unfold gtok at tk
    have f55 : J 5 5 = I 5 5 := hJ.2.2.1 5 5 rfl
    have fx3 : J 18 3 = I 18 3 := hJ.2.2.1 18 3 rfl
    exfalso
    omega
  | succ n9 ih =>
    intro i J B hJ i0 hKJ hl hH cX cY cD cN hmeas
    have tk : gtok (B 19 i) (B 20 i) := hKJ 18 rfl i
    have f19 : B 19 = A 19 := hJ.2.2.2 19 rfl trivial
    have f20 : B 20 = A 20 := hJ.2.2.2 20 rfl trivial
    have f12 : B 12 = A 12 := hJ.2.2.2 12 rfl trivial
    have f13 : B 13 = A 13 := hJ.2.2.2 13 rfl trivial
    rw [f19, f20] at tk
    have tk2 := tk
    unfold gtok at tk
    have f55 : J 5 5 = I 5 5 := hJ.2.2.1 5 5 rfl
    have fx3 : J 18 3 = I 18 3 := hJ.2.2.1 18 3 rfl
    refine jt_iload d_EX_putBody_24 rfl ?_
    refine jt_aload_n d_EX_putBody_26 rfl ?_
    refine cm_get (k := 18) (v := .int (jI (J 18 3))) d_EX_putBody_27 EX_f38 (by decide) (cc_1 rfl) rfl ?_
    have rb101 : 0 ≤ J 18 3 ∧ J 18 3 ≤ 40 := hJ.1 18 3
    refine jt_icmp_ge (t := 102) d_EX_putBody_30 rfl (by unfold jRi; omega) (by unfold jRi; omega) (fun c102 => ?_) (fun c102 => ?_)
    · skip
      exact hout i J B hJ i0 hKJ hl hH cX cY cD cN (by omega)
    · skip
      refine jt_aload_n d_EX_putBody_33 rfl ?_
      refine cm_get (k := 18) (v := .ref (b + 20)) d_EX_putBody_34 EX_f55 (by decide) (cc_1 rfl) rfl ?_
      refine jt_iload d_EX_putBody_37 rfl ?_
      refine cm_ld0 (k := 20) (n := 40) (v := (B 20) i) d_EX_putBody_39 (by decide) rfl rfl (by omega) (by omega) (by omega) rfl ?_
      refine jt_topi (fun v103 ev103 => ?_)
      have bv103 : -2147483648 ≤ v103 ∧ v103 ≤ 2147483647 := by rw [ev103]; exact hJ.2.1 20 i
      rw [f20] at ev103
      refine jt_istore (L' := [(0, .ref (b + 5)), (1, .ref (b + 39)), (2, .ref (b + 18)), (3, .int (jI q)), (4, .int (jI e)), (5, .int (jI i)), (6, .int (jI v103))]) d_EX_putBody_40 (Nat.le_of_ble_eq_true rfl) rfl ?_
      refine jt_aload_n d_EX_putBody_42 rfl ?_
      refine cm_get (k := 18) (v := .ref (b + 19)) d_EX_putBody_43 EX_f48 (by decide) (cc_1 rfl) rfl ?_
      refine jt_iload d_EX_putBody_46 rfl ?_
      refine cm_ld0 (k := 19) (n := 40) (v := (B 19) i) d_EX_putBody_48 (by decide) rfl rfl (by omega) (by omega) (by omega) rfl ?_
      refine jt_topi (fun v104 ev104 => ?_)
      have bv104 : -2147483648 ≤ v104 ∧ v104 ≤ 2147483647 := by rw [ev104]; exact hJ.2.1 19 i
      rw [f19] at ev104
      refine jt_iconst d_EX_putBody_49 ?_
      refine jt_icmp_ne (t := 78) d_EX_putBody_50 rfl (by unfold jRi; omega) (by unfold jRi; omega) (fun c105 => ?_) (fun c105 => ?_)
      · skip
        have hk2 : ¬ A 19 i = 2 := by omega
        have es2 := xbd_s (A 19) (A 20) (A 12) (A 13) X9 Y9 D9 (D9 (I 5 5) + 1) i (by omega)
        unfold xb1 at es2
        rw [if_neg hk2] at es2
        have es := congrArg List.length es2
        rw [List.length_append] at es
        have hle := xbd_le (A 19) (A 20) (A 12) (A 13) X9 Y9 D9 (D9 (I 5 5) + 1) (i + 1).toNat (I 18 3).toNat (by omega)
        have es1 : (xbd (A 19) (A 20) (A 12) (A 13) X9 Y9 D9 (D9 (I 5 5) + 1) (i + 1).toNat).length = (xbd (A 19) (A 20) (A 12) (A 13) X9 Y9 D9 (D9 (I 5 5) + 1) i.toNat).length + 1 := es
        refine jt_aload_n d_EX_putBody_78 rfl ?_
        refine cm_get (k := 5) (v := .ref (b + 8)) d_EX_putBody_79 EX_f24 (by decide) cc_2 rfl ?_
        refine jt_aload_n d_EX_putBody_82 rfl ?_
        refine cm_get (k := 18) (v := .ref (b + 19)) d_EX_putBody_83 EX_f48 (by decide) (cc_1 rfl) rfl ?_
        refine jt_iload d_EX_putBody_86 rfl ?_
        refine cm_ld0 (k := 19) (n := 40) (v := (B 19) i) d_EX_putBody_88 (by decide) rfl rfl (by omega) (by omega) (by omega) rfl ?_
        refine jt_topi (fun v106 ev106 => ?_)
        have bv106 : -2147483648 ≤ v106 ∧ v106 ≤ 2147483647 := by rw [ev106]; exact hJ.2.1 19 i
        rw [f19] at ev106
        refine jt_iload d_EX_putBody_89 rfl ?_
        refine jt_iload d_EX_putBody_91 rfl ?_
        refine cct_callV (Y := Y_TR_add) (ci := 0) (k := 8) (As := [.int (jI v106), .int (jI v103), .int (jI e)]) (rest := []) d_EX_putBody_93 EX_c84 yk_TR_add yv_TR_add rfl (Nat.le_of_ble_eq_true rfl) (by decide) (cc_1 rfl) rfl rfl (Nat.le_of_ble_eq_true rfl) (v_TR_add_8_x G _ b v106 v103 e J B hJ.1 hJ.2.1 (by omega) (by omega) (by omega)) (fun rvq107 Iq107 Aq107 hq107 => ?_)
        obtain ⟨rfl, hqq107, hxq107⟩ := hq107
        have hpq107 := cPx.trans hJ hqq107 rfl rfl
        have cXq107 : Aq107 40 = X9 := (hqq107.2.2.2 40 rfl (by decide)).trans cX
        have cYq107 : Aq107 41 = Y9 := (hqq107.2.2.2 41 rfl (by decide)).trans cY
        have cDq107 : Aq107 42 = D9 := (hqq107.2.2.2 42 rfl (by decide)).trans cD
        have cNq107 : Iq107 39 3 = N9 := (hqq107.2.2.1 39 3 rfl).trans cN
        have m39_3q107 : Iq107 39 3 = J 39 3 := hqq107.2.2.1 39 3 rfl
        have m5_5q107 : Iq107 5 5 = J 5 5 := hqq107.2.2.1 5 5 rfl
        show jt _ 96 [(0, .ref (b + 5)), (1, .ref (b + 39)), (2, .ref (b + 18)), (3, .int (jI q)), (4, .int (jI e)), (5, .int (jI i)), (6, .int (jI v103))] [] (cmf b f0 Iq107 Aq107) _ _ _
        refine jt_iinc (L' := [(0, .ref (b + 5)), (1, .ref (b + 39)), (2, .ref (b + 18)), (3, .int (jI q)), (4, .int (jI e)), (5, .int (jI (i + 1))), (6, .int (jI v103))]) d_EX_putBody_96 rfl (Nat.le_of_ble_eq_true rfl) rfl ?_
        refine jt_goto (t := 24) d_EX_putBody_99 rfl ?_
        refine jt_sub (L' := [(0, .ref (b + 5)), (1, .ref (b + 39)), (2, .ref (b + 18)), (3, .int (jI q)), (4, .int (jI e)), (5, .int (jI (i + 1)))]) (fun _ h => List.mem_append_left [(6, Value.int (jI v103))] h) ?_
        exact ih (i + 1) Iq107 Aq107 hpq107 (by omega) (hxq107.1 hKJ (by rw [ev106, ev103]; exact tk2)) (show Iq107 8 3 = ((xbd (A 19) (A 20) (A 12) (A 13) X9 Y9 D9 (D9 (I 5 5) + 1) (i + 1).toNat).length : Int) by have h9 := (hxq107.2 (by omega)).1; omega) (by have h9 := (hxq107.2 (by omega)).2 _ hl.symm hH; rw [e0] at h9; rw [es2, ← ev106, ← ev103]; exact h9) cXq107 cYq107 cDq107 cNq107 (by omega)
      · skip
        have hk2 : A 19 i = 2 := by omega
        have es2 := xbd_s (A 19) (A 20) (A 12) (A 13) X9 Y9 D9 (D9 (I 5 5) + 1) i (by omega)
        unfold xb1 at es2
        rw [if_pos hk2] at es2
        have es := congrArg List.length es2
        rw [List.length_append] at es
        have hle := xbd_le (A 19) (A 20) (A 12) (A 13) X9 Y9 D9 (D9 (I 5 5) + 1) (i + 1).toNat (I 18 3).toNat (by omega)
        rw [xs_len] at es
        have q9 := hb i (by omega) (by omega) hk2
        rw [← ev103] at q9 es es2
        refine jt_aload_n d_EX_putBody_53 rfl ?_
        refine cm_get (k := 5) (v := .ref (b + 8)) d_EX_putBody_54 EX_f24 (by decide) cc_2 rfl ?_
        refine jt_aload_n d_EX_putBody_57 rfl ?_
        refine jt_aload_n d_EX_putBody_58 rfl ?_
        refine cm_get (k := 5) (v := .ref (b + 12)) d_EX_putBody_59 EX_f28 (by decide) cc_2 rfl ?_
        refine jt_iload d_EX_putBody_62 rfl ?_
        refine cm_ld0 (k := 12) (n := 3) (v := (B 12) v103) d_EX_putBody_64 (by decide) rfl rfl (by omega) (by omega) (by omega) rfl ?_
        refine jt_topi (fun v108 ev108 => ?_)
        have bv108 : 0 ≤ v108 ∧ v108 ≤ 300 := by rw [ev108]; exact hJ.2.1 12 v103
        rw [f12] at ev108
        refine jt_aload_n d_EX_putBody_65 rfl ?_
        refine cm_get (k := 5) (v := .ref (b + 13)) d_EX_putBody_66 EX_f31 (by decide) cc_2 rfl ?_
        refine jt_iload d_EX_putBody_69 rfl ?_
        refine cm_ld0 (k := 13) (n := 3) (v := (B 13) v103) d_EX_putBody_71 (by decide) rfl rfl (by omega) (by omega) (by omega) rfl ?_
        refine jt_topi (fun v109 ev109 => ?_)
        have bv109 : 0 ≤ v109 ∧ v109 ≤ 300 := by rw [ev109]; exact hJ.2.1 13 v103
        rw [f13] at ev109
        refine cct_callV (Y := Y_TR_addAll) (ci := 0) (k := 8) (As := [.ref (b + 39), .int (jI v108), .int (jI v109)]) (rest := []) d_EX_putBody_72 EX_c80 yk_TR_addAll yv_TR_addAll rfl (Nat.le_of_ble_eq_true rfl) (by decide) (cc_1 rfl) rfl rfl (Nat.le_of_ble_eq_true rfl) (v_TR_addAll_8_39_x G _ b v108 v109 J B hJ.1 hJ.2.1 (by omega) (by omega)) (fun rvq110 Iq110 Aq110 hq110 => ?_)
        obtain ⟨rfl, hqq110, hxq110⟩ := hq110
        have hpq110 := cPx.trans hJ hqq110 rfl rfl
        have cXq110 : Aq110 40 = X9 := (hqq110.2.2.2 40 rfl (by decide)).trans cX
        have cYq110 : Aq110 41 = Y9 := (hqq110.2.2.2 41 rfl (by decide)).trans cY
        have cDq110 : Aq110 42 = D9 := (hqq110.2.2.2 42 rfl (by decide)).trans cD
        have cNq110 : Iq110 39 3 = N9 := (hqq110.2.2.1 39 3 rfl).trans cN
        have m39_3q110 : Iq110 39 3 = J 39 3 := hqq110.2.2.1 39 3 rfl
        have m5_5q110 : Iq110 5 5 = J 5 5 := hqq110.2.2.1 5 5 rfl
        show jt _ 75 [(0, .ref (b + 5)), (1, .ref (b + 39)), (2, .ref (b + 18)), (3, .int (jI q)), (4, .int (jI e)), (5, .int (jI i)), (6, .int (jI v103))] [] (cmf b f0 Iq110 Aq110) _ _ _
        refine jt_goto (t := 96) d_EX_putBody_75 rfl ?_
        refine jt_iinc (L' := [(0, .ref (b + 5)), (1, .ref (b + 39)), (2, .ref (b + 18)), (3, .int (jI q)), (4, .int (jI e)), (5, .int (jI (i + 1))), (6, .int (jI v103))]) d_EX_putBody_96 rfl (Nat.le_of_ble_eq_true rfl) rfl ?_
        refine jt_goto (t := 24) d_EX_putBody_99 rfl ?_
        refine jt_sub (L' := [(0, .ref (b + 5)), (1, .ref (b + 39)), (2, .ref (b + 18)), (3, .int (jI q)), (4, .int (jI e)), (5, .int (jI (i + 1)))]) (fun _ h => List.mem_append_left [(6, Value.int (jI v103))] h) ?_
        exact ih (i + 1) Iq110 Aq110 hpq110 (by omega) (hxq110.1 hKJ) (show Iq110 8 3 = ((xbd (A 19) (A 20) (A 12) (A 13) X9 Y9 D9 (D9 (I 5 5) + 1) (i + 1).toNat).length : Int) by have h9 := (hxq110.2 (by omega) (by omega)).1; omega) (by have h9 := (hxq110.2 (by omega) (by omega)).2 _ hl.symm hH; rw [cX, cY, cD] at h9; rw [es2, ← ev108, ← ev109]; exact h9) cXq110 cYq110 cDq110 cNq110 (by omega)
set_option maxRecDepth 100000 in
set_option maxHeartbeats 4000000 in
theorem v_EX_putBody_18_x (G : jG) (d b : Nat) (q : Int) (I : Nat → Nat → Int) (A : Nat → Int → Int) (hI : cSI I) (hA : cSA A) (hK : cTok A) (X9 : Int → Int) (hX : A 40 = X9) (Y9 : Int → Int) (hY : A 41 = Y9) (D9 : Int → Int) (hD : A 42 = D9) (N9 : Int) (hN : I 39 3 = N9) (hq : I 5 5 < q ∧ q ≤ N9) (hb : ∀ j, 0 ≤ j → j < I 18 3 → A 19 j = 2 → 0 ≤ A 12 (A 20 j) ∧ A 12 (A 20 j) ≤ A 13 (A 20 j) ∧ A 13 (A 20 j) ≤ N9) (hlen : I 5 5 + N9 - q + ((xbd (A 19) (A 20) (A 12) (A 13) X9 Y9 D9 (D9 (I 5 5) + 1) (I 18 3).toNat).length : Int) ≤ 300) (hd : 0 ≤ D9 (I 5 5) ∧ D9 (I 5 5) ≤ 6) : cct G Y_EX_putBody (d + 2) b [.ref (b + 5), .ref (b + 39), .ref (b + 18), .int (jI q)] I A (fun (rv : Option Value) (I2 : Nat → Nat → Int) (A2 : Nat → Int → Int) => rv = none ∧ cPx [131, 627] [9, 10, 11, 40, 41, 42] I A I2 A2 ∧ cTok A2 ∧ (I2 39 3 = ((xs X9 Y9 D9 0 (I 5 5) ++ (xbd (A 19) (A 20) (A 12) (A 13) X9 Y9 D9 (D9 (I 5 5) + 1) (I 18 3).toNat) ++ xs X9 Y9 D9 q N9).length : Int) ∧ gH (A2 40) (A2 41) (A2 42) (xs X9 Y9 D9 0 (I 5 5) ++ (xbd (A 19) (A 20) (A 12) (A 13) X9 Y9 D9 (D9 (I 5 5) + 1) (I 18 3).toNat) ++ xs X9 Y9 D9 q N9))) := by
  refine cct_of (by decide) (Nat.le_of_ble_eq_true rfl) (fun f0 sz => ?_)
  show jt _ 0 [(0, .ref (b + 5)), (1, .ref (b + 39)), (2, .ref (b + 18)), (3, .int (jI q))] [] _ _ _ _
  have r55 : 0 ≤ I 5 5 ∧ I 5 5 ≤ 300 := hI 5 5
  have r39 : 0 ≤ I 39 3 ∧ I 39 3 ≤ 300 := hI 39 3
  have rx3 : 0 ≤ I 18 3 ∧ I 18 3 ≤ 40 := hI 18 3
  have hz0 : cPx [131, 627] [9, 10, 11, 40, 41, 42] I A I A := cPx.refl hI hA
  refine jt_aload_n d_EX_putBody_0 rfl ?_
  refine cm_get (k := 39) (v := .ref (b + 42)) d_EX_putBody_1 EX_f58 (by decide) (cc_1 rfl) rfl ?_
  refine jt_aload_n d_EX_putBody_4 rfl ?_
  refine cm_get (k := 5) (v := .int (jI (I 5 5))) d_EX_putBody_5 EX_f42 (by decide) cc_2 rfl ?_
  have rb1 : 0 ≤ I 5 5 ∧ I 5 5 ≤ 300 := hz0.1 5 5
  refine cm_ld0 (k := 42) (n := 300) (v := (A 42) (I 5 5)) d_EX_putBody_8 (by decide) rfl rfl (by omega) (by omega) (by omega) rfl ?_
  refine jt_topi (fun v2 ev2 => ?_)
  have bv2 : -2147483648 ≤ v2 ∧ v2 ≤ 2147483647 := by rw [ev2]; exact hz0.2.1 42 (I 5 5)
  rw [hD] at ev2
  refine jt_iconst d_EX_putBody_9 ?_
  refine jt_iadd d_EX_putBody_10 ?_
  refine jt_topi (fun v3 ev3 => ?_)
  refine jt_istore (L' := [(0, .ref (b + 5)), (1, .ref (b + 39)), (2, .ref (b + 18)), (3, .int (jI q)), (4, .int (jI v3))]) d_EX_putBody_11 (Nat.le_of_ble_eq_true rfl) rfl ?_
  refine jt_aload_n d_EX_putBody_13 rfl ?_
  refine cm_get (k := 5) (v := .ref (b + 8)) d_EX_putBody_14 EX_f24 (by decide) cc_2 rfl ?_
  refine jt_iconst d_EX_putBody_17 ?_
  refine cm_put (k := 8) (j := 3) (v := 0) d_EX_putBody_18 (EX_w38 _ rfl) (by decide) (cc_1 rfl) rfl rfl (Nat.le_of_ble_eq_true rfl) rfl ?_
  have p4 := cPx.I 8 3 0 hz0 rfl (show 0 ≤ 0 ∧ 0 ≤ 300 by omega)
  refine jt_iconst d_EX_putBody_21 ?_
  refine jt_istore (L' := [(0, .ref (b + 5)), (1, .ref (b + 39)), (2, .ref (b + 18)), (3, .int (jI q)), (4, .int (jI v3)), (5, .int (jI 0))]) d_EX_putBody_22 (Nat.le_of_ble_eq_true rfl) rfl ?_
  refine l24_EX_putBody_18_xv G d b q I A hI hA hK X9 hX Y9 hY D9 hD N9 hN hq hb hlen hd f0 sz v3 ((by omega)) (fun io5 Jo5 Bo5 hJo5 i0o5 hKJo5 hlo5 hHo5 cXo5 cYo5 cDo5 cNo5 ixo5 => ?_) 41 0 (cu I 8 3 0) A p4 (by omega) hK (show (0 : Int) = (((xbd (A 19) (A 20) (A 12) (A 13) X9 Y9 D9 (D9 (I 5 5) + 1) 0).length : Nat) : Int) from rfl) (fun i t h => by simp [xbd] at h) hX hY hD hN (by omega)
  refine jt_aload_n d_EX_putBody_102 rfl ?_
  refine cm_get (k := 5) (v := .ref (b + 8)) d_EX_putBody_103 EX_f24 (by decide) cc_2 rfl ?_
  refine jt_aload_n d_EX_putBody_106 rfl ?_
  refine jt_iload_n d_EX_putBody_107 rfl ?_
  refine jt_aload_n d_EX_putBody_108 rfl ?_
  refine cm_get (k := 39) (v := .int (jI (Jo5 39 3))) d_EX_putBody_109 EX_f38 (by decide) (cc_1 rfl) rfl ?_
  have rb6 : 0 ≤ Jo5 39 3 ∧ Jo5 39 3 ≤ 300 := hJo5.1 39 3
  refine cct_callV (Y := Y_TR_addAll) (ci := 0) (k := 8) (As := [.ref (b + 39), .int (jI q), .int (jI (Jo5 39 3))]) (rest := []) d_EX_putBody_112 EX_c80 yk_TR_addAll yv_TR_addAll rfl (Nat.le_of_ble_eq_true rfl) (by decide) (cc_1 rfl) rfl rfl (Nat.le_of_ble_eq_true rfl) (v_TR_addAll_8_39_x G _ b q (Jo5 39 3) Jo5 Bo5 hJo5.1 hJo5.2.1 (by omega) (by omega)) (fun rvq7 Iq7 Aq7 hq7 => ?_)
  obtain ⟨rfl, hqq7, hxq7⟩ := hq7
  have hpq7 := cPx.trans hJo5 hqq7 rfl rfl
  have cXq7 : Aq7 40 = X9 := (hqq7.2.2.2 40 rfl (by decide)).trans cXo5
  have cYq7 : Aq7 41 = Y9 := (hqq7.2.2.2 41 rfl (by decide)).trans cYo5
  have cDq7 : Aq7 42 = D9 := (hqq7.2.2.2 42 rfl (by decide)).trans cDo5
  have cNq7 : Iq7 39 3 = N9 := (hqq7.2.2.1 39 3 rfl).trans cNo5
  have m39_3q7 : Iq7 39 3 = Jo5 39 3 := hqq7.2.2.1 39 3 rfl
  have m5_5q7 : Iq7 5 5 = Jo5 5 5 := hqq7.2.2.1 5 5 rfl
  show jt _ 115 [(0, .ref (b + 5)), (1, .ref (b + 39)), (2, .ref (b + 18)), (3, .int (jI q)), (4, .int (jI v3)), (5, .int (jI io5))] [] (cmf b f0 Iq7 Aq7) _ _ _
  refine jt_aload_n d_EX_putBody_115 rfl ?_
  refine jt_aload_n d_EX_putBody_116 rfl ?_
  refine cm_get (k := 5) (v := .int (jI (Iq7 5 5))) d_EX_putBody_117 EX_f42 (by decide) cc_2 rfl ?_
  have rb8 : 0 ≤ Iq7 5 5 ∧ Iq7 5 5 ≤ 300 := hpq7.1 5 5
  refine cm_put (k := 39) (j := 3) (v := (Iq7 5 5)) d_EX_putBody_120 (EX_w38 _ rfl) (by decide) (cc_1 rfl) rfl rfl (Nat.le_of_ble_eq_true rfl) rfl ?_
  have p9 := cPx.I 39 3 (Iq7 5 5) hpq7 rfl (show 0 ≤ Iq7 5 5 ∧ Iq7 5 5 ≤ 300 by omega)
  refine jt_aload_n d_EX_putBody_123 rfl ?_
  refine jt_aload_n d_EX_putBody_124 rfl ?_
  refine cm_get (k := 5) (v := .ref (b + 8)) d_EX_putBody_125 EX_f24 (by decide) cc_2 rfl ?_
  refine jt_iconst d_EX_putBody_128 ?_
  refine jt_aload_n d_EX_putBody_129 rfl ?_
  refine cm_get (k := 5) (v := .ref (b + 8)) d_EX_putBody_130 EX_f24 (by decide) cc_2 rfl ?_
  refine cm_get (k := 8) (v := .int (jI (Iq7 8 3))) d_EX_putBody_133 EX_f38 (by decide) (cc_1 rfl) rfl ?_
  have rb10 : 0 ≤ Iq7 8 3 ∧ Iq7 8 3 ≤ 300 := p9.1 8 3
  refine cct_callV (Y := Y_TR_addAll) (ci := 0) (k := 39) (As := [.ref (b + 8), .int (jI 0), .int (jI (Iq7 8 3))]) (rest := []) d_EX_putBody_136 EX_c80 yk_TR_addAll yv_TR_addAll rfl (Nat.le_of_ble_eq_true rfl) (by decide) (cc_1 rfl) rfl rfl (Nat.le_of_ble_eq_true rfl) (v_TR_addAll_39_8_x G _ b 0 (Iq7 8 3) (cu Iq7 39 3 (Iq7 5 5)) Aq7 p9.1 p9.2.1 (by omega) (by omega)) (fun rvq11 Iq11 Aq11 hq11 => ?_)
  obtain ⟨rfl, hqq11, hxq11⟩ := hq11
  have hpq11 := cPx.trans p9 hqq11 rfl rfl
  have s39_3q11 : (cu Iq7 39 3 (Iq7 5 5)) 39 3 = Iq7 5 5 := rfl
  have s5_5q11 : (cu Iq7 39 3 (Iq7 5 5)) 5 5 = Iq7 5 5 := rfl
  have s8_3q11 : (cu Iq7 39 3 (Iq7 5 5)) 8 3 = Iq7 8 3 := rfl
  have m5_5q11 : Iq11 5 5 = Iq7 5 5 := hqq11.2.2.1 5 5 rfl
  have m8_3q11 : Iq11 8 3 = Iq7 8 3 := hqq11.2.2.1 8 3 rfl
  show jt _ 139 [(0, .ref (b + 5)), (1, .ref (b + 39)), (2, .ref (b + 18)), (3, .int (jI q)), (4, .int (jI v3)), (5, .int (jI io5))] [] (cmf b f0 Iq11 Aq11) _ _ _
  exact cm_vret d_EX_putBody_139 rfl (⟨rfl, hpq11, (hxq11.1 (hxq7.1 hKJo5)), by
      have f55 : Jo5 5 5 = I 5 5 := hJo5.2.2.1 5 5 rfl
      have lb : Jo5 8 3 = ((xbd (A 19) (A 20) (A 12) (A 13) X9 Y9 D9 (D9 (I 5 5) + 1) (I 18 3).toNat).length : Int) := by rw [hlo5, show io5 = I 18 3 by omega]
      have gb : gH (Bo5 9) (Bo5 10) (Bo5 11) (xbd (A 19) (A 20) (A 12) (A 13) X9 Y9 D9 (D9 (I 5 5) + 1) (I 18 3).toNat) := by have h9 := hHo5; rw [show io5 = I 18 3 by omega] at h9; exact h9
      have h1 := hxq7.2 (by omega) (by omega)
      have g1 := h1.2 _ lb.symm gb
      rw [cXo5, cYo5, cDo5, cNo5] at g1
      have l1 := xs_len X9 Y9 D9 q N9
      have l0 := xs_len X9 Y9 D9 0 (I 5 5)
      have g3 := gH_at g1 (by rw [List.length_append]; omega)
      have h2 := hxq11.2 (by omega) (show Iq7 5 5 + (Iq7 8 3 - 0) ≤ 300 by omega)
      have g2 := h2.2 (xs X9 Y9 D9 0 (I 5 5)) (show _ = Iq7 5 5 by omega) (show gH (Aq7 40) (Aq7 41) (Aq7 42) _ by rw [cXq7, cYq7, cDq7]; exact gH_xs _ _ _ _)
      have h3 : Iq11 39 3 = Iq7 5 5 + (Iq7 8 3 - 0) := h2.1
      have g4 : xs (Aq7 9) (Aq7 10) (Aq7 11) 0 (Iq7 8 3) = (xbd (A 19) (A 20) (A 12) (A 13) X9 Y9 D9 (D9 (I 5 5) + 1) (I 18 3).toNat) ++ xs X9 Y9 D9 q N9 := by rw [show Iq7 8 3 = (((xbd (A 19) (A 20) (A 12) (A 13) X9 Y9 D9 (D9 (I 5 5) + 1) (I 18 3).toNat) ++ xs X9 Y9 D9 q N9).length : Int) by rw [List.length_append]; omega]; exact g3.symm
      have g5 : gH (Aq11 40) (Aq11 41) (Aq11 42) (xs X9 Y9 D9 0 (I 5 5) ++ xs (Aq7 9) (Aq7 10) (Aq7 11) 0 (Iq7 8 3)) := g2
      rw [g4, ← List.append_assoc] at g5
      exact ⟨by rw [List.length_append, List.length_append]; omega, g5⟩⟩)
set_option maxRecDepth 100000 in
set_option maxHeartbeats 4000000 in
theorem l24_EX_putBody_22_xv (G : jG) (d b : Nat) (q : Int) (I : Nat → Nat → Int) (A : Nat → Int → Int) (hI : cSI I) (hA : cSA A) (hK : cTok A) (X9 : Int → Int) (hX : A 40 = X9) (Y9 : Int → Int) (hY : A 41 = Y9) (D9 : Int → Int) (hD : A 42 = D9) (N9 : Int) (hN : I 39 3 = N9) (hq : I 5 5 < q ∧ q ≤ N9) (hb : ∀ j, 0 ≤ j → j < I 22 3 → A 23 j = 2 → 0 ≤ A 12 (A 24 j) ∧ A 12 (A 24 j) ≤ A 13 (A 24 j) ∧ A 13 (A 24 j) ≤ N9) (hlen : I 5 5 + N9 - q + ((xbd (A 23) (A 24) (A 12) (A 13) X9 Y9 D9 (D9 (I 5 5) + 1) (I 22 3).toNat).length : Int) ≤ 300) (hd : 0 ≤ D9 (I 5 5) ∧ D9 (I 5 5) ≤ 6) (f0 : jF) (sz : Nat)  (e : Int) (e0 : e = D9 (I 5 5) + 1) (hout : ∀ (i : Int) (J : Nat → Nat → Int) (B : Nat → Int → Int), cPx [131, 627] [9, 10, 11, 40, 41, 42] I A J B → (0 ≤ i ∧ i ≤ I 22 3) → (cTok B) → (J 8 3 = ((xbd (A 23) (A 24) (A 12) (A 13) X9 Y9 D9 (D9 (I 5 5) + 1) i.toNat).length : Int)) → (gH (B 9) (B 10) (B 11) (xbd (A 23) (A 24) (A 12) (A 13) X9 Y9 D9 (D9 (I 5 5) + 1) i.toNat)) → (B 40 = X9) → (B 41 = Y9) → (B 42 = D9) → (J 39 3 = N9) → (i = I 22 3) → jt (jm G Y_EX_putBody (gR (d + 2)) (cQ b f0 sz (fun (rv : Option Value) (I2 : Nat → Nat → Int) (A2 : Nat → Int → Int) => rv = none ∧ cPx [131, 627] [9, 10, 11, 40, 41, 42] I A I2 A2 ∧ cTok A2 ∧ (I2 39 3 = ((xs X9 Y9 D9 0 (I 5 5) ++ (xbd (A 23) (A 24) (A 12) (A 13) X9 Y9 D9 (D9 (I 5 5) + 1) (I 22 3).toNat) ++ xs X9 Y9 D9 q N9).length : Int) ∧ gH (A2 40) (A2 41) (A2 42) (xs X9 Y9 D9 0 (I 5 5) ++ (xbd (A 23) (A 24) (A 12) (A 13) X9 Y9 D9 (D9 (I 5 5) + 1) (I 22 3).toNat) ++ xs X9 Y9 D9 q N9))))) 102 [(0, .ref (b + 5)), (1, .ref (b + 39)), (2, .ref (b + 22)), (3, .int (jI q)), (4, .int (jI e)), (5, .int (jI i))] [] (cmf b f0 J B) sz 0 0) : ∀ (n9 : Nat) (i : Int) (J : Nat → Nat → Int) (B : Nat → Int → Int), cPx [131, 627] [9, 10, 11, 40, 41, 42] I A J B → (0 ≤ i ∧ i ≤ I 22 3) → (cTok B) → (J 8 3 = ((xbd (A 23) (A 24) (A 12) (A 13) X9 Y9 D9 (D9 (I 5 5) + 1) i.toNat).length : Int)) → (gH (B 9) (B 10) (B 11) (xbd (A 23) (A 24) (A 12) (A 13) X9 Y9 D9 (D9 (I 5 5) + 1) i.toNat)) → (B 40 = X9) → (B 41 = Y9) → (B 42 = D9) → (J 39 3 = N9) → 40 - i < (n9 : Int) → jt (jm G Y_EX_putBody (gR (d + 2)) (cQ b f0 sz (fun (rv : Option Value) (I2 : Nat → Nat → Int) (A2 : Nat → Int → Int) => rv = none ∧ cPx [131, 627] [9, 10, 11, 40, 41, 42] I A I2 A2 ∧ cTok A2 ∧ (I2 39 3 = ((xs X9 Y9 D9 0 (I 5 5) ++ (xbd (A 23) (A 24) (A 12) (A 13) X9 Y9 D9 (D9 (I 5 5) + 1) (I 22 3).toNat) ++ xs X9 Y9 D9 q N9).length : Int) ∧ gH (A2 40) (A2 41) (A2 42) (xs X9 Y9 D9 0 (I 5 5) ++ (xbd (A 23) (A 24) (A 12) (A 13) X9 Y9 D9 (D9 (I 5 5) + 1) (I 22 3).toNat) ++ xs X9 Y9 D9 q N9))))) 24 [(0, .ref (b + 5)), (1, .ref (b + 39)), (2, .ref (b + 22)), (3, .int (jI q)), (4, .int (jI e)), (5, .int (jI i))] [] (cmf b f0 J B) sz 0 0 := by
  have r55 : 0 ≤ I 5 5 ∧ I 5 5 ≤ 300 := hI 5 5
  have r39 : 0 ≤ I 39 3 ∧ I 39 3 ≤ 300 := hI 39 3
  have rx3 : 0 ≤ I 22 3 ∧ I 22 3 ≤ 40 := hI 22 3
  intro n9
  induction n9 with
  | zero =>
    intro i J B hJ i0 hKJ hl hH cX cY cD cN hmeas
    have tk : gtok (B 23 i) (B 24 i) := hKJ 22 rfl i
    have f23 : B 23 = A 23 := hJ.2.2.2 23 rfl trivial
    have f24 : B 24 = A 24 := hJ.2.2.2 24 rfl trivial
    have f12 : B 12 = A 12 := hJ.2.2.2 12 rfl trivial
    have f13 : B 13 = A 13 := hJ.2.2.2 13 rfl trivial
    rw [f23, f24] at tk
    have tk2 := tk
    unfold gtok at tk
    have f55 : J 5 5 = I 5 5 := hJ.2.2.1 5 5 rfl
    have fx3 : J 22 3 = I 22 3 := hJ.2.2.1 22 3 rfl
    exfalso
    omega
  | succ n9 ih =>
    intro i J B hJ i0 hKJ hl hH cX cY cD cN hmeas
    have tk : gtok (B 23 i) (B 24 i) := hKJ 22 rfl i
    have f23 : B 23 = A 23 := hJ.2.2.2 23 rfl trivial
    have f24 : B 24 = A 24 := hJ.2.2.2 24 rfl trivial
    have f12 : B 12 = A 12 := hJ.2.2.2 12 rfl trivial
    have f13 : B 13 = A 13 := hJ.2.2.2 13 rfl trivial
    rw [f23, f24] at tk
    have tk2 := tk
    unfold gtok at tk
    have f55 : J 5 5 = I 5 5 := hJ.2.2.1 5 5 rfl
    have fx3 : J 22 3 = I 22 3 := hJ.2.2.1 22 3 rfl
    refine jt_iload d_EX_putBody_24 rfl ?_
    refine jt_aload_n d_EX_putBody_26 rfl ?_
    refine cm_get (k := 22) (v := .int (jI (J 22 3))) d_EX_putBody_27 EX_f38 (by decide) (cc_1 rfl) rfl ?_
    have rb101 : 0 ≤ J 22 3 ∧ J 22 3 ≤ 40 := hJ.1 22 3
    refine jt_icmp_ge (t := 102) d_EX_putBody_30 rfl (by unfold jRi; omega) (by unfold jRi; omega) (fun c102 => ?_) (fun c102 => ?_)
    · skip
      exact hout i J B hJ i0 hKJ hl hH cX cY cD cN (by omega)
    · skip
      refine jt_aload_n d_EX_putBody_33 rfl ?_
      refine cm_get (k := 22) (v := .ref (b + 24)) d_EX_putBody_34 EX_f55 (by decide) (cc_1 rfl) rfl ?_
      refine jt_iload d_EX_putBody_37 rfl ?_
      refine cm_ld0 (k := 24) (n := 40) (v := (B 24) i) d_EX_putBody_39 (by decide) rfl rfl (by omega) (by omega) (by omega) rfl ?_
      refine jt_topi (fun v103 ev103 => ?_)
      have bv103 : -2147483648 ≤ v103 ∧ v103 ≤ 2147483647 := by rw [ev103]; exact hJ.2.1 24 i
      rw [f24] at ev103
      refine jt_istore (L' := [(0, .ref (b + 5)), (1, .ref (b + 39)), (2, .ref (b + 22)), (3, .int (jI q)), (4, .int (jI e)), (5, .int (jI i)), (6, .int (jI v103))]) d_EX_putBody_40 (Nat.le_of_ble_eq_true rfl) rfl ?_
      refine jt_aload_n d_EX_putBody_42 rfl ?_
      refine cm_get (k := 22) (v := .ref (b + 23)) d_EX_putBody_43 EX_f48 (by decide) (cc_1 rfl) rfl ?_
      refine jt_iload d_EX_putBody_46 rfl ?_
      refine cm_ld0 (k := 23) (n := 40) (v := (B 23) i) d_EX_putBody_48 (by decide) rfl rfl (by omega) (by omega) (by omega) rfl ?_
      refine jt_topi (fun v104 ev104 => ?_)
      have bv104 : -2147483648 ≤ v104 ∧ v104 ≤ 2147483647 := by rw [ev104]; exact hJ.2.1 23 i
      rw [f23] at ev104
      refine jt_iconst d_EX_putBody_49 ?_
      refine jt_icmp_ne (t := 78) d_EX_putBody_50 rfl (by unfold jRi; omega) (by unfold jRi; omega) (fun c105 => ?_) (fun c105 => ?_)
      · skip
        have hk2 : ¬ A 23 i = 2 := by omega
        have es2 := xbd_s (A 23) (A 24) (A 12) (A 13) X9 Y9 D9 (D9 (I 5 5) + 1) i (by omega)
        unfold xb1 at es2
        rw [if_neg hk2] at es2
        have es := congrArg List.length es2
        rw [List.length_append] at es
        have hle := xbd_le (A 23) (A 24) (A 12) (A 13) X9 Y9 D9 (D9 (I 5 5) + 1) (i + 1).toNat (I 22 3).toNat (by omega)
        have es1 : (xbd (A 23) (A 24) (A 12) (A 13) X9 Y9 D9 (D9 (I 5 5) + 1) (i + 1).toNat).length = (xbd (A 23) (A 24) (A 12) (A 13) X9 Y9 D9 (D9 (I 5 5) + 1) i.toNat).length + 1 := es
        refine jt_aload_n d_EX_putBody_78 rfl ?_
        refine cm_get (k := 5) (v := .ref (b + 8)) d_EX_putBody_79 EX_f24 (by decide) cc_2 rfl ?_
        refine jt_aload_n d_EX_putBody_82 rfl ?_
        refine cm_get (k := 22) (v := .ref (b + 23)) d_EX_putBody_83 EX_f48 (by decide) (cc_1 rfl) rfl ?_
        refine jt_iload d_EX_putBody_86 rfl ?_
        refine cm_ld0 (k := 23) (n := 40) (v := (B 23) i) d_EX_putBody_88 (by decide) rfl rfl (by omega) (by omega) (by omega) rfl ?_
        refine jt_topi (fun v106 ev106 => ?_)
        have bv106 : -2147483648 ≤ v106 ∧ v106 ≤ 2147483647 := by rw [ev106]; exact hJ.2.1 23 i
        rw [f23] at ev106
        refine jt_iload d_EX_putBody_89 rfl ?_
        refine jt_iload d_EX_putBody_91 rfl ?_
        refine cct_callV (Y := Y_TR_add) (ci := 0) (k := 8) (As := [.int (jI v106), .int (jI v103), .int (jI e)]) (rest := []) d_EX_putBody_93 EX_c84 yk_TR_add yv_TR_add rfl (Nat.le_of_ble_eq_true rfl) (by decide) (cc_1 rfl) rfl rfl (Nat.le_of_ble_eq_true rfl) (v_TR_add_8_x G _ b v106 v103 e J B hJ.1 hJ.2.1 (by omega) (by omega) (by omega)) (fun rvq107 Iq107 Aq107 hq107 => ?_)
        obtain ⟨rfl, hqq107, hxq107⟩ := hq107
        have hpq107 := cPx.trans hJ hqq107 rfl rfl
        have cXq107 : Aq107 40 = X9 := (hqq107.2.2.2 40 rfl (by decide)).trans cX
        have cYq107 : Aq107 41 = Y9 := (hqq107.2.2.2 41 rfl (by decide)).trans cY
        have cDq107 : Aq107 42 = D9 := (hqq107.2.2.2 42 rfl (by decide)).trans cD
        have cNq107 : Iq107 39 3 = N9 := (hqq107.2.2.1 39 3 rfl).trans cN
        have m39_3q107 : Iq107 39 3 = J 39 3 := hqq107.2.2.1 39 3 rfl
        have m5_5q107 : Iq107 5 5 = J 5 5 := hqq107.2.2.1 5 5 rfl
        show jt _ 96 [(0, .ref (b + 5)), (1, .ref (b + 39)), (2, .ref (b + 22)), (3, .int (jI q)), (4, .int (jI e)), (5, .int (jI i)), (6, .int (jI v103))] [] (cmf b f0 Iq107 Aq107) _ _ _
        refine jt_iinc (L' := [(0, .ref (b + 5)), (1, .ref (b + 39)), (2, .ref (b + 22)), (3, .int (jI q)), (4, .int (jI e)), (5, .int (jI (i + 1))), (6, .int (jI v103))]) d_EX_putBody_96 rfl (Nat.le_of_ble_eq_true rfl) rfl ?_
        refine jt_goto (t := 24) d_EX_putBody_99 rfl ?_
        refine jt_sub (L' := [(0, .ref (b + 5)), (1, .ref (b + 39)), (2, .ref (b + 22)), (3, .int (jI q)), (4, .int (jI e)), (5, .int (jI (i + 1)))]) (fun _ h => List.mem_append_left [(6, Value.int (jI v103))] h) ?_
        exact ih (i + 1) Iq107 Aq107 hpq107 (by omega) (hxq107.1 hKJ (by rw [ev106, ev103]; exact tk2)) (show Iq107 8 3 = ((xbd (A 23) (A 24) (A 12) (A 13) X9 Y9 D9 (D9 (I 5 5) + 1) (i + 1).toNat).length : Int) by have h9 := (hxq107.2 (by omega)).1; omega) (by have h9 := (hxq107.2 (by omega)).2 _ hl.symm hH; rw [e0] at h9; rw [es2, ← ev106, ← ev103]; exact h9) cXq107 cYq107 cDq107 cNq107 (by omega)
      · skip
        have hk2 : A 23 i = 2 := by omega
        have es2 := xbd_s (A 23) (A 24) (A 12) (A 13) X9 Y9 D9 (D9 (I 5 5) + 1) i (by omega)
        unfold xb1 at es2
        rw [if_pos hk2] at es2
        have es := congrArg List.length es2
        rw [List.length_append] at es
        have hle := xbd_le (A 23) (A 24) (A 12) (A 13) X9 Y9 D9 (D9 (I 5 5) + 1) (i + 1).toNat (I 22 3).toNat (by omega)
        rw [xs_len] at es
        have q9 := hb i (by omega) (by omega) hk2
        rw [← ev103] at q9 es es2
        refine jt_aload_n d_EX_putBody_53 rfl ?_
        refine cm_get (k := 5) (v := .ref (b + 8)) d_EX_putBody_54 EX_f24 (by decide) cc_2 rfl ?_
        refine jt_aload_n d_EX_putBody_57 rfl ?_
        refine jt_aload_n d_EX_putBody_58 rfl ?_
        refine cm_get (k := 5) (v := .ref (b + 12)) d_EX_putBody_59 EX_f28 (by decide) cc_2 rfl ?_
        refine jt_iload d_EX_putBody_62 rfl ?_
        refine cm_ld0 (k := 12) (n := 3) (v := (B 12) v103) d_EX_putBody_64 (by decide) rfl rfl (by omega) (by omega) (by omega) rfl ?_
        refine jt_topi (fun v108 ev108 => ?_)
        have bv108 : 0 ≤ v108 ∧ v108 ≤ 300 := by rw [ev108]; exact hJ.2.1 12 v103
        rw [f12] at ev108
        refine jt_aload_n d_EX_putBody_65 rfl ?_
        refine cm_get (k := 5) (v := .ref (b + 13)) d_EX_putBody_66 EX_f31 (by decide) cc_2 rfl ?_
        refine jt_iload d_EX_putBody_69 rfl ?_
        refine cm_ld0 (k := 13) (n := 3) (v := (B 13) v103) d_EX_putBody_71 (by decide) rfl rfl (by omega) (by omega) (by omega) rfl ?_
        refine jt_topi (fun v109 ev109 => ?_)
        have bv109 : 0 ≤ v109 ∧ v109 ≤ 300 := by rw [ev109]; exact hJ.2.1 13 v103
        rw [f13] at ev109
        refine cct_callV (Y := Y_TR_addAll) (ci := 0) (k := 8) (As := [.ref (b + 39), .int (jI v108), .int (jI v109)]) (rest := []) d_EX_putBody_72 EX_c80 yk_TR_addAll yv_TR_addAll rfl (Nat.le_of_ble_eq_true rfl) (by decide) (cc_1 rfl) rfl rfl (Nat.le_of_ble_eq_true rfl) (v_TR_addAll_8_39_x G _ b v108 v109 J B hJ.1 hJ.2.1 (by omega) (by omega)) (fun rvq110 Iq110 Aq110 hq110 => ?_)
        obtain ⟨rfl, hqq110, hxq110⟩ := hq110
        have hpq110 := cPx.trans hJ hqq110 rfl rfl
        have cXq110 : Aq110 40 = X9 := (hqq110.2.2.2 40 rfl (by decide)).trans cX
        have cYq110 : Aq110 41 = Y9 := (hqq110.2.2.2 41 rfl (by decide)).trans cY
        have cDq110 : Aq110 42 = D9 := (hqq110.2.2.2 42 rfl (by decide)).trans cD
        have cNq110 : Iq110 39 3 = N9 := (hqq110.2.2.1 39 3 rfl).trans cN
        have m39_3q110 : Iq110 39 3 = J 39 3 := hqq110.2.2.1 39 3 rfl
        have m5_5q110 : Iq110 5 5 = J 5 5 := hqq110.2.2.1 5 5 rfl
        show jt _ 75 [(0, .ref (b + 5)), (1, .ref (b + 39)), (2, .ref (b + 22)), (3, .int (jI q)), (4, .int (jI e)), (5, .int (jI i)), (6, .int (jI v103))] [] (cmf b f0 Iq110 Aq110) _ _ _
        refine jt_goto (t := 96) d_EX_putBody_75 rfl ?_
        refine jt_iinc (L' := [(0, .ref (b + 5)), (1, .ref (b + 39)), (2, .ref (b + 22)), (3, .int (jI q)), (4, .int (jI e)), (5, .int (jI (i + 1))), (6, .int (jI v103))]) d_EX_putBody_96 rfl (Nat.le_of_ble_eq_true rfl) rfl ?_
        refine jt_goto (t := 24) d_EX_putBody_99 rfl ?_
        refine jt_sub (L' := [(0, .ref (b + 5)), (1, .ref (b + 39)), (2, .ref (b + 22)), (3, .int (jI q)), (4, .int (jI e)), (5, .int (jI (i + 1)))]) (fun _ h => List.mem_append_left [(6, Value.int (jI v103))] h) ?_
        exact ih (i + 1) Iq110 Aq110 hpq110 (by omega) (hxq110.1 hKJ) (show Iq110 8 3 = ((xbd (A 23) (A 24) (A 12) (A 13) X9 Y9 D9 (D9 (I 5 5) + 1) (i + 1).toNat).length : Int) by have h9 := (hxq110.2 (by omega) (by omega)).1; omega) (by have h9 := (hxq110.2 (by omega) (by omega)).2 _ hl.symm hH; rw [cX, cY, cD] at h9; rw [es2, ← ev108, ← ev109]; exact h9) cXq110 cYq110 cDq110 cNq110 (by omega)
set_option maxRecDepth 100000 in
set_option maxHeartbeats 4000000 in
theorem v_EX_putBody_22_x (G : jG) (d b : Nat) (q : Int) (I : Nat → Nat → Int) (A : Nat → Int → Int) (hI : cSI I) (hA : cSA A) (hK : cTok A) (X9 : Int → Int) (hX : A 40 = X9) (Y9 : Int → Int) (hY : A 41 = Y9) (D9 : Int → Int) (hD : A 42 = D9) (N9 : Int) (hN : I 39 3 = N9) (hq : I 5 5 < q ∧ q ≤ N9) (hb : ∀ j, 0 ≤ j → j < I 22 3 → A 23 j = 2 → 0 ≤ A 12 (A 24 j) ∧ A 12 (A 24 j) ≤ A 13 (A 24 j) ∧ A 13 (A 24 j) ≤ N9) (hlen : I 5 5 + N9 - q + ((xbd (A 23) (A 24) (A 12) (A 13) X9 Y9 D9 (D9 (I 5 5) + 1) (I 22 3).toNat).length : Int) ≤ 300) (hd : 0 ≤ D9 (I 5 5) ∧ D9 (I 5 5) ≤ 6) : cct G Y_EX_putBody (d + 2) b [.ref (b + 5), .ref (b + 39), .ref (b + 22), .int (jI q)] I A (fun (rv : Option Value) (I2 : Nat → Nat → Int) (A2 : Nat → Int → Int) => rv = none ∧ cPx [131, 627] [9, 10, 11, 40, 41, 42] I A I2 A2 ∧ cTok A2 ∧ (I2 39 3 = ((xs X9 Y9 D9 0 (I 5 5) ++ (xbd (A 23) (A 24) (A 12) (A 13) X9 Y9 D9 (D9 (I 5 5) + 1) (I 22 3).toNat) ++ xs X9 Y9 D9 q N9).length : Int) ∧ gH (A2 40) (A2 41) (A2 42) (xs X9 Y9 D9 0 (I 5 5) ++ (xbd (A 23) (A 24) (A 12) (A 13) X9 Y9 D9 (D9 (I 5 5) + 1) (I 22 3).toNat) ++ xs X9 Y9 D9 q N9))) := by
  refine cct_of (by decide) (Nat.le_of_ble_eq_true rfl) (fun f0 sz => ?_)
  show jt _ 0 [(0, .ref (b + 5)), (1, .ref (b + 39)), (2, .ref (b + 22)), (3, .int (jI q))] [] _ _ _ _
  have r55 : 0 ≤ I 5 5 ∧ I 5 5 ≤ 300 := hI 5 5
  have r39 : 0 ≤ I 39 3 ∧ I 39 3 ≤ 300 := hI 39 3
  have rx3 : 0 ≤ I 22 3 ∧ I 22 3 ≤ 40 := hI 22 3
  have hz0 : cPx [131, 627] [9, 10, 11, 40, 41, 42] I A I A := cPx.refl hI hA
  refine jt_aload_n d_EX_putBody_0 rfl ?_
  refine cm_get (k := 39) (v := .ref (b + 42)) d_EX_putBody_1 EX_f58 (by decide) (cc_1 rfl) rfl ?_
  refine jt_aload_n d_EX_putBody_4 rfl ?_
  refine cm_get (k := 5) (v := .int (jI (I 5 5))) d_EX_putBody_5 EX_f42 (by decide) cc_2 rfl ?_
  have rb1 : 0 ≤ I 5 5 ∧ I 5 5 ≤ 300 := hz0.1 5 5
  refine cm_ld0 (k := 42) (n := 300) (v := (A 42) (I 5 5)) d_EX_putBody_8 (by decide) rfl rfl (by omega) (by omega) (by omega) rfl ?_
  refine jt_topi (fun v2 ev2 => ?_)
  have bv2 : -2147483648 ≤ v2 ∧ v2 ≤ 2147483647 := by rw [ev2]; exact hz0.2.1 42 (I 5 5)
  rw [hD] at ev2
  refine jt_iconst d_EX_putBody_9 ?_
  refine jt_iadd d_EX_putBody_10 ?_
  refine jt_topi (fun v3 ev3 => ?_)
  refine jt_istore (L' := [(0, .ref (b + 5)), (1, .ref (b + 39)), (2, .ref (b + 22)), (3, .int (jI q)), (4, .int (jI v3))]) d_EX_putBody_11 (Nat.le_of_ble_eq_true rfl) rfl ?_
  refine jt_aload_n d_EX_putBody_13 rfl ?_
  refine cm_get (k := 5) (v := .ref (b + 8)) d_EX_putBody_14 EX_f24 (by decide) cc_2 rfl ?_
  refine jt_iconst d_EX_putBody_17 ?_
  refine cm_put (k := 8) (j := 3) (v := 0) d_EX_putBody_18 (EX_w38 _ rfl) (by decide) (cc_1 rfl) rfl rfl (Nat.le_of_ble_eq_true rfl) rfl ?_
  have p4 := cPx.I 8 3 0 hz0 rfl (show 0 ≤ 0 ∧ 0 ≤ 300 by omega)
  refine jt_iconst d_EX_putBody_21 ?_
  refine jt_istore (L' := [(0, .ref (b + 5)), (1, .ref (b + 39)), (2, .ref (b + 22)), (3, .int (jI q)), (4, .int (jI v3)), (5, .int (jI 0))]) d_EX_putBody_22 (Nat.le_of_ble_eq_true rfl) rfl ?_
  refine l24_EX_putBody_22_xv G d b q I A hI hA hK X9 hX Y9 hY D9 hD N9 hN hq hb hlen hd f0 sz v3 ((by omega)) (fun io5 Jo5 Bo5 hJo5 i0o5 hKJo5 hlo5 hHo5 cXo5 cYo5 cDo5 cNo5 ixo5 => ?_) 41 0 (cu I 8 3 0) A p4 (by omega) hK (show (0 : Int) = (((xbd (A 23) (A 24) (A 12) (A 13) X9 Y9 D9 (D9 (I 5 5) + 1) 0).length : Nat) : Int) from rfl) (fun i t h => by simp [xbd] at h) hX hY hD hN (by omega)
  refine jt_aload_n d_EX_putBody_102 rfl ?_
  refine cm_get (k := 5) (v := .ref (b + 8)) d_EX_putBody_103 EX_f24 (by decide) cc_2 rfl ?_
  refine jt_aload_n d_EX_putBody_106 rfl ?_
  refine jt_iload_n d_EX_putBody_107 rfl ?_
  refine jt_aload_n d_EX_putBody_108 rfl ?_
  refine cm_get (k := 39) (v := .int (jI (Jo5 39 3))) d_EX_putBody_109 EX_f38 (by decide) (cc_1 rfl) rfl ?_
  have rb6 : 0 ≤ Jo5 39 3 ∧ Jo5 39 3 ≤ 300 := hJo5.1 39 3
  refine cct_callV (Y := Y_TR_addAll) (ci := 0) (k := 8) (As := [.ref (b + 39), .int (jI q), .int (jI (Jo5 39 3))]) (rest := []) d_EX_putBody_112 EX_c80 yk_TR_addAll yv_TR_addAll rfl (Nat.le_of_ble_eq_true rfl) (by decide) (cc_1 rfl) rfl rfl (Nat.le_of_ble_eq_true rfl) (v_TR_addAll_8_39_x G _ b q (Jo5 39 3) Jo5 Bo5 hJo5.1 hJo5.2.1 (by omega) (by omega)) (fun rvq7 Iq7 Aq7 hq7 => ?_)
  obtain ⟨rfl, hqq7, hxq7⟩ := hq7
  have hpq7 := cPx.trans hJo5 hqq7 rfl rfl
  have cXq7 : Aq7 40 = X9 := (hqq7.2.2.2 40 rfl (by decide)).trans cXo5
  have cYq7 : Aq7 41 = Y9 := (hqq7.2.2.2 41 rfl (by decide)).trans cYo5
  have cDq7 : Aq7 42 = D9 := (hqq7.2.2.2 42 rfl (by decide)).trans cDo5
  have cNq7 : Iq7 39 3 = N9 := (hqq7.2.2.1 39 3 rfl).trans cNo5
  have m39_3q7 : Iq7 39 3 = Jo5 39 3 := hqq7.2.2.1 39 3 rfl
  have m5_5q7 : Iq7 5 5 = Jo5 5 5 := hqq7.2.2.1 5 5 rfl
  show jt _ 115 [(0, .ref (b + 5)), (1, .ref (b + 39)), (2, .ref (b + 22)), (3, .int (jI q)), (4, .int (jI v3)), (5, .int (jI io5))] [] (cmf b f0 Iq7 Aq7) _ _ _
  refine jt_aload_n d_EX_putBody_115 rfl ?_
  refine jt_aload_n d_EX_putBody_116 rfl ?_
  refine cm_get (k := 5) (v := .int (jI (Iq7 5 5))) d_EX_putBody_117 EX_f42 (by decide) cc_2 rfl ?_
  have rb8 : 0 ≤ Iq7 5 5 ∧ Iq7 5 5 ≤ 300 := hpq7.1 5 5
  refine cm_put (k := 39) (j := 3) (v := (Iq7 5 5)) d_EX_putBody_120 (EX_w38 _ rfl) (by decide) (cc_1 rfl) rfl rfl (Nat.le_of_ble_eq_true rfl) rfl ?_
  have p9 := cPx.I 39 3 (Iq7 5 5) hpq7 rfl (show 0 ≤ Iq7 5 5 ∧ Iq7 5 5 ≤ 300 by omega)
  refine jt_aload_n d_EX_putBody_123 rfl ?_
  refine jt_aload_n d_EX_putBody_124 rfl ?_
  refine cm_get (k := 5) (v := .ref (b + 8)) d_EX_putBody_125 EX_f24 (by decide) cc_2 rfl ?_
  refine jt_iconst d_EX_putBody_128 ?_
  refine jt_aload_n d_EX_putBody_129 rfl ?_
  refine cm_get (k := 5) (v := .ref (b + 8)) d_EX_putBody_130 EX_f24 (by decide) cc_2 rfl ?_
  refine cm_get (k := 8) (v := .int (jI (Iq7 8 3))) d_EX_putBody_133 EX_f38 (by decide) (cc_1 rfl) rfl ?_
  have rb10 : 0 ≤ Iq7 8 3 ∧ Iq7 8 3 ≤ 300 := p9.1 8 3
  refine cct_callV (Y := Y_TR_addAll) (ci := 0) (k := 39) (As := [.ref (b + 8), .int (jI 0), .int (jI (Iq7 8 3))]) (rest := []) d_EX_putBody_136 EX_c80 yk_TR_addAll yv_TR_addAll rfl (Nat.le_of_ble_eq_true rfl) (by decide) (cc_1 rfl) rfl rfl (Nat.le_of_ble_eq_true rfl) (v_TR_addAll_39_8_x G _ b 0 (Iq7 8 3) (cu Iq7 39 3 (Iq7 5 5)) Aq7 p9.1 p9.2.1 (by omega) (by omega)) (fun rvq11 Iq11 Aq11 hq11 => ?_)
  obtain ⟨rfl, hqq11, hxq11⟩ := hq11
  have hpq11 := cPx.trans p9 hqq11 rfl rfl
  have s39_3q11 : (cu Iq7 39 3 (Iq7 5 5)) 39 3 = Iq7 5 5 := rfl
  have s5_5q11 : (cu Iq7 39 3 (Iq7 5 5)) 5 5 = Iq7 5 5 := rfl
  have s8_3q11 : (cu Iq7 39 3 (Iq7 5 5)) 8 3 = Iq7 8 3 := rfl
  have m5_5q11 : Iq11 5 5 = Iq7 5 5 := hqq11.2.2.1 5 5 rfl
  have m8_3q11 : Iq11 8 3 = Iq7 8 3 := hqq11.2.2.1 8 3 rfl
  show jt _ 139 [(0, .ref (b + 5)), (1, .ref (b + 39)), (2, .ref (b + 22)), (3, .int (jI q)), (4, .int (jI v3)), (5, .int (jI io5))] [] (cmf b f0 Iq11 Aq11) _ _ _
  exact cm_vret d_EX_putBody_139 rfl (⟨rfl, hpq11, (hxq11.1 (hxq7.1 hKJo5)), by
      have f55 : Jo5 5 5 = I 5 5 := hJo5.2.2.1 5 5 rfl
      have lb : Jo5 8 3 = ((xbd (A 23) (A 24) (A 12) (A 13) X9 Y9 D9 (D9 (I 5 5) + 1) (I 22 3).toNat).length : Int) := by rw [hlo5, show io5 = I 22 3 by omega]
      have gb : gH (Bo5 9) (Bo5 10) (Bo5 11) (xbd (A 23) (A 24) (A 12) (A 13) X9 Y9 D9 (D9 (I 5 5) + 1) (I 22 3).toNat) := by have h9 := hHo5; rw [show io5 = I 22 3 by omega] at h9; exact h9
      have h1 := hxq7.2 (by omega) (by omega)
      have g1 := h1.2 _ lb.symm gb
      rw [cXo5, cYo5, cDo5, cNo5] at g1
      have l1 := xs_len X9 Y9 D9 q N9
      have l0 := xs_len X9 Y9 D9 0 (I 5 5)
      have g3 := gH_at g1 (by rw [List.length_append]; omega)
      have h2 := hxq11.2 (by omega) (show Iq7 5 5 + (Iq7 8 3 - 0) ≤ 300 by omega)
      have g2 := h2.2 (xs X9 Y9 D9 0 (I 5 5)) (show _ = Iq7 5 5 by omega) (show gH (Aq7 40) (Aq7 41) (Aq7 42) _ by rw [cXq7, cYq7, cDq7]; exact gH_xs _ _ _ _)
      have h3 : Iq11 39 3 = Iq7 5 5 + (Iq7 8 3 - 0) := h2.1
      have g4 : xs (Aq7 9) (Aq7 10) (Aq7 11) 0 (Iq7 8 3) = (xbd (A 23) (A 24) (A 12) (A 13) X9 Y9 D9 (D9 (I 5 5) + 1) (I 22 3).toNat) ++ xs X9 Y9 D9 q N9 := by rw [show Iq7 8 3 = (((xbd (A 23) (A 24) (A 12) (A 13) X9 Y9 D9 (D9 (I 5 5) + 1) (I 22 3).toNat) ++ xs X9 Y9 D9 q N9).length : Int) by rw [List.length_append]; omega]; exact g3.symm
      have g5 : gH (Aq11 40) (Aq11 41) (Aq11 42) (xs X9 Y9 D9 0 (I 5 5) ++ xs (Aq7 9) (Aq7 10) (Aq7 11) 0 (Iq7 8 3)) := g2
      rw [g4, ← List.append_assoc] at g5
      exact ⟨by rw [List.length_append, List.length_append]; omega, g5⟩⟩)
set_option maxRecDepth 100000 in
set_option maxHeartbeats 4000000 in
theorem l24_EX_putBody_26_xv (G : jG) (d b : Nat) (q : Int) (I : Nat → Nat → Int) (A : Nat → Int → Int) (hI : cSI I) (hA : cSA A) (hK : cTok A) (X9 : Int → Int) (hX : A 40 = X9) (Y9 : Int → Int) (hY : A 41 = Y9) (D9 : Int → Int) (hD : A 42 = D9) (N9 : Int) (hN : I 39 3 = N9) (hq : I 5 5 < q ∧ q ≤ N9) (hb : ∀ j, 0 ≤ j → j < I 26 3 → A 27 j = 2 → 0 ≤ A 12 (A 28 j) ∧ A 12 (A 28 j) ≤ A 13 (A 28 j) ∧ A 13 (A 28 j) ≤ N9) (hlen : I 5 5 + N9 - q + ((xbd (A 27) (A 28) (A 12) (A 13) X9 Y9 D9 (D9 (I 5 5) + 1) (I 26 3).toNat).length : Int) ≤ 300) (hd : 0 ≤ D9 (I 5 5) ∧ D9 (I 5 5) ≤ 6) (f0 : jF) (sz : Nat)  (e : Int) (e0 : e = D9 (I 5 5) + 1) (hout : ∀ (i : Int) (J : Nat → Nat → Int) (B : Nat → Int → Int), cPx [131, 627] [9, 10, 11, 40, 41, 42] I A J B → (0 ≤ i ∧ i ≤ I 26 3) → (cTok B) → (J 8 3 = ((xbd (A 27) (A 28) (A 12) (A 13) X9 Y9 D9 (D9 (I 5 5) + 1) i.toNat).length : Int)) → (gH (B 9) (B 10) (B 11) (xbd (A 27) (A 28) (A 12) (A 13) X9 Y9 D9 (D9 (I 5 5) + 1) i.toNat)) → (B 40 = X9) → (B 41 = Y9) → (B 42 = D9) → (J 39 3 = N9) → (i = I 26 3) → jt (jm G Y_EX_putBody (gR (d + 2)) (cQ b f0 sz (fun (rv : Option Value) (I2 : Nat → Nat → Int) (A2 : Nat → Int → Int) => rv = none ∧ cPx [131, 627] [9, 10, 11, 40, 41, 42] I A I2 A2 ∧ cTok A2 ∧ (I2 39 3 = ((xs X9 Y9 D9 0 (I 5 5) ++ (xbd (A 27) (A 28) (A 12) (A 13) X9 Y9 D9 (D9 (I 5 5) + 1) (I 26 3).toNat) ++ xs X9 Y9 D9 q N9).length : Int) ∧ gH (A2 40) (A2 41) (A2 42) (xs X9 Y9 D9 0 (I 5 5) ++ (xbd (A 27) (A 28) (A 12) (A 13) X9 Y9 D9 (D9 (I 5 5) + 1) (I 26 3).toNat) ++ xs X9 Y9 D9 q N9))))) 102 [(0, .ref (b + 5)), (1, .ref (b + 39)), (2, .ref (b + 26)), (3, .int (jI q)), (4, .int (jI e)), (5, .int (jI i))] [] (cmf b f0 J B) sz 0 0) : ∀ (n9 : Nat) (i : Int) (J : Nat → Nat → Int) (B : Nat → Int → Int), cPx [131, 627] [9, 10, 11, 40, 41, 42] I A J B → (0 ≤ i ∧ i ≤ I 26 3) → (cTok B) → (J 8 3 = ((xbd (A 27) (A 28) (A 12) (A 13) X9 Y9 D9 (D9 (I 5 5) + 1) i.toNat).length : Int)) → (gH (B 9) (B 10) (B 11) (xbd (A 27) (A 28) (A 12) (A 13) X9 Y9 D9 (D9 (I 5 5) + 1) i.toNat)) → (B 40 = X9) → (B 41 = Y9) → (B 42 = D9) → (J 39 3 = N9) → 40 - i < (n9 : Int) → jt (jm G Y_EX_putBody (gR (d + 2)) (cQ b f0 sz (fun (rv : Option Value) (I2 : Nat → Nat → Int) (A2 : Nat → Int → Int) => rv = none ∧ cPx [131, 627] [9, 10, 11, 40, 41, 42] I A I2 A2 ∧ cTok A2 ∧ (I2 39 3 = ((xs X9 Y9 D9 0 (I 5 5) ++ (xbd (A 27) (A 28) (A 12) (A 13) X9 Y9 D9 (D9 (I 5 5) + 1) (I 26 3).toNat) ++ xs X9 Y9 D9 q N9).length : Int) ∧ gH (A2 40) (A2 41) (A2 42) (xs X9 Y9 D9 0 (I 5 5) ++ (xbd (A 27) (A 28) (A 12) (A 13) X9 Y9 D9 (D9 (I 5 5) + 1) (I 26 3).toNat) ++ xs X9 Y9 D9 q N9))))) 24 [(0, .ref (b + 5)), (1, .ref (b + 39)), (2, .ref (b + 26)), (3, .int (jI q)), (4, .int (jI e)), (5, .int (jI i))] [] (cmf b f0 J B) sz 0 0 := by
  have r55 : 0 ≤ I 5 5 ∧ I 5 5 ≤ 300 := hI 5 5
  have r39 : 0 ≤ I 39 3 ∧ I 39 3 ≤ 300 := hI 39 3
  have rx3 : 0 ≤ I 26 3 ∧ I 26 3 ≤ 40 := hI 26 3
  intro n9
  induction n9 with
  | zero =>
    intro i J B hJ i0 hKJ hl hH cX cY cD cN hmeas
    have tk : gtok (B 27 i) (B 28 i) := hKJ 26 rfl i
    have f27 : B 27 = A 27 := hJ.2.2.2 27 rfl trivial
    have f28 : B 28 = A 28 := hJ.2.2.2 28 rfl trivial
    have f12 : B 12 = A 12 := hJ.2.2.2 12 rfl trivial
    have f13 : B 13 = A 13 := hJ.2.2.2 13 rfl trivial
    rw [f27, f28] at tk
    have tk2 := tk
    unfold gtok at tk
    have f55 : J 5 5 = I 5 5 := hJ.2.2.1 5 5 rfl
    have fx3 : J 26 3 = I 26 3 := hJ.2.2.1 26 3 rfl
    exfalso
    omega
  | succ n9 ih =>
    intro i J B hJ i0 hKJ hl hH cX cY cD cN hmeas
    have tk : gtok (B 27 i) (B 28 i) := hKJ 26 rfl i
    have f27 : B 27 = A 27 := hJ.2.2.2 27 rfl trivial
    have f28 : B 28 = A 28 := hJ.2.2.2 28 rfl trivial
    have f12 : B 12 = A 12 := hJ.2.2.2 12 rfl trivial
    have f13 : B 13 = A 13 := hJ.2.2.2 13 rfl trivial
    rw [f27, f28] at tk
    have tk2 := tk
    unfold gtok at tk
    have f55 : J 5 5 = I 5 5 := hJ.2.2.1 5 5 rfl
    have fx3 : J 26 3 = I 26 3 := hJ.2.2.1 26 3 rfl
    refine jt_iload d_EX_putBody_24 rfl ?_
    refine jt_aload_n d_EX_putBody_26 rfl ?_
    refine cm_get (k := 26) (v := .int (jI (J 26 3))) d_EX_putBody_27 EX_f38 (by decide) (cc_1 rfl) rfl ?_
    have rb101 : 0 ≤ J 26 3 ∧ J 26 3 ≤ 40 := hJ.1 26 3
    refine jt_icmp_ge (t := 102) d_EX_putBody_30 rfl (by unfold jRi; omega) (by unfold jRi; omega) (fun c102 => ?_) (fun c102 => ?_)
    · skip
      exact hout i J B hJ i0 hKJ hl hH cX cY cD cN (by omega)
    · skip
      refine jt_aload_n d_EX_putBody_33 rfl ?_
      refine cm_get (k := 26) (v := .ref (b + 28)) d_EX_putBody_34 EX_f55 (by decide) (cc_1 rfl) rfl ?_
      refine jt_iload d_EX_putBody_37 rfl ?_
      refine cm_ld0 (k := 28) (n := 40) (v := (B 28) i) d_EX_putBody_39 (by decide) rfl rfl (by omega) (by omega) (by omega) rfl ?_
      refine jt_topi (fun v103 ev103 => ?_)
      have bv103 : -2147483648 ≤ v103 ∧ v103 ≤ 2147483647 := by rw [ev103]; exact hJ.2.1 28 i
      rw [f28] at ev103
      refine jt_istore (L' := [(0, .ref (b + 5)), (1, .ref (b + 39)), (2, .ref (b + 26)), (3, .int (jI q)), (4, .int (jI e)), (5, .int (jI i)), (6, .int (jI v103))]) d_EX_putBody_40 (Nat.le_of_ble_eq_true rfl) rfl ?_
      refine jt_aload_n d_EX_putBody_42 rfl ?_
      refine cm_get (k := 26) (v := .ref (b + 27)) d_EX_putBody_43 EX_f48 (by decide) (cc_1 rfl) rfl ?_
      refine jt_iload d_EX_putBody_46 rfl ?_
      refine cm_ld0 (k := 27) (n := 40) (v := (B 27) i) d_EX_putBody_48 (by decide) rfl rfl (by omega) (by omega) (by omega) rfl ?_
      refine jt_topi (fun v104 ev104 => ?_)
      have bv104 : -2147483648 ≤ v104 ∧ v104 ≤ 2147483647 := by rw [ev104]; exact hJ.2.1 27 i
      rw [f27] at ev104
      refine jt_iconst d_EX_putBody_49 ?_
      refine jt_icmp_ne (t := 78) d_EX_putBody_50 rfl (by unfold jRi; omega) (by unfold jRi; omega) (fun c105 => ?_) (fun c105 => ?_)
      · skip
        have hk2 : ¬ A 27 i = 2 := by omega
        have es2 := xbd_s (A 27) (A 28) (A 12) (A 13) X9 Y9 D9 (D9 (I 5 5) + 1) i (by omega)
        unfold xb1 at es2
        rw [if_neg hk2] at es2
        have es := congrArg List.length es2
        rw [List.length_append] at es
        have hle := xbd_le (A 27) (A 28) (A 12) (A 13) X9 Y9 D9 (D9 (I 5 5) + 1) (i + 1).toNat (I 26 3).toNat (by omega)
        have es1 : (xbd (A 27) (A 28) (A 12) (A 13) X9 Y9 D9 (D9 (I 5 5) + 1) (i + 1).toNat).length = (xbd (A 27) (A 28) (A 12) (A 13) X9 Y9 D9 (D9 (I 5 5) + 1) i.toNat).length + 1 := es
        refine jt_aload_n d_EX_putBody_78 rfl ?_
        refine cm_get (k := 5) (v := .ref (b + 8)) d_EX_putBody_79 EX_f24 (by decide) cc_2 rfl ?_
        refine jt_aload_n d_EX_putBody_82 rfl ?_
        refine cm_get (k := 26) (v := .ref (b + 27)) d_EX_putBody_83 EX_f48 (by decide) (cc_1 rfl) rfl ?_
        refine jt_iload d_EX_putBody_86 rfl ?_
        refine cm_ld0 (k := 27) (n := 40) (v := (B 27) i) d_EX_putBody_88 (by decide) rfl rfl (by omega) (by omega) (by omega) rfl ?_
        refine jt_topi (fun v106 ev106 => ?_)
        have bv106 : -2147483648 ≤ v106 ∧ v106 ≤ 2147483647 := by rw [ev106]; exact hJ.2.1 27 i
        rw [f27] at ev106
        refine jt_iload d_EX_putBody_89 rfl ?_
        refine jt_iload d_EX_putBody_91 rfl ?_
        refine cct_callV (Y := Y_TR_add) (ci := 0) (k := 8) (As := [.int (jI v106), .int (jI v103), .int (jI e)]) (rest := []) d_EX_putBody_93 EX_c84 yk_TR_add yv_TR_add rfl (Nat.le_of_ble_eq_true rfl) (by decide) (cc_1 rfl) rfl rfl (Nat.le_of_ble_eq_true rfl) (v_TR_add_8_x G _ b v106 v103 e J B hJ.1 hJ.2.1 (by omega) (by omega) (by omega)) (fun rvq107 Iq107 Aq107 hq107 => ?_)
        obtain ⟨rfl, hqq107, hxq107⟩ := hq107
        have hpq107 := cPx.trans hJ hqq107 rfl rfl
        have cXq107 : Aq107 40 = X9 := (hqq107.2.2.2 40 rfl (by decide)).trans cX
        have cYq107 : Aq107 41 = Y9 := (hqq107.2.2.2 41 rfl (by decide)).trans cY
        have cDq107 : Aq107 42 = D9 := (hqq107.2.2.2 42 rfl (by decide)).trans cD
        have cNq107 : Iq107 39 3 = N9 := (hqq107.2.2.1 39 3 rfl).trans cN
        have m39_3q107 : Iq107 39 3 = J 39 3 := hqq107.2.2.1 39 3 rfl
        have m5_5q107 : Iq107 5 5 = J 5 5 := hqq107.2.2.1 5 5 rfl
        show jt _ 96 [(0, .ref (b + 5)), (1, .ref (b + 39)), (2, .ref (b + 26)), (3, .int (jI q)), (4, .int (jI e)), (5, .int (jI i)), (6, .int (jI v103))] [] (cmf b f0 Iq107 Aq107) _ _ _
        refine jt_iinc (L' := [(0, .ref (b + 5)), (1, .ref (b + 39)), (2, .ref (b + 26)), (3, .int (jI q)), (4, .int (jI e)), (5, .int (jI (i + 1))), (6, .int (jI v103))]) d_EX_putBody_96 rfl (Nat.le_of_ble_eq_true rfl) rfl ?_
        refine jt_goto (t := 24) d_EX_putBody_99 rfl ?_
        refine jt_sub (L' := [(0, .ref (b + 5)), (1, .ref (b + 39)), (2, .ref (b + 26)), (3, .int (jI q)), (4, .int (jI e)), (5, .int (jI (i + 1)))]) (fun _ h => List.mem_append_left [(6, Value.int (jI v103))] h) ?_
        exact ih (i + 1) Iq107 Aq107 hpq107 (by omega) (hxq107.1 hKJ (by rw [ev106, ev103]; exact tk2)) (show Iq107 8 3 = ((xbd (A 27) (A 28) (A 12) (A 13) X9 Y9 D9 (D9 (I 5 5) + 1) (i + 1).toNat).length : Int) by have h9 := (hxq107.2 (by omega)).1; omega) (by have h9 := (hxq107.2 (by omega)).2 _ hl.symm hH; rw [e0] at h9; rw [es2, ← ev106, ← ev103]; exact h9) cXq107 cYq107 cDq107 cNq107 (by omega)
      · skip
        have hk2 : A 27 i = 2 := by omega
        have es2 := xbd_s (A 27) (A 28) (A 12) (A 13) X9 Y9 D9 (D9 (I 5 5) + 1) i (by omega)
        unfold xb1 at es2
        rw [if_pos hk2] at es2
        have es := congrArg List.length es2
        rw [List.length_append] at es
        have hle := xbd_le (A 27) (A 28) (A 12) (A 13) X9 Y9 D9 (D9 (I 5 5) + 1) (i + 1).toNat (I 26 3).toNat (by omega)
        rw [xs_len] at es
        have q9 := hb i (by omega) (by omega) hk2
        rw [← ev103] at q9 es es2
        refine jt_aload_n d_EX_putBody_53 rfl ?_
        refine cm_get (k := 5) (v := .ref (b + 8)) d_EX_putBody_54 EX_f24 (by decide) cc_2 rfl ?_
        refine jt_aload_n d_EX_putBody_57 rfl ?_
        refine jt_aload_n d_EX_putBody_58 rfl ?_
        refine cm_get (k := 5) (v := .ref (b + 12)) d_EX_putBody_59 EX_f28 (by decide) cc_2 rfl ?_
        refine jt_iload d_EX_putBody_62 rfl ?_
        refine cm_ld0 (k := 12) (n := 3) (v := (B 12) v103) d_EX_putBody_64 (by decide) rfl rfl (by omega) (by omega) (by omega) rfl ?_
        refine jt_topi (fun v108 ev108 => ?_)
        have bv108 : 0 ≤ v108 ∧ v108 ≤ 300 := by rw [ev108]; exact hJ.2.1 12 v103
        rw [f12] at ev108
        refine jt_aload_n d_EX_putBody_65 rfl ?_
        refine cm_get (k := 5) (v := .ref (b + 13)) d_EX_putBody_66 EX_f31 (by decide) cc_2 rfl ?_
        refine jt_iload d_EX_putBody_69 rfl ?_
        refine cm_ld0 (k := 13) (n := 3) (v := (B 13) v103) d_EX_putBody_71 (by decide) rfl rfl (by omega) (by omega) (by omega) rfl ?_
        refine jt_topi (fun v109 ev109 => ?_)
        have bv109 : 0 ≤ v109 ∧ v109 ≤ 300 := by rw [ev109]; exact hJ.2.1 13 v103
        rw [f13] at ev109
        refine cct_callV (Y := Y_TR_addAll) (ci := 0) (k := 8) (As := [.ref (b + 39), .int (jI v108), .int (jI v109)]) (rest := []) d_EX_putBody_72 EX_c80 yk_TR_addAll yv_TR_addAll rfl (Nat.le_of_ble_eq_true rfl) (by decide) (cc_1 rfl) rfl rfl (Nat.le_of_ble_eq_true rfl) (v_TR_addAll_8_39_x G _ b v108 v109 J B hJ.1 hJ.2.1 (by omega) (by omega)) (fun rvq110 Iq110 Aq110 hq110 => ?_)
        obtain ⟨rfl, hqq110, hxq110⟩ := hq110
        have hpq110 := cPx.trans hJ hqq110 rfl rfl
        have cXq110 : Aq110 40 = X9 := (hqq110.2.2.2 40 rfl (by decide)).trans cX
        have cYq110 : Aq110 41 = Y9 := (hqq110.2.2.2 41 rfl (by decide)).trans cY
        have cDq110 : Aq110 42 = D9 := (hqq110.2.2.2 42 rfl (by decide)).trans cD
        have cNq110 : Iq110 39 3 = N9 := (hqq110.2.2.1 39 3 rfl).trans cN
        have m39_3q110 : Iq110 39 3 = J 39 3 := hqq110.2.2.1 39 3 rfl
        have m5_5q110 : Iq110 5 5 = J 5 5 := hqq110.2.2.1 5 5 rfl
        show jt _ 75 [(0, .ref (b + 5)), (1, .ref (b + 39)), (2, .ref (b + 26)), (3, .int (jI q)), (4, .int (jI e)), (5, .int (jI i)), (6, .int (jI v103))] [] (cmf b f0 Iq110 Aq110) _ _ _
        refine jt_goto (t := 96) d_EX_putBody_75 rfl ?_
        refine jt_iinc (L' := [(0, .ref (b + 5)), (1, .ref (b + 39)), (2, .ref (b + 26)), (3, .int (jI q)), (4, .int (jI e)), (5, .int (jI (i + 1))), (6, .int (jI v103))]) d_EX_putBody_96 rfl (Nat.le_of_ble_eq_true rfl) rfl ?_
        refine jt_goto (t := 24) d_EX_putBody_99 rfl ?_
        refine jt_sub (L' := [(0, .ref (b + 5)), (1, .ref (b + 39)), (2, .ref (b + 26)), (3, .int (jI q)), (4, .int (jI e)), (5, .int (jI (i + 1)))]) (fun _ h => List.mem_append_left [(6, Value.int (jI v103))] h) ?_
        exact ih (i + 1) Iq110 Aq110 hpq110 (by omega) (hxq110.1 hKJ) (show Iq110 8 3 = ((xbd (A 27) (A 28) (A 12) (A 13) X9 Y9 D9 (D9 (I 5 5) + 1) (i + 1).toNat).length : Int) by have h9 := (hxq110.2 (by omega) (by omega)).1; omega) (by have h9 := (hxq110.2 (by omega) (by omega)).2 _ hl.symm hH; rw [cX, cY, cD] at h9; rw [es2, ← ev108, ← ev109]; exact h9) cXq110 cYq110 cDq110 cNq110 (by omega)
set_option maxRecDepth 100000 in
set_option maxHeartbeats 4000000 in
theorem v_EX_putBody_26_x (G : jG) (d b : Nat) (q : Int) (I : Nat → Nat → Int) (A : Nat → Int → Int) (hI : cSI I) (hA : cSA A) (hK : cTok A) (X9 : Int → Int) (hX : A 40 = X9) (Y9 : Int → Int) (hY : A 41 = Y9) (D9 : Int → Int) (hD : A 42 = D9) (N9 : Int) (hN : I 39 3 = N9) (hq : I 5 5 < q ∧ q ≤ N9) (hb : ∀ j, 0 ≤ j → j < I 26 3 → A 27 j = 2 → 0 ≤ A 12 (A 28 j) ∧ A 12 (A 28 j) ≤ A 13 (A 28 j) ∧ A 13 (A 28 j) ≤ N9) (hlen : I 5 5 + N9 - q + ((xbd (A 27) (A 28) (A 12) (A 13) X9 Y9 D9 (D9 (I 5 5) + 1) (I 26 3).toNat).length : Int) ≤ 300) (hd : 0 ≤ D9 (I 5 5) ∧ D9 (I 5 5) ≤ 6) : cct G Y_EX_putBody (d + 2) b [.ref (b + 5), .ref (b + 39), .ref (b + 26), .int (jI q)] I A (fun (rv : Option Value) (I2 : Nat → Nat → Int) (A2 : Nat → Int → Int) => rv = none ∧ cPx [131, 627] [9, 10, 11, 40, 41, 42] I A I2 A2 ∧ cTok A2 ∧ (I2 39 3 = ((xs X9 Y9 D9 0 (I 5 5) ++ (xbd (A 27) (A 28) (A 12) (A 13) X9 Y9 D9 (D9 (I 5 5) + 1) (I 26 3).toNat) ++ xs X9 Y9 D9 q N9).length : Int) ∧ gH (A2 40) (A2 41) (A2 42) (xs X9 Y9 D9 0 (I 5 5) ++ (xbd (A 27) (A 28) (A 12) (A 13) X9 Y9 D9 (D9 (I 5 5) + 1) (I 26 3).toNat) ++ xs X9 Y9 D9 q N9))) := by
  refine cct_of (by decide) (Nat.le_of_ble_eq_true rfl) (fun f0 sz => ?_)
  show jt _ 0 [(0, .ref (b + 5)), (1, .ref (b + 39)), (2, .ref (b + 26)), (3, .int (jI q))] [] _ _ _ _
  have r55 : 0 ≤ I 5 5 ∧ I 5 5 ≤ 300 := hI 5 5
  have r39 : 0 ≤ I 39 3 ∧ I 39 3 ≤ 300 := hI 39 3
  have rx3 : 0 ≤ I 26 3 ∧ I 26 3 ≤ 40 := hI 26 3
  have hz0 : cPx [131, 627] [9, 10, 11, 40, 41, 42] I A I A := cPx.refl hI hA
  refine jt_aload_n d_EX_putBody_0 rfl ?_
  refine cm_get (k := 39) (v := .ref (b + 42)) d_EX_putBody_1 EX_f58 (by decide) (cc_1 rfl) rfl ?_
  refine jt_aload_n d_EX_putBody_4 rfl ?_
  refine cm_get (k := 5) (v := .int (jI (I 5 5))) d_EX_putBody_5 EX_f42 (by decide) cc_2 rfl ?_
  have rb1 : 0 ≤ I 5 5 ∧ I 5 5 ≤ 300 := hz0.1 5 5
  refine cm_ld0 (k := 42) (n := 300) (v := (A 42) (I 5 5)) d_EX_putBody_8 (by decide) rfl rfl (by omega) (by omega) (by omega) rfl ?_
  refine jt_topi (fun v2 ev2 => ?_)
  have bv2 : -2147483648 ≤ v2 ∧ v2 ≤ 2147483647 := by rw [ev2]; exact hz0.2.1 42 (I 5 5)
  rw [hD] at ev2
  refine jt_iconst d_EX_putBody_9 ?_
  refine jt_iadd d_EX_putBody_10 ?_
  refine jt_topi (fun v3 ev3 => ?_)
  refine jt_istore (L' := [(0, .ref (b + 5)), (1, .ref (b + 39)), (2, .ref (b + 26)), (3, .int (jI q)), (4, .int (jI v3))]) d_EX_putBody_11 (Nat.le_of_ble_eq_true rfl) rfl ?_
  refine jt_aload_n d_EX_putBody_13 rfl ?_
  refine cm_get (k := 5) (v := .ref (b + 8)) d_EX_putBody_14 EX_f24 (by decide) cc_2 rfl ?_
  refine jt_iconst d_EX_putBody_17 ?_
  refine cm_put (k := 8) (j := 3) (v := 0) d_EX_putBody_18 (EX_w38 _ rfl) (by decide) (cc_1 rfl) rfl rfl (Nat.le_of_ble_eq_true rfl) rfl ?_
  have p4 := cPx.I 8 3 0 hz0 rfl (show 0 ≤ 0 ∧ 0 ≤ 300 by omega)
  refine jt_iconst d_EX_putBody_21 ?_
  refine jt_istore (L' := [(0, .ref (b + 5)), (1, .ref (b + 39)), (2, .ref (b + 26)), (3, .int (jI q)), (4, .int (jI v3)), (5, .int (jI 0))]) d_EX_putBody_22 (Nat.le_of_ble_eq_true rfl) rfl ?_
  refine l24_EX_putBody_26_xv G d b q I A hI hA hK X9 hX Y9 hY D9 hD N9 hN hq hb hlen hd f0 sz v3 ((by omega)) (fun io5 Jo5 Bo5 hJo5 i0o5 hKJo5 hlo5 hHo5 cXo5 cYo5 cDo5 cNo5 ixo5 => ?_) 41 0 (cu I 8 3 0) A p4 (by omega) hK (show (0 : Int) = (((xbd (A 27) (A 28) (A 12) (A 13) X9 Y9 D9 (D9 (I 5 5) + 1) 0).length : Nat) : Int) from rfl) (fun i t h => by simp [xbd] at h) hX hY hD hN (by omega)
  refine jt_aload_n d_EX_putBody_102 rfl ?_
  refine cm_get (k := 5) (v := .ref (b + 8)) d_EX_putBody_103 EX_f24 (by decide) cc_2 rfl ?_
  refine jt_aload_n d_EX_putBody_106 rfl ?_
  refine jt_iload_n d_EX_putBody_107 rfl ?_
  refine jt_aload_n d_EX_putBody_108 rfl ?_
  refine cm_get (k := 39) (v := .int (jI (Jo5 39 3))) d_EX_putBody_109 EX_f38 (by decide) (cc_1 rfl) rfl ?_
  have rb6 : 0 ≤ Jo5 39 3 ∧ Jo5 39 3 ≤ 300 := hJo5.1 39 3
  refine cct_callV (Y := Y_TR_addAll) (ci := 0) (k := 8) (As := [.ref (b + 39), .int (jI q), .int (jI (Jo5 39 3))]) (rest := []) d_EX_putBody_112 EX_c80 yk_TR_addAll yv_TR_addAll rfl (Nat.le_of_ble_eq_true rfl) (by decide) (cc_1 rfl) rfl rfl (Nat.le_of_ble_eq_true rfl) (v_TR_addAll_8_39_x G _ b q (Jo5 39 3) Jo5 Bo5 hJo5.1 hJo5.2.1 (by omega) (by omega)) (fun rvq7 Iq7 Aq7 hq7 => ?_)
  obtain ⟨rfl, hqq7, hxq7⟩ := hq7
  have hpq7 := cPx.trans hJo5 hqq7 rfl rfl
  have cXq7 : Aq7 40 = X9 := (hqq7.2.2.2 40 rfl (by decide)).trans cXo5
  have cYq7 : Aq7 41 = Y9 := (hqq7.2.2.2 41 rfl (by decide)).trans cYo5
  have cDq7 : Aq7 42 = D9 := (hqq7.2.2.2 42 rfl (by decide)).trans cDo5
  have cNq7 : Iq7 39 3 = N9 := (hqq7.2.2.1 39 3 rfl).trans cNo5
  have m39_3q7 : Iq7 39 3 = Jo5 39 3 := hqq7.2.2.1 39 3 rfl
  have m5_5q7 : Iq7 5 5 = Jo5 5 5 := hqq7.2.2.1 5 5 rfl
  show jt _ 115 [(0, .ref (b + 5)), (1, .ref (b + 39)), (2, .ref (b + 26)), (3, .int (jI q)), (4, .int (jI v3)), (5, .int (jI io5))] [] (cmf b f0 Iq7 Aq7) _ _ _
  refine jt_aload_n d_EX_putBody_115 rfl ?_
  refine jt_aload_n d_EX_putBody_116 rfl ?_
  refine cm_get (k := 5) (v := .int (jI (Iq7 5 5))) d_EX_putBody_117 EX_f42 (by decide) cc_2 rfl ?_
  have rb8 : 0 ≤ Iq7 5 5 ∧ Iq7 5 5 ≤ 300 := hpq7.1 5 5
  refine cm_put (k := 39) (j := 3) (v := (Iq7 5 5)) d_EX_putBody_120 (EX_w38 _ rfl) (by decide) (cc_1 rfl) rfl rfl (Nat.le_of_ble_eq_true rfl) rfl ?_
  have p9 := cPx.I 39 3 (Iq7 5 5) hpq7 rfl (show 0 ≤ Iq7 5 5 ∧ Iq7 5 5 ≤ 300 by omega)
  refine jt_aload_n d_EX_putBody_123 rfl ?_
  refine jt_aload_n d_EX_putBody_124 rfl ?_
  refine cm_get (k := 5) (v := .ref (b + 8)) d_EX_putBody_125 EX_f24 (by decide) cc_2 rfl ?_
  refine jt_iconst d_EX_putBody_128 ?_
  refine jt_aload_n d_EX_putBody_129 rfl ?_
  refine cm_get (k := 5) (v := .ref (b + 8)) d_EX_putBody_130 EX_f24 (by decide) cc_2 rfl ?_
  refine cm_get (k := 8) (v := .int (jI (Iq7 8 3))) d_EX_putBody_133 EX_f38 (by decide) (cc_1 rfl) rfl ?_
  have rb10 : 0 ≤ Iq7 8 3 ∧ Iq7 8 3 ≤ 300 := p9.1 8 3
  refine cct_callV (Y := Y_TR_addAll) (ci := 0) (k := 39) (As := [.ref (b + 8), .int (jI 0), .int (jI (Iq7 8 3))]) (rest := []) d_EX_putBody_136 EX_c80 yk_TR_addAll yv_TR_addAll rfl (Nat.le_of_ble_eq_true rfl) (by decide) (cc_1 rfl) rfl rfl (Nat.le_of_ble_eq_true rfl) (v_TR_addAll_39_8_x G _ b 0 (Iq7 8 3) (cu Iq7 39 3 (Iq7 5 5)) Aq7 p9.1 p9.2.1 (by omega) (by omega)) (fun rvq11 Iq11 Aq11 hq11 => ?_)
  obtain ⟨rfl, hqq11, hxq11⟩ := hq11
  have hpq11 := cPx.trans p9 hqq11 rfl rfl
  have s39_3q11 : (cu Iq7 39 3 (Iq7 5 5)) 39 3 = Iq7 5 5 := rfl
  have s5_5q11 : (cu Iq7 39 3 (Iq7 5 5)) 5 5 = Iq7 5 5 := rfl
  have s8_3q11 : (cu Iq7 39 3 (Iq7 5 5)) 8 3 = Iq7 8 3 := rfl
  have m5_5q11 : Iq11 5 5 = Iq7 5 5 := hqq11.2.2.1 5 5 rfl
  have m8_3q11 : Iq11 8 3 = Iq7 8 3 := hqq11.2.2.1 8 3 rfl
  show jt _ 139 [(0, .ref (b + 5)), (1, .ref (b + 39)), (2, .ref (b + 26)), (3, .int (jI q)), (4, .int (jI v3)), (5, .int (jI io5))] [] (cmf b f0 Iq11 Aq11) _ _ _
  exact cm_vret d_EX_putBody_139 rfl (⟨rfl, hpq11, (hxq11.1 (hxq7.1 hKJo5)), by
      have f55 : Jo5 5 5 = I 5 5 := hJo5.2.2.1 5 5 rfl
      have lb : Jo5 8 3 = ((xbd (A 27) (A 28) (A 12) (A 13) X9 Y9 D9 (D9 (I 5 5) + 1) (I 26 3).toNat).length : Int) := by rw [hlo5, show io5 = I 26 3 by omega]
      have gb : gH (Bo5 9) (Bo5 10) (Bo5 11) (xbd (A 27) (A 28) (A 12) (A 13) X9 Y9 D9 (D9 (I 5 5) + 1) (I 26 3).toNat) := by have h9 := hHo5; rw [show io5 = I 26 3 by omega] at h9; exact h9
      have h1 := hxq7.2 (by omega) (by omega)
      have g1 := h1.2 _ lb.symm gb
      rw [cXo5, cYo5, cDo5, cNo5] at g1
      have l1 := xs_len X9 Y9 D9 q N9
      have l0 := xs_len X9 Y9 D9 0 (I 5 5)
      have g3 := gH_at g1 (by rw [List.length_append]; omega)
      have h2 := hxq11.2 (by omega) (show Iq7 5 5 + (Iq7 8 3 - 0) ≤ 300 by omega)
      have g2 := h2.2 (xs X9 Y9 D9 0 (I 5 5)) (show _ = Iq7 5 5 by omega) (show gH (Aq7 40) (Aq7 41) (Aq7 42) _ by rw [cXq7, cYq7, cDq7]; exact gH_xs _ _ _ _)
      have h3 : Iq11 39 3 = Iq7 5 5 + (Iq7 8 3 - 0) := h2.1
      have g4 : xs (Aq7 9) (Aq7 10) (Aq7 11) 0 (Iq7 8 3) = (xbd (A 27) (A 28) (A 12) (A 13) X9 Y9 D9 (D9 (I 5 5) + 1) (I 26 3).toNat) ++ xs X9 Y9 D9 q N9 := by rw [show Iq7 8 3 = (((xbd (A 27) (A 28) (A 12) (A 13) X9 Y9 D9 (D9 (I 5 5) + 1) (I 26 3).toNat) ++ xs X9 Y9 D9 q N9).length : Int) by rw [List.length_append]; omega]; exact g3.symm
      have g5 : gH (Aq11 40) (Aq11 41) (Aq11 42) (xs X9 Y9 D9 0 (I 5 5) ++ xs (Aq7 9) (Aq7 10) (Aq7 11) 0 (Iq7 8 3)) := g2
      rw [g4, ← List.append_assoc] at g5
      exact ⟨by rw [List.length_append, List.length_append]; omega, g5⟩⟩)
set_option maxRecDepth 100000 in
set_option maxHeartbeats 4000000 in
theorem l24_EX_putBody_30_xv (G : jG) (d b : Nat) (q : Int) (I : Nat → Nat → Int) (A : Nat → Int → Int) (hI : cSI I) (hA : cSA A) (hK : cTok A) (X9 : Int → Int) (hX : A 40 = X9) (Y9 : Int → Int) (hY : A 41 = Y9) (D9 : Int → Int) (hD : A 42 = D9) (N9 : Int) (hN : I 39 3 = N9) (hq : I 5 5 < q ∧ q ≤ N9) (hb : ∀ j, 0 ≤ j → j < I 30 3 → A 31 j = 2 → 0 ≤ A 12 (A 32 j) ∧ A 12 (A 32 j) ≤ A 13 (A 32 j) ∧ A 13 (A 32 j) ≤ N9) (hlen : I 5 5 + N9 - q + ((xbd (A 31) (A 32) (A 12) (A 13) X9 Y9 D9 (D9 (I 5 5) + 1) (I 30 3).toNat).length : Int) ≤ 300) (hd : 0 ≤ D9 (I 5 5) ∧ D9 (I 5 5) ≤ 6) (f0 : jF) (sz : Nat)  (e : Int) (e0 : e = D9 (I 5 5) + 1) (hout : ∀ (i : Int) (J : Nat → Nat → Int) (B : Nat → Int → Int), cPx [131, 627] [9, 10, 11, 40, 41, 42] I A J B → (0 ≤ i ∧ i ≤ I 30 3) → (cTok B) → (J 8 3 = ((xbd (A 31) (A 32) (A 12) (A 13) X9 Y9 D9 (D9 (I 5 5) + 1) i.toNat).length : Int)) → (gH (B 9) (B 10) (B 11) (xbd (A 31) (A 32) (A 12) (A 13) X9 Y9 D9 (D9 (I 5 5) + 1) i.toNat)) → (B 40 = X9) → (B 41 = Y9) → (B 42 = D9) → (J 39 3 = N9) → (i = I 30 3) → jt (jm G Y_EX_putBody (gR (d + 2)) (cQ b f0 sz (fun (rv : Option Value) (I2 : Nat → Nat → Int) (A2 : Nat → Int → Int) => rv = none ∧ cPx [131, 627] [9, 10, 11, 40, 41, 42] I A I2 A2 ∧ cTok A2 ∧ (I2 39 3 = ((xs X9 Y9 D9 0 (I 5 5) ++ (xbd (A 31) (A 32) (A 12) (A 13) X9 Y9 D9 (D9 (I 5 5) + 1) (I 30 3).toNat) ++ xs X9 Y9 D9 q N9).length : Int) ∧ gH (A2 40) (A2 41) (A2 42) (xs X9 Y9 D9 0 (I 5 5) ++ (xbd (A 31) (A 32) (A 12) (A 13) X9 Y9 D9 (D9 (I 5 5) + 1) (I 30 3).toNat) ++ xs X9 Y9 D9 q N9))))) 102 [(0, .ref (b + 5)), (1, .ref (b + 39)), (2, .ref (b + 30)), (3, .int (jI q)), (4, .int (jI e)), (5, .int (jI i))] [] (cmf b f0 J B) sz 0 0) : ∀ (n9 : Nat) (i : Int) (J : Nat → Nat → Int) (B : Nat → Int → Int), cPx [131, 627] [9, 10, 11, 40, 41, 42] I A J B → (0 ≤ i ∧ i ≤ I 30 3) → (cTok B) → (J 8 3 = ((xbd (A 31) (A 32) (A 12) (A 13) X9 Y9 D9 (D9 (I 5 5) + 1) i.toNat).length : Int)) → (gH (B 9) (B 10) (B 11) (xbd (A 31) (A 32) (A 12) (A 13) X9 Y9 D9 (D9 (I 5 5) + 1) i.toNat)) → (B 40 = X9) → (B 41 = Y9) → (B 42 = D9) → (J 39 3 = N9) → 40 - i < (n9 : Int) → jt (jm G Y_EX_putBody (gR (d + 2)) (cQ b f0 sz (fun (rv : Option Value) (I2 : Nat → Nat → Int) (A2 : Nat → Int → Int) => rv = none ∧ cPx [131, 627] [9, 10, 11, 40, 41, 42] I A I2 A2 ∧ cTok A2 ∧ (I2 39 3 = ((xs X9 Y9 D9 0 (I 5 5) ++ (xbd (A 31) (A 32) (A 12) (A 13) X9 Y9 D9 (D9 (I 5 5) + 1) (I 30 3).toNat) ++ xs X9 Y9 D9 q N9).length : Int) ∧ gH (A2 40) (A2 41) (A2 42) (xs X9 Y9 D9 0 (I 5 5) ++ (xbd (A 31) (A 32) (A 12) (A 13) X9 Y9 D9 (D9 (I 5 5) + 1) (I 30 3).toNat) ++ xs X9 Y9 D9 q N9))))) 24 [(0, .ref (b + 5)), (1, .ref (b + 39)), (2, .ref (b + 30)), (3, .int (jI q)), (4, .int (jI e)), (5, .int (jI i))] [] (cmf b f0 J B) sz 0 0 := by
  have r55 : 0 ≤ I 5 5 ∧ I 5 5 ≤ 300 := hI 5 5
  have r39 : 0 ≤ I 39 3 ∧ I 39 3 ≤ 300 := hI 39 3
  have rx3 : 0 ≤ I 30 3 ∧ I 30 3 ≤ 40 := hI 30 3
  intro n9
  induction n9 with
  | zero =>
    intro i J B hJ i0 hKJ hl hH cX cY cD cN hmeas
    have tk : gtok (B 31 i) (B 32 i) := hKJ 30 rfl i
    have f31 : B 31 = A 31 := hJ.2.2.2 31 rfl trivial
    have f32 : B 32 = A 32 := hJ.2.2.2 32 rfl trivial
    have f12 : B 12 = A 12 := hJ.2.2.2 12 rfl trivial
    have f13 : B 13 = A 13 := hJ.2.2.2 13 rfl trivial
    rw [f31, f32] at tk
    have tk2 := tk
    unfold gtok at tk
    have f55 : J 5 5 = I 5 5 := hJ.2.2.1 5 5 rfl
    have fx3 : J 30 3 = I 30 3 := hJ.2.2.1 30 3 rfl
    exfalso
    omega
  | succ n9 ih =>
    intro i J B hJ i0 hKJ hl hH cX cY cD cN hmeas
    have tk : gtok (B 31 i) (B 32 i) := hKJ 30 rfl i
    have f31 : B 31 = A 31 := hJ.2.2.2 31 rfl trivial
    have f32 : B 32 = A 32 := hJ.2.2.2 32 rfl trivial
    have f12 : B 12 = A 12 := hJ.2.2.2 12 rfl trivial
    have f13 : B 13 = A 13 := hJ.2.2.2 13 rfl trivial
    rw [f31, f32] at tk
    have tk2 := tk
    unfold gtok at tk
    have f55 : J 5 5 = I 5 5 := hJ.2.2.1 5 5 rfl
    have fx3 : J 30 3 = I 30 3 := hJ.2.2.1 30 3 rfl
    refine jt_iload d_EX_putBody_24 rfl ?_
    refine jt_aload_n d_EX_putBody_26 rfl ?_
    refine cm_get (k := 30) (v := .int (jI (J 30 3))) d_EX_putBody_27 EX_f38 (by decide) (cc_1 rfl) rfl ?_
    have rb101 : 0 ≤ J 30 3 ∧ J 30 3 ≤ 40 := hJ.1 30 3
    refine jt_icmp_ge (t := 102) d_EX_putBody_30 rfl (by unfold jRi; omega) (by unfold jRi; omega) (fun c102 => ?_) (fun c102 => ?_)
    · skip
      exact hout i J B hJ i0 hKJ hl hH cX cY cD cN (by omega)
    · skip
      refine jt_aload_n d_EX_putBody_33 rfl ?_
      refine cm_get (k := 30) (v := .ref (b + 32)) d_EX_putBody_34 EX_f55 (by decide) (cc_1 rfl) rfl ?_
      refine jt_iload d_EX_putBody_37 rfl ?_
      refine cm_ld0 (k := 32) (n := 40) (v := (B 32) i) d_EX_putBody_39 (by decide) rfl rfl (by omega) (by omega) (by omega) rfl ?_
      refine jt_topi (fun v103 ev103 => ?_)
      have bv103 : -2147483648 ≤ v103 ∧ v103 ≤ 2147483647 := by rw [ev103]; exact hJ.2.1 32 i
      rw [f32] at ev103
      refine jt_istore (L' := [(0, .ref (b + 5)), (1, .ref (b + 39)), (2, .ref (b + 30)), (3, .int (jI q)), (4, .int (jI e)), (5, .int (jI i)), (6, .int (jI v103))]) d_EX_putBody_40 (Nat.le_of_ble_eq_true rfl) rfl ?_
      refine jt_aload_n d_EX_putBody_42 rfl ?_
      refine cm_get (k := 30) (v := .ref (b + 31)) d_EX_putBody_43 EX_f48 (by decide) (cc_1 rfl) rfl ?_
      refine jt_iload d_EX_putBody_46 rfl ?_
      refine cm_ld0 (k := 31) (n := 40) (v := (B 31) i) d_EX_putBody_48 (by decide) rfl rfl (by omega) (by omega) (by omega) rfl ?_
      refine jt_topi (fun v104 ev104 => ?_)
      have bv104 : -2147483648 ≤ v104 ∧ v104 ≤ 2147483647 := by rw [ev104]; exact hJ.2.1 31 i
      rw [f31] at ev104
      refine jt_iconst d_EX_putBody_49 ?_
      refine jt_icmp_ne (t := 78) d_EX_putBody_50 rfl (by unfold jRi; omega) (by unfold jRi; omega) (fun c105 => ?_) (fun c105 => ?_)
      · skip
        have hk2 : ¬ A 31 i = 2 := by omega
        have es2 := xbd_s (A 31) (A 32) (A 12) (A 13) X9 Y9 D9 (D9 (I 5 5) + 1) i (by omega)
        unfold xb1 at es2
        rw [if_neg hk2] at es2
        have es := congrArg List.length es2
        rw [List.length_append] at es
        have hle := xbd_le (A 31) (A 32) (A 12) (A 13) X9 Y9 D9 (D9 (I 5 5) + 1) (i + 1).toNat (I 30 3).toNat (by omega)
        have es1 : (xbd (A 31) (A 32) (A 12) (A 13) X9 Y9 D9 (D9 (I 5 5) + 1) (i + 1).toNat).length = (xbd (A 31) (A 32) (A 12) (A 13) X9 Y9 D9 (D9 (I 5 5) + 1) i.toNat).length + 1 := es
        refine jt_aload_n d_EX_putBody_78 rfl ?_
        refine cm_get (k := 5) (v := .ref (b + 8)) d_EX_putBody_79 EX_f24 (by decide) cc_2 rfl ?_
        refine jt_aload_n d_EX_putBody_82 rfl ?_
        refine cm_get (k := 30) (v := .ref (b + 31)) d_EX_putBody_83 EX_f48 (by decide) (cc_1 rfl) rfl ?_
        refine jt_iload d_EX_putBody_86 rfl ?_
        refine cm_ld0 (k := 31) (n := 40) (v := (B 31) i) d_EX_putBody_88 (by decide) rfl rfl (by omega) (by omega) (by omega) rfl ?_
        refine jt_topi (fun v106 ev106 => ?_)
        have bv106 : -2147483648 ≤ v106 ∧ v106 ≤ 2147483647 := by rw [ev106]; exact hJ.2.1 31 i
        rw [f31] at ev106
        refine jt_iload d_EX_putBody_89 rfl ?_
        refine jt_iload d_EX_putBody_91 rfl ?_
        refine cct_callV (Y := Y_TR_add) (ci := 0) (k := 8) (As := [.int (jI v106), .int (jI v103), .int (jI e)]) (rest := []) d_EX_putBody_93 EX_c84 yk_TR_add yv_TR_add rfl (Nat.le_of_ble_eq_true rfl) (by decide) (cc_1 rfl) rfl rfl (Nat.le_of_ble_eq_true rfl) (v_TR_add_8_x G _ b v106 v103 e J B hJ.1 hJ.2.1 (by omega) (by omega) (by omega)) (fun rvq107 Iq107 Aq107 hq107 => ?_)
        obtain ⟨rfl, hqq107, hxq107⟩ := hq107
        have hpq107 := cPx.trans hJ hqq107 rfl rfl
        have cXq107 : Aq107 40 = X9 := (hqq107.2.2.2 40 rfl (by decide)).trans cX
        have cYq107 : Aq107 41 = Y9 := (hqq107.2.2.2 41 rfl (by decide)).trans cY
        have cDq107 : Aq107 42 = D9 := (hqq107.2.2.2 42 rfl (by decide)).trans cD
        have cNq107 : Iq107 39 3 = N9 := (hqq107.2.2.1 39 3 rfl).trans cN
        have m39_3q107 : Iq107 39 3 = J 39 3 := hqq107.2.2.1 39 3 rfl
        have m5_5q107 : Iq107 5 5 = J 5 5 := hqq107.2.2.1 5 5 rfl
        show jt _ 96 [(0, .ref (b + 5)), (1, .ref (b + 39)), (2, .ref (b + 30)), (3, .int (jI q)), (4, .int (jI e)), (5, .int (jI i)), (6, .int (jI v103))] [] (cmf b f0 Iq107 Aq107) _ _ _
        refine jt_iinc (L' := [(0, .ref (b + 5)), (1, .ref (b + 39)), (2, .ref (b + 30)), (3, .int (jI q)), (4, .int (jI e)), (5, .int (jI (i + 1))), (6, .int (jI v103))]) d_EX_putBody_96 rfl (Nat.le_of_ble_eq_true rfl) rfl ?_
        refine jt_goto (t := 24) d_EX_putBody_99 rfl ?_
        refine jt_sub (L' := [(0, .ref (b + 5)), (1, .ref (b + 39)), (2, .ref (b + 30)), (3, .int (jI q)), (4, .int (jI e)), (5, .int (jI (i + 1)))]) (fun _ h => List.mem_append_left [(6, Value.int (jI v103))] h) ?_
        exact ih (i + 1) Iq107 Aq107 hpq107 (by omega) (hxq107.1 hKJ (by rw [ev106, ev103]; exact tk2)) (show Iq107 8 3 = ((xbd (A 31) (A 32) (A 12) (A 13) X9 Y9 D9 (D9 (I 5 5) + 1) (i + 1).toNat).length : Int) by have h9 := (hxq107.2 (by omega)).1; omega) (by have h9 := (hxq107.2 (by omega)).2 _ hl.symm hH; rw [e0] at h9; rw [es2, ← ev106, ← ev103]; exact h9) cXq107 cYq107 cDq107 cNq107 (by omega)
      · skip
        have hk2 : A 31 i = 2 := by omega
        have es2 := xbd_s (A 31) (A 32) (A 12) (A 13) X9 Y9 D9 (D9 (I 5 5) + 1) i (by omega)
        unfold xb1 at es2
        rw [if_pos hk2] at es2
        have es := congrArg List.length es2
        rw [List.length_append] at es
        have hle := xbd_le (A 31) (A 32) (A 12) (A 13) X9 Y9 D9 (D9 (I 5 5) + 1) (i + 1).toNat (I 30 3).toNat (by omega)
        rw [xs_len] at es
        have q9 := hb i (by omega) (by omega) hk2
        rw [← ev103] at q9 es es2
        refine jt_aload_n d_EX_putBody_53 rfl ?_
        refine cm_get (k := 5) (v := .ref (b + 8)) d_EX_putBody_54 EX_f24 (by decide) cc_2 rfl ?_
        refine jt_aload_n d_EX_putBody_57 rfl ?_
        refine jt_aload_n d_EX_putBody_58 rfl ?_
        refine cm_get (k := 5) (v := .ref (b + 12)) d_EX_putBody_59 EX_f28 (by decide) cc_2 rfl ?_
        refine jt_iload d_EX_putBody_62 rfl ?_
        refine cm_ld0 (k := 12) (n := 3) (v := (B 12) v103) d_EX_putBody_64 (by decide) rfl rfl (by omega) (by omega) (by omega) rfl ?_
        refine jt_topi (fun v108 ev108 => ?_)
        have bv108 : 0 ≤ v108 ∧ v108 ≤ 300 := by rw [ev108]; exact hJ.2.1 12 v103
        rw [f12] at ev108
        refine jt_aload_n d_EX_putBody_65 rfl ?_
        refine cm_get (k := 5) (v := .ref (b + 13)) d_EX_putBody_66 EX_f31 (by decide) cc_2 rfl ?_
        refine jt_iload d_EX_putBody_69 rfl ?_
        refine cm_ld0 (k := 13) (n := 3) (v := (B 13) v103) d_EX_putBody_71 (by decide) rfl rfl (by omega) (by omega) (by omega) rfl ?_
        refine jt_topi (fun v109 ev109 => ?_)
        have bv109 : 0 ≤ v109 ∧ v109 ≤ 300 := by rw [ev109]; exact hJ.2.1 13 v103
        rw [f13] at ev109
        refine cct_callV (Y := Y_TR_addAll) (ci := 0) (k := 8) (As := [.ref (b + 39), .int (jI v108), .int (jI v109)]) (rest := []) d_EX_putBody_72 EX_c80 yk_TR_addAll yv_TR_addAll rfl (Nat.le_of_ble_eq_true rfl) (by decide) (cc_1 rfl) rfl rfl (Nat.le_of_ble_eq_true rfl) (v_TR_addAll_8_39_x G _ b v108 v109 J B hJ.1 hJ.2.1 (by omega) (by omega)) (fun rvq110 Iq110 Aq110 hq110 => ?_)
        obtain ⟨rfl, hqq110, hxq110⟩ := hq110
        have hpq110 := cPx.trans hJ hqq110 rfl rfl
        have cXq110 : Aq110 40 = X9 := (hqq110.2.2.2 40 rfl (by decide)).trans cX
        have cYq110 : Aq110 41 = Y9 := (hqq110.2.2.2 41 rfl (by decide)).trans cY
        have cDq110 : Aq110 42 = D9 := (hqq110.2.2.2 42 rfl (by decide)).trans cD
        have cNq110 : Iq110 39 3 = N9 := (hqq110.2.2.1 39 3 rfl).trans cN
        have m39_3q110 : Iq110 39 3 = J 39 3 := hqq110.2.2.1 39 3 rfl
        have m5_5q110 : Iq110 5 5 = J 5 5 := hqq110.2.2.1 5 5 rfl
        show jt _ 75 [(0, .ref (b + 5)), (1, .ref (b + 39)), (2, .ref (b + 30)), (3, .int (jI q)), (4, .int (jI e)), (5, .int (jI i)), (6, .int (jI v103))] [] (cmf b f0 Iq110 Aq110) _ _ _
        refine jt_goto (t := 96) d_EX_putBody_75 rfl ?_
        refine jt_iinc (L' := [(0, .ref (b + 5)), (1, .ref (b + 39)), (2, .ref (b + 30)), (3, .int (jI q)), (4, .int (jI e)), (5, .int (jI (i + 1))), (6, .int (jI v103))]) d_EX_putBody_96 rfl (Nat.le_of_ble_eq_true rfl) rfl ?_
        refine jt_goto (t := 24) d_EX_putBody_99 rfl ?_
        refine jt_sub (L' := [(0, .ref (b + 5)), (1, .ref (b + 39)), (2, .ref (b + 30)), (3, .int (jI q)), (4, .int (jI e)), (5, .int (jI (i + 1)))]) (fun _ h => List.mem_append_left [(6, Value.int (jI v103))] h) ?_
        exact ih (i + 1) Iq110 Aq110 hpq110 (by omega) (hxq110.1 hKJ) (show Iq110 8 3 = ((xbd (A 31) (A 32) (A 12) (A 13) X9 Y9 D9 (D9 (I 5 5) + 1) (i + 1).toNat).length : Int) by have h9 := (hxq110.2 (by omega) (by omega)).1; omega) (by have h9 := (hxq110.2 (by omega) (by omega)).2 _ hl.symm hH; rw [cX, cY, cD] at h9; rw [es2, ← ev108, ← ev109]; exact h9) cXq110 cYq110 cDq110 cNq110 (by omega)
set_option maxRecDepth 100000 in
set_option maxHeartbeats 4000000 in
theorem v_EX_putBody_30_x (G : jG) (d b : Nat) (q : Int) (I : Nat → Nat → Int) (A : Nat → Int → Int) (hI : cSI I) (hA : cSA A) (hK : cTok A) (X9 : Int → Int) (hX : A 40 = X9) (Y9 : Int → Int) (hY : A 41 = Y9) (D9 : Int → Int) (hD : A 42 = D9) (N9 : Int) (hN : I 39 3 = N9) (hq : I 5 5 < q ∧ q ≤ N9) (hb : ∀ j, 0 ≤ j → j < I 30 3 → A 31 j = 2 → 0 ≤ A 12 (A 32 j) ∧ A 12 (A 32 j) ≤ A 13 (A 32 j) ∧ A 13 (A 32 j) ≤ N9) (hlen : I 5 5 + N9 - q + ((xbd (A 31) (A 32) (A 12) (A 13) X9 Y9 D9 (D9 (I 5 5) + 1) (I 30 3).toNat).length : Int) ≤ 300) (hd : 0 ≤ D9 (I 5 5) ∧ D9 (I 5 5) ≤ 6) : cct G Y_EX_putBody (d + 2) b [.ref (b + 5), .ref (b + 39), .ref (b + 30), .int (jI q)] I A (fun (rv : Option Value) (I2 : Nat → Nat → Int) (A2 : Nat → Int → Int) => rv = none ∧ cPx [131, 627] [9, 10, 11, 40, 41, 42] I A I2 A2 ∧ cTok A2 ∧ (I2 39 3 = ((xs X9 Y9 D9 0 (I 5 5) ++ (xbd (A 31) (A 32) (A 12) (A 13) X9 Y9 D9 (D9 (I 5 5) + 1) (I 30 3).toNat) ++ xs X9 Y9 D9 q N9).length : Int) ∧ gH (A2 40) (A2 41) (A2 42) (xs X9 Y9 D9 0 (I 5 5) ++ (xbd (A 31) (A 32) (A 12) (A 13) X9 Y9 D9 (D9 (I 5 5) + 1) (I 30 3).toNat) ++ xs X9 Y9 D9 q N9))) := by
  refine cct_of (by decide) (Nat.le_of_ble_eq_true rfl) (fun f0 sz => ?_)
  show jt _ 0 [(0, .ref (b + 5)), (1, .ref (b + 39)), (2, .ref (b + 30)), (3, .int (jI q))] [] _ _ _ _
  have r55 : 0 ≤ I 5 5 ∧ I 5 5 ≤ 300 := hI 5 5
  have r39 : 0 ≤ I 39 3 ∧ I 39 3 ≤ 300 := hI 39 3
  have rx3 : 0 ≤ I 30 3 ∧ I 30 3 ≤ 40 := hI 30 3
  have hz0 : cPx [131, 627] [9, 10, 11, 40, 41, 42] I A I A := cPx.refl hI hA
  refine jt_aload_n d_EX_putBody_0 rfl ?_
  refine cm_get (k := 39) (v := .ref (b + 42)) d_EX_putBody_1 EX_f58 (by decide) (cc_1 rfl) rfl ?_
  refine jt_aload_n d_EX_putBody_4 rfl ?_
  refine cm_get (k := 5) (v := .int (jI (I 5 5))) d_EX_putBody_5 EX_f42 (by decide) cc_2 rfl ?_
  have rb1 : 0 ≤ I 5 5 ∧ I 5 5 ≤ 300 := hz0.1 5 5
  refine cm_ld0 (k := 42) (n := 300) (v := (A 42) (I 5 5)) d_EX_putBody_8 (by decide) rfl rfl (by omega) (by omega) (by omega) rfl ?_
  refine jt_topi (fun v2 ev2 => ?_)
  have bv2 : -2147483648 ≤ v2 ∧ v2 ≤ 2147483647 := by rw [ev2]; exact hz0.2.1 42 (I 5 5)
  rw [hD] at ev2
  refine jt_iconst d_EX_putBody_9 ?_
  refine jt_iadd d_EX_putBody_10 ?_
  refine jt_topi (fun v3 ev3 => ?_)
  refine jt_istore (L' := [(0, .ref (b + 5)), (1, .ref (b + 39)), (2, .ref (b + 30)), (3, .int (jI q)), (4, .int (jI v3))]) d_EX_putBody_11 (Nat.le_of_ble_eq_true rfl) rfl ?_
  refine jt_aload_n d_EX_putBody_13 rfl ?_
  refine cm_get (k := 5) (v := .ref (b + 8)) d_EX_putBody_14 EX_f24 (by decide) cc_2 rfl ?_
  refine jt_iconst d_EX_putBody_17 ?_
  refine cm_put (k := 8) (j := 3) (v := 0) d_EX_putBody_18 (EX_w38 _ rfl) (by decide) (cc_1 rfl) rfl rfl (Nat.le_of_ble_eq_true rfl) rfl ?_
  have p4 := cPx.I 8 3 0 hz0 rfl (show 0 ≤ 0 ∧ 0 ≤ 300 by omega)
  refine jt_iconst d_EX_putBody_21 ?_
  refine jt_istore (L' := [(0, .ref (b + 5)), (1, .ref (b + 39)), (2, .ref (b + 30)), (3, .int (jI q)), (4, .int (jI v3)), (5, .int (jI 0))]) d_EX_putBody_22 (Nat.le_of_ble_eq_true rfl) rfl ?_
  refine l24_EX_putBody_30_xv G d b q I A hI hA hK X9 hX Y9 hY D9 hD N9 hN hq hb hlen hd f0 sz v3 ((by omega)) (fun io5 Jo5 Bo5 hJo5 i0o5 hKJo5 hlo5 hHo5 cXo5 cYo5 cDo5 cNo5 ixo5 => ?_) 41 0 (cu I 8 3 0) A p4 (by omega) hK (show (0 : Int) = (((xbd (A 31) (A 32) (A 12) (A 13) X9 Y9 D9 (D9 (I 5 5) + 1) 0).length : Nat) : Int) from rfl) (fun i t h => by simp [xbd] at h) hX hY hD hN (by omega)
  refine jt_aload_n d_EX_putBody_102 rfl ?_
  refine cm_get (k := 5) (v := .ref (b + 8)) d_EX_putBody_103 EX_f24 (by decide) cc_2 rfl ?_
  refine jt_aload_n d_EX_putBody_106 rfl ?_
  refine jt_iload_n d_EX_putBody_107 rfl ?_
  refine jt_aload_n d_EX_putBody_108 rfl ?_
  refine cm_get (k := 39) (v := .int (jI (Jo5 39 3))) d_EX_putBody_109 EX_f38 (by decide) (cc_1 rfl) rfl ?_
  have rb6 : 0 ≤ Jo5 39 3 ∧ Jo5 39 3 ≤ 300 := hJo5.1 39 3
  refine cct_callV (Y := Y_TR_addAll) (ci := 0) (k := 8) (As := [.ref (b + 39), .int (jI q), .int (jI (Jo5 39 3))]) (rest := []) d_EX_putBody_112 EX_c80 yk_TR_addAll yv_TR_addAll rfl (Nat.le_of_ble_eq_true rfl) (by decide) (cc_1 rfl) rfl rfl (Nat.le_of_ble_eq_true rfl) (v_TR_addAll_8_39_x G _ b q (Jo5 39 3) Jo5 Bo5 hJo5.1 hJo5.2.1 (by omega) (by omega)) (fun rvq7 Iq7 Aq7 hq7 => ?_)
  obtain ⟨rfl, hqq7, hxq7⟩ := hq7
  have hpq7 := cPx.trans hJo5 hqq7 rfl rfl
  have cXq7 : Aq7 40 = X9 := (hqq7.2.2.2 40 rfl (by decide)).trans cXo5
  have cYq7 : Aq7 41 = Y9 := (hqq7.2.2.2 41 rfl (by decide)).trans cYo5
  have cDq7 : Aq7 42 = D9 := (hqq7.2.2.2 42 rfl (by decide)).trans cDo5
  have cNq7 : Iq7 39 3 = N9 := (hqq7.2.2.1 39 3 rfl).trans cNo5
  have m39_3q7 : Iq7 39 3 = Jo5 39 3 := hqq7.2.2.1 39 3 rfl
  have m5_5q7 : Iq7 5 5 = Jo5 5 5 := hqq7.2.2.1 5 5 rfl
  show jt _ 115 [(0, .ref (b + 5)), (1, .ref (b + 39)), (2, .ref (b + 30)), (3, .int (jI q)), (4, .int (jI v3)), (5, .int (jI io5))] [] (cmf b f0 Iq7 Aq7) _ _ _
  refine jt_aload_n d_EX_putBody_115 rfl ?_
  refine jt_aload_n d_EX_putBody_116 rfl ?_
  refine cm_get (k := 5) (v := .int (jI (Iq7 5 5))) d_EX_putBody_117 EX_f42 (by decide) cc_2 rfl ?_
  have rb8 : 0 ≤ Iq7 5 5 ∧ Iq7 5 5 ≤ 300 := hpq7.1 5 5
  refine cm_put (k := 39) (j := 3) (v := (Iq7 5 5)) d_EX_putBody_120 (EX_w38 _ rfl) (by decide) (cc_1 rfl) rfl rfl (Nat.le_of_ble_eq_true rfl) rfl ?_
  have p9 := cPx.I 39 3 (Iq7 5 5) hpq7 rfl (show 0 ≤ Iq7 5 5 ∧ Iq7 5 5 ≤ 300 by omega)
  refine jt_aload_n d_EX_putBody_123 rfl ?_
  refine jt_aload_n d_EX_putBody_124 rfl ?_
  refine cm_get (k := 5) (v := .ref (b + 8)) d_EX_putBody_125 EX_f24 (by decide) cc_2 rfl ?_
  refine jt_iconst d_EX_putBody_128 ?_
  refine jt_aload_n d_EX_putBody_129 rfl ?_
  refine cm_get (k := 5) (v := .ref (b + 8)) d_EX_putBody_130 EX_f24 (by decide) cc_2 rfl ?_
  refine cm_get (k := 8) (v := .int (jI (Iq7 8 3))) d_EX_putBody_133 EX_f38 (by decide) (cc_1 rfl) rfl ?_
  have rb10 : 0 ≤ Iq7 8 3 ∧ Iq7 8 3 ≤ 300 := p9.1 8 3
  refine cct_callV (Y := Y_TR_addAll) (ci := 0) (k := 39) (As := [.ref (b + 8), .int (jI 0), .int (jI (Iq7 8 3))]) (rest := []) d_EX_putBody_136 EX_c80 yk_TR_addAll yv_TR_addAll rfl (Nat.le_of_ble_eq_true rfl) (by decide) (cc_1 rfl) rfl rfl (Nat.le_of_ble_eq_true rfl) (v_TR_addAll_39_8_x G _ b 0 (Iq7 8 3) (cu Iq7 39 3 (Iq7 5 5)) Aq7 p9.1 p9.2.1 (by omega) (by omega)) (fun rvq11 Iq11 Aq11 hq11 => ?_)
  obtain ⟨rfl, hqq11, hxq11⟩ := hq11
  have hpq11 := cPx.trans p9 hqq11 rfl rfl
  have s39_3q11 : (cu Iq7 39 3 (Iq7 5 5)) 39 3 = Iq7 5 5 := rfl
  have s5_5q11 : (cu Iq7 39 3 (Iq7 5 5)) 5 5 = Iq7 5 5 := rfl
  have s8_3q11 : (cu Iq7 39 3 (Iq7 5 5)) 8 3 = Iq7 8 3 := rfl
  have m5_5q11 : Iq11 5 5 = Iq7 5 5 := hqq11.2.2.1 5 5 rfl
  have m8_3q11 : Iq11 8 3 = Iq7 8 3 := hqq11.2.2.1 8 3 rfl
  show jt _ 139 [(0, .ref (b + 5)), (1, .ref (b + 39)), (2, .ref (b + 30)), (3, .int (jI q)), (4, .int (jI v3)), (5, .int (jI io5))] [] (cmf b f0 Iq11 Aq11) _ _ _
  exact cm_vret d_EX_putBody_139 rfl (⟨rfl, hpq11, (hxq11.1 (hxq7.1 hKJo5)), by
      have f55 : Jo5 5 5 = I 5 5 := hJo5.2.2.1 5 5 rfl
      have lb : Jo5 8 3 = ((xbd (A 31) (A 32) (A 12) (A 13) X9 Y9 D9 (D9 (I 5 5) + 1) (I 30 3).toNat).length : Int) := by rw [hlo5, show io5 = I 30 3 by omega]
      have gb : gH (Bo5 9) (Bo5 10) (Bo5 11) (xbd (A 31) (A 32) (A 12) (A 13) X9 Y9 D9 (D9 (I 5 5) + 1) (I 30 3).toNat) := by have h9 := hHo5; rw [show io5 = I 30 3 by omega] at h9; exact h9
      have h1 := hxq7.2 (by omega) (by omega)
      have g1 := h1.2 _ lb.symm gb
      rw [cXo5, cYo5, cDo5, cNo5] at g1
      have l1 := xs_len X9 Y9 D9 q N9
      have l0 := xs_len X9 Y9 D9 0 (I 5 5)
      have g3 := gH_at g1 (by rw [List.length_append]; omega)
      have h2 := hxq11.2 (by omega) (show Iq7 5 5 + (Iq7 8 3 - 0) ≤ 300 by omega)
      have g2 := h2.2 (xs X9 Y9 D9 0 (I 5 5)) (show _ = Iq7 5 5 by omega) (show gH (Aq7 40) (Aq7 41) (Aq7 42) _ by rw [cXq7, cYq7, cDq7]; exact gH_xs _ _ _ _)
      have h3 : Iq11 39 3 = Iq7 5 5 + (Iq7 8 3 - 0) := h2.1
      have g4 : xs (Aq7 9) (Aq7 10) (Aq7 11) 0 (Iq7 8 3) = (xbd (A 31) (A 32) (A 12) (A 13) X9 Y9 D9 (D9 (I 5 5) + 1) (I 30 3).toNat) ++ xs X9 Y9 D9 q N9 := by rw [show Iq7 8 3 = (((xbd (A 31) (A 32) (A 12) (A 13) X9 Y9 D9 (D9 (I 5 5) + 1) (I 30 3).toNat) ++ xs X9 Y9 D9 q N9).length : Int) by rw [List.length_append]; omega]; exact g3.symm
      have g5 : gH (Aq11 40) (Aq11 41) (Aq11 42) (xs X9 Y9 D9 0 (I 5 5) ++ xs (Aq7 9) (Aq7 10) (Aq7 11) 0 (Iq7 8 3)) := g2
      rw [g4, ← List.append_assoc] at g5
      exact ⟨by rw [List.length_append, List.length_append]; omega, g5⟩⟩)
set_option maxRecDepth 100000 in
set_option maxHeartbeats 4000000 in
theorem l24_EX_putBody_34_xv (G : jG) (d b : Nat) (q : Int) (I : Nat → Nat → Int) (A : Nat → Int → Int) (hI : cSI I) (hA : cSA A) (hK : cTok A) (X9 : Int → Int) (hX : A 40 = X9) (Y9 : Int → Int) (hY : A 41 = Y9) (D9 : Int → Int) (hD : A 42 = D9) (N9 : Int) (hN : I 39 3 = N9) (hq : I 5 5 < q ∧ q ≤ N9) (hb : ∀ j, 0 ≤ j → j < I 34 3 → A 35 j = 2 → 0 ≤ A 12 (A 36 j) ∧ A 12 (A 36 j) ≤ A 13 (A 36 j) ∧ A 13 (A 36 j) ≤ N9) (hlen : I 5 5 + N9 - q + ((xbd (A 35) (A 36) (A 12) (A 13) X9 Y9 D9 (D9 (I 5 5) + 1) (I 34 3).toNat).length : Int) ≤ 300) (hd : 0 ≤ D9 (I 5 5) ∧ D9 (I 5 5) ≤ 6) (f0 : jF) (sz : Nat)  (e : Int) (e0 : e = D9 (I 5 5) + 1) (hout : ∀ (i : Int) (J : Nat → Nat → Int) (B : Nat → Int → Int), cPx [131, 627] [9, 10, 11, 40, 41, 42] I A J B → (0 ≤ i ∧ i ≤ I 34 3) → (cTok B) → (J 8 3 = ((xbd (A 35) (A 36) (A 12) (A 13) X9 Y9 D9 (D9 (I 5 5) + 1) i.toNat).length : Int)) → (gH (B 9) (B 10) (B 11) (xbd (A 35) (A 36) (A 12) (A 13) X9 Y9 D9 (D9 (I 5 5) + 1) i.toNat)) → (B 40 = X9) → (B 41 = Y9) → (B 42 = D9) → (J 39 3 = N9) → (i = I 34 3) → jt (jm G Y_EX_putBody (gR (d + 2)) (cQ b f0 sz (fun (rv : Option Value) (I2 : Nat → Nat → Int) (A2 : Nat → Int → Int) => rv = none ∧ cPx [131, 627] [9, 10, 11, 40, 41, 42] I A I2 A2 ∧ cTok A2 ∧ (I2 39 3 = ((xs X9 Y9 D9 0 (I 5 5) ++ (xbd (A 35) (A 36) (A 12) (A 13) X9 Y9 D9 (D9 (I 5 5) + 1) (I 34 3).toNat) ++ xs X9 Y9 D9 q N9).length : Int) ∧ gH (A2 40) (A2 41) (A2 42) (xs X9 Y9 D9 0 (I 5 5) ++ (xbd (A 35) (A 36) (A 12) (A 13) X9 Y9 D9 (D9 (I 5 5) + 1) (I 34 3).toNat) ++ xs X9 Y9 D9 q N9))))) 102 [(0, .ref (b + 5)), (1, .ref (b + 39)), (2, .ref (b + 34)), (3, .int (jI q)), (4, .int (jI e)), (5, .int (jI i))] [] (cmf b f0 J B) sz 0 0) : ∀ (n9 : Nat) (i : Int) (J : Nat → Nat → Int) (B : Nat → Int → Int), cPx [131, 627] [9, 10, 11, 40, 41, 42] I A J B → (0 ≤ i ∧ i ≤ I 34 3) → (cTok B) → (J 8 3 = ((xbd (A 35) (A 36) (A 12) (A 13) X9 Y9 D9 (D9 (I 5 5) + 1) i.toNat).length : Int)) → (gH (B 9) (B 10) (B 11) (xbd (A 35) (A 36) (A 12) (A 13) X9 Y9 D9 (D9 (I 5 5) + 1) i.toNat)) → (B 40 = X9) → (B 41 = Y9) → (B 42 = D9) → (J 39 3 = N9) → 40 - i < (n9 : Int) → jt (jm G Y_EX_putBody (gR (d + 2)) (cQ b f0 sz (fun (rv : Option Value) (I2 : Nat → Nat → Int) (A2 : Nat → Int → Int) => rv = none ∧ cPx [131, 627] [9, 10, 11, 40, 41, 42] I A I2 A2 ∧ cTok A2 ∧ (I2 39 3 = ((xs X9 Y9 D9 0 (I 5 5) ++ (xbd (A 35) (A 36) (A 12) (A 13) X9 Y9 D9 (D9 (I 5 5) + 1) (I 34 3).toNat) ++ xs X9 Y9 D9 q N9).length : Int) ∧ gH (A2 40) (A2 41) (A2 42) (xs X9 Y9 D9 0 (I 5 5) ++ (xbd (A 35) (A 36) (A 12) (A 13) X9 Y9 D9 (D9 (I 5 5) + 1) (I 34 3).toNat) ++ xs X9 Y9 D9 q N9))))) 24 [(0, .ref (b + 5)), (1, .ref (b + 39)), (2, .ref (b + 34)), (3, .int (jI q)), (4, .int (jI e)), (5, .int (jI i))] [] (cmf b f0 J B) sz 0 0 := by
  have r55 : 0 ≤ I 5 5 ∧ I 5 5 ≤ 300 := hI 5 5
  have r39 : 0 ≤ I 39 3 ∧ I 39 3 ≤ 300 := hI 39 3
  have rx3 : 0 ≤ I 34 3 ∧ I 34 3 ≤ 40 := hI 34 3
  intro n9
  induction n9 with
  | zero =>
    intro i J B hJ i0 hKJ hl hH cX cY cD cN hmeas
    have tk : gtok (B 35 i) (B 36 i) := hKJ 34 rfl i
    have f35 : B 35 = A 35 := hJ.2.2.2 35 rfl trivial
    have f36 : B 36 = A 36 := hJ.2.2.2 36 rfl trivial
    have f12 : B 12 = A 12 := hJ.2.2.2 12 rfl trivial
    have f13 : B 13 = A 13 := hJ.2.2.2 13 rfl trivial
    rw [f35, f36] at tk
    have tk2 := tk
    unfold gtok at tk
    have f55 : J 5 5 = I 5 5 := hJ.2.2.1 5 5 rfl
    have fx3 : J 34 3 = I 34 3 := hJ.2.2.1 34 3 rfl
    exfalso
    omega
  | succ n9 ih =>
    intro i J B hJ i0 hKJ hl hH cX cY cD cN hmeas
    have tk : gtok (B 35 i) (B 36 i) := hKJ 34 rfl i
    have f35 : B 35 = A 35 := hJ.2.2.2 35 rfl trivial
    have f36 : B 36 = A 36 := hJ.2.2.2 36 rfl trivial
    have f12 : B 12 = A 12 := hJ.2.2.2 12 rfl trivial
    have f13 : B 13 = A 13 := hJ.2.2.2 13 rfl trivial
    rw [f35, f36] at tk
    have tk2 := tk
    unfold gtok at tk
    have f55 : J 5 5 = I 5 5 := hJ.2.2.1 5 5 rfl
    have fx3 : J 34 3 = I 34 3 := hJ.2.2.1 34 3 rfl
    refine jt_iload d_EX_putBody_24 rfl ?_
    refine jt_aload_n d_EX_putBody_26 rfl ?_
    refine cm_get (k := 34) (v := .int (jI (J 34 3))) d_EX_putBody_27 EX_f38 (by decide) (cc_1 rfl) rfl ?_
    have rb101 : 0 ≤ J 34 3 ∧ J 34 3 ≤ 40 := hJ.1 34 3
    refine jt_icmp_ge (t := 102) d_EX_putBody_30 rfl (by unfold jRi; omega) (by unfold jRi; omega) (fun c102 => ?_) (fun c102 => ?_)
    · skip
      exact hout i J B hJ i0 hKJ hl hH cX cY cD cN (by omega)
    · skip
      refine jt_aload_n d_EX_putBody_33 rfl ?_
      refine cm_get (k := 34) (v := .ref (b + 36)) d_EX_putBody_34 EX_f55 (by decide) (cc_1 rfl) rfl ?_
      refine jt_iload d_EX_putBody_37 rfl ?_
      refine cm_ld0 (k := 36) (n := 40) (v := (B 36) i) d_EX_putBody_39 (by decide) rfl rfl (by omega) (by omega) (by omega) rfl ?_
      refine jt_topi (fun v103 ev103 => ?_)
      have bv103 : -2147483648 ≤ v103 ∧ v103 ≤ 2147483647 := by rw [ev103]; exact hJ.2.1 36 i
      rw [f36] at ev103
      refine jt_istore (L' := [(0, .ref (b + 5)), (1, .ref (b + 39)), (2, .ref (b + 34)), (3, .int (jI q)), (4, .int (jI e)), (5, .int (jI i)), (6, .int (jI v103))]) d_EX_putBody_40 (Nat.le_of_ble_eq_true rfl) rfl ?_
      refine jt_aload_n d_EX_putBody_42 rfl ?_
      refine cm_get (k := 34) (v := .ref (b + 35)) d_EX_putBody_43 EX_f48 (by decide) (cc_1 rfl) rfl ?_
      refine jt_iload d_EX_putBody_46 rfl ?_
      refine cm_ld0 (k := 35) (n := 40) (v := (B 35) i) d_EX_putBody_48 (by decide) rfl rfl (by omega) (by omega) (by omega) rfl ?_
      refine jt_topi (fun v104 ev104 => ?_)
      have bv104 : -2147483648 ≤ v104 ∧ v104 ≤ 2147483647 := by rw [ev104]; exact hJ.2.1 35 i
      rw [f35] at ev104
      refine jt_iconst d_EX_putBody_49 ?_
      refine jt_icmp_ne (t := 78) d_EX_putBody_50 rfl (by unfold jRi; omega) (by unfold jRi; omega) (fun c105 => ?_) (fun c105 => ?_)
      · skip
        have hk2 : ¬ A 35 i = 2 := by omega
        have es2 := xbd_s (A 35) (A 36) (A 12) (A 13) X9 Y9 D9 (D9 (I 5 5) + 1) i (by omega)
        unfold xb1 at es2
        rw [if_neg hk2] at es2
        have es := congrArg List.length es2
        rw [List.length_append] at es
        have hle := xbd_le (A 35) (A 36) (A 12) (A 13) X9 Y9 D9 (D9 (I 5 5) + 1) (i + 1).toNat (I 34 3).toNat (by omega)
        have es1 : (xbd (A 35) (A 36) (A 12) (A 13) X9 Y9 D9 (D9 (I 5 5) + 1) (i + 1).toNat).length = (xbd (A 35) (A 36) (A 12) (A 13) X9 Y9 D9 (D9 (I 5 5) + 1) i.toNat).length + 1 := es
        refine jt_aload_n d_EX_putBody_78 rfl ?_
        refine cm_get (k := 5) (v := .ref (b + 8)) d_EX_putBody_79 EX_f24 (by decide) cc_2 rfl ?_
        refine jt_aload_n d_EX_putBody_82 rfl ?_
        refine cm_get (k := 34) (v := .ref (b + 35)) d_EX_putBody_83 EX_f48 (by decide) (cc_1 rfl) rfl ?_
        refine jt_iload d_EX_putBody_86 rfl ?_
        refine cm_ld0 (k := 35) (n := 40) (v := (B 35) i) d_EX_putBody_88 (by decide) rfl rfl (by omega) (by omega) (by omega) rfl ?_
        refine jt_topi (fun v106 ev106 => ?_)
        have bv106 : -2147483648 ≤ v106 ∧ v106 ≤ 2147483647 := by rw [ev106]; exact hJ.2.1 35 i
        rw [f35] at ev106
        refine jt_iload d_EX_putBody_89 rfl ?_
        refine jt_iload d_EX_putBody_91 rfl ?_
        refine cct_callV (Y := Y_TR_add) (ci := 0) (k := 8) (As := [.int (jI v106), .int (jI v103), .int (jI e)]) (rest := []) d_EX_putBody_93 EX_c84 yk_TR_add yv_TR_add rfl (Nat.le_of_ble_eq_true rfl) (by decide) (cc_1 rfl) rfl rfl (Nat.le_of_ble_eq_true rfl) (v_TR_add_8_x G _ b v106 v103 e J B hJ.1 hJ.2.1 (by omega) (by omega) (by omega)) (fun rvq107 Iq107 Aq107 hq107 => ?_)
        obtain ⟨rfl, hqq107, hxq107⟩ := hq107
        have hpq107 := cPx.trans hJ hqq107 rfl rfl
        have cXq107 : Aq107 40 = X9 := (hqq107.2.2.2 40 rfl (by decide)).trans cX
        have cYq107 : Aq107 41 = Y9 := (hqq107.2.2.2 41 rfl (by decide)).trans cY
        have cDq107 : Aq107 42 = D9 := (hqq107.2.2.2 42 rfl (by decide)).trans cD
        have cNq107 : Iq107 39 3 = N9 := (hqq107.2.2.1 39 3 rfl).trans cN
        have m39_3q107 : Iq107 39 3 = J 39 3 := hqq107.2.2.1 39 3 rfl
        have m5_5q107 : Iq107 5 5 = J 5 5 := hqq107.2.2.1 5 5 rfl
        show jt _ 96 [(0, .ref (b + 5)), (1, .ref (b + 39)), (2, .ref (b + 34)), (3, .int (jI q)), (4, .int (jI e)), (5, .int (jI i)), (6, .int (jI v103))] [] (cmf b f0 Iq107 Aq107) _ _ _
        refine jt_iinc (L' := [(0, .ref (b + 5)), (1, .ref (b + 39)), (2, .ref (b + 34)), (3, .int (jI q)), (4, .int (jI e)), (5, .int (jI (i + 1))), (6, .int (jI v103))]) d_EX_putBody_96 rfl (Nat.le_of_ble_eq_true rfl) rfl ?_
        refine jt_goto (t := 24) d_EX_putBody_99 rfl ?_
        refine jt_sub (L' := [(0, .ref (b + 5)), (1, .ref (b + 39)), (2, .ref (b + 34)), (3, .int (jI q)), (4, .int (jI e)), (5, .int (jI (i + 1)))]) (fun _ h => List.mem_append_left [(6, Value.int (jI v103))] h) ?_
        exact ih (i + 1) Iq107 Aq107 hpq107 (by omega) (hxq107.1 hKJ (by rw [ev106, ev103]; exact tk2)) (show Iq107 8 3 = ((xbd (A 35) (A 36) (A 12) (A 13) X9 Y9 D9 (D9 (I 5 5) + 1) (i + 1).toNat).length : Int) by have h9 := (hxq107.2 (by omega)).1; omega) (by have h9 := (hxq107.2 (by omega)).2 _ hl.symm hH; rw [e0] at h9; rw [es2, ← ev106, ← ev103]; exact h9) cXq107 cYq107 cDq107 cNq107 (by omega)
      · skip
        have hk2 : A 35 i = 2 := by omega
        have es2 := xbd_s (A 35) (A 36) (A 12) (A 13) X9 Y9 D9 (D9 (I 5 5) + 1) i (by omega)
        unfold xb1 at es2
        rw [if_pos hk2] at es2
        have es := congrArg List.length es2
        rw [List.length_append] at es
        have hle := xbd_le (A 35) (A 36) (A 12) (A 13) X9 Y9 D9 (D9 (I 5 5) + 1) (i + 1).toNat (I 34 3).toNat (by omega)
        rw [xs_len] at es
        have q9 := hb i (by omega) (by omega) hk2
        rw [← ev103] at q9 es es2
        refine jt_aload_n d_EX_putBody_53 rfl ?_
        refine cm_get (k := 5) (v := .ref (b + 8)) d_EX_putBody_54 EX_f24 (by decide) cc_2 rfl ?_
        refine jt_aload_n d_EX_putBody_57 rfl ?_
        refine jt_aload_n d_EX_putBody_58 rfl ?_
        refine cm_get (k := 5) (v := .ref (b + 12)) d_EX_putBody_59 EX_f28 (by decide) cc_2 rfl ?_
        refine jt_iload d_EX_putBody_62 rfl ?_
        refine cm_ld0 (k := 12) (n := 3) (v := (B 12) v103) d_EX_putBody_64 (by decide) rfl rfl (by omega) (by omega) (by omega) rfl ?_
        refine jt_topi (fun v108 ev108 => ?_)
        have bv108 : 0 ≤ v108 ∧ v108 ≤ 300 := by rw [ev108]; exact hJ.2.1 12 v103
        rw [f12] at ev108
        refine jt_aload_n d_EX_putBody_65 rfl ?_
        refine cm_get (k := 5) (v := .ref (b + 13)) d_EX_putBody_66 EX_f31 (by decide) cc_2 rfl ?_
        refine jt_iload d_EX_putBody_69 rfl ?_
        refine cm_ld0 (k := 13) (n := 3) (v := (B 13) v103) d_EX_putBody_71 (by decide) rfl rfl (by omega) (by omega) (by omega) rfl ?_
        refine jt_topi (fun v109 ev109 => ?_)
        have bv109 : 0 ≤ v109 ∧ v109 ≤ 300 := by rw [ev109]; exact hJ.2.1 13 v103
        rw [f13] at ev109
        refine cct_callV (Y := Y_TR_addAll) (ci := 0) (k := 8) (As := [.ref (b + 39), .int (jI v108), .int (jI v109)]) (rest := []) d_EX_putBody_72 EX_c80 yk_TR_addAll yv_TR_addAll rfl (Nat.le_of_ble_eq_true rfl) (by decide) (cc_1 rfl) rfl rfl (Nat.le_of_ble_eq_true rfl) (v_TR_addAll_8_39_x G _ b v108 v109 J B hJ.1 hJ.2.1 (by omega) (by omega)) (fun rvq110 Iq110 Aq110 hq110 => ?_)
        obtain ⟨rfl, hqq110, hxq110⟩ := hq110
        have hpq110 := cPx.trans hJ hqq110 rfl rfl
        have cXq110 : Aq110 40 = X9 := (hqq110.2.2.2 40 rfl (by decide)).trans cX
        have cYq110 : Aq110 41 = Y9 := (hqq110.2.2.2 41 rfl (by decide)).trans cY
        have cDq110 : Aq110 42 = D9 := (hqq110.2.2.2 42 rfl (by decide)).trans cD
        have cNq110 : Iq110 39 3 = N9 := (hqq110.2.2.1 39 3 rfl).trans cN
        have m39_3q110 : Iq110 39 3 = J 39 3 := hqq110.2.2.1 39 3 rfl
        have m5_5q110 : Iq110 5 5 = J 5 5 := hqq110.2.2.1 5 5 rfl
        show jt _ 75 [(0, .ref (b + 5)), (1, .ref (b + 39)), (2, .ref (b + 34)), (3, .int (jI q)), (4, .int (jI e)), (5, .int (jI i)), (6, .int (jI v103))] [] (cmf b f0 Iq110 Aq110) _ _ _
        refine jt_goto (t := 96) d_EX_putBody_75 rfl ?_
        refine jt_iinc (L' := [(0, .ref (b + 5)), (1, .ref (b + 39)), (2, .ref (b + 34)), (3, .int (jI q)), (4, .int (jI e)), (5, .int (jI (i + 1))), (6, .int (jI v103))]) d_EX_putBody_96 rfl (Nat.le_of_ble_eq_true rfl) rfl ?_
        refine jt_goto (t := 24) d_EX_putBody_99 rfl ?_
        refine jt_sub (L' := [(0, .ref (b + 5)), (1, .ref (b + 39)), (2, .ref (b + 34)), (3, .int (jI q)), (4, .int (jI e)), (5, .int (jI (i + 1)))]) (fun _ h => List.mem_append_left [(6, Value.int (jI v103))] h) ?_
        exact ih (i + 1) Iq110 Aq110 hpq110 (by omega) (hxq110.1 hKJ) (show Iq110 8 3 = ((xbd (A 35) (A 36) (A 12) (A 13) X9 Y9 D9 (D9 (I 5 5) + 1) (i + 1).toNat).length : Int) by have h9 := (hxq110.2 (by omega) (by omega)).1; omega) (by have h9 := (hxq110.2 (by omega) (by omega)).2 _ hl.symm hH; rw [cX, cY, cD] at h9; rw [es2, ← ev108, ← ev109]; exact h9) cXq110 cYq110 cDq110 cNq110 (by omega)
set_option maxRecDepth 100000 in
set_option maxHeartbeats 4000000 in
theorem v_EX_putBody_34_x (G : jG) (d b : Nat) (q : Int) (I : Nat → Nat → Int) (A : Nat → Int → Int) (hI : cSI I) (hA : cSA A) (hK : cTok A) (X9 : Int → Int) (hX : A 40 = X9) (Y9 : Int → Int) (hY : A 41 = Y9) (D9 : Int → Int) (hD : A 42 = D9) (N9 : Int) (hN : I 39 3 = N9) (hq : I 5 5 < q ∧ q ≤ N9) (hb : ∀ j, 0 ≤ j → j < I 34 3 → A 35 j = 2 → 0 ≤ A 12 (A 36 j) ∧ A 12 (A 36 j) ≤ A 13 (A 36 j) ∧ A 13 (A 36 j) ≤ N9) (hlen : I 5 5 + N9 - q + ((xbd (A 35) (A 36) (A 12) (A 13) X9 Y9 D9 (D9 (I 5 5) + 1) (I 34 3).toNat).length : Int) ≤ 300) (hd : 0 ≤ D9 (I 5 5) ∧ D9 (I 5 5) ≤ 6) : cct G Y_EX_putBody (d + 2) b [.ref (b + 5), .ref (b + 39), .ref (b + 34), .int (jI q)] I A (fun (rv : Option Value) (I2 : Nat → Nat → Int) (A2 : Nat → Int → Int) => rv = none ∧ cPx [131, 627] [9, 10, 11, 40, 41, 42] I A I2 A2 ∧ cTok A2 ∧ (I2 39 3 = ((xs X9 Y9 D9 0 (I 5 5) ++ (xbd (A 35) (A 36) (A 12) (A 13) X9 Y9 D9 (D9 (I 5 5) + 1) (I 34 3).toNat) ++ xs X9 Y9 D9 q N9).length : Int) ∧ gH (A2 40) (A2 41) (A2 42) (xs X9 Y9 D9 0 (I 5 5) ++ (xbd (A 35) (A 36) (A 12) (A 13) X9 Y9 D9 (D9 (I 5 5) + 1) (I 34 3).toNat) ++ xs X9 Y9 D9 q N9))) := by
  refine cct_of (by decide) (Nat.le_of_ble_eq_true rfl) (fun f0 sz => ?_)
  show jt _ 0 [(0, .ref (b + 5)), (1, .ref (b + 39)), (2, .ref (b + 34)), (3, .int (jI q))] [] _ _ _ _
  have r55 : 0 ≤ I 5 5 ∧ I 5 5 ≤ 300 := hI 5 5
  have r39 : 0 ≤ I 39 3 ∧ I 39 3 ≤ 300 := hI 39 3
  have rx3 : 0 ≤ I 34 3 ∧ I 34 3 ≤ 40 := hI 34 3
  have hz0 : cPx [131, 627] [9, 10, 11, 40, 41, 42] I A I A := cPx.refl hI hA
  refine jt_aload_n d_EX_putBody_0 rfl ?_
  refine cm_get (k := 39) (v := .ref (b + 42)) d_EX_putBody_1 EX_f58 (by decide) (cc_1 rfl) rfl ?_
  refine jt_aload_n d_EX_putBody_4 rfl ?_
  refine cm_get (k := 5) (v := .int (jI (I 5 5))) d_EX_putBody_5 EX_f42 (by decide) cc_2 rfl ?_
  have rb1 : 0 ≤ I 5 5 ∧ I 5 5 ≤ 300 := hz0.1 5 5
  refine cm_ld0 (k := 42) (n := 300) (v := (A 42) (I 5 5)) d_EX_putBody_8 (by decide) rfl rfl (by omega) (by omega) (by omega) rfl ?_
  refine jt_topi (fun v2 ev2 => ?_)
  have bv2 : -2147483648 ≤ v2 ∧ v2 ≤ 2147483647 := by rw [ev2]; exact hz0.2.1 42 (I 5 5)
  rw [hD] at ev2
  refine jt_iconst d_EX_putBody_9 ?_
  refine jt_iadd d_EX_putBody_10 ?_
  refine jt_topi (fun v3 ev3 => ?_)
  refine jt_istore (L' := [(0, .ref (b + 5)), (1, .ref (b + 39)), (2, .ref (b + 34)), (3, .int (jI q)), (4, .int (jI v3))]) d_EX_putBody_11 (Nat.le_of_ble_eq_true rfl) rfl ?_
  refine jt_aload_n d_EX_putBody_13 rfl ?_
  refine cm_get (k := 5) (v := .ref (b + 8)) d_EX_putBody_14 EX_f24 (by decide) cc_2 rfl ?_
  refine jt_iconst d_EX_putBody_17 ?_
  refine cm_put (k := 8) (j := 3) (v := 0) d_EX_putBody_18 (EX_w38 _ rfl) (by decide) (cc_1 rfl) rfl rfl (Nat.le_of_ble_eq_true rfl) rfl ?_
  have p4 := cPx.I 8 3 0 hz0 rfl (show 0 ≤ 0 ∧ 0 ≤ 300 by omega)
  refine jt_iconst d_EX_putBody_21 ?_
  refine jt_istore (L' := [(0, .ref (b + 5)), (1, .ref (b + 39)), (2, .ref (b + 34)), (3, .int (jI q)), (4, .int (jI v3)), (5, .int (jI 0))]) d_EX_putBody_22 (Nat.le_of_ble_eq_true rfl) rfl ?_
  refine l24_EX_putBody_34_xv G d b q I A hI hA hK X9 hX Y9 hY D9 hD N9 hN hq hb hlen hd f0 sz v3 ((by omega)) (fun io5 Jo5 Bo5 hJo5 i0o5 hKJo5 hlo5 hHo5 cXo5 cYo5 cDo5 cNo5 ixo5 => ?_) 41 0 (cu I 8 3 0) A p4 (by omega) hK (show (0 : Int) = (((xbd (A 35) (A 36) (A 12) (A 13) X9 Y9 D9 (D9 (I 5 5) + 1) 0).length : Nat) : Int) from rfl) (fun i t h => by simp [xbd] at h) hX hY hD hN (by omega)
  refine jt_aload_n d_EX_putBody_102 rfl ?_
  refine cm_get (k := 5) (v := .ref (b + 8)) d_EX_putBody_103 EX_f24 (by decide) cc_2 rfl ?_
  refine jt_aload_n d_EX_putBody_106 rfl ?_
  refine jt_iload_n d_EX_putBody_107 rfl ?_
  refine jt_aload_n d_EX_putBody_108 rfl ?_
  refine cm_get (k := 39) (v := .int (jI (Jo5 39 3))) d_EX_putBody_109 EX_f38 (by decide) (cc_1 rfl) rfl ?_
  have rb6 : 0 ≤ Jo5 39 3 ∧ Jo5 39 3 ≤ 300 := hJo5.1 39 3
  refine cct_callV (Y := Y_TR_addAll) (ci := 0) (k := 8) (As := [.ref (b + 39), .int (jI q), .int (jI (Jo5 39 3))]) (rest := []) d_EX_putBody_112 EX_c80 yk_TR_addAll yv_TR_addAll rfl (Nat.le_of_ble_eq_true rfl) (by decide) (cc_1 rfl) rfl rfl (Nat.le_of_ble_eq_true rfl) (v_TR_addAll_8_39_x G _ b q (Jo5 39 3) Jo5 Bo5 hJo5.1 hJo5.2.1 (by omega) (by omega)) (fun rvq7 Iq7 Aq7 hq7 => ?_)
  obtain ⟨rfl, hqq7, hxq7⟩ := hq7
  have hpq7 := cPx.trans hJo5 hqq7 rfl rfl
  have cXq7 : Aq7 40 = X9 := (hqq7.2.2.2 40 rfl (by decide)).trans cXo5
  have cYq7 : Aq7 41 = Y9 := (hqq7.2.2.2 41 rfl (by decide)).trans cYo5
  have cDq7 : Aq7 42 = D9 := (hqq7.2.2.2 42 rfl (by decide)).trans cDo5
  have cNq7 : Iq7 39 3 = N9 := (hqq7.2.2.1 39 3 rfl).trans cNo5
  have m39_3q7 : Iq7 39 3 = Jo5 39 3 := hqq7.2.2.1 39 3 rfl
  have m5_5q7 : Iq7 5 5 = Jo5 5 5 := hqq7.2.2.1 5 5 rfl
  show jt _ 115 [(0, .ref (b + 5)), (1, .ref (b + 39)), (2, .ref (b + 34)), (3, .int (jI q)), (4, .int (jI v3)), (5, .int (jI io5))] [] (cmf b f0 Iq7 Aq7) _ _ _
  refine jt_aload_n d_EX_putBody_115 rfl ?_
  refine jt_aload_n d_EX_putBody_116 rfl ?_
  refine cm_get (k := 5) (v := .int (jI (Iq7 5 5))) d_EX_putBody_117 EX_f42 (by decide) cc_2 rfl ?_
  have rb8 : 0 ≤ Iq7 5 5 ∧ Iq7 5 5 ≤ 300 := hpq7.1 5 5
  refine cm_put (k := 39) (j := 3) (v := (Iq7 5 5)) d_EX_putBody_120 (EX_w38 _ rfl) (by decide) (cc_1 rfl) rfl rfl (Nat.le_of_ble_eq_true rfl) rfl ?_
  have p9 := cPx.I 39 3 (Iq7 5 5) hpq7 rfl (show 0 ≤ Iq7 5 5 ∧ Iq7 5 5 ≤ 300 by omega)
  refine jt_aload_n d_EX_putBody_123 rfl ?_
  refine jt_aload_n d_EX_putBody_124 rfl ?_
  refine cm_get (k := 5) (v := .ref (b + 8)) d_EX_putBody_125 EX_f24 (by decide) cc_2 rfl ?_
  refine jt_iconst d_EX_putBody_128 ?_
  refine jt_aload_n d_EX_putBody_129 rfl ?_
  refine cm_get (k := 5) (v := .ref (b + 8)) d_EX_putBody_130 EX_f24 (by decide) cc_2 rfl ?_
  refine cm_get (k := 8) (v := .int (jI (Iq7 8 3))) d_EX_putBody_133 EX_f38 (by decide) (cc_1 rfl) rfl ?_
  have rb10 : 0 ≤ Iq7 8 3 ∧ Iq7 8 3 ≤ 300 := p9.1 8 3
  refine cct_callV (Y := Y_TR_addAll) (ci := 0) (k := 39) (As := [.ref (b + 8), .int (jI 0), .int (jI (Iq7 8 3))]) (rest := []) d_EX_putBody_136 EX_c80 yk_TR_addAll yv_TR_addAll rfl (Nat.le_of_ble_eq_true rfl) (by decide) (cc_1 rfl) rfl rfl (Nat.le_of_ble_eq_true rfl) (v_TR_addAll_39_8_x G _ b 0 (Iq7 8 3) (cu Iq7 39 3 (Iq7 5 5)) Aq7 p9.1 p9.2.1 (by omega) (by omega)) (fun rvq11 Iq11 Aq11 hq11 => ?_)
  obtain ⟨rfl, hqq11, hxq11⟩ := hq11
  have hpq11 := cPx.trans p9 hqq11 rfl rfl
  have s39_3q11 : (cu Iq7 39 3 (Iq7 5 5)) 39 3 = Iq7 5 5 := rfl
  have s5_5q11 : (cu Iq7 39 3 (Iq7 5 5)) 5 5 = Iq7 5 5 := rfl
  have s8_3q11 : (cu Iq7 39 3 (Iq7 5 5)) 8 3 = Iq7 8 3 := rfl
  have m5_5q11 : Iq11 5 5 = Iq7 5 5 := hqq11.2.2.1 5 5 rfl
  have m8_3q11 : Iq11 8 3 = Iq7 8 3 := hqq11.2.2.1 8 3 rfl
  show jt _ 139 [(0, .ref (b + 5)), (1, .ref (b + 39)), (2, .ref (b + 34)), (3, .int (jI q)), (4, .int (jI v3)), (5, .int (jI io5))] [] (cmf b f0 Iq11 Aq11) _ _ _
  exact cm_vret d_EX_putBody_139 rfl (⟨rfl, hpq11, (hxq11.1 (hxq7.1 hKJo5)), by
      have f55 : Jo5 5 5 = I 5 5 := hJo5.2.2.1 5 5 rfl
      have lb : Jo5 8 3 = ((xbd (A 35) (A 36) (A 12) (A 13) X9 Y9 D9 (D9 (I 5 5) + 1) (I 34 3).toNat).length : Int) := by rw [hlo5, show io5 = I 34 3 by omega]
      have gb : gH (Bo5 9) (Bo5 10) (Bo5 11) (xbd (A 35) (A 36) (A 12) (A 13) X9 Y9 D9 (D9 (I 5 5) + 1) (I 34 3).toNat) := by have h9 := hHo5; rw [show io5 = I 34 3 by omega] at h9; exact h9
      have h1 := hxq7.2 (by omega) (by omega)
      have g1 := h1.2 _ lb.symm gb
      rw [cXo5, cYo5, cDo5, cNo5] at g1
      have l1 := xs_len X9 Y9 D9 q N9
      have l0 := xs_len X9 Y9 D9 0 (I 5 5)
      have g3 := gH_at g1 (by rw [List.length_append]; omega)
      have h2 := hxq11.2 (by omega) (show Iq7 5 5 + (Iq7 8 3 - 0) ≤ 300 by omega)
      have g2 := h2.2 (xs X9 Y9 D9 0 (I 5 5)) (show _ = Iq7 5 5 by omega) (show gH (Aq7 40) (Aq7 41) (Aq7 42) _ by rw [cXq7, cYq7, cDq7]; exact gH_xs _ _ _ _)
      have h3 : Iq11 39 3 = Iq7 5 5 + (Iq7 8 3 - 0) := h2.1
      have g4 : xs (Aq7 9) (Aq7 10) (Aq7 11) 0 (Iq7 8 3) = (xbd (A 35) (A 36) (A 12) (A 13) X9 Y9 D9 (D9 (I 5 5) + 1) (I 34 3).toNat) ++ xs X9 Y9 D9 q N9 := by rw [show Iq7 8 3 = (((xbd (A 35) (A 36) (A 12) (A 13) X9 Y9 D9 (D9 (I 5 5) + 1) (I 34 3).toNat) ++ xs X9 Y9 D9 q N9).length : Int) by rw [List.length_append]; omega]; exact g3.symm
      have g5 : gH (Aq11 40) (Aq11 41) (Aq11 42) (xs X9 Y9 D9 0 (I 5 5) ++ xs (Aq7 9) (Aq7 10) (Aq7 11) 0 (Iq7 8 3)) := g2
      rw [g4, ← List.append_assoc] at g5
      exact ⟨by rw [List.length_append, List.length_append]; omega, g5⟩⟩)

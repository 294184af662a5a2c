set_option maxRecDepth 100000 in
set_option maxHeartbeats 4000000 in
theorem v_PI_middle_p (G : jG) (d b : Nat) (i : Int) (I : Nat → Nat → Int) (A : Nat → Int → Int) (hI : cSI I) (hA : cSA A) (hi : 0 ≤ i ∧ i ≤ 31) : cct G Y_PI_middle d b [.int (jI i)] I A (fun (rv : Option Value) (I2 : Nat → Nat → Int) (A2 : Nat → Int → Int) => ∃ y : Int, rv = some (.long (jL y)) ∧ (-9223372036854775808 ≤ y ∧ y ≤ 9223372036854775807) ∧ cPx [] [] I A I2 A2) := by
  refine cct_of (by decide) (Nat.le_of_ble_eq_true rfl) (fun f0 sz => ?_)
  show jt _ 0 [(0, .int (jI i))] [] _ _ _ _
  have hz0 : cPx [] [] I A I A := cPx.refl hI hA
  refine jt_iload_n d_PI_middle_0 rfl ?_
  refine jt_sipush d_PI_middle_1 (by omega) ?_
  refine jt_imul d_PI_middle_4 ?_
  refine jt_sipush d_PI_middle_5 (by omega) ?_
  refine jt_iadd d_PI_middle_8 ?_
  refine jt_i2l d_PI_middle_9 (by unfold jRi; omega) ?_
  exact cm_lret d_PI_middle_10 rfl (⟨(i * 8192) + 4096, rfl, by omega, hz0⟩)
set_option maxRecDepth 100000 in
set_option maxHeartbeats 4000000 in
theorem l95_PI_wind_pv (G : jG) (d b : Nat) (e : Int) (y : Int) (I : Nat → Nat → Int) (A : Nat → Int → Int) (hI : cSI I) (hA : cSA A) (he : 1 ≤ e ∧ e < 98) (hy : -9223372036854775808 ≤ y ∧ y ≤ 9223372036854775807) (f0 : jF) (sz : Nat)  (p : Int) (q : Int) (u : Int) (v : Int) (t : Int) (p0 : -9223372036854775808 ≤ p ∧ p ≤ 9223372036854775807) (q0 : -9223372036854775808 ≤ q ∧ q ≤ 9223372036854775807) (u0 : -9223372036854775808 ≤ u ∧ u ≤ 9223372036854775807) (v0 : -9223372036854775808 ≤ v ∧ v ≤ 9223372036854775807) (t0 : -1 ≤ t ∧ t ≤ 1) : ∀ (n9 : Nat) (s : Int) (i : Int) (J : Nat → Nat → Int) (B : Nat → Int → Int), cPx [] [470] I A J B → (0 ≤ s ∧ s ≤ 1) → (0 ≤ i ∧ i ≤ 32) → 32 - i < (n9 : Int) → jt (jm G Y_PI_wind (gR (d + 1)) (cQ b f0 sz (fun (rv : Option Value) (I2 : Nat → Nat → Int) (A2 : Nat → Int → Int) => rv = none ∧ cPx [] [470] I A I2 A2))) 95 [(0, .ref (b + 468)), (1, .ref (b + 464)), (2, .int (jI e)), (3, .long (jL y)), (5, .long (jL p)), (7, .long (jL q)), (9, .long (jL u)), (11, .long (jL v)), (13, .int (jI t)), (14, .int (jI s)), (15, .int (jI i))] [] (cmf b f0 J B) sz 0 0 := by
  intro n9
  induction n9 with
  | zero =>
    intro s i J B hJ s0 i0 hmeas
    exfalso
    omega
  | succ n9 ih =>
    intro s i J B hJ s0 i0 hmeas
    refine jt_iload d_PI_wind_95 rfl ?_
    refine jt_bipush d_PI_wind_97 (by omega) ?_
    refine jt_icmp_ge (t := 171) d_PI_wind_99 rfl (by unfold jRi; omega) (by unfold jRi; omega) (fun c101 => ?_) (fun c101 => ?_)
    · skip
      exact cm_vret d_PI_wind_171 rfl (⟨rfl, hJ⟩)
    · skip
      refine jt_iload d_PI_wind_102 rfl ?_
      refine jt_if_eq (t := 171) d_PI_wind_104 rfl (by unfold jRi; omega) (fun c102 => ?_) (fun c102 => ?_)
      · skip
        exact cm_vret d_PI_wind_171 rfl (⟨rfl, hJ⟩)
      · skip
        refine jt_iload d_PI_wind_107 rfl ?_
        refine jt_i2l d_PI_wind_109 (by unfold jRi; omega) ?_
        refine jt_lload d_PI_wind_110 rfl ?_
        refine jt_lload d_PI_wind_112 rfl ?_
        refine jt_lsub d_PI_wind_114 ?_
        refine jt_toplw (fun v103 bv103 => ?_)
        refine jt_lload_n d_PI_wind_115 rfl ?_
        refine jt_lload d_PI_wind_116 rfl ?_
        refine jt_lsub d_PI_wind_118 ?_
        refine jt_toplw (fun v104 bv104 => ?_)
        refine jt_lmul d_PI_wind_119 ?_
        refine jt_toplw (fun v105 bv105 => ?_)
        refine jt_iload d_PI_wind_120 rfl ?_
        refine cct_callS (Y := Y_PI_middle) (As := [.int (jI i)]) (rest := [.long (jL v105), .long (jL t)]) d_PI_wind_122 PI_c30 yk_PI_middle ys_PI_middle (Nat.le_of_ble_eq_true rfl) rfl rfl (Nat.le_of_ble_eq_true rfl) (v_PI_middle_p G _ b i J B hJ.1 hJ.2.1 (by omega)) (fun rvq106 Iq106 Aq106 hq106 => ?_)
        obtain ⟨yq106, rfl, ryq106, hqq106⟩ := hq106
        have hpq106 := cPx.trans hJ hqq106 rfl rfl
        show jt _ 125 [(0, .ref (b + 468)), (1, .ref (b + 464)), (2, .int (jI e)), (3, .long (jL y)), (5, .long (jL p)), (7, .long (jL q)), (9, .long (jL u)), (11, .long (jL v)), (13, .int (jI t)), (14, .int (jI s)), (15, .int (jI i))] [.long (jL yq106), .long (jL v105), .long (jL t)] (cmf b f0 Iq106 Aq106) _ _ _
        refine jt_lload d_PI_wind_125 rfl ?_
        refine jt_lsub d_PI_wind_127 ?_
        refine jt_toplw (fun v107 bv107 => ?_)
        refine jt_lload d_PI_wind_128 rfl ?_
        refine jt_lload d_PI_wind_130 rfl ?_
        refine jt_lsub d_PI_wind_132 ?_
        refine jt_toplw (fun v108 bv108 => ?_)
        refine jt_lmul d_PI_wind_133 ?_
        refine jt_toplw (fun v109 bv109 => ?_)
        refine jt_lsub d_PI_wind_134 ?_
        refine jt_toplw (fun v110 bv110 => ?_)
        refine jt_lmul d_PI_wind_135 ?_
        refine jt_toplw (fun v111 bv111 => ?_)
        refine jt_lconst (z := 0) d_PI_wind_136 (by decide) ?_
        refine jt_lif_le (t := 145) d_PI_wind_137 d_PI_wind_138 rfl (by unfold jRl; omega) (by unfold jRl; omega) (fun c112 => ?_) (fun c112 => ?_)
        · skip
          refine jt_iconst d_PI_wind_145 ?_
          refine jt_istore (L' := [(0, .ref (b + 468)), (1, .ref (b + 464)), (2, .int (jI e)), (3, .long (jL y)), (5, .long (jL p)), (7, .long (jL q)), (9, .long (jL u)), (11, .long (jL v)), (13, .int (jI t)), (14, .int (jI 0)), (15, .int (jI i))]) d_PI_wind_146 (Nat.le_of_ble_eq_true rfl) rfl ?_
          refine jt_iload d_PI_wind_148 rfl ?_
          refine jt_if_eq (t := 165) d_PI_wind_150 rfl (by unfold jRi; omega) (fun c113 => ?_) (fun c113 => ?_)
          · skip
            refine jt_iinc (L' := [(0, .ref (b + 468)), (1, .ref (b + 464)), (2, .int (jI e)), (3, .long (jL y)), (5, .long (jL p)), (7, .long (jL q)), (9, .long (jL u)), (11, .long (jL v)), (13, .int (jI t)), (14, .int (jI 0)), (15, .int (jI (i + 1)))]) d_PI_wind_165 rfl (Nat.le_of_ble_eq_true rfl) rfl ?_
            refine jt_goto (t := 95) d_PI_wind_168 rfl ?_
            exact ih 0 (i + 1) Iq106 Aq106 hpq106 (by omega) (by omega) (by omega)
          · skip
            exfalso
            omega
        · skip
          refine jt_iconst d_PI_wind_141 ?_
          refine jt_goto (t := 146) d_PI_wind_142 rfl ?_
          refine jt_istore (L' := [(0, .ref (b + 468)), (1, .ref (b + 464)), (2, .int (jI e)), (3, .long (jL y)), (5, .long (jL p)), (7, .long (jL q)), (9, .long (jL u)), (11, .long (jL v)), (13, .int (jI t)), (14, .int (jI 1)), (15, .int (jI i))]) d_PI_wind_146 (Nat.le_of_ble_eq_true rfl) rfl ?_
          refine jt_iload d_PI_wind_148 rfl ?_
          refine jt_if_eq (t := 165) d_PI_wind_150 rfl (by unfold jRi; omega) (fun c114 => ?_) (fun c114 => ?_)
          · skip
            exfalso
            omega
          · skip
            refine jt_aload_n d_PI_wind_153 rfl ?_
            refine cm_get (k := 468) (v := .ref (b + 470)) d_PI_wind_154 PI_f15 (by decide) cc_7 rfl ?_
            refine jt_iload d_PI_wind_157 rfl ?_
            refine jt_dup2 d_PI_wind_159 rfl rfl ?_
            refine cm_ld0 (k := 470) (n := 32) (v := (Aq106 470) i) d_PI_wind_160 (by decide) rfl rfl (by omega) (by omega) (by omega) rfl ?_
            refine jt_topi (fun v115 ev115 => ?_)
            have bv115 : -2147483648 ≤ v115 ∧ v115 ≤ 2147483647 := by rw [ev115]; exact hpq106.2.1 470 i
            refine jt_iload d_PI_wind_161 rfl ?_
            refine jt_iadd d_PI_wind_163 ?_
            refine jt_topie (fun v116 bv116 ev116 => ?_)
            refine cm_st0 (k := 470) (n := 32) (v := v116) d_PI_wind_164 (by decide) rfl rfl (by omega) (by omega) (by omega) ?_
            have p117 := cPx.A 470 (ju (Aq106 470) i v116) hpq106 (Or.inl rfl) (gju (hpq106.2.1 470) (show -2147483648 ≤ v116 ∧ v116 ≤ 2147483647 by omega))
            refine jt_iinc (L' := [(0, .ref (b + 468)), (1, .ref (b + 464)), (2, .int (jI e)), (3, .long (jL y)), (5, .long (jL p)), (7, .long (jL q)), (9, .long (jL u)), (11, .long (jL v)), (13, .int (jI t)), (14, .int (jI 1)), (15, .int (jI (i + 1)))]) d_PI_wind_165 rfl (Nat.le_of_ble_eq_true rfl) rfl ?_
            refine jt_goto (t := 95) d_PI_wind_168 rfl ?_
            exact ih 1 (i + 1) Iq106 (va_up Aq106 470 (ju (Aq106 470) i v116)) p117 (by omega) (by omega) (by omega)
set_option maxRecDepth 100000 in
set_option maxHeartbeats 4000000 in
theorem v_PI_wind_p (G : jG) (d b : Nat) (e : Int) (y : Int) (I : Nat → Nat → Int) (A : Nat → Int → Int) (hI : cSI I) (hA : cSA A) (he : 1 ≤ e ∧ e < 98) (hy : -9223372036854775808 ≤ y ∧ y ≤ 9223372036854775807) : cct G Y_PI_wind (d + 1) b [.ref (b + 468), .ref (b + 464), .int (jI e), .long (jL y)] I A (fun (rv : Option Value) (I2 : Nat → Nat → Int) (A2 : Nat → Int → Int) => rv = none ∧ cPx [] [470] I A I2 A2) := by
  refine cct_of (by decide) (Nat.le_of_ble_eq_true rfl) (fun f0 sz => ?_)
  show jt _ 0 [(0, .ref (b + 468)), (1, .ref (b + 464)), (2, .int (jI e)), (3, .long (jL y))] [] _ _ _ _
  have hz0 : cPx [] [470] I A I A := cPx.refl hI hA
  refine jt_aload_n d_PI_wind_0 rfl ?_
  refine cm_get (k := 464) (v := .ref (b + 466)) d_PI_wind_1 PI_f38 (by decide) cc_6 rfl ?_
  refine jt_iload_n d_PI_wind_4 rfl ?_
  refine jt_iconst d_PI_wind_5 ?_
  refine jt_isub d_PI_wind_6 ?_
  refine cm_ld0 (k := 466) (n := 98) (v := (A 466) (e - 1)) d_PI_wind_7 (by decide) rfl rfl (by omega) (by omega) (by omega) rfl ?_
  refine jt_topi (fun v1 ev1 => ?_)
  have bv1 : -2147483648 ≤ v1 ∧ v1 ≤ 2147483647 := by rw [ev1]; exact hz0.2.1 466 (e - 1)
  refine jt_i2l d_PI_wind_8 (by unfold jRi; omega) ?_
  refine jt_lstore (L' := [(0, .ref (b + 468)), (1, .ref (b + 464)), (2, .int (jI e)), (3, .long (jL y)), (5, .long (jL v1))]) d_PI_wind_9 (Nat.le_of_ble_eq_true rfl) rfl ?_
  refine jt_aload_n d_PI_wind_11 rfl ?_
  refine cm_get (k := 464) (v := .ref (b + 467)) d_PI_wind_12 PI_f41 (by decide) cc_6 rfl ?_
  refine jt_iload_n d_PI_wind_15 rfl ?_
  refine jt_iconst d_PI_wind_16 ?_
  refine jt_isub d_PI_wind_17 ?_
  refine cm_ld0 (k := 467) (n := 98) (v := (A 467) (e - 1)) d_PI_wind_18 (by decide) rfl rfl (by omega) (by omega) (by omega) rfl ?_
  refine jt_topi (fun v2 ev2 => ?_)
  have bv2 : -2147483648 ≤ v2 ∧ v2 ≤ 2147483647 := by rw [ev2]; exact hz0.2.1 467 (e - 1)
  refine jt_i2l d_PI_wind_19 (by unfold jRi; omega) ?_
  refine jt_lstore (L' := [(0, .ref (b + 468)), (1, .ref (b + 464)), (2, .int (jI e)), (3, .long (jL y)), (5, .long (jL v1)), (7, .long (jL v2))]) d_PI_wind_20 (Nat.le_of_ble_eq_true rfl) rfl ?_
  refine jt_aload_n d_PI_wind_22 rfl ?_
  refine cm_get (k := 464) (v := .ref (b + 466)) d_PI_wind_23 PI_f38 (by decide) cc_6 rfl ?_
  refine jt_iload_n d_PI_wind_26 rfl ?_
  refine cm_ld0 (k := 466) (n := 98) (v := (A 466) e) d_PI_wind_27 (by decide) rfl rfl (by omega) (by omega) (by omega) rfl ?_
  refine jt_topi (fun v3 ev3 => ?_)
  have bv3 : -2147483648 ≤ v3 ∧ v3 ≤ 2147483647 := by rw [ev3]; exact hz0.2.1 466 e
  refine jt_i2l d_PI_wind_28 (by unfold jRi; omega) ?_
  refine jt_lstore (L' := [(0, .ref (b + 468)), (1, .ref (b + 464)), (2, .int (jI e)), (3, .long (jL y)), (5, .long (jL v1)), (7, .long (jL v2)), (9, .long (jL v3))]) d_PI_wind_29 (Nat.le_of_ble_eq_true rfl) rfl ?_
  refine jt_aload_n d_PI_wind_31 rfl ?_
  refine cm_get (k := 464) (v := .ref (b + 467)) d_PI_wind_32 PI_f41 (by decide) cc_6 rfl ?_
  refine jt_iload_n d_PI_wind_35 rfl ?_
  refine cm_ld0 (k := 467) (n := 98) (v := (A 467) e) d_PI_wind_36 (by decide) rfl rfl (by omega) (by omega) (by omega) rfl ?_
  refine jt_topi (fun v4 ev4 => ?_)
  have bv4 : -2147483648 ≤ v4 ∧ v4 ≤ 2147483647 := by rw [ev4]; exact hz0.2.1 467 e
  refine jt_i2l d_PI_wind_37 (by unfold jRi; omega) ?_
  refine jt_lstore (L' := [(0, .ref (b + 468)), (1, .ref (b + 464)), (2, .int (jI e)), (3, .long (jL y)), (5, .long (jL v1)), (7, .long (jL v2)), (9, .long (jL v3)), (11, .long (jL v4))]) d_PI_wind_38 (Nat.le_of_ble_eq_true rfl) rfl ?_
  refine jt_iconst d_PI_wind_40 ?_
  refine jt_istore (L' := [(0, .ref (b + 468)), (1, .ref (b + 464)), (2, .int (jI e)), (3, .long (jL y)), (5, .long (jL v1)), (7, .long (jL v2)), (9, .long (jL v3)), (11, .long (jL v4)), (13, .int (jI 0))]) d_PI_wind_41 (Nat.le_of_ble_eq_true rfl) rfl ?_
  refine jt_lload d_PI_wind_43 rfl ?_
  refine jt_lload_n d_PI_wind_45 rfl ?_
  refine jt_lif_gt (t := 63) d_PI_wind_46 d_PI_wind_47 rfl (by unfold jRl; omega) (by unfold jRl; omega) (fun c5 => ?_) (fun c5 => ?_)
  · skip
    refine jt_lload d_PI_wind_63 rfl ?_
    refine jt_lload_n d_PI_wind_65 rfl ?_
    refine jt_lif_gt (t := 80) d_PI_wind_66 d_PI_wind_67 rfl (by unfold jRl; omega) (by unfold jRl; omega) (fun c6 => ?_) (fun c6 => ?_)
    · skip
      refine jt_iload d_PI_wind_80 rfl ?_
      refine jt_if_eq (t := 89) d_PI_wind_82 rfl (by unfold jRi; omega) (fun c7 => ?_) (fun c7 => ?_)
      · skip
        refine jt_iconst d_PI_wind_89 ?_
        refine jt_istore (L' := [(0, .ref (b + 468)), (1, .ref (b + 464)), (2, .int (jI e)), (3, .long (jL y)), (5, .long (jL v1)), (7, .long (jL v2)), (9, .long (jL v3)), (11, .long (jL v4)), (13, .int (jI 0)), (14, .int (jI 0))]) d_PI_wind_90 (Nat.le_of_ble_eq_true rfl) rfl ?_
        refine jt_iconst d_PI_wind_92 ?_
        refine jt_istore (L' := [(0, .ref (b + 468)), (1, .ref (b + 464)), (2, .int (jI e)), (3, .long (jL y)), (5, .long (jL v1)), (7, .long (jL v2)), (9, .long (jL v3)), (11, .long (jL v4)), (13, .int (jI 0)), (14, .int (jI 0)), (15, .int (jI 0))]) d_PI_wind_93 (Nat.le_of_ble_eq_true rfl) rfl ?_
        exact l95_PI_wind_pv G d b e y I A hI hA he hy f0 sz v1 v2 v3 v4 0 ((by omega)) ((by omega)) ((by omega)) ((by omega)) ((by omega)) 33 0 0 I A hz0 (by omega) (by omega) (by omega)
      · skip
        exfalso
        omega
    · skip
      refine jt_lload_n d_PI_wind_70 rfl ?_
      refine jt_lload d_PI_wind_71 rfl ?_
      refine jt_lif_ge (t := 80) d_PI_wind_73 d_PI_wind_74 rfl (by unfold jRl; omega) (by unfold jRl; omega) (fun c8 => ?_) (fun c8 => ?_)
      · skip
        refine jt_iload d_PI_wind_80 rfl ?_
        refine jt_if_eq (t := 89) d_PI_wind_82 rfl (by unfold jRi; omega) (fun c9 => ?_) (fun c9 => ?_)
        · skip
          refine jt_iconst d_PI_wind_89 ?_
          refine jt_istore (L' := [(0, .ref (b + 468)), (1, .ref (b + 464)), (2, .int (jI e)), (3, .long (jL y)), (5, .long (jL v1)), (7, .long (jL v2)), (9, .long (jL v3)), (11, .long (jL v4)), (13, .int (jI 0)), (14, .int (jI 0))]) d_PI_wind_90 (Nat.le_of_ble_eq_true rfl) rfl ?_
          refine jt_iconst d_PI_wind_92 ?_
          refine jt_istore (L' := [(0, .ref (b + 468)), (1, .ref (b + 464)), (2, .int (jI e)), (3, .long (jL y)), (5, .long (jL v1)), (7, .long (jL v2)), (9, .long (jL v3)), (11, .long (jL v4)), (13, .int (jI 0)), (14, .int (jI 0)), (15, .int (jI 0))]) d_PI_wind_93 (Nat.le_of_ble_eq_true rfl) rfl ?_
          exact l95_PI_wind_pv G d b e y I A hI hA he hy f0 sz v1 v2 v3 v4 0 ((by omega)) ((by omega)) ((by omega)) ((by omega)) ((by omega)) 33 0 0 I A hz0 (by omega) (by omega) (by omega)
        · skip
          exfalso
          omega
      · skip
        refine jt_iconst d_PI_wind_77 ?_
        refine jt_istore (L' := [(0, .ref (b + 468)), (1, .ref (b + 464)), (2, .int (jI e)), (3, .long (jL y)), (5, .long (jL v1)), (7, .long (jL v2)), (9, .long (jL v3)), (11, .long (jL v4)), (13, .int (jI (-1)))]) d_PI_wind_78 (Nat.le_of_ble_eq_true rfl) rfl ?_
        refine jt_iload d_PI_wind_80 rfl ?_
        refine jt_if_eq (t := 89) d_PI_wind_82 rfl (by unfold jRi; omega) (fun c10 => ?_) (fun c10 => ?_)
        · skip
          exfalso
          omega
        · skip
          refine jt_iconst d_PI_wind_85 ?_
          refine jt_goto (t := 90) d_PI_wind_86 rfl ?_
          refine jt_istore (L' := [(0, .ref (b + 468)), (1, .ref (b + 464)), (2, .int (jI e)), (3, .long (jL y)), (5, .long (jL v1)), (7, .long (jL v2)), (9, .long (jL v3)), (11, .long (jL v4)), (13, .int (jI (-1))), (14, .int (jI 1))]) d_PI_wind_90 (Nat.le_of_ble_eq_true rfl) rfl ?_
          refine jt_iconst d_PI_wind_92 ?_
          refine jt_istore (L' := [(0, .ref (b + 468)), (1, .ref (b + 464)), (2, .int (jI e)), (3, .long (jL y)), (5, .long (jL v1)), (7, .long (jL v2)), (9, .long (jL v3)), (11, .long (jL v4)), (13, .int (jI (-1))), (14, .int (jI 1)), (15, .int (jI 0))]) d_PI_wind_93 (Nat.le_of_ble_eq_true rfl) rfl ?_
          exact l95_PI_wind_pv G d b e y I A hI hA he hy f0 sz v1 v2 v3 v4 (-1) ((by omega)) ((by omega)) ((by omega)) ((by omega)) ((by omega)) 33 1 0 I A hz0 (by omega) (by omega) (by omega)
  · skip
    refine jt_lload_n d_PI_wind_50 rfl ?_
    refine jt_lload d_PI_wind_51 rfl ?_
    refine jt_lif_ge (t := 63) d_PI_wind_53 d_PI_wind_54 rfl (by unfold jRl; omega) (by unfold jRl; omega) (fun c11 => ?_) (fun c11 => ?_)
    · skip
      refine jt_lload d_PI_wind_63 rfl ?_
      refine jt_lload_n d_PI_wind_65 rfl ?_
      refine jt_lif_gt (t := 80) d_PI_wind_66 d_PI_wind_67 rfl (by unfold jRl; omega) (by unfold jRl; omega) (fun c12 => ?_) (fun c12 => ?_)
      · skip
        refine jt_iload d_PI_wind_80 rfl ?_
        refine jt_if_eq (t := 89) d_PI_wind_82 rfl (by unfold jRi; omega) (fun c13 => ?_) (fun c13 => ?_)
        · skip
          refine jt_iconst d_PI_wind_89 ?_
          refine jt_istore (L' := [(0, .ref (b + 468)), (1, .ref (b + 464)), (2, .int (jI e)), (3, .long (jL y)), (5, .long (jL v1)), (7, .long (jL v2)), (9, .long (jL v3)), (11, .long (jL v4)), (13, .int (jI 0)), (14, .int (jI 0))]) d_PI_wind_90 (Nat.le_of_ble_eq_true rfl) rfl ?_
          refine jt_iconst d_PI_wind_92 ?_
          refine jt_istore (L' := [(0, .ref (b + 468)), (1, .ref (b + 464)), (2, .int (jI e)), (3, .long (jL y)), (5, .long (jL v1)), (7, .long (jL v2)), (9, .long (jL v3)), (11, .long (jL v4)), (13, .int (jI 0)), (14, .int (jI 0)), (15, .int (jI 0))]) d_PI_wind_93 (Nat.le_of_ble_eq_true rfl) rfl ?_
          exact l95_PI_wind_pv G d b e y I A hI hA he hy f0 sz v1 v2 v3 v4 0 ((by omega)) ((by omega)) ((by omega)) ((by omega)) ((by omega)) 33 0 0 I A hz0 (by omega) (by omega) (by omega)
        · skip
          exfalso
          omega
      · skip
        refine jt_lload_n d_PI_wind_70 rfl ?_
        refine jt_lload d_PI_wind_71 rfl ?_
        refine jt_lif_ge (t := 80) d_PI_wind_73 d_PI_wind_74 rfl (by unfold jRl; omega) (by unfold jRl; omega) (fun c14 => ?_) (fun c14 => ?_)
        · skip
          refine jt_iload d_PI_wind_80 rfl ?_
          refine jt_if_eq (t := 89) d_PI_wind_82 rfl (by unfold jRi; omega) (fun c15 => ?_) (fun c15 => ?_)
          · skip
            refine jt_iconst d_PI_wind_89 ?_
            refine jt_istore (L' := [(0, .ref (b + 468)), (1, .ref (b + 464)), (2, .int (jI e)), (3, .long (jL y)), (5, .long (jL v1)), (7, .long (jL v2)), (9, .long (jL v3)), (11, .long (jL v4)), (13, .int (jI 0)), (14, .int (jI 0))]) d_PI_wind_90 (Nat.le_of_ble_eq_true rfl) rfl ?_
            refine jt_iconst d_PI_wind_92 ?_
            refine jt_istore (L' := [(0, .ref (b + 468)), (1, .ref (b + 464)), (2, .int (jI e)), (3, .long (jL y)), (5, .long (jL v1)), (7, .long (jL v2)), (9, .long (jL v3)), (11, .long (jL v4)), (13, .int (jI 0)), (14, .int (jI 0)), (15, .int (jI 0))]) d_PI_wind_93 (Nat.le_of_ble_eq_true rfl) rfl ?_
            exact l95_PI_wind_pv G d b e y I A hI hA he hy f0 sz v1 v2 v3 v4 0 ((by omega)) ((by omega)) ((by omega)) ((by omega)) ((by omega)) 33 0 0 I A hz0 (by omega) (by omega) (by omega)
          · skip
            exfalso
            omega
        · skip
          refine jt_iconst d_PI_wind_77 ?_
          refine jt_istore (L' := [(0, .ref (b + 468)), (1, .ref (b + 464)), (2, .int (jI e)), (3, .long (jL y)), (5, .long (jL v1)), (7, .long (jL v2)), (9, .long (jL v3)), (11, .long (jL v4)), (13, .int (jI (-1)))]) d_PI_wind_78 (Nat.le_of_ble_eq_true rfl) rfl ?_
          refine jt_iload d_PI_wind_80 rfl ?_
          refine jt_if_eq (t := 89) d_PI_wind_82 rfl (by unfold jRi; omega) (fun c16 => ?_) (fun c16 => ?_)
          · skip
            exfalso
            omega
          · skip
            refine jt_iconst d_PI_wind_85 ?_
            refine jt_goto (t := 90) d_PI_wind_86 rfl ?_
            refine jt_istore (L' := [(0, .ref (b + 468)), (1, .ref (b + 464)), (2, .int (jI e)), (3, .long (jL y)), (5, .long (jL v1)), (7, .long (jL v2)), (9, .long (jL v3)), (11, .long (jL v4)), (13, .int (jI (-1))), (14, .int (jI 1))]) d_PI_wind_90 (Nat.le_of_ble_eq_true rfl) rfl ?_
            refine jt_iconst d_PI_wind_92 ?_
            refine jt_istore (L' := [(0, .ref (b + 468)), (1, .ref (b + 464)), (2, .int (jI e)), (3, .long (jL y)), (5, .long (jL v1)), (7, .long (jL v2)), (9, .long (jL v3)), (11, .long (jL v4)), (13, .int (jI (-1))), (14, .int (jI 1)), (15, .int (jI 0))]) d_PI_wind_93 (Nat.le_of_ble_eq_true rfl) rfl ?_
            exact l95_PI_wind_pv G d b e y I A hI hA he hy f0 sz v1 v2 v3 v4 (-1) ((by omega)) ((by omega)) ((by omega)) ((by omega)) ((by omega)) 33 1 0 I A hz0 (by omega) (by omega) (by omega)
    · skip
      refine jt_iconst d_PI_wind_57 ?_
      refine jt_istore (L' := [(0, .ref (b + 468)), (1, .ref (b + 464)), (2, .int (jI e)), (3, .long (jL y)), (5, .long (jL v1)), (7, .long (jL v2)), (9, .long (jL v3)), (11, .long (jL v4)), (13, .int (jI 1))]) d_PI_wind_58 (Nat.le_of_ble_eq_true rfl) rfl ?_
      refine jt_goto (t := 80) d_PI_wind_60 rfl ?_
      refine jt_iload d_PI_wind_80 rfl ?_
      refine jt_if_eq (t := 89) d_PI_wind_82 rfl (by unfold jRi; omega) (fun c17 => ?_) (fun c17 => ?_)
      · skip
        exfalso
        omega
      · skip
        refine jt_iconst d_PI_wind_85 ?_
        refine jt_goto (t := 90) d_PI_wind_86 rfl ?_
        refine jt_istore (L' := [(0, .ref (b + 468)), (1, .ref (b + 464)), (2, .int (jI e)), (3, .long (jL y)), (5, .long (jL v1)), (7, .long (jL v2)), (9, .long (jL v3)), (11, .long (jL v4)), (13, .int (jI 1)), (14, .int (jI 1))]) d_PI_wind_90 (Nat.le_of_ble_eq_true rfl) rfl ?_
        refine jt_iconst d_PI_wind_92 ?_
        refine jt_istore (L' := [(0, .ref (b + 468)), (1, .ref (b + 464)), (2, .int (jI e)), (3, .long (jL y)), (5, .long (jL v1)), (7, .long (jL v2)), (9, .long (jL v3)), (11, .long (jL v4)), (13, .int (jI 1)), (14, .int (jI 1)), (15, .int (jI 0))]) d_PI_wind_93 (Nat.le_of_ble_eq_true rfl) rfl ?_
        exact l95_PI_wind_pv G d b e y I A hI hA he hy f0 sz v1 v2 v3 v4 1 ((by omega)) ((by omega)) ((by omega)) ((by omega)) ((by omega)) 33 1 0 I A hz0 (by omega) (by omega) (by omega)
set_option maxRecDepth 100000 in
set_option maxHeartbeats 4000000 in
theorem v_OU_addPoint_p (G : jG) (d b : Nat) (x : Int) (y : Int) (I : Nat → Nat → Int) (A : Nat → Int → Int) (hI : cSI I) (hA : cSA A) (hx : -2147483648 ≤ x ∧ x ≤ 2147483647) (hy : -2147483648 ≤ y ∧ y ≤ 2147483647) : cct G Y_OU_addPoint d b [.ref (b + 464), .int (jI x), .int (jI y)] I A (fun (rv : Option Value) (I2 : Nat → Nat → Int) (A2 : Nat → Int → Int) => rv = none ∧ cPx [7427] [466, 467] I A I2 A2) := by
  refine cct_of (by decide) (Nat.le_of_ble_eq_true rfl) (fun f0 sz => ?_)
  show jt _ 0 [(0, .ref (b + 464)), (1, .int (jI x)), (2, .int (jI y))] [] _ _ _ _
  have hz0 : cPx [7427] [466, 467] I A I A := cPx.refl hI hA
  refine jt_aload_n d_OU_addPoint_0 rfl ?_
  refine cm_get (k := 464) (v := .int (jI (I 464 3))) d_OU_addPoint_1 OU_f37 (by decide) cc_6 rfl ?_
  have rb1 : 0 ≤ I 464 3 ∧ I 464 3 ≤ 98 := hz0.1 464 3
  refine jt_bipush d_OU_addPoint_4 (by omega) ?_
  refine jt_icmp_ge (t := 39) d_OU_addPoint_6 rfl (by unfold jRi; omega) (by unfold jRi; omega) (fun c2 => ?_) (fun c2 => ?_)
  · skip
    exact cm_vret d_OU_addPoint_39 rfl (⟨rfl, hz0⟩)
  · skip
    refine jt_aload_n d_OU_addPoint_9 rfl ?_
    refine cm_get (k := 464) (v := .ref (b + 466)) d_OU_addPoint_10 OU_f15 (by decide) cc_6 rfl ?_
    refine jt_aload_n d_OU_addPoint_13 rfl ?_
    refine cm_get (k := 464) (v := .int (jI (I 464 3))) d_OU_addPoint_14 OU_f37 (by decide) cc_6 rfl ?_
    refine jt_iload_n d_OU_addPoint_17 rfl ?_
    refine cm_st0 (k := 466) (n := 98) (v := x) d_OU_addPoint_18 (by decide) rfl rfl (by omega) (by omega) (by omega) ?_
    have p3 := cPx.A 466 (ju (A 466) (I 464 3) x) hz0 (Or.inl rfl) (gju (hz0.2.1 466) (show -2147483648 ≤ x ∧ x ≤ 2147483647 by omega))
    refine jt_aload_n d_OU_addPoint_19 rfl ?_
    refine cm_get (k := 464) (v := .ref (b + 467)) d_OU_addPoint_20 OU_f18 (by decide) cc_6 rfl ?_
    refine jt_aload_n d_OU_addPoint_23 rfl ?_
    refine cm_get (k := 464) (v := .int (jI (I 464 3))) d_OU_addPoint_24 OU_f37 (by decide) cc_6 rfl ?_
    refine jt_iload_n d_OU_addPoint_27 rfl ?_
    refine cm_st0 (k := 467) (n := 98) (v := y) d_OU_addPoint_28 (by decide) rfl rfl (by omega) (by omega) (by omega) ?_
    have p4 := cPx.A 467 (ju (A 467) (I 464 3) y) p3 (Or.inl rfl) (gju (p3.2.1 467) (show -2147483648 ≤ y ∧ y ≤ 2147483647 by omega))
    refine jt_aload_n d_OU_addPoint_29 rfl ?_
    refine jt_dup d_OU_addPoint_30 rfl ?_
    refine cm_get (k := 464) (v := .int (jI (I 464 3))) d_OU_addPoint_31 OU_f37 (by decide) cc_6 rfl ?_
    refine jt_iconst d_OU_addPoint_34 ?_
    refine jt_iadd d_OU_addPoint_35 ?_
    refine jt_topi (fun v5 ev5 => ?_)
    refine cm_put (k := 464) (j := 3) (v := v5) d_OU_addPoint_36 (OU_w37 _ rfl) (by decide) cc_6 rfl rfl (Nat.le_of_ble_eq_true rfl) rfl ?_
    have p6 := cPx.I 464 3 v5 p4 rfl (show 0 ≤ v5 ∧ v5 ≤ 98 by omega)
    exact cm_vret d_OU_addPoint_39 rfl (⟨rfl, p6⟩)
set_option maxRecDepth 100000 in
set_option maxHeartbeats 4000000 in
theorem v_OU_onCurve_p (G : jG) (d b : Nat) (q : Int) (t : Int) (I : Nat → Nat → Int) (A : Nat → Int → Int) (hI : cSI I) (hA : cSA A) (hq : 0 ≤ q ∧ q ≤ 67) (ht : 1 ≤ t ∧ t ≤ 8) : cct G Y_OU_onCurve d b [.ref (b + 464), .int (jI q), .int (jI t)] I A (fun (rv : Option Value) (I2 : Nat → Nat → Int) (A2 : Nat → Int → Int) => ∃ y : Int, rv = some (.int (jI y)) ∧ (-2147483648 ≤ y ∧ y ≤ 2147483647) ∧ cPx [] [] I A I2 A2) := by
  refine cct_of (by decide) (Nat.le_of_ble_eq_true rfl) (fun f0 sz => ?_)
  show jt _ 0 [(0, .ref (b + 464)), (1, .int (jI q)), (2, .int (jI t))] [] _ _ _ _
  have hz0 : cPx [] [] I A I A := cPx.refl hI hA
  refine jt_bipush d_OU_onCurve_0 (by omega) ?_
  refine jt_iload_n d_OU_onCurve_2 rfl ?_
  refine jt_isub d_OU_onCurve_3 ?_
  refine jt_topi (fun v1 ev1 => ?_)
  refine jt_istore_n (L' := [(0, .ref (b + 464)), (1, .int (jI q)), (2, .int (jI t)), (3, .int (jI v1))]) d_OU_onCurve_4 (Nat.le_of_ble_eq_true rfl) rfl ?_
  refine jt_iload_n d_OU_onCurve_5 rfl ?_
  refine jt_iload_n d_OU_onCurve_6 rfl ?_
  refine jt_imul d_OU_onCurve_7 ?_
  refine jt_topie (fun v2 bv2 ev2 => ?_)
  refine jt_iload_n d_OU_onCurve_8 rfl ?_
  refine jt_imul d_OU_onCurve_9 ?_
  refine jt_topie (fun v3 bv3 ev3 => ?_)
  refine jt_aload_n d_OU_onCurve_10 rfl ?_
  refine cm_get (k := 464) (v := .ref (b + 465)) d_OU_onCurve_11 OU_f11 (by decide) cc_6 rfl ?_
  refine jt_iload_n d_OU_onCurve_14 rfl ?_
  refine cm_ld0 (k := 465) (n := 74) (v := (A 465) q) d_OU_onCurve_15 (by decide) rfl rfl (by omega) (by omega) (by omega) rfl ?_
  refine jt_topi (fun v4 ev4 => ?_)
  have bv4 : -2147483648 ≤ v4 ∧ v4 ≤ 2147483647 := by rw [ev4]; exact hz0.2.1 465 q
  refine jt_imul d_OU_onCurve_16 ?_
  refine jt_topie (fun v5 bv5 ev5 => ?_)
  refine jt_iconst d_OU_onCurve_17 ?_
  refine jt_iload_n d_OU_onCurve_18 rfl ?_
  refine jt_imul d_OU_onCurve_19 ?_
  refine jt_topie (fun v6 bv6 ev6 => ?_)
  refine jt_iload_n d_OU_onCurve_20 rfl ?_
  refine jt_imul d_OU_onCurve_21 ?_
  refine jt_topie (fun v7 bv7 ev7 => ?_)
  refine jt_iload_n d_OU_onCurve_22 rfl ?_
  refine jt_imul d_OU_onCurve_23 ?_
  refine jt_topie (fun v8 bv8 ev8 => ?_)
  refine jt_aload_n d_OU_onCurve_24 rfl ?_
  refine cm_get (k := 464) (v := .ref (b + 465)) d_OU_onCurve_25 OU_f11 (by decide) cc_6 rfl ?_
  refine jt_iload_n d_OU_onCurve_28 rfl ?_
  refine jt_iconst d_OU_onCurve_29 ?_
  refine jt_iadd d_OU_onCurve_30 ?_
  refine cm_ld0 (k := 465) (n := 74) (v := (A 465) (q + 2)) d_OU_onCurve_31 (by decide) rfl rfl (by omega) (by omega) (by omega) rfl ?_
  refine jt_topi (fun v9 ev9 => ?_)
  have bv9 : -2147483648 ≤ v9 ∧ v9 ≤ 2147483647 := by rw [ev9]; exact hz0.2.1 465 (q + 2)
  refine jt_imul d_OU_onCurve_32 ?_
  refine jt_topie (fun v10 bv10 ev10 => ?_)
  refine jt_iadd d_OU_onCurve_33 ?_
  refine jt_topie (fun v11 bv11 ev11 => ?_)
  refine jt_iconst d_OU_onCurve_34 ?_
  refine jt_iload_n d_OU_onCurve_35 rfl ?_
  refine jt_imul d_OU_onCurve_36 ?_
  refine jt_topie (fun v12 bv12 ev12 => ?_)
  refine jt_iload_n d_OU_onCurve_37 rfl ?_
  refine jt_imul d_OU_onCurve_38 ?_
  refine jt_topie (fun v13 bv13 ev13 => ?_)
  refine jt_iload_n d_OU_onCurve_39 rfl ?_
  refine jt_imul d_OU_onCurve_40 ?_
  refine jt_topie (fun v14 bv14 ev14 => ?_)
  refine jt_aload_n d_OU_onCurve_41 rfl ?_
  refine cm_get (k := 464) (v := .ref (b + 465)) d_OU_onCurve_42 OU_f11 (by decide) cc_6 rfl ?_
  refine jt_iload_n d_OU_onCurve_45 rfl ?_
  refine jt_iconst d_OU_onCurve_46 ?_
  refine jt_iadd d_OU_onCurve_47 ?_
  refine cm_ld0 (k := 465) (n := 74) (v := (A 465) (q + 4)) d_OU_onCurve_48 (by decide) rfl rfl (by omega) (by omega) (by omega) rfl ?_
  refine jt_topi (fun v15 ev15 => ?_)
  have bv15 : -2147483648 ≤ v15 ∧ v15 ≤ 2147483647 := by rw [ev15]; exact hz0.2.1 465 (q + 4)
  refine jt_imul d_OU_onCurve_49 ?_
  refine jt_topie (fun v16 bv16 ev16 => ?_)
  refine jt_iadd d_OU_onCurve_50 ?_
  refine jt_topie (fun v17 bv17 ev17 => ?_)
  refine jt_iload_n d_OU_onCurve_51 rfl ?_
  refine jt_iload_n d_OU_onCurve_52 rfl ?_
  refine jt_imul d_OU_onCurve_53 ?_
  refine jt_topie (fun v18 bv18 ev18 => ?_)
  refine jt_iload_n d_OU_onCurve_54 rfl ?_
  refine jt_imul d_OU_onCurve_55 ?_
  refine jt_topie (fun v19 bv19 ev19 => ?_)
  refine jt_aload_n d_OU_onCurve_56 rfl ?_
  refine cm_get (k := 464) (v := .ref (b + 465)) d_OU_onCurve_57 OU_f11 (by decide) cc_6 rfl ?_
  refine jt_iload_n d_OU_onCurve_60 rfl ?_
  refine jt_bipush d_OU_onCurve_61 (by omega) ?_
  refine jt_iadd d_OU_onCurve_63 ?_
  refine cm_ld0 (k := 465) (n := 74) (v := (A 465) (q + 6)) d_OU_onCurve_64 (by decide) rfl rfl (by omega) (by omega) (by omega) rfl ?_
  refine jt_topi (fun v20 ev20 => ?_)
  have bv20 : -2147483648 ≤ v20 ∧ v20 ≤ 2147483647 := by rw [ev20]; exact hz0.2.1 465 (q + 6)
  refine jt_imul d_OU_onCurve_65 ?_
  refine jt_topie (fun v21 bv21 ev21 => ?_)
  refine jt_iadd d_OU_onCurve_66 ?_
  refine jt_topie (fun v22 bv22 ev22 => ?_)
  exact cm_ret d_OU_onCurve_67 rfl rfl (⟨v22, rfl, by omega, hz0⟩)
set_option maxRecDepth 100000 in
set_option maxHeartbeats 4000000 in
theorem l2_OU_addCurve_pv (G : jG) (d b : Nat) (q : Int) (I : Nat → Nat → Int) (A : Nat → Int → Int) (hI : cSI I) (hA : cSA A) (hq : 0 ≤ q ∧ q ≤ 66) (f0 : jF) (sz : Nat)   : ∀ (n9 : Nat) (t : Int) (J : Nat → Nat → Int) (B : Nat → Int → Int), cPx [7427] [466, 467] I A J B → (1 ≤ t ∧ t ≤ 9) → 9 - t < (n9 : Int) → jt (jm G Y_OU_addCurve (gR (d + 1)) (cQ b f0 sz (fun (rv : Option Value) (I2 : Nat → Nat → Int) (A2 : Nat → Int → Int) => rv = none ∧ cPx [7427] [466, 467] I A I2 A2))) 2 [(0, .ref (b + 464)), (1, .int (jI q)), (2, .int (jI t))] [] (cmf b f0 J B) sz 0 0 := by
  intro n9
  induction n9 with
  | zero =>
    intro t J B hJ t0 hmeas
    exfalso
    omega
  | succ n9 ih =>
    intro t J B hJ t0 hmeas
    refine jt_iload_n d_OU_addCurve_2 rfl ?_
    refine jt_bipush d_OU_addCurve_3 (by omega) ?_
    refine jt_icmp_gt (t := 32) d_OU_addCurve_5 rfl (by unfold jRi; omega) (by unfold jRi; omega) (fun c101 => ?_) (fun c101 => ?_)
    · skip
      exact cm_vret d_OU_addCurve_32 rfl (⟨rfl, hJ⟩)
    · skip
      refine jt_aload_n d_OU_addCurve_8 rfl ?_
      refine jt_aload_n d_OU_addCurve_9 rfl ?_
      refine jt_iload_n d_OU_addCurve_10 rfl ?_
      refine jt_iload_n d_OU_addCurve_11 rfl ?_
      refine cct_callV (Y := Y_OU_onCurve) (ci := 5) (k := 464) (As := [.int (jI q), .int (jI t)]) (rest := [.ref (b + 464)]) d_OU_addCurve_12 OU_c49 yk_OU_onCurve yv_OU_onCurve rfl (Nat.le_of_ble_eq_true rfl) (by decide) cc_6 rfl rfl (Nat.le_of_ble_eq_true rfl) (v_OU_onCurve_p G _ b q t J B hJ.1 hJ.2.1 (by omega) (by omega)) (fun rvq102 Iq102 Aq102 hq102 => ?_)
      obtain ⟨yq102, rfl, ryq102, hqq102⟩ := hq102
      have hpq102 := cPx.trans hJ hqq102 rfl rfl
      show jt _ 15 [(0, .ref (b + 464)), (1, .int (jI q)), (2, .int (jI t))] [.int (jI yq102), .ref (b + 464)] (cmf b f0 Iq102 Aq102) _ _ _
      refine jt_aload_n d_OU_addCurve_15 rfl ?_
      refine jt_iload_n d_OU_addCurve_16 rfl ?_
      refine jt_iconst d_OU_addCurve_17 ?_
      refine jt_iadd d_OU_addCurve_18 ?_
      refine jt_iload_n d_OU_addCurve_19 rfl ?_
      refine cct_callV (Y := Y_OU_onCurve) (ci := 5) (k := 464) (As := [.int (jI (q + 1)), .int (jI t)]) (rest := [.int (jI yq102), .ref (b + 464)]) d_OU_addCurve_20 OU_c49 yk_OU_onCurve yv_OU_onCurve rfl (Nat.le_of_ble_eq_true rfl) (by decide) cc_6 rfl rfl (Nat.le_of_ble_eq_true rfl) (v_OU_onCurve_p G _ b (q + 1) t Iq102 Aq102 hpq102.1 hpq102.2.1 (by omega) (by omega)) (fun rvq103 Iq103 Aq103 hq103 => ?_)
      obtain ⟨yq103, rfl, ryq103, hqq103⟩ := hq103
      have hpq103 := cPx.trans hpq102 hqq103 rfl rfl
      show jt _ 23 [(0, .ref (b + 464)), (1, .int (jI q)), (2, .int (jI t))] [.int (jI yq103), .int (jI yq102), .ref (b + 464)] (cmf b f0 Iq103 Aq103) _ _ _
      refine cct_callV (Y := Y_OU_addPoint) (ci := 5) (k := 464) (As := [.int (jI yq102), .int (jI yq103)]) (rest := []) d_OU_addCurve_23 OU_c41 yk_OU_addPoint yv_OU_addPoint rfl (Nat.le_of_ble_eq_true rfl) (by decide) cc_6 rfl rfl (Nat.le_of_ble_eq_true rfl) (v_OU_addPoint_p G _ b yq102 yq103 Iq103 Aq103 hpq103.1 hpq103.2.1 (by omega) (by omega)) (fun rvq104 Iq104 Aq104 hq104 => ?_)
      obtain ⟨rfl, hqq104⟩ := hq104
      have hpq104 := cPx.trans hpq103 hqq104 rfl rfl
      show jt _ 26 [(0, .ref (b + 464)), (1, .int (jI q)), (2, .int (jI t))] [] (cmf b f0 Iq104 Aq104) _ _ _
      refine jt_iinc (L' := [(0, .ref (b + 464)), (1, .int (jI q)), (2, .int (jI (t + 1)))]) d_OU_addCurve_26 rfl (Nat.le_of_ble_eq_true rfl) rfl ?_
      refine jt_goto (t := 2) d_OU_addCurve_29 rfl ?_
      exact ih (t + 1) Iq104 Aq104 hpq104 (by omega) (by omega)
set_option maxRecDepth 100000 in
set_option maxHeartbeats 4000000 in
theorem v_OU_addCurve_p (G : jG) (d b : Nat) (q : Int) (I : Nat → Nat → Int) (A : Nat → Int → Int) (hI : cSI I) (hA : cSA A) (hq : 0 ≤ q ∧ q ≤ 66) : cct G Y_OU_addCurve (d + 1) b [.ref (b + 464), .int (jI q)] I A (fun (rv : Option Value) (I2 : Nat → Nat → Int) (A2 : Nat → Int → Int) => rv = none ∧ cPx [7427] [466, 467] I A I2 A2) := by
  refine cct_of (by decide) (Nat.le_of_ble_eq_true rfl) (fun f0 sz => ?_)
  show jt _ 0 [(0, .ref (b + 464)), (1, .int (jI q))] [] _ _ _ _
  have hz0 : cPx [7427] [466, 467] I A I A := cPx.refl hI hA
  refine jt_iconst d_OU_addCurve_0 ?_
  refine jt_istore_n (L' := [(0, .ref (b + 464)), (1, .int (jI q)), (2, .int (jI 1))]) d_OU_addCurve_1 (Nat.le_of_ble_eq_true rfl) rfl ?_
  exact l2_OU_addCurve_pv G d b q I A hI hA hq f0 sz  9 1 I A hz0 (by omega) (by omega)
set_option maxRecDepth 100000 in
set_option maxHeartbeats 4000000 in
theorem l34_OU_trace_pv (G : jG) (d b : Nat) (n : Int) (I : Nat → Nat → Int) (A : Nat → Int → Int) (hI : cSI I) (hA : cSA A) (hn : 0 ≤ n ∧ n ≤ 2000) (f0 : jF) (sz : Nat)   : ∀ (n9 : Nat) (q : Int) (l : Int) (J : Nat → Nat → Int) (B : Nat → Int → Int), cPx [7427] [466, 467] I A J B → (0 ≤ l ∧ l ≤ 12) → (0 ≤ q ∧ q ≤ 6 * l) → 12 - l < (n9 : Int) → jt (jm G Y_OU_trace (gR (d + 2)) (cQ b f0 sz (fun (rv : Option Value) (I2 : Nat → Nat → Int) (A2 : Nat → Int → Int) => rv = none ∧ cPx [7427] [466, 467] I A I2 A2))) 34 [(0, .ref (b + 464)), (1, .ref (b + 375)), (2, .int (jI n)), (3, .int (jI q)), (4, .int (jI l))] [] (cmf b f0 J B) sz 0 0 := by
  intro n9
  induction n9 with
  | zero =>
    intro q l J B hJ l0 q0 hmeas
    exfalso
    omega
  | succ n9 ih =>
    intro q l J B hJ l0 q0 hmeas
    refine jt_iload d_OU_trace_34 rfl ?_
    refine jt_iload_n d_OU_trace_36 rfl ?_
    refine jt_icmp_ge (t := 100) d_OU_trace_37 rfl (by unfold jRi; omega) (by unfold jRi; omega) (fun c101 => ?_) (fun c101 => ?_)
    · skip
      refine jt_aload_n d_OU_trace_100 rfl ?_
      refine jt_aload_n d_OU_trace_101 rfl ?_
      refine cm_get (k := 464) (v := .ref (b + 466)) d_OU_trace_102 OU_f15 (by decide) cc_6 rfl ?_
      refine jt_iconst d_OU_trace_105 ?_
      refine cm_ld0 (k := 466) (n := 98) (v := (B 466) 0) d_OU_trace_106 (by decide) rfl rfl (by omega) (by omega) (by omega) rfl ?_
      refine jt_topi (fun v102 ev102 => ?_)
      have bv102 : -2147483648 ≤ v102 ∧ v102 ≤ 2147483647 := by rw [ev102]; exact hJ.2.1 466 0
      refine jt_aload_n d_OU_trace_107 rfl ?_
      refine cm_get (k := 464) (v := .ref (b + 467)) d_OU_trace_108 OU_f18 (by decide) cc_6 rfl ?_
      refine jt_iconst d_OU_trace_111 ?_
      refine cm_ld0 (k := 467) (n := 98) (v := (B 467) 0) d_OU_trace_112 (by decide) rfl rfl (by omega) (by omega) (by omega) rfl ?_
      refine jt_topi (fun v103 ev103 => ?_)
      have bv103 : -2147483648 ≤ v103 ∧ v103 ≤ 2147483647 := by rw [ev103]; exact hJ.2.1 467 0
      refine cct_callV (Y := Y_OU_addPoint) (ci := 5) (k := 464) (As := [.int (jI v102), .int (jI v103)]) (rest := []) d_OU_trace_113 OU_c41 yk_OU_addPoint yv_OU_addPoint rfl (Nat.le_of_ble_eq_true rfl) (by decide) cc_6 rfl rfl (Nat.le_of_ble_eq_true rfl) (v_OU_addPoint_p G _ b v102 v103 J B hJ.1 hJ.2.1 (by omega) (by omega)) (fun rvq104 Iq104 Aq104 hq104 => ?_)
      obtain ⟨rfl, hqq104⟩ := hq104
      have hpq104 := cPx.trans hJ hqq104 rfl rfl
      show jt _ 116 [(0, .ref (b + 464)), (1, .ref (b + 375)), (2, .int (jI n)), (3, .int (jI q)), (4, .int (jI l))] [] (cmf b f0 Iq104 Aq104) _ _ _
      exact cm_vret d_OU_trace_116 rfl (⟨rfl, hpq104⟩)
    · skip
      refine jt_iload d_OU_trace_40 rfl ?_
      refine jt_bipush d_OU_trace_42 (by omega) ?_
      refine jt_icmp_ge (t := 100) d_OU_trace_44 rfl (by unfold jRi; omega) (by unfold jRi; omega) (fun c105 => ?_) (fun c105 => ?_)
      · skip
        refine jt_aload_n d_OU_trace_100 rfl ?_
        refine jt_aload_n d_OU_trace_101 rfl ?_
        refine cm_get (k := 464) (v := .ref (b + 466)) d_OU_trace_102 OU_f15 (by decide) cc_6 rfl ?_
        refine jt_iconst d_OU_trace_105 ?_
        refine cm_ld0 (k := 466) (n := 98) (v := (B 466) 0) d_OU_trace_106 (by decide) rfl rfl (by omega) (by omega) (by omega) rfl ?_
        refine jt_topi (fun v106 ev106 => ?_)
        have bv106 : -2147483648 ≤ v106 ∧ v106 ≤ 2147483647 := by rw [ev106]; exact hJ.2.1 466 0
        refine jt_aload_n d_OU_trace_107 rfl ?_
        refine cm_get (k := 464) (v := .ref (b + 467)) d_OU_trace_108 OU_f18 (by decide) cc_6 rfl ?_
        refine jt_iconst d_OU_trace_111 ?_
        refine cm_ld0 (k := 467) (n := 98) (v := (B 467) 0) d_OU_trace_112 (by decide) rfl rfl (by omega) (by omega) (by omega) rfl ?_
        refine jt_topi (fun v107 ev107 => ?_)
        have bv107 : -2147483648 ≤ v107 ∧ v107 ≤ 2147483647 := by rw [ev107]; exact hJ.2.1 467 0
        refine cct_callV (Y := Y_OU_addPoint) (ci := 5) (k := 464) (As := [.int (jI v106), .int (jI v107)]) (rest := []) d_OU_trace_113 OU_c41 yk_OU_addPoint yv_OU_addPoint rfl (Nat.le_of_ble_eq_true rfl) (by decide) cc_6 rfl rfl (Nat.le_of_ble_eq_true rfl) (v_OU_addPoint_p G _ b v106 v107 J B hJ.1 hJ.2.1 (by omega) (by omega)) (fun rvq108 Iq108 Aq108 hq108 => ?_)
        obtain ⟨rfl, hqq108⟩ := hq108
        have hpq108 := cPx.trans hJ hqq108 rfl rfl
        show jt _ 116 [(0, .ref (b + 464)), (1, .ref (b + 375)), (2, .int (jI n)), (3, .int (jI q)), (4, .int (jI l))] [] (cmf b f0 Iq108 Aq108) _ _ _
        exact cm_vret d_OU_trace_116 rfl (⟨rfl, hpq108⟩)
      · skip
        refine jt_aload_n d_OU_trace_47 rfl ?_
        refine jt_iload d_OU_trace_48 rfl ?_
        refine cm_ld2 (k := 375) (n := 12) (v := (B 375) l) d_OU_trace_50 (by decide) rfl rfl (by omega) (by omega) (by omega) rfl ?_
        refine jt_topi (fun v109 ev109 => ?_)
        have bv109 : 0 ≤ v109 ∧ v109 ≤ 1 := by rw [ev109]; exact hJ.2.1 375 l
        refine jt_if_eq (t := 65) d_OU_trace_51 rfl (by unfold jRi; omega) (fun c110 => ?_) (fun c110 => ?_)
        · skip
          refine jt_iinc (L' := [(0, .ref (b + 464)), (1, .ref (b + 375)), (2, .int (jI n)), (3, .int (jI (q + 2))), (4, .int (jI l))]) d_OU_trace_65 rfl (Nat.le_of_ble_eq_true rfl) rfl ?_
          refine jt_aload_n d_OU_trace_68 rfl ?_
          refine jt_aload_n d_OU_trace_69 rfl ?_
          refine cm_get (k := 464) (v := .ref (b + 465)) d_OU_trace_70 OU_f11 (by decide) cc_6 rfl ?_
          refine jt_iload_n d_OU_trace_73 rfl ?_
          refine cm_ld0 (k := 465) (n := 74) (v := (B 465) (q + 2)) d_OU_trace_74 (by decide) rfl rfl (by omega) (by omega) (by omega) rfl ?_
          refine jt_topi (fun v111 ev111 => ?_)
          have bv111 : -2147483648 ≤ v111 ∧ v111 ≤ 2147483647 := by rw [ev111]; exact hJ.2.1 465 (q + 2)
          refine jt_sipush d_OU_trace_75 (by omega) ?_
          refine jt_imul d_OU_trace_78 ?_
          refine jt_topie (fun v112 bv112 ev112 => ?_)
          refine jt_aload_n d_OU_trace_79 rfl ?_
          refine cm_get (k := 464) (v := .ref (b + 465)) d_OU_trace_80 OU_f11 (by decide) cc_6 rfl ?_
          refine jt_iload_n d_OU_trace_83 rfl ?_
          refine jt_iconst d_OU_trace_84 ?_
          refine jt_iadd d_OU_trace_85 ?_
          refine cm_ld0 (k := 465) (n := 74) (v := (B 465) ((q + 2) + 1)) d_OU_trace_86 (by decide) rfl rfl (by omega) (by omega) (by omega) rfl ?_
          refine jt_topi (fun v113 ev113 => ?_)
          have bv113 : -2147483648 ≤ v113 ∧ v113 ≤ 2147483647 := by rw [ev113]; exact hJ.2.1 465 ((q + 2) + 1)
          refine jt_sipush d_OU_trace_87 (by omega) ?_
          refine jt_imul d_OU_trace_90 ?_
          refine jt_topie (fun v114 bv114 ev114 => ?_)
          refine cct_callV (Y := Y_OU_addPoint) (ci := 5) (k := 464) (As := [.int (jI v112), .int (jI v114)]) (rest := []) d_OU_trace_91 OU_c41 yk_OU_addPoint yv_OU_addPoint rfl (Nat.le_of_ble_eq_true rfl) (by decide) cc_6 rfl rfl (Nat.le_of_ble_eq_true rfl) (v_OU_addPoint_p G _ b v112 v114 J B hJ.1 hJ.2.1 (by omega) (by omega)) (fun rvq115 Iq115 Aq115 hq115 => ?_)
          obtain ⟨rfl, hqq115⟩ := hq115
          have hpq115 := cPx.trans hJ hqq115 rfl rfl
          show jt _ 94 [(0, .ref (b + 464)), (1, .ref (b + 375)), (2, .int (jI n)), (3, .int (jI (q + 2))), (4, .int (jI l))] [] (cmf b f0 Iq115 Aq115) _ _ _
          refine jt_iinc (L' := [(0, .ref (b + 464)), (1, .ref (b + 375)), (2, .int (jI n)), (3, .int (jI (q + 2))), (4, .int (jI (l + 1)))]) d_OU_trace_94 rfl (Nat.le_of_ble_eq_true rfl) rfl ?_
          refine jt_goto (t := 34) d_OU_trace_97 rfl ?_
          exact ih (q + 2) (l + 1) Iq115 Aq115 hpq115 (by omega) (by omega) (by omega)
        · skip
          refine jt_aload_n d_OU_trace_54 rfl ?_
          refine jt_iload_n d_OU_trace_55 rfl ?_
          refine cct_callV (Y := Y_OU_addCurve) (ci := 5) (k := 464) (As := [.int (jI q)]) (rest := []) d_OU_trace_56 OU_c45 yk_OU_addCurve yv_OU_addCurve rfl (Nat.le_of_ble_eq_true rfl) (by decide) cc_6 rfl rfl (Nat.le_of_ble_eq_true rfl) (v_OU_addCurve_p G _ b q J B hJ.1 hJ.2.1 (by omega)) (fun rvq116 Iq116 Aq116 hq116 => ?_)
          obtain ⟨rfl, hqq116⟩ := hq116
          have hpq116 := cPx.trans hJ hqq116 rfl rfl
          show jt _ 59 [(0, .ref (b + 464)), (1, .ref (b + 375)), (2, .int (jI n)), (3, .int (jI q)), (4, .int (jI l))] [] (cmf b f0 Iq116 Aq116) _ _ _
          refine jt_iinc (L' := [(0, .ref (b + 464)), (1, .ref (b + 375)), (2, .int (jI n)), (3, .int (jI (q + 6))), (4, .int (jI l))]) d_OU_trace_59 rfl (Nat.le_of_ble_eq_true rfl) rfl ?_
          refine jt_goto (t := 94) d_OU_trace_62 rfl ?_
          refine jt_iinc (L' := [(0, .ref (b + 464)), (1, .ref (b + 375)), (2, .int (jI n)), (3, .int (jI (q + 6))), (4, .int (jI (l + 1)))]) d_OU_trace_94 rfl (Nat.le_of_ble_eq_true rfl) rfl ?_
          refine jt_goto (t := 34) d_OU_trace_97 rfl ?_
          exact ih (q + 6) (l + 1) Iq116 Aq116 hpq116 (by omega) (by omega) (by omega)
set_option maxRecDepth 100000 in
set_option maxHeartbeats 4000000 in
theorem v_OU_trace_p (G : jG) (d b : Nat) (n : Int) (I : Nat → Nat → Int) (A : Nat → Int → Int) (hI : cSI I) (hA : cSA A) (hn : 0 ≤ n ∧ n ≤ 2000) : cct G Y_OU_trace (d + 2) b [.ref (b + 464), .ref (b + 375), .int (jI n)] I A (fun (rv : Option Value) (I2 : Nat → Nat → Int) (A2 : Nat → Int → Int) => rv = none ∧ cPx [7427] [466, 467] I A I2 A2) := by
  refine cct_of (by decide) (Nat.le_of_ble_eq_true rfl) (fun f0 sz => ?_)
  show jt _ 0 [(0, .ref (b + 464)), (1, .ref (b + 375)), (2, .int (jI n))] [] _ _ _ _
  have hz0 : cPx [7427] [466, 467] I A I A := cPx.refl hI hA
  refine jt_aload_n d_OU_trace_0 rfl ?_
  refine jt_iconst d_OU_trace_1 ?_
  refine cm_put (k := 464) (j := 3) (v := 0) d_OU_trace_2 (OU_w37 _ rfl) (by decide) cc_6 rfl rfl (Nat.le_of_ble_eq_true rfl) rfl ?_
  have p1 := cPx.I 464 3 0 hz0 rfl (show 0 ≤ 0 ∧ 0 ≤ 98 by omega)
  refine jt_iconst d_OU_trace_5 ?_
  refine jt_istore_n (L' := [(0, .ref (b + 464)), (1, .ref (b + 375)), (2, .int (jI n)), (3, .int (jI 0))]) d_OU_trace_6 (Nat.le_of_ble_eq_true rfl) rfl ?_
  refine jt_aload_n d_OU_trace_7 rfl ?_
  refine jt_aload_n d_OU_trace_8 rfl ?_
  refine cm_get (k := 464) (v := .ref (b + 465)) d_OU_trace_9 OU_f11 (by decide) cc_6 rfl ?_
  refine jt_iconst d_OU_trace_12 ?_
  refine cm_ld0 (k := 465) (n := 74) (v := (A 465) 0) d_OU_trace_13 (by decide) rfl rfl (by omega) (by omega) (by omega) rfl ?_
  refine jt_topi (fun v2 ev2 => ?_)
  have bv2 : -2147483648 ≤ v2 ∧ v2 ≤ 2147483647 := by rw [ev2]; exact p1.2.1 465 0
  refine jt_sipush d_OU_trace_14 (by omega) ?_
  refine jt_imul d_OU_trace_17 ?_
  refine jt_topie (fun v3 bv3 ev3 => ?_)
  refine jt_aload_n d_OU_trace_18 rfl ?_
  refine cm_get (k := 464) (v := .ref (b + 465)) d_OU_trace_19 OU_f11 (by decide) cc_6 rfl ?_
  refine jt_iconst d_OU_trace_22 ?_
  refine cm_ld0 (k := 465) (n := 74) (v := (A 465) 1) d_OU_trace_23 (by decide) rfl rfl (by omega) (by omega) (by omega) rfl ?_
  refine jt_topi (fun v4 ev4 => ?_)
  have bv4 : -2147483648 ≤ v4 ∧ v4 ≤ 2147483647 := by rw [ev4]; exact p1.2.1 465 1
  refine jt_sipush d_OU_trace_24 (by omega) ?_
  refine jt_imul d_OU_trace_27 ?_
  refine jt_topie (fun v5 bv5 ev5 => ?_)
  refine cct_callV (Y := Y_OU_addPoint) (ci := 5) (k := 464) (As := [.int (jI v3), .int (jI v5)]) (rest := []) d_OU_trace_28 OU_c41 yk_OU_addPoint yv_OU_addPoint rfl (Nat.le_of_ble_eq_true rfl) (by decide) cc_6 rfl rfl (Nat.le_of_ble_eq_true rfl) (v_OU_addPoint_p G _ b v3 v5 (cu I 464 3 0) A p1.1 p1.2.1 (by omega) (by omega)) (fun rvq6 Iq6 Aq6 hq6 => ?_)
  obtain ⟨rfl, hqq6⟩ := hq6
  have hpq6 := cPx.trans p1 hqq6 rfl rfl
  show jt _ 31 [(0, .ref (b + 464)), (1, .ref (b + 375)), (2, .int (jI n)), (3, .int (jI 0))] [] (cmf b f0 Iq6 Aq6) _ _ _
  refine jt_iconst d_OU_trace_31 ?_
  refine jt_istore (L' := [(0, .ref (b + 464)), (1, .ref (b + 375)), (2, .int (jI n)), (3, .int (jI 0)), (4, .int (jI 0))]) d_OU_trace_32 (Nat.le_of_ble_eq_true rfl) rfl ?_
  exact l34_OU_trace_pv G d b n I A hI hA hn f0 sz  13 0 0 Iq6 Aq6 hpq6 (by omega) (by omega) (by omega)
set_option maxRecDepth 100000 in
set_option maxHeartbeats 4000000 in
theorem l5_Ar_fill_pv (G : jG) (d b : Nat) (x : Int) (I : Nat → Nat → Int) (A : Nat → Int → Int) (hI : cSI I) (hA : cSA A) (hx : -2147483648 ≤ x ∧ x ≤ 2147483647) (f0 : jF) (sz : Nat)   : ∀ (n9 : Nat) (i : Int) (J : Nat → Nat → Int) (B : Nat → Int → Int), cPx [] [470] I A J B → (0 ≤ i ∧ i ≤ 32) → 32 - i < (n9 : Int) → jt (jm G Y_Ar_fill (gR d) (cQ b f0 sz (fun (rv : Option Value) (I2 : Nat → Nat → Int) (A2 : Nat → Int → Int) => rv = none ∧ cPx [] [470] I A I2 A2))) 5 [(0, .ref (b + 470)), (1, .int (jI x)), (2, .int (jI i)), (3, .int (jI 32))] [] (cmf b f0 J B) sz 0 0 := by
  intro n9
  induction n9 with
  | zero =>
    intro i J B hJ i0 hmeas
    exfalso
    omega
  | succ n9 ih =>
    intro i J B hJ i0 hmeas
    refine jt_iload_n d_Ar_fill_5 rfl ?_
    refine jt_iload_n d_Ar_fill_6 rfl ?_
    refine jt_icmp_ge (t := 20) d_Ar_fill_7 rfl (by unfold jRi; omega) (by unfold jRi; omega) (fun c101 => ?_) (fun c101 => ?_)
    · skip
      exact cm_vret d_Ar_fill_20 rfl (⟨rfl, hJ⟩)
    · skip
      refine jt_aload_n d_Ar_fill_10 rfl ?_
      refine jt_iload_n d_Ar_fill_11 rfl ?_
      refine jt_iload_n d_Ar_fill_12 rfl ?_
      refine cm_st0 (k := 470) (n := 32) (v := x) d_Ar_fill_13 (by decide) rfl rfl (by omega) (by omega) (by omega) ?_
      have p102 := cPx.A 470 (ju (B 470) i x) hJ (Or.inl rfl) (gju (hJ.2.1 470) (show -2147483648 ≤ x ∧ x ≤ 2147483647 by omega))
      refine jt_iinc (L' := [(0, .ref (b + 470)), (1, .int (jI x)), (2, .int (jI (i + 1))), (3, .int (jI 32))]) d_Ar_fill_14 rfl (Nat.le_of_ble_eq_true rfl) rfl ?_
      refine jt_goto (t := 5) d_Ar_fill_17 rfl ?_
      exact ih (i + 1) J (va_up B 470 (ju (B 470) i x)) p102 (by omega) (by omega)
set_option maxRecDepth 100000 in
set_option maxHeartbeats 4000000 in
theorem v_Ar_fill_p (G : jG) (d b : Nat) (x : Int) (I : Nat → Nat → Int) (A : Nat → Int → Int) (hI : cSI I) (hA : cSA A) (hx : -2147483648 ≤ x ∧ x ≤ 2147483647) : cct G Y_Ar_fill d b [.ref (b + 470), .int (jI x)] I A (fun (rv : Option Value) (I2 : Nat → Nat → Int) (A2 : Nat → Int → Int) => rv = none ∧ cPx [] [470] I A I2 A2) := by
  refine cct_of (by decide) (Nat.le_of_ble_eq_true rfl) (fun f0 sz => ?_)
  show jt _ 0 [(0, .ref (b + 470)), (1, .int (jI x))] [] _ _ _ _
  have hz0 : cPx [] [470] I A I A := cPx.refl hI hA
  refine jt_iconst d_Ar_fill_0 ?_
  refine jt_istore_n (L' := [(0, .ref (b + 470)), (1, .int (jI x)), (2, .int (jI 0))]) d_Ar_fill_1 (Nat.le_of_ble_eq_true rfl) rfl ?_
  refine jt_aload_n d_Ar_fill_2 rfl ?_
  refine cm_len (k := 470) (n := 32) d_Ar_fill_3 jTy_0 (by decide) (cc_8 rfl rfl) ?_
  refine jt_istore_n (L' := [(0, .ref (b + 470)), (1, .int (jI x)), (2, .int (jI 0)), (3, .int (jI 32))]) d_Ar_fill_4 (Nat.le_of_ble_eq_true rfl) rfl ?_
  exact l5_Ar_fill_pv G d b x I A hI hA hx f0 sz  33 0 I A hz0 (by omega) (by omega)
set_option maxRecDepth 100000 in
set_option maxHeartbeats 4000000 in
theorem l48_PI_paint_pv (G : jG) (d b : Nat) (c : Int) (I : Nat → Nat → Int) (A : Nat → Int → Int) (hI : cSI I) (hA : cSA A) (hc : 0 ≤ c ∧ c ≤ 1) (f0 : jF) (sz : Nat)  (j : Int) (j0 : 0 ≤ j ∧ j < 24) (hout : ∀ (i : Int) (J : Nat → Nat → Int) (B : Nat → Int → Int), cPx [] [469, 470] I A J B → (0 ≤ i ∧ i ≤ 32) → jt (jm G Y_PI_paint (gR (d + 2)) (cQ b f0 sz (fun (rv : Option Value) (I2 : Nat → Nat → Int) (A2 : Nat → Int → Int) => rv = none ∧ cPx [] [469, 470] I A I2 A2))) 84 [(0, .ref (b + 468)), (1, .ref (b + 464)), (2, .int (jI c)), (3, .int (jI j)), (4, .int (jI i))] [] (cmf b f0 J B) sz 0 0) : ∀ (n9 : Nat) (i : Int) (J : Nat → Nat → Int) (B : Nat → Int → Int), cPx [] [469, 470] I A J B → (0 ≤ i ∧ i ≤ 32) → 32 - i < (n9 : Int) → jt (jm G Y_PI_paint (gR (d + 2)) (cQ b f0 sz (fun (rv : Option Value) (I2 : Nat → Nat → Int) (A2 : Nat → Int → Int) => rv = none ∧ cPx [] [469, 470] I A I2 A2))) 48 [(0, .ref (b + 468)), (1, .ref (b + 464)), (2, .int (jI c)), (3, .int (jI j)), (4, .int (jI i))] [] (cmf b f0 J B) sz 0 0 := by
  intro n9
  induction n9 with
  | zero =>
    intro i J B hJ i0 hmeas
    exfalso
    omega
  | succ n9 ih =>
    intro i J B hJ i0 hmeas
    refine jt_iload d_PI_paint_48 rfl ?_
    refine jt_bipush d_PI_paint_50 (by omega) ?_
    refine jt_icmp_ge (t := 84) d_PI_paint_52 rfl (by unfold jRi; omega) (by unfold jRi; omega) (fun c101 => ?_) (fun c101 => ?_)
    · skip
      exact hout i J B hJ i0 
    · skip
      refine jt_aload_n d_PI_paint_55 rfl ?_
      refine cm_get (k := 468) (v := .ref (b + 470)) d_PI_paint_56 PI_f15 (by decide) cc_7 rfl ?_
      refine jt_iload d_PI_paint_59 rfl ?_
      refine cm_ld0 (k := 470) (n := 32) (v := (B 470) i) d_PI_paint_61 (by decide) rfl rfl (by omega) (by omega) (by omega) rfl ?_
      refine jt_topi (fun v102 ev102 => ?_)
      have bv102 : -2147483648 ≤ v102 ∧ v102 ≤ 2147483647 := by rw [ev102]; exact hJ.2.1 470 i
      refine jt_if_eq (t := 78) d_PI_paint_62 rfl (by unfold jRi; omega) (fun c103 => ?_) (fun c103 => ?_)
      · skip
        refine jt_iinc (L' := [(0, .ref (b + 468)), (1, .ref (b + 464)), (2, .int (jI c)), (3, .int (jI j)), (4, .int (jI (i + 1)))]) d_PI_paint_78 rfl (Nat.le_of_ble_eq_true rfl) rfl ?_
        refine jt_goto (t := 48) d_PI_paint_81 rfl ?_
        exact ih (i + 1) J B hJ (by omega) (by omega)
      · skip
        refine jt_aload_n d_PI_paint_65 rfl ?_
        refine cm_get (k := 468) (v := .ref (b + 469)) d_PI_paint_66 PI_f9 (by decide) cc_7 rfl ?_
        refine jt_iload_n d_PI_paint_69 rfl ?_
        refine jt_bipush d_PI_paint_70 (by omega) ?_
        refine jt_imul d_PI_paint_72 ?_
        refine jt_iload d_PI_paint_73 rfl ?_
        refine jt_iadd d_PI_paint_75 ?_
        refine jt_iload_n d_PI_paint_76 rfl ?_
        refine cm_st2 (k := 469) (n := 768) (v := c) d_PI_paint_77 (by decide) rfl rfl (by omega) (by omega) (by omega) (by omega) ?_
        have p104 := cPx.A 469 (ju (B 469) ((j * 32) + i) c) hJ (Or.inl rfl) (gju (hJ.2.1 469) (show 0 ≤ c ∧ c ≤ 1 by omega))
        refine jt_iinc (L' := [(0, .ref (b + 468)), (1, .ref (b + 464)), (2, .int (jI c)), (3, .int (jI j)), (4, .int (jI (i + 1)))]) d_PI_paint_78 rfl (Nat.le_of_ble_eq_true rfl) rfl ?_
        refine jt_goto (t := 48) d_PI_paint_81 rfl ?_
        exact ih (i + 1) J (va_up B 469 (ju (B 469) ((j * 32) + i) c)) p104 (by omega) (by omega)
set_option maxRecDepth 100000 in
set_option maxHeartbeats 4000000 in
theorem l19_PI_paint_pv (G : jG) (d b : Nat) (c : Int) (I : Nat → Nat → Int) (A : Nat → Int → Int) (hI : cSI I) (hA : cSA A) (hc : 0 ≤ c ∧ c ≤ 1) (f0 : jF) (sz : Nat)  (j : Int) (j0 : 0 ≤ j ∧ j < 24) (hout : ∀ (e : Int) (J : Nat → Nat → Int) (B : Nat → Int → Int), cPx [] [469, 470] I A J B → (1 ≤ e ∧ e ≤ 98) → jt (jm G Y_PI_paint (gR (d + 2)) (cQ b f0 sz (fun (rv : Option Value) (I2 : Nat → Nat → Int) (A2 : Nat → Int → Int) => rv = none ∧ cPx [] [469, 470] I A I2 A2))) 45 [(0, .ref (b + 468)), (1, .ref (b + 464)), (2, .int (jI c)), (3, .int (jI j)), (4, .int (jI e))] [] (cmf b f0 J B) sz 0 0) : ∀ (n9 : Nat) (e : Int) (J : Nat → Nat → Int) (B : Nat → Int → Int), cPx [] [469, 470] I A J B → (1 ≤ e ∧ e ≤ 98) → 98 - e < (n9 : Int) → jt (jm G Y_PI_paint (gR (d + 2)) (cQ b f0 sz (fun (rv : Option Value) (I2 : Nat → Nat → Int) (A2 : Nat → Int → Int) => rv = none ∧ cPx [] [469, 470] I A I2 A2))) 19 [(0, .ref (b + 468)), (1, .ref (b + 464)), (2, .int (jI c)), (3, .int (jI j)), (4, .int (jI e))] [] (cmf b f0 J B) sz 0 0 := by
  intro n9
  induction n9 with
  | zero =>
    intro e J B hJ e0 hmeas
    have r464 : 0 ≤ J 464 3 ∧ J 464 3 ≤ 98 := hJ.1 464 3
    exfalso
    omega
  | succ n9 ih =>
    intro e J B hJ e0 hmeas
    have r464 : 0 ≤ J 464 3 ∧ J 464 3 ≤ 98 := hJ.1 464 3
    refine jt_iload d_PI_paint_19 rfl ?_
    refine jt_aload_n d_PI_paint_21 rfl ?_
    refine cm_get (k := 464) (v := .int (jI (J 464 3))) d_PI_paint_22 PI_f25 (by decide) cc_6 rfl ?_
    have rb201 : 0 ≤ J 464 3 ∧ J 464 3 ≤ 98 := hJ.1 464 3
    refine jt_icmp_ge (t := 45) d_PI_paint_25 rfl (by unfold jRi; omega) (by unfold jRi; omega) (fun c202 => ?_) (fun c202 => ?_)
    · skip
      exact hout e J B hJ e0 
    · skip
      refine jt_aload_n d_PI_paint_28 rfl ?_
      refine jt_aload_n d_PI_paint_29 rfl ?_
      refine jt_iload d_PI_paint_30 rfl ?_
      refine jt_iload_n d_PI_paint_32 rfl ?_
      refine cct_callS (Y := Y_PI_middle) (As := [.int (jI j)]) (rest := [.int (jI e), .ref (b + 464), .ref (b + 468)]) d_PI_paint_33 PI_c30 yk_PI_middle ys_PI_middle (Nat.le_of_ble_eq_true rfl) rfl rfl (Nat.le_of_ble_eq_true rfl) (v_PI_middle_p G _ b j J B hJ.1 hJ.2.1 (by omega)) (fun rvq203 Iq203 Aq203 hq203 => ?_)
      obtain ⟨yq203, rfl, ryq203, hqq203⟩ := hq203
      have hpq203 := cPx.trans hJ hqq203 rfl rfl
      show jt _ 36 [(0, .ref (b + 468)), (1, .ref (b + 464)), (2, .int (jI c)), (3, .int (jI j)), (4, .int (jI e))] [.long (jL yq203), .int (jI e), .ref (b + 464), .ref (b + 468)] (cmf b f0 Iq203 Aq203) _ _ _
      refine cct_callV (Y := Y_PI_wind) (ci := 6) (k := 468) (As := [.ref (b + 464), .int (jI e), .long (jL yq203)]) (rest := []) d_PI_paint_36 PI_c34 yk_PI_wind yv_PI_wind rfl (Nat.le_of_ble_eq_true rfl) (by decide) cc_7 rfl rfl (Nat.le_of_ble_eq_true rfl) (v_PI_wind_p G _ b e yq203 Iq203 Aq203 hpq203.1 hpq203.2.1 (by omega) (by omega)) (fun rvq204 Iq204 Aq204 hq204 => ?_)
      obtain ⟨rfl, hqq204⟩ := hq204
      have hpq204 := cPx.trans hpq203 hqq204 rfl rfl
      show jt _ 39 [(0, .ref (b + 468)), (1, .ref (b + 464)), (2, .int (jI c)), (3, .int (jI j)), (4, .int (jI e))] [] (cmf b f0 Iq204 Aq204) _ _ _
      refine jt_iinc (L' := [(0, .ref (b + 468)), (1, .ref (b + 464)), (2, .int (jI c)), (3, .int (jI j)), (4, .int (jI (e + 1)))]) d_PI_paint_39 rfl (Nat.le_of_ble_eq_true rfl) rfl ?_
      refine jt_goto (t := 19) d_PI_paint_42 rfl ?_
      exact ih (e + 1) Iq204 Aq204 hpq204 (by omega) (by omega)
set_option maxRecDepth 100000 in
set_option maxHeartbeats 4000000 in
theorem l2_PI_paint_pv (G : jG) (d b : Nat) (c : Int) (I : Nat → Nat → Int) (A : Nat → Int → Int) (hI : cSI I) (hA : cSA A) (hc : 0 ≤ c ∧ c ≤ 1) (f0 : jF) (sz : Nat)   : ∀ (n9 : Nat) (j : Int) (J : Nat → Nat → Int) (B : Nat → Int → Int), cPx [] [469, 470] I A J B → (0 ≤ j ∧ j ≤ 24) → 24 - j < (n9 : Int) → jt (jm G Y_PI_paint (gR (d + 2)) (cQ b f0 sz (fun (rv : Option Value) (I2 : Nat → Nat → Int) (A2 : Nat → Int → Int) => rv = none ∧ cPx [] [469, 470] I A I2 A2))) 2 [(0, .ref (b + 468)), (1, .ref (b + 464)), (2, .int (jI c)), (3, .int (jI j))] [] (cmf b f0 J B) sz 0 0 := by
  intro n9
  induction n9 with
  | zero =>
    intro j J B hJ j0 hmeas
    exfalso
    omega
  | succ n9 ih =>
    intro j J B hJ j0 hmeas
    refine jt_iload_n d_PI_paint_2 rfl ?_
    refine jt_bipush d_PI_paint_3 (by omega) ?_
    refine jt_icmp_ge (t := 90) d_PI_paint_5 rfl (by unfold jRi; omega) (by unfold jRi; omega) (fun c301 => ?_) (fun c301 => ?_)
    · skip
      exact cm_vret d_PI_paint_90 rfl (⟨rfl, hJ⟩)
    · skip
      refine jt_aload_n d_PI_paint_8 rfl ?_
      refine cm_get (k := 468) (v := .ref (b + 470)) d_PI_paint_9 PI_f15 (by decide) cc_7 rfl ?_
      refine jt_iconst d_PI_paint_12 ?_
      refine cct_callS (Y := Y_Ar_fill) (As := [.ref (b + 470), .int (jI 0)]) (rest := []) d_PI_paint_13 PI_c19 yk_Ar_fill ys_Ar_fill (Nat.le_of_ble_eq_true rfl) rfl rfl (Nat.le_of_ble_eq_true rfl) (v_Ar_fill_p G _ b 0 J B hJ.1 hJ.2.1 (by omega)) (fun rvq302 Iq302 Aq302 hq302 => ?_)
      obtain ⟨rfl, hqq302⟩ := hq302
      have hpq302 := cPx.trans hJ hqq302 rfl rfl
      show jt _ 16 [(0, .ref (b + 468)), (1, .ref (b + 464)), (2, .int (jI c)), (3, .int (jI j))] [] (cmf b f0 Iq302 Aq302) _ _ _
      refine jt_iconst d_PI_paint_16 ?_
      refine jt_istore (L' := [(0, .ref (b + 468)), (1, .ref (b + 464)), (2, .int (jI c)), (3, .int (jI j)), (4, .int (jI 1))]) d_PI_paint_17 (Nat.le_of_ble_eq_true rfl) rfl ?_
      refine l19_PI_paint_pv G d b c I A hI hA hc f0 sz j ((by omega)) (fun eo303 Jo303 Bo303 hJo303 e0o303 => ?_) 98 1 Iq302 Aq302 hpq302 (by omega) (by omega)
      refine jt_iconst d_PI_paint_45 ?_
      refine jt_istore (L' := [(0, .ref (b + 468)), (1, .ref (b + 464)), (2, .int (jI c)), (3, .int (jI j)), (4, .int (jI 0))]) d_PI_paint_46 (Nat.le_of_ble_eq_true rfl) rfl ?_
      refine l48_PI_paint_pv G d b c I A hI hA hc f0 sz j ((by omega)) (fun io304 Jo304 Bo304 hJo304 i0o304 => ?_) 33 0 Jo303 Bo303 hJo303 (by omega) (by omega)
      refine jt_iinc (L' := [(0, .ref (b + 468)), (1, .ref (b + 464)), (2, .int (jI c)), (3, .int (jI (j + 1))), (4, .int (jI io304))]) d_PI_paint_84 rfl (Nat.le_of_ble_eq_true rfl) rfl ?_
      refine jt_goto (t := 2) d_PI_paint_87 rfl ?_
      refine jt_sub (L' := [(0, .ref (b + 468)), (1, .ref (b + 464)), (2, .int (jI c)), (3, .int (jI (j + 1)))]) (fun _ h => List.mem_append_left [(4, Value.int (jI io304))] h) ?_
      exact ih (j + 1) Jo304 Bo304 hJo304 (by omega) (by omega)
set_option maxRecDepth 100000 in
set_option maxHeartbeats 4000000 in
theorem v_PI_paint_p (G : jG) (d b : Nat) (c : Int) (I : Nat → Nat → Int) (A : Nat → Int → Int) (hI : cSI I) (hA : cSA A) (hc : 0 ≤ c ∧ c ≤ 1) : cct G Y_PI_paint (d + 2) b [.ref (b + 468), .ref (b + 464), .int (jI c)] I A (fun (rv : Option Value) (I2 : Nat → Nat → Int) (A2 : Nat → Int → Int) => rv = none ∧ cPx [] [469, 470] I A I2 A2) := by
  refine cct_of (by decide) (Nat.le_of_ble_eq_true rfl) (fun f0 sz => ?_)
  show jt _ 0 [(0, .ref (b + 468)), (1, .ref (b + 464)), (2, .int (jI c))] [] _ _ _ _
  have hz0 : cPx [] [469, 470] I A I A := cPx.refl hI hA
  refine jt_iconst d_PI_paint_0 ?_
  refine jt_istore_n (L' := [(0, .ref (b + 468)), (1, .ref (b + 464)), (2, .int (jI c)), (3, .int (jI 0))]) d_PI_paint_1 (Nat.le_of_ble_eq_true rfl) rfl ?_
  exact l2_PI_paint_pv G d b c I A hI hA hc f0 sz  25 0 I A hz0 (by omega) (by omega)
set_option maxRecDepth 100000 in
set_option maxHeartbeats 4000000 in
theorem v_GC_note_x (G : jG) (d b : Nat) (f : Nat) (I : Nat → Nat → Int) (A : Nat → Int → Int) (hI : cSI I) (hA : cSA A) (k_f : f < 472) (k5f : ck f = 5) (hn : I 0 7 < 2147483647) : cct G Y_GC_note (d + 1) b [.ref (b + 0), .ref (b + f)] I A (fun (rv : Option Value) (I2 : Nat → Nat → Int) (A2 : Nat → Int → Int) => ∃ y : Int, rv = some (.int (jI y)) ∧ (-13 ≤ y ∧ y ≤ 0) ∧ cPx [7] [471] I A I2 A2 ∧ (fZ (A (f + 1)) → y = 0 ∧ I2 0 7 = I 0 7 + 1 ∧ A2 471 = ju (A 471) (I 0 7 % 8) (A (f + 1) 12)) ∧ (¬ fZ (A (f + 1)) → y = -12 ∧ I2 0 7 = I 0 7 ∧ A2 471 = A 471)) := by
  refine cct_of (by decide) (Nat.le_of_ble_eq_true rfl) (fun f0 sz => ?_)
  show jt _ 0 [(0, .ref (b + 0)), (1, .ref (b + f))] [] _ _ _ _
  have fpf := form_parts f k_f k5f
  have glf := eLong k_f k5f
  have r07 : 0 ≤ I 0 7 ∧ I 0 7 ≤ 2147483647 := hI 0 7
  have hz0 : cPx [7] [471] I A I A := cPx.refl hI hA
  refine jt_aload_n d_GC_note_0 rfl ?_
  refine cct_callV (Y := Y_FO_isPlain) (ci := 4) (k := f) (As := []) (rest := []) d_GC_note_1 GC_c129 yk_FO_isPlain yv_FO_isPlain rfl (Nat.le_of_ble_eq_true rfl) k_f (cc_5 k5f) rfl rfl (Nat.le_of_ble_eq_true rfl) (v_FO_isPlain_x G _ b f I A hz0.1 hz0.2.1 k_f k5f) (fun rvq1 Iq1 Aq1 hq1 => ?_)
  obtain ⟨yq1, rfl, ryq1, hIq1, hAq1, hxq1⟩ := hq1
  rw [hIq1, hAq1]
  by_cases gbq1 : yq1 = 1
  · skip
    obtain rfl : yq1 = 1 := by omega
    have hwq1 := hxq1.1 rfl
    show jt _ 4 [(0, .ref (b + 0)), (1, .ref (b + f))] [.int (jI 1)] (cmf b f0 I A) _ _ _
    refine jt_if_ne (t := 10) d_GC_note_4 rfl (by unfold jRi; omega) (fun c2 => ?_) (fun c2 => ?_)
    · skip
      refine jt_aload_n d_GC_note_10 rfl ?_
      refine cm_get (k := 0) (v := .ref (b + 471)) d_GC_note_11 GC_f53 (by decide) cc_0 rfl ?_
      refine jt_aload_n d_GC_note_14 rfl ?_
      refine cm_get (k := 0) (v := .int (jI (I 0 7))) d_GC_note_15 GC_f134 (by decide) cc_0 rfl ?_
      have rb3 : 0 ≤ I 0 7 ∧ I 0 7 ≤ 2147483647 := hz0.1 0 7
      refine jt_bipush d_GC_note_18 (by omega) ?_
      have tn := Int.tmod_nonneg 8 (show 0 ≤ I 0 7 by omega)
      refine jt_irem d_GC_note_20 (by unfold jRi; omega) (by unfold jRi; omega) (by omega) ?_
      have td4 := gtd (I 0 7) 8 (by omega)
      refine jt_aload_n d_GC_note_21 rfl ?_
      refine cm_get (k := f) (v := .ref (b + (f + 1))) d_GC_note_22 GC_f137 k_f (cc_5 k5f) rfl ?_
      refine jt_bipush d_GC_note_25 (by omega) ?_
      refine cm_ld1 (k := f + 1) (n := 13) (v := (A ((f + 1))) 12) d_GC_note_27 fpf.2.2 fpf.1 fpf.2.1 (by omega) (by omega) (by omega) rfl ?_
      refine jt_topl (fun v5 ev5 => ?_)
      have bv5 : -9223372036854775808 ≤ v5 ∧ v5 ≤ 9223372036854775807 := by have q9 := hz0.2.1 (f + 1) 12; rw [glf.1, glf.2] at q9; rw [ev5]; exact q9
      refine cm_st1 (k := 471) (n := 8) (v := v5) d_GC_note_28 (by decide) rfl rfl (by omega) (by omega) (by omega) ?_
      have p6 := cPx.A 471 (ju (A 471) (Int.tmod (I 0 7) 8) v5) hz0 (Or.inl rfl) (gju (hz0.2.1 471) (show -9223372036854775808 ≤ v5 ∧ v5 ≤ 9223372036854775807 by omega))
      refine jt_aload_n d_GC_note_29 rfl ?_
      refine jt_dup d_GC_note_30 rfl ?_
      refine cm_get (k := 0) (v := .int (jI (I 0 7))) d_GC_note_31 GC_f134 (by decide) cc_0 rfl ?_
      refine jt_iconst d_GC_note_34 ?_
      refine jt_iadd d_GC_note_35 ?_
      refine jt_topi (fun v7 ev7 => ?_)
      refine cm_put (k := 0) (j := 7) (v := v7) d_GC_note_36 (GC_w134 _ rfl) (by decide) cc_0 rfl rfl (Nat.le_of_ble_eq_true rfl) rfl ?_
      have p8 := cPx.I 0 7 v7 p6 rfl (show 0 ≤ v7 ∧ v7 ≤ 2147483647 by omega)
      refine jt_iconst d_GC_note_39 ?_
      exact cm_ret d_GC_note_40 rfl rfl (⟨0, rfl, by omega, p8, fun _ => ⟨rfl, (show v7 = I 0 7 + 1 by omega), by show ju (A 471) (Int.tmod (I 0 7) 8) v5 = _; rw [Int.tmod_eq_emod_of_nonneg (by omega), ev5]⟩, fun z => absurd hwq1 z⟩)
    · skip
      exfalso
      omega
  · skip
    obtain rfl : yq1 = 0 := by omega
    have hwq1 := hxq1.2 rfl
    show jt _ 4 [(0, .ref (b + 0)), (1, .ref (b + f))] [.int (jI 0)] (cmf b f0 I A) _ _ _
    refine jt_if_ne (t := 10) d_GC_note_4 rfl (by unfold jRi; omega) (fun c9 => ?_) (fun c9 => ?_)
    · skip
      exfalso
      omega
    · skip
      refine jt_bipush d_GC_note_7 (by omega) ?_
      exact cm_ret d_GC_note_9 rfl rfl (⟨-12, rfl, by omega, hz0, fun z => absurd z hwq1, fun _ => ⟨rfl, rfl, rfl⟩⟩)
set_option maxRecDepth 100000 in
set_option maxHeartbeats 4000000 in
theorem l2_OU_takeNumbers_xv (G : jG) (d b : Nat) (n : Int) (I : Nat → Nat → Int) (A : Nat → Int → Int) (hI : cSI I) (hA : cSA A) (fs : List (Int → Int)) (hkp : cKp A fs) (hn : n = (fs.length : Int)) (hn7 : n ≤ 74) (f0 : jF) (sz : Nat)   : ∀ (n9 : Nat) (f : Int) (J : Nat → Nat → Int) (B : Nat → Int → Int), cPx [] [465] I A J B → (0 ≤ f ∧ f ≤ n) → (∀ e9 : Int, TN (fs.drop f.toNat) e9 → TN fs e9) → (∀ z, 0 ≤ z → z < f → B 465 z * 4096 = A (76 + 2 * z.toNat) 12) → 150 - f < (n9 : Int) → jt (jm G Y_OU_takeNumbers (gR (d + 1)) (cQ b f0 sz (fun (rv : Option Value) (I2 : Nat → Nat → Int) (A2 : Nat → Int → Int) => ∃ y : Int, rv = some (.int (jI y)) ∧ (-2147483648 ≤ y ∧ y ≤ 2147483647) ∧ cPx [] [465] I A I2 A2 ∧ TN fs y ∧ (y = 0 → ∀ z, 0 ≤ z → z < n → A2 465 z * 4096 = A (76 + 2 * z.toNat) 12)))) 2 [(0, .ref (b + 464)), (1, .ref (b + 74)), (2, .int (jI n)), (3, .int (jI f))] [] (cmf b f0 J B) sz 0 0 := by
  intro n9
  induction n9 with
  | zero =>
    intro f J B hJ fz hgo hnum hmeas
    exfalso
    omega
  | succ n9 ih =>
    intro f J B hJ fz hgo hnum hmeas
    refine jt_iload_n d_OU_takeNumbers_2 rfl ?_
    refine jt_iload_n d_OU_takeNumbers_3 rfl ?_
    refine jt_icmp_ge (t := 90) d_OU_takeNumbers_4 rfl (by unfold jRi; omega) (by unfold jRi; omega) (fun c101 => ?_) (fun c101 => ?_)
    · skip
      refine jt_iconst d_OU_takeNumbers_90 ?_
      exact cm_ret d_OU_takeNumbers_91 rfl rfl (⟨0, rfl, by omega, hJ, hgo 0 (by rw [List.drop_eq_nil_of_le (by omega)]; exact (show (0 : Int) = 0 from rfl)), fun _ z a c => hnum z a (by omega)⟩)
    · skip
      refine jt_iload_n d_OU_takeNumbers_7 rfl ?_
      refine jt_bipush d_OU_takeNumbers_8 (by omega) ?_
      refine jt_icmp_ge (t := 90) d_OU_takeNumbers_10 rfl (by unfold jRi; omega) (by unfold jRi; omega) (fun c102 => ?_) (fun c102 => ?_)
      · skip
        refine jt_iconst d_OU_takeNumbers_90 ?_
        exact cm_ret d_OU_takeNumbers_91 rfl rfl (⟨0, rfl, by omega, hJ, hgo 0 (by rw [List.drop_eq_nil_of_le (by omega)]; exact (show (0 : Int) = 0 from rfl)), fun _ z a c => hnum z a (by omega)⟩)
      · skip
        refine jt_aload_n d_OU_takeNumbers_13 rfl ?_
        refine jt_iload_n d_OU_takeNumbers_14 rfl ?_
        refine cm_ldF (k := 74) (n := 150) (z := f) d_OU_takeNumbers_15 (by decide) rfl rfl (by omega) (by omega) (by omega) ?_
        have hfq103 := form_at 74 (by decide) rfl (f : Int).toNat (show (f : Int).toNat < 150 by omega)
        obtain ⟨q103, eqq103⟩ : ∃ q9 : Nat, q9 = 74 + 1 + 2 * (f : Int).toNat := ⟨_, rfl⟩
        rw [← eqq103] at hfq103 ⊢
        have fpq103 := form_parts q103 hfq103.2 hfq103.1
        have glq103 := eLong hfq103.2 hfq103.1
        refine cm_get (k := q103) (v := .ref (b + (q103 + 1))) d_OU_takeNumbers_16 OU_f21 hfq103.2 (cc_5 hfq103.1) rfl ?_
        refine jt_bipush d_OU_takeNumbers_19 (by omega) ?_
        refine cm_ld1 (k := q103 + 1) (n := 13) (v := (B ((q103 + 1))) 12) d_OU_takeNumbers_21 fpq103.2.2 fpq103.1 fpq103.2.1 (by omega) (by omega) (by omega) rfl ?_
        refine jt_topl (fun v104 ev104 => ?_)
        have bv104 : -9223372036854775808 ≤ v104 ∧ v104 ≤ 9223372036854775807 := by have q9 := hJ.2.1 (q103 + 1) 12; rw [glq103.1, glq103.2] at q9; rw [ev104]; exact q9
        rw [show q103 + 1 = 76 + 2 * f.toNat by omega, hJ.2.2.2 _ (ctn1 (by omega)) trivial] at ev104
        obtain ⟨F9, hF9⟩ : ∃ F9, fs[f.toNat]? = some F9 := ⟨_, List.getElem?_eq_getElem (by omega)⟩
        have hvi := hkp f.toNat F9 hF9
        refine jt_lstore (L' := [(0, .ref (b + 464)), (1, .ref (b + 74)), (2, .int (jI n)), (3, .int (jI f)), (4, .long (jL v104))]) d_OU_takeNumbers_22 (Nat.le_of_ble_eq_true rfl) rfl ?_
        refine jt_aload_n d_OU_takeNumbers_24 rfl ?_
        refine jt_iload_n d_OU_takeNumbers_25 rfl ?_
        refine cm_ldF (k := 74) (n := 150) (z := f) d_OU_takeNumbers_26 (by decide) rfl rfl (by omega) (by omega) (by omega) ?_
        have hfq105 := form_at 74 (by decide) rfl (f : Int).toNat (show (f : Int).toNat < 150 by omega)
        obtain ⟨q105, eqq105⟩ : ∃ q9 : Nat, q9 = 74 + 1 + 2 * (f : Int).toNat := ⟨_, rfl⟩
        rw [← eqq105] at hfq105 ⊢
        have fpq105 := form_parts q105 hfq105.2 hfq105.1
        have glq105 := eLong hfq105.2 hfq105.1
        refine cct_callV (Y := Y_FO_isPlain) (ci := 4) (k := q105) (As := []) (rest := []) d_OU_takeNumbers_27 OU_c27 yk_FO_isPlain yv_FO_isPlain rfl (Nat.le_of_ble_eq_true rfl) hfq105.2 (cc_5 hfq105.1) rfl rfl (Nat.le_of_ble_eq_true rfl) (v_FO_isPlain_x G _ b q105 J B hJ.1 hJ.2.1 hfq105.2 hfq105.1) (fun rvq106 Iq106 Aq106 hq106 => ?_)
        obtain ⟨yq106, rfl, ryq106, hIq106, hAq106, hxq106⟩ := hq106
        rw [hIq106, hAq106]
        rw [show q105 + 1 = 76 + 2 * f.toNat by omega, hJ.2.2.2 _ (ctn1 (by omega)) trivial] at hxq106
        by_cases gbq106 : yq106 = 1
        · skip
          obtain rfl : yq106 = 1 := by omega
          have hwq106 := hxq106.1 rfl
          show jt _ 30 [(0, .ref (b + 464)), (1, .ref (b + 74)), (2, .int (jI n)), (3, .int (jI f)), (4, .long (jL v104))] [.int (jI 1)] (cmf b f0 J B) _ _ _
          refine jt_if_ne (t := 36) d_OU_takeNumbers_30 rfl (by unfold jRi; omega) (fun c107 => ?_) (fun c107 => ?_)
          · skip
            refine jt_lload d_OU_takeNumbers_36 rfl ?_
            refine jt_ldc2 (z := 4096) d_OU_takeNumbers_38 OU_k31 ?_
            refine jt_lrem d_OU_takeNumbers_41 (by unfold jRl; omega) (by unfold jRl; omega) (by omega) ?_
            have td108 := gtd v104 4096 (by omega)
            refine jt_topln (fun v109 bv109 ev109 => ?_)
            refine jt_lconst (z := 0) d_OU_takeNumbers_42 (by decide) ?_
            refine jt_lif_eq (t := 50) d_OU_takeNumbers_43 d_OU_takeNumbers_44 rfl (by unfold jRl; omega) (by unfold jRl; omega) (fun c110 => ?_) (fun c110 => ?_)
            · skip
              refine jt_lload d_OU_takeNumbers_50 rfl ?_
              refine jt_ldc2 (z := -2097152) d_OU_takeNumbers_52 OU_k33 ?_
              refine jt_lif_lt (t := 68) d_OU_takeNumbers_55 d_OU_takeNumbers_56 rfl (by unfold jRl; omega) (by unfold jRl; omega) (fun c111 => ?_) (fun c111 => ?_)
              · skip
                refine jt_bipush d_OU_takeNumbers_68 (by omega) ?_
                exact cm_ret d_OU_takeNumbers_70 rfl rfl (⟨-9, rfl, by omega, hJ, hgo _ (TN_mk (by omega) hF9 (t1_v hvi ⟨fun z => absurd hwq106 z, fun _ z => by exfalso; omega, fun _ _ _ => rfl, fun _ _ a c => by exfalso; omega⟩) (Or.inl ⟨by decide, rfl⟩)), fun z => absurd z (by decide)⟩)
              · skip
                refine jt_lload d_OU_takeNumbers_59 rfl ?_
                refine jt_ldc2 (z := 6291456) d_OU_takeNumbers_61 OU_k35 ?_
                refine jt_lif_le (t := 71) d_OU_takeNumbers_64 d_OU_takeNumbers_65 rfl (by unfold jRl; omega) (by unfold jRl; omega) (fun c112 => ?_) (fun c112 => ?_)
                · skip
                  refine jt_aload_n d_OU_takeNumbers_71 rfl ?_
                  refine cm_get (k := 464) (v := .ref (b + 465)) d_OU_takeNumbers_72 OU_f11 (by decide) cc_6 rfl ?_
                  refine jt_iload_n d_OU_takeNumbers_75 rfl ?_
                  refine jt_lload d_OU_takeNumbers_76 rfl ?_
                  refine jt_ldc2 (z := 4096) d_OU_takeNumbers_78 OU_k31 ?_
                  refine jt_ldiv d_OU_takeNumbers_81 (by unfold jRl; omega) (by unfold jRl; omega) (by omega) ?_
                  have td113 := gtd v104 4096 (by omega)
                  refine jt_topln (fun v114 bv114 ev114 => ?_)
                  refine jt_l2i d_OU_takeNumbers_82 ?_
                  refine jt_topin (fun v115 bv115 kv115 => ?_)
                  have ev115 := kv115 (by omega) (by omega)
                  clear kv115
                  refine cm_st0 (k := 465) (n := 74) (v := v115) d_OU_takeNumbers_83 (by decide) rfl rfl (by omega) (by omega) (by omega) ?_
                  have p116 := cPx.A 465 (ju (B 465) f v115) hJ (Or.inl rfl) (gju (hJ.2.1 465) (show -2147483648 ≤ v115 ∧ v115 ≤ 2147483647 by omega))
                  refine jt_iinc (L' := [(0, .ref (b + 464)), (1, .ref (b + 74)), (2, .int (jI n)), (3, .int (jI (f + 1))), (4, .long (jL v104))]) d_OU_takeNumbers_84 rfl (Nat.le_of_ble_eq_true rfl) rfl ?_
                  refine jt_goto (t := 2) d_OU_takeNumbers_87 rfl ?_
                  refine jt_sub (L' := [(0, .ref (b + 464)), (1, .ref (b + 74)), (2, .int (jI n)), (3, .int (jI (f + 1)))]) (fun _ h => List.mem_append_left [(4, Value.long (jL v104))] h) ?_
                  exact ih (f + 1) J (va_up B 465 (ju (B 465) f v115)) p116 (by omega) (fun e9 h9 => hgo e9 (TN_mk (by omega) hF9 (t1_v hvi ⟨fun z => absurd hwq106 z, fun _ z => by exfalso; omega, fun _ _ z => by exfalso; omega, fun _ _ _ _ => rfl⟩) (Or.inr ⟨rfl, h9⟩))) (fun z a c => by show ju (B 465) f v115 z * 4096 = _; rcases Classical.em (z = f) with e9 | e9; exact (by rw [e9, ju_self]; omega); exact (by rw [ju_ne _ _ e9]; exact hnum z a (by omega))) (by omega)
                · skip
                  refine jt_bipush d_OU_takeNumbers_68 (by omega) ?_
                  exact cm_ret d_OU_takeNumbers_70 rfl rfl (⟨-9, rfl, by omega, hJ, hgo _ (TN_mk (by omega) hF9 (t1_v hvi ⟨fun z => absurd hwq106 z, fun _ z => by exfalso; omega, fun _ _ _ => rfl, fun _ _ a c => by exfalso; omega⟩) (Or.inl ⟨by decide, rfl⟩)), fun z => absurd z (by decide)⟩)
            · skip
              refine jt_bipush d_OU_takeNumbers_47 (by omega) ?_
              exact cm_ret d_OU_takeNumbers_49 rfl rfl (⟨-13, rfl, by omega, hJ, hgo _ (TN_mk (by omega) hF9 (t1_v hvi ⟨fun z => absurd hwq106 z, fun _ _ => rfl, fun _ z => by exfalso; omega, fun _ z => by exfalso; omega⟩) (Or.inl ⟨by decide, rfl⟩)), fun z => absurd z (by decide)⟩)
          · skip
            exfalso
            omega
        · skip
          obtain rfl : yq106 = 0 := by omega
          have hwq106 := hxq106.2 rfl
          show jt _ 30 [(0, .ref (b + 464)), (1, .ref (b + 74)), (2, .int (jI n)), (3, .int (jI f)), (4, .long (jL v104))] [.int (jI 0)] (cmf b f0 J B) _ _ _
          refine jt_if_ne (t := 36) d_OU_takeNumbers_30 rfl (by unfold jRi; omega) (fun c117 => ?_) (fun c117 => ?_)
          · skip
            exfalso
            omega
          · skip
            refine jt_bipush d_OU_takeNumbers_33 (by omega) ?_
            exact cm_ret d_OU_takeNumbers_35 rfl rfl (⟨-12, rfl, by omega, hJ, hgo _ (TN_mk (by omega) hF9 (t1_v hvi ⟨fun _ => rfl, fun z => absurd z hwq106, fun z => absurd z hwq106, fun z => absurd z hwq106⟩) (Or.inl ⟨by decide, rfl⟩)), fun z => absurd z (by decide)⟩)
set_option maxRecDepth 100000 in
set_option maxHeartbeats 4000000 in
theorem v_OU_takeNumbers_x (G : jG) (d b : Nat) (n : Int) (I : Nat → Nat → Int) (A : Nat → Int → Int) (hI : cSI I) (hA : cSA A) (fs : List (Int → Int)) (hkp : cKp A fs) (hn : n = (fs.length : Int)) (hn7 : n ≤ 74) : cct G Y_OU_takeNumbers (d + 1) b [.ref (b + 464), .ref (b + 74), .int (jI n)] I A (fun (rv : Option Value) (I2 : Nat → Nat → Int) (A2 : Nat → Int → Int) => ∃ y : Int, rv = some (.int (jI y)) ∧ (-2147483648 ≤ y ∧ y ≤ 2147483647) ∧ cPx [] [465] I A I2 A2 ∧ TN fs y ∧ (y = 0 → ∀ z, 0 ≤ z → z < n → A2 465 z * 4096 = A (76 + 2 * z.toNat) 12)) := by
  refine cct_of (by decide) (Nat.le_of_ble_eq_true rfl) (fun f0 sz => ?_)
  show jt _ 0 [(0, .ref (b + 464)), (1, .ref (b + 74)), (2, .int (jI n))] [] _ _ _ _
  have hz0 : cPx [] [465] I A I A := cPx.refl hI hA
  refine jt_iconst d_OU_takeNumbers_0 ?_
  refine jt_istore_n (L' := [(0, .ref (b + 464)), (1, .ref (b + 74)), (2, .int (jI n)), (3, .int (jI 0))]) d_OU_takeNumbers_1 (Nat.le_of_ble_eq_true rfl) rfl ?_
  exact l2_OU_takeNumbers_xv G d b n I A hI hA fs hkp hn hn7 f0 sz  151 0 I A hz0 (by omega) (fun _ h9 => h9) (fun z a c => by exfalso; omega) (by omega)

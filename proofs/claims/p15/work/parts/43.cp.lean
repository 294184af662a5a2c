theorem mw_max : Cond.methodLink "GlyphCompiler$TokenRow" 25 Lib.Math.max.name ∈ jTs ∧ Cond.static Lib.Math.max.name ∈ jTs ∧ Cond.initialized "java/lang/Math" ∈ jTs ∧ Cond.code Lib.Math.max.name Lib.Math.max.code 2 (some .int) ∈ jTs := ⟨(jin_t (jin_2 44 rfl) rfl), (jin_t (jin_2 45 rfl) rfl), (jin_t (jin_1 10 rfl) rfl), (jin_t (jin_2 46 rfl) rfl)⟩
theorem mw_min : Cond.methodLink "GlyphCompiler$TokenRow" 31 Lib.Math.min.name ∈ jTs ∧ Cond.static Lib.Math.min.name ∈ jTs ∧ Cond.initialized "java/lang/Math" ∈ jTs ∧ Cond.code Lib.Math.min.name Lib.Math.min.code 2 (some .int) ∈ jTs := ⟨(jin_t (jin_2 59 rfl) rfl), (jin_t (jin_2 60 rfl) rfl), (jin_t (jin_1 10 rfl) rfl), (jin_t (jin_2 61 rfl) rfl)⟩
theorem mw_abs : Cond.methodLink "GlyphCompiler$Variables" 70 Lib.MathLoose.abs_long.x ∈ jTs ∧ Cond.static Lib.MathLoose.abs_long.x ∈ jTs ∧ Cond.initialized "java/lang/Math" ∈ jTs ∧ Cond.code Lib.MathLoose.abs_long.x Lib.MathLoose.abs_long.code 2 (some .long) ∈ jTs := ⟨(jin_t (jin_3 24 rfl) rfl), (jin_t (jin_3 25 rfl) rfl), (jin_t (jin_1 10 rfl) rfl), (jin_t (jin_3 26 rfl) rfl)⟩
theorem TR_ac34 : Cond.methodLink "GlyphCompiler$TokenRow" 34 arraycopyName ∈ jTs ∧ Cond.native arraycopyName ∈ jTs ∧ Cond.static arraycopyName ∈ jTs ∧ Cond.initialized "java/lang/System" ∈ jTs := ⟨(jin_t (jin_2 62 rfl) rfl), (jin_t (jin_2 64 rfl) rfl), (jin_t (jin_2 63 rfl) rfl), (jin_t (jin_1 11 rfl) rfl)⟩
set_option maxRecDepth 100000 in
set_option maxHeartbeats 4000000 in
theorem v_PI_middle (G : jG) (d b : Nat) (i : Int) (I : Nat → Nat → Int) (A : Nat → Int → Int) (hI : cSI I) (hA : cSA A) (hi : 0 ≤ i ∧ i ≤ 31) : cct G Y_PI_middle d b [.int (jI i)] I A (fun (rv : Option Value) (I2 : Nat → Nat → Int) (A2 : Nat → Int → Int) => ∃ y : Int, rv = some (.long (jL y)) ∧ (-9223372036854775808 ≤ y ∧ y ≤ 9223372036854775807) ∧ cPo [] [] I A I2 A2) := by
  refine cct_of (by decide) (Nat.le_of_ble_eq_true rfl) (fun f0 sz => ?_)
  show jt _ 0 [(0, .int (jI i))] [] _ _ _ _
  have hz0 : cPo [] [] I A I A := cPo.refl hI hA
  refine jt_iload_n d_PI_middle_0 rfl ?_
  refine jt_sipush d_PI_middle_1 (by omega) ?_
  refine jt_imul d_PI_middle_4 ?_
  refine jt_sipush d_PI_middle_5 (by omega) ?_
  refine jt_iadd d_PI_middle_8 ?_
  refine jt_i2l d_PI_middle_9 (by unfold jRi; omega) ?_
  exact cm_lret d_PI_middle_10 rfl (⟨(i * 8192) + 4096, rfl, by omega, hz0⟩)
set_option maxRecDepth 100000 in
set_option maxHeartbeats 4000000 in
theorem v_PI_isBlack (G : jG) (d b : Nat) (i : Int) (j : Int) (I : Nat → Nat → Int) (A : Nat → Int → Int) (hI : cSI I) (hA : cSA A) (hi : 0 ≤ i ∧ i ≤ 31) (hj : 0 ≤ j ∧ j ≤ 23) : cct G Y_PI_isBlack d b [.ref (b + 468), .int (jI i), .int (jI j)] I A (fun (rv : Option Value) (I2 : Nat → Nat → Int) (A2 : Nat → Int → Int) => ∃ y : Int, rv = some (.int (jI y)) ∧ (0 ≤ y ∧ y ≤ 1) ∧ cPo [] [] I A I2 A2) := by
  refine cct_of (by decide) (Nat.le_of_ble_eq_true rfl) (fun f0 sz => ?_)
  show jt _ 0 [(0, .ref (b + 468)), (1, .int (jI i)), (2, .int (jI j))] [] _ _ _ _
  have hz0 : cPo [] [] I A I A := cPo.refl hI hA
  refine jt_aload_n d_PI_isBlack_0 rfl ?_
  refine cm_get (k := 468) (v := .ref (b + 469)) d_PI_isBlack_1 PI_f9 (by decide) cc_7 rfl ?_
  refine jt_iload_n d_PI_isBlack_4 rfl ?_
  refine jt_bipush d_PI_isBlack_5 (by omega) ?_
  refine jt_imul d_PI_isBlack_7 ?_
  refine jt_iload_n d_PI_isBlack_8 rfl ?_
  refine jt_iadd d_PI_isBlack_9 ?_
  refine cm_ld2 (k := 469) (n := 768) (v := (A 469) ((j * 32) + i)) d_PI_isBlack_10 (by decide) rfl rfl (by omega) (by omega) (by omega) rfl ?_
  refine jt_topi (fun v1 ev1 => ?_)
  have bv1 : 0 ≤ v1 ∧ v1 ≤ 1 := by rw [ev1]; exact hz0.2.1 469 ((j * 32) + i)
  exact cm_ret d_PI_isBlack_11 rfl (jnz (by omega)) (⟨v1, rfl, by omega, hz0⟩)
set_option maxRecDepth 100000 in
set_option maxHeartbeats 4000000 in
theorem l2_PI_whitenv (G : jG) (d b : Nat)  (I : Nat → Nat → Int) (A : Nat → Int → Int) (hI : cSI I) (hA : cSA A) (f0 : jF) (sz : Nat)   : ∀ (n9 : Nat) (p : Int) (J : Nat → Nat → Int) (B : Nat → Int → Int), cPo [] [469] I A J B → (0 ≤ p ∧ p ≤ 768) → 768 - p < (n9 : Int) → jt (jm G Y_PI_whiten (gR d) (cQ b f0 sz (fun (rv : Option Value) (I2 : Nat → Nat → Int) (A2 : Nat → Int → Int) => rv = none ∧ cPo [] [469] I A I2 A2))) 2 [(0, .ref (b + 468)), (1, .int (jI p))] [] (cmf b f0 J B) sz 0 0 := by
  intro n9
  induction n9 with
  | zero =>
    intro p J B hJ p0 hmeas
    exfalso
    omega
  | succ n9 ih =>
    intro p J B hJ p0 hmeas
    refine jt_iload_n d_PI_whiten_2 rfl ?_
    refine jt_aload_n d_PI_whiten_3 rfl ?_
    refine cm_get (k := 468) (v := .ref (b + 469)) d_PI_whiten_4 PI_f9 (by decide) cc_7 rfl ?_
    refine cm_len (k := 469) (n := 768) d_PI_whiten_7 jTy_2 (by decide) (cc_10 rfl rfl) ?_
    refine jt_icmp_ge (t := 24) d_PI_whiten_8 rfl (by unfold jRi; omega) (by unfold jRi; omega) (fun c101 => ?_) (fun c101 => ?_)
    · skip
      exact cm_vret d_PI_whiten_24 rfl (⟨rfl, hJ⟩)
    · skip
      refine jt_aload_n d_PI_whiten_11 rfl ?_
      refine cm_get (k := 468) (v := .ref (b + 469)) d_PI_whiten_12 PI_f9 (by decide) cc_7 rfl ?_
      refine jt_iload_n d_PI_whiten_15 rfl ?_
      refine jt_iconst d_PI_whiten_16 ?_
      refine cm_st2 (k := 469) (n := 768) (v := 0) d_PI_whiten_17 (by decide) rfl rfl (by omega) (by omega) (by omega) (by omega) ?_
      have p102 := cPo.A 469 (ju (B 469) p 0) hJ (Or.inl rfl) (gju (hJ.2.1 469) (show 0 ≤ 0 ∧ 0 ≤ 1 by omega))
      refine jt_iinc (L' := [(0, .ref (b + 468)), (1, .int (jI (p + 1)))]) d_PI_whiten_18 rfl (Nat.le_of_ble_eq_true rfl) rfl ?_
      refine jt_goto (t := 2) d_PI_whiten_21 rfl ?_
      exact ih (p + 1) J (va_up B 469 (ju (B 469) p 0)) p102 (by omega) (by omega)
set_option maxRecDepth 100000 in
set_option maxHeartbeats 4000000 in
theorem v_PI_whiten (G : jG) (d b : Nat)  (I : Nat → Nat → Int) (A : Nat → Int → Int) (hI : cSI I) (hA : cSA A) : cct G Y_PI_whiten d b [.ref (b + 468)] I A (fun (rv : Option Value) (I2 : Nat → Nat → Int) (A2 : Nat → Int → Int) => rv = none ∧ cPo [] [469] I A I2 A2) := by
  refine cct_of (by decide) (Nat.le_of_ble_eq_true rfl) (fun f0 sz => ?_)
  show jt _ 0 [(0, .ref (b + 468))] [] _ _ _ _
  have hz0 : cPo [] [469] I A I A := cPo.refl hI hA
  refine jt_iconst d_PI_whiten_0 ?_
  refine jt_istore_n (L' := [(0, .ref (b + 468)), (1, .int (jI 0))]) d_PI_whiten_1 (Nat.le_of_ble_eq_true rfl) rfl ?_
  exact l2_PI_whitenv G d b  I A hI hA f0 sz  769 0 I A hz0 (by omega) (by omega)
set_option maxRecDepth 100000 in
set_option maxHeartbeats 4000000 in
theorem l95_PI_windv (G : jG) (d b : Nat) (e : Int) (y : Int) (I : Nat → Nat → Int) (A : Nat → Int → Int) (hI : cSI I) (hA : cSA A) (he : 1 ≤ e ∧ e < 98) (hy : -9223372036854775808 ≤ y ∧ y ≤ 9223372036854775807) (f0 : jF) (sz : Nat)  (p : Int) (q : Int) (u : Int) (v : Int) (t : Int) (p0 : -9223372036854775808 ≤ p ∧ p ≤ 9223372036854775807) (q0 : -9223372036854775808 ≤ q ∧ q ≤ 9223372036854775807) (u0 : -9223372036854775808 ≤ u ∧ u ≤ 9223372036854775807) (v0 : -9223372036854775808 ≤ v ∧ v ≤ 9223372036854775807) (t0 : -1 ≤ t ∧ t ≤ 1) : ∀ (n9 : Nat) (s : Int) (i : Int) (J : Nat → Nat → Int) (B : Nat → Int → Int), cPo [] [470] I A J B → (0 ≤ s ∧ s ≤ 1) → (0 ≤ i ∧ i ≤ 32) → 32 - i < (n9 : Int) → jt (jm G Y_PI_wind (gR (d + 1)) (cQ b f0 sz (fun (rv : Option Value) (I2 : Nat → Nat → Int) (A2 : Nat → Int → Int) => rv = none ∧ cPo [] [470] I A I2 A2))) 95 [(0, .ref (b + 468)), (1, .ref (b + 464)), (2, .int (jI e)), (3, .long (jL y)), (5, .long (jL p)), (7, .long (jL q)), (9, .long (jL u)), (11, .long (jL v)), (13, .int (jI t)), (14, .int (jI s)), (15, .int (jI i))] [] (cmf b f0 J B) sz 0 0 := by
  intro n9
  induction n9 with
  | zero =>
    intro s i J B hJ s0 i0 hmeas
    exfalso
    omega
  | succ n9 ih =>
    intro s i J B hJ s0 i0 hmeas
    refine jt_iload d_PI_wind_95 rfl ?_
    refine jt_bipush d_PI_wind_97 (by omega) ?_
    refine jt_icmp_ge (t := 171) d_PI_wind_99 rfl (by unfold jRi; omega) (by unfold jRi; omega) (fun c101 => ?_) (fun c101 => ?_)
    · skip
      exact cm_vret d_PI_wind_171 rfl (⟨rfl, hJ⟩)
    · skip
      refine jt_iload d_PI_wind_102 rfl ?_
      refine jt_if_eq (t := 171) d_PI_wind_104 rfl (by unfold jRi; omega) (fun c102 => ?_) (fun c102 => ?_)
      · skip
        exact cm_vret d_PI_wind_171 rfl (⟨rfl, hJ⟩)
      · skip
        refine jt_iload d_PI_wind_107 rfl ?_
        refine jt_i2l d_PI_wind_109 (by unfold jRi; omega) ?_
        refine jt_lload d_PI_wind_110 rfl ?_
        refine jt_lload d_PI_wind_112 rfl ?_
        refine jt_lsub d_PI_wind_114 ?_
        refine jt_toplw (fun v103 bv103 => ?_)
        refine jt_lload_n d_PI_wind_115 rfl ?_
        refine jt_lload d_PI_wind_116 rfl ?_
        refine jt_lsub d_PI_wind_118 ?_
        refine jt_toplw (fun v104 bv104 => ?_)
        refine jt_lmul d_PI_wind_119 ?_
        refine jt_toplw (fun v105 bv105 => ?_)
        refine jt_iload d_PI_wind_120 rfl ?_
        refine cct_callS (Y := Y_PI_middle) (As := [.int (jI i)]) (rest := [.long (jL v105), .long (jL t)]) d_PI_wind_122 PI_c30 yk_PI_middle ys_PI_middle (Nat.le_of_ble_eq_true rfl) rfl rfl (Nat.le_of_ble_eq_true rfl) (v_PI_middle G _ b i J B hJ.1 hJ.2.1 (by omega)) (fun rvq106 Iq106 Aq106 hq106 => ?_)
        obtain ⟨yq106, rfl, ryq106, hqq106⟩ := hq106
        have hpq106 := cPo.trans hJ hqq106 rfl rfl
        show jt _ 125 [(0, .ref (b + 468)), (1, .ref (b + 464)), (2, .int (jI e)), (3, .long (jL y)), (5, .long (jL p)), (7, .long (jL q)), (9, .long (jL u)), (11, .long (jL v)), (13, .int (jI t)), (14, .int (jI s)), (15, .int (jI i))] [.long (jL yq106), .long (jL v105), .long (jL t)] (cmf b f0 Iq106 Aq106) _ _ _
        refine jt_lload d_PI_wind_125 rfl ?_
        refine jt_lsub d_PI_wind_127 ?_
        refine jt_toplw (fun v107 bv107 => ?_)
        refine jt_lload d_PI_wind_128 rfl ?_
        refine jt_lload d_PI_wind_130 rfl ?_
        refine jt_lsub d_PI_wind_132 ?_
        refine jt_toplw (fun v108 bv108 => ?_)
        refine jt_lmul d_PI_wind_133 ?_
        refine jt_toplw (fun v109 bv109 => ?_)
        refine jt_lsub d_PI_wind_134 ?_
        refine jt_toplw (fun v110 bv110 => ?_)
        refine jt_lmul d_PI_wind_135 ?_
        refine jt_toplw (fun v111 bv111 => ?_)
        refine jt_lconst (z := 0) d_PI_wind_136 (by decide) ?_
        refine jt_lif_le (t := 145) d_PI_wind_137 d_PI_wind_138 rfl (by unfold jRl; omega) (by unfold jRl; omega) (fun c112 => ?_) (fun c112 => ?_)
        · skip
          refine jt_iconst d_PI_wind_145 ?_
          refine jt_istore (L' := [(0, .ref (b + 468)), (1, .ref (b + 464)), (2, .int (jI e)), (3, .long (jL y)), (5, .long (jL p)), (7, .long (jL q)), (9, .long (jL u)), (11, .long (jL v)), (13, .int (jI t)), (14, .int (jI 0)), (15, .int (jI i))]) d_PI_wind_146 (Nat.le_of_ble_eq_true rfl) rfl ?_
          refine jt_iload d_PI_wind_148 rfl ?_
          refine jt_if_eq (t := 165) d_PI_wind_150 rfl (by unfold jRi; omega) (fun c113 => ?_) (fun c113 => ?_)
          · skip
            refine jt_iinc (L' := [(0, .ref (b + 468)), (1, .ref (b + 464)), (2, .int (jI e)), (3, .long (jL y)), (5, .long (jL p)), (7, .long (jL q)), (9, .long (jL u)), (11, .long (jL v)), (13, .int (jI t)), (14, .int (jI 0)), (15, .int (jI (i + 1)))]) d_PI_wind_165 rfl (Nat.le_of_ble_eq_true rfl) rfl ?_
            refine jt_goto (t := 95) d_PI_wind_168 rfl ?_
            exact ih 0 (i + 1) Iq106 Aq106 hpq106 (by omega) (by omega) (by omega)
          · skip
            exfalso
            omega
        · skip
          refine jt_iconst d_PI_wind_141 ?_
          refine jt_goto (t := 146) d_PI_wind_142 rfl ?_
          refine jt_istore (L' := [(0, .ref (b + 468)), (1, .ref (b + 464)), (2, .int (jI e)), (3, .long (jL y)), (5, .long (jL p)), (7, .long (jL q)), (9, .long (jL u)), (11, .long (jL v)), (13, .int (jI t)), (14, .int (jI 1)), (15, .int (jI i))]) d_PI_wind_146 (Nat.le_of_ble_eq_true rfl) rfl ?_
          refine jt_iload d_PI_wind_148 rfl ?_
          refine jt_if_eq (t := 165) d_PI_wind_150 rfl (by unfold jRi; omega) (fun c114 => ?_) (fun c114 => ?_)
          · skip
            exfalso
            omega
          · skip
            refine jt_aload_n d_PI_wind_153 rfl ?_
            refine cm_get (k := 468) (v := .ref (b + 470)) d_PI_wind_154 PI_f15 (by decide) cc_7 rfl ?_
            refine jt_iload d_PI_wind_157 rfl ?_
            refine jt_dup2 d_PI_wind_159 rfl rfl ?_
            refine cm_ld0 (k := 470) (n := 32) (v := (Aq106 470) i) d_PI_wind_160 (by decide) rfl rfl (by omega) (by omega) (by omega) rfl ?_
            refine jt_topi (fun v115 ev115 => ?_)
            have bv115 : -2147483648 ≤ v115 ∧ v115 ≤ 2147483647 := by rw [ev115]; exact hpq106.2.1 470 i
            refine jt_iload d_PI_wind_161 rfl ?_
            refine jt_iadd d_PI_wind_163 ?_
            refine jt_topie (fun v116 bv116 ev116 => ?_)
            refine cm_st0 (k := 470) (n := 32) (v := v116) d_PI_wind_164 (by decide) rfl rfl (by omega) (by omega) (by omega) ?_
            have p117 := cPo.A 470 (ju (Aq106 470) i v116) hpq106 (Or.inl rfl) (gju (hpq106.2.1 470) (show -2147483648 ≤ v116 ∧ v116 ≤ 2147483647 by omega))
            refine jt_iinc (L' := [(0, .ref (b + 468)), (1, .ref (b + 464)), (2, .int (jI e)), (3, .long (jL y)), (5, .long (jL p)), (7, .long (jL q)), (9, .long (jL u)), (11, .long (jL v)), (13, .int (jI t)), (14, .int (jI 1)), (15, .int (jI (i + 1)))]) d_PI_wind_165 rfl (Nat.le_of_ble_eq_true rfl) rfl ?_
            refine jt_goto (t := 95) d_PI_wind_168 rfl ?_
            exact ih 1 (i + 1) Iq106 (va_up Aq106 470 (ju (Aq106 470) i v116)) p117 (by omega) (by omega) (by omega)
set_option maxRecDepth 100000 in
set_option maxHeartbeats 4000000 in
theorem v_PI_wind (G : jG) (d b : Nat) (e : Int) (y : Int) (I : Nat → Nat → Int) (A : Nat → Int → Int) (hI : cSI I) (hA : cSA A) (he : 1 ≤ e ∧ e < 98) (hy : -9223372036854775808 ≤ y ∧ y ≤ 9223372036854775807) : cct G Y_PI_wind (d + 1) b [.ref (b + 468), .ref (b + 464), .int (jI e), .long (jL y)] I A (fun (rv : Option Value) (I2 : Nat → Nat → Int) (A2 : Nat → Int → Int) => rv = none ∧ cPo [] [470] I A I2 A2) := by
  refine cct_of (by decide) (Nat.le_of_ble_eq_true rfl) (fun f0 sz => ?_)
  show jt _ 0 [(0, .ref (b + 468)), (1, .ref (b + 464)), (2, .int (jI e)), (3, .long (jL y))] [] _ _ _ _
  have hz0 : cPo [] [470] I A I A := cPo.refl hI hA
  refine jt_aload_n d_PI_wind_0 rfl ?_
  refine cm_get (k := 464) (v := .ref (b + 466)) d_PI_wind_1 PI_f38 (by decide) cc_6 rfl ?_
  refine jt_iload_n d_PI_wind_4 rfl ?_
  refine jt_iconst d_PI_wind_5 ?_
  refine jt_isub d_PI_wind_6 ?_
  refine cm_ld0 (k := 466) (n := 98) (v := (A 466) (e - 1)) d_PI_wind_7 (by decide) rfl rfl (by omega) (by omega) (by omega) rfl ?_
  refine jt_topi (fun v1 ev1 => ?_)
  have bv1 : -2147483648 ≤ v1 ∧ v1 ≤ 2147483647 := by rw [ev1]; exact hz0.2.1 466 (e - 1)
  refine jt_i2l d_PI_wind_8 (by unfold jRi; omega) ?_
  refine jt_lstore (L' := [(0, .ref (b + 468)), (1, .ref (b + 464)), (2, .int (jI e)), (3, .long (jL y)), (5, .long (jL v1))]) d_PI_wind_9 (Nat.le_of_ble_eq_true rfl) rfl ?_
  refine jt_aload_n d_PI_wind_11 rfl ?_
  refine cm_get (k := 464) (v := .ref (b + 467)) d_PI_wind_12 PI_f41 (by decide) cc_6 rfl ?_
  refine jt_iload_n d_PI_wind_15 rfl ?_
  refine jt_iconst d_PI_wind_16 ?_
  refine jt_isub d_PI_wind_17 ?_
  refine cm_ld0 (k := 467) (n := 98) (v := (A 467) (e - 1)) d_PI_wind_18 (by decide) rfl rfl (by omega) (by omega) (by omega) rfl ?_
  refine jt_topi (fun v2 ev2 => ?_)
  have bv2 : -2147483648 ≤ v2 ∧ v2 ≤ 2147483647 := by rw [ev2]; exact hz0.2.1 467 (e - 1)
  refine jt_i2l d_PI_wind_19 (by unfold jRi; omega) ?_
  refine jt_lstore (L' := [(0, .ref (b + 468)), (1, .ref (b + 464)), (2, .int (jI e)), (3, .long (jL y)), (5, .long (jL v1)), (7, .long (jL v2))]) d_PI_wind_20 (Nat.le_of_ble_eq_true rfl) rfl ?_
  refine jt_aload_n d_PI_wind_22 rfl ?_
  refine cm_get (k := 464) (v := .ref (b + 466)) d_PI_wind_23 PI_f38 (by decide) cc_6 rfl ?_
  refine jt_iload_n d_PI_wind_26 rfl ?_
  refine cm_ld0 (k := 466) (n := 98) (v := (A 466) e) d_PI_wind_27 (by decide) rfl rfl (by omega) (by omega) (by omega) rfl ?_
  refine jt_topi (fun v3 ev3 => ?_)
  have bv3 : -2147483648 ≤ v3 ∧ v3 ≤ 2147483647 := by rw [ev3]; exact hz0.2.1 466 e
  refine jt_i2l d_PI_wind_28 (by unfold jRi; omega) ?_
  refine jt_lstore (L' := [(0, .ref (b + 468)), (1, .ref (b + 464)), (2, .int (jI e)), (3, .long (jL y)), (5, .long (jL v1)), (7, .long (jL v2)), (9, .long (jL v3))]) d_PI_wind_29 (Nat.le_of_ble_eq_true rfl) rfl ?_
  refine jt_aload_n d_PI_wind_31 rfl ?_
  refine cm_get (k := 464) (v := .ref (b + 467)) d_PI_wind_32 PI_f41 (by decide) cc_6 rfl ?_
  refine jt_iload_n d_PI_wind_35 rfl ?_
  refine cm_ld0 (k := 467) (n := 98) (v := (A 467) e) d_PI_wind_36 (by decide) rfl rfl (by omega) (by omega) (by omega) rfl ?_
  refine jt_topi (fun v4 ev4 => ?_)
  have bv4 : -2147483648 ≤ v4 ∧ v4 ≤ 2147483647 := by rw [ev4]; exact hz0.2.1 467 e
  refine jt_i2l d_PI_wind_37 (by unfold jRi; omega) ?_
  refine jt_lstore (L' := [(0, .ref (b + 468)), (1, .ref (b + 464)), (2, .int (jI e)), (3, .long (jL y)), (5, .long (jL v1)), (7, .long (jL v2)), (9, .long (jL v3)), (11, .long (jL v4))]) d_PI_wind_38 (Nat.le_of_ble_eq_true rfl) rfl ?_
  refine jt_iconst d_PI_wind_40 ?_
  refine jt_istore (L' := [(0, .ref (b + 468)), (1, .ref (b + 464)), (2, .int (jI e)), (3, .long (jL y)), (5, .long (jL v1)), (7, .long (jL v2)), (9, .long (jL v3)), (11, .long (jL v4)), (13, .int (jI 0))]) d_PI_wind_41 (Nat.le_of_ble_eq_true rfl) rfl ?_
  refine jt_lload d_PI_wind_43 rfl ?_
  refine jt_lload_n d_PI_wind_45 rfl ?_
  refine jt_lif_gt (t := 63) d_PI_wind_46 d_PI_wind_47 rfl (by unfold jRl; omega) (by unfold jRl; omega) (fun c5 => ?_) (fun c5 => ?_)
  · skip
    refine jt_lload d_PI_wind_63 rfl ?_
    refine jt_lload_n d_PI_wind_65 rfl ?_
    refine jt_lif_gt (t := 80) d_PI_wind_66 d_PI_wind_67 rfl (by unfold jRl; omega) (by unfold jRl; omega) (fun c6 => ?_) (fun c6 => ?_)
    · skip
      refine jt_iload d_PI_wind_80 rfl ?_
      refine jt_if_eq (t := 89) d_PI_wind_82 rfl (by unfold jRi; omega) (fun c7 => ?_) (fun c7 => ?_)
      · skip
        refine jt_iconst d_PI_wind_89 ?_
        refine jt_istore (L' := [(0, .ref (b + 468)), (1, .ref (b + 464)), (2, .int (jI e)), (3, .long (jL y)), (5, .long (jL v1)), (7, .long (jL v2)), (9, .long (jL v3)), (11, .long (jL v4)), (13, .int (jI 0)), (14, .int (jI 0))]) d_PI_wind_90 (Nat.le_of_ble_eq_true rfl) rfl ?_
        refine jt_iconst d_PI_wind_92 ?_
        refine jt_istore (L' := [(0, .ref (b + 468)), (1, .ref (b + 464)), (2, .int (jI e)), (3, .long (jL y)), (5, .long (jL v1)), (7, .long (jL v2)), (9, .long (jL v3)), (11, .long (jL v4)), (13, .int (jI 0)), (14, .int (jI 0)), (15, .int (jI 0))]) d_PI_wind_93 (Nat.le_of_ble_eq_true rfl) rfl ?_
        exact l95_PI_windv G d b e y I A hI hA he hy f0 sz v1 v2 v3 v4 0 ((by omega)) ((by omega)) ((by omega)) ((by omega)) ((by omega)) 33 0 0 I A hz0 (by omega) (by omega) (by omega)
      · skip
        exfalso
        omega
    · skip
      refine jt_lload_n d_PI_wind_70 rfl ?_
      refine jt_lload d_PI_wind_71 rfl ?_
      refine jt_lif_ge (t := 80) d_PI_wind_73 d_PI_wind_74 rfl (by unfold jRl; omega) (by unfold jRl; omega) (fun c8 => ?_) (fun c8 => ?_)
      · skip
        refine jt_iload d_PI_wind_80 rfl ?_
        refine jt_if_eq (t := 89) d_PI_wind_82 rfl (by unfold jRi; omega) (fun c9 => ?_) (fun c9 => ?_)
        · skip
          refine jt_iconst d_PI_wind_89 ?_
          refine jt_istore (L' := [(0, .ref (b + 468)), (1, .ref (b + 464)), (2, .int (jI e)), (3, .long (jL y)), (5, .long (jL v1)), (7, .long (jL v2)), (9, .long (jL v3)), (11, .long (jL v4)), (13, .int (jI 0)), (14, .int (jI 0))]) d_PI_wind_90 (Nat.le_of_ble_eq_true rfl) rfl ?_
          refine jt_iconst d_PI_wind_92 ?_
          refine jt_istore (L' := [(0, .ref (b + 468)), (1, .ref (b + 464)), (2, .int (jI e)), (3, .long (jL y)), (5, .long (jL v1)), (7, .long (jL v2)), (9, .long (jL v3)), (11, .long (jL v4)), (13, .int (jI 0)), (14, .int (jI 0)), (15, .int (jI 0))]) d_PI_wind_93 (Nat.le_of_ble_eq_true rfl) rfl ?_
          exact l95_PI_windv G d b e y I A hI hA he hy f0 sz v1 v2 v3 v4 0 ((by omega)) ((by omega)) ((by omega)) ((by omega)) ((by omega)) 33 0 0 I A hz0 (by omega) (by omega) (by omega)
        · skip
          exfalso
          omega
      · skip
        refine jt_iconst d_PI_wind_77 ?_
        refine jt_istore (L' := [(0, .ref (b + 468)), (1, .ref (b + 464)), (2, .int (jI e)), (3, .long (jL y)), (5, .long (jL v1)), (7, .long (jL v2)), (9, .long (jL v3)), (11, .long (jL v4)), (13, .int (jI (-1)))]) d_PI_wind_78 (Nat.le_of_ble_eq_true rfl) rfl ?_
        refine jt_iload d_PI_wind_80 rfl ?_
        refine jt_if_eq (t := 89) d_PI_wind_82 rfl (by unfold jRi; omega) (fun c10 => ?_) (fun c10 => ?_)
        · skip
          exfalso
          omega
        · skip
          refine jt_iconst d_PI_wind_85 ?_
          refine jt_goto (t := 90) d_PI_wind_86 rfl ?_
          refine jt_istore (L' := [(0, .ref (b + 468)), (1, .ref (b + 464)), (2, .int (jI e)), (3, .long (jL y)), (5, .long (jL v1)), (7, .long (jL v2)), (9, .long (jL v3)), (11, .long (jL v4)), (13, .int (jI (-1))), (14, .int (jI 1))]) d_PI_wind_90 (Nat.le_of_ble_eq_true rfl) rfl ?_
          refine jt_iconst d_PI_wind_92 ?_
          refine jt_istore (L' := [(0, .ref (b + 468)), (1, .ref (b + 464)), (2, .int (jI e)), (3, .long (jL y)), (5, .long (jL v1)), (7, .long (jL v2)), (9, .long (jL v3)), (11, .long (jL v4)), (13, .int (jI (-1))), (14, .int (jI 1)), (15, .int (jI 0))]) d_PI_wind_93 (Nat.le_of_ble_eq_true rfl) rfl ?_
          exact l95_PI_windv G d b e y I A hI hA he hy f0 sz v1 v2 v3 v4 (-1) ((by omega)) ((by omega)) ((by omega)) ((by omega)) ((by omega)) 33 1 0 I A hz0 (by omega) (by omega) (by omega)
  · skip
    refine jt_lload_n d_PI_wind_50 rfl ?_
    refine jt_lload d_PI_wind_51 rfl ?_
    refine jt_lif_ge (t := 63) d_PI_wind_53 d_PI_wind_54 rfl (by unfold jRl; omega) (by unfold jRl; omega) (fun c11 => ?_) (fun c11 => ?_)
    · skip
      refine jt_lload d_PI_wind_63 rfl ?_
      refine jt_lload_n d_PI_wind_65 rfl ?_
      refine jt_lif_gt (t := 80) d_PI_wind_66 d_PI_wind_67 rfl (by unfold jRl; omega) (by unfold jRl; omega) (fun c12 => ?_) (fun c12 => ?_)
      · skip
        refine jt_iload d_PI_wind_80 rfl ?_
        refine jt_if_eq (t := 89) d_PI_wind_82 rfl (by unfold jRi; omega) (fun c13 => ?_) (fun c13 => ?_)
        · skip
          refine jt_iconst d_PI_wind_89 ?_
          refine jt_istore (L' := [(0, .ref (b + 468)), (1, .ref (b + 464)), (2, .int (jI e)), (3, .long (jL y)), (5, .long (jL v1)), (7, .long (jL v2)), (9, .long (jL v3)), (11, .long (jL v4)), (13, .int (jI 0)), (14, .int (jI 0))]) d_PI_wind_90 (Nat.le_of_ble_eq_true rfl) rfl ?_
          refine jt_iconst d_PI_wind_92 ?_
          refine jt_istore (L' := [(0, .ref (b + 468)), (1, .ref (b + 464)), (2, .int (jI e)), (3, .long (jL y)), (5, .long (jL v1)), (7, .long (jL v2)), (9, .long (jL v3)), (11, .long (jL v4)), (13, .int (jI 0)), (14, .int (jI 0)), (15, .int (jI 0))]) d_PI_wind_93 (Nat.le_of_ble_eq_true rfl) rfl ?_
          exact l95_PI_windv G d b e y I A hI hA he hy f0 sz v1 v2 v3 v4 0 ((by omega)) ((by omega)) ((by omega)) ((by omega)) ((by omega)) 33 0 0 I A hz0 (by omega) (by omega) (by omega)
        · skip
          exfalso
          omega
      · skip
        refine jt_lload_n d_PI_wind_70 rfl ?_
        refine jt_lload d_PI_wind_71 rfl ?_
        refine jt_lif_ge (t := 80) d_PI_wind_73 d_PI_wind_74 rfl (by unfold jRl; omega) (by unfold jRl; omega) (fun c14 => ?_) (fun c14 => ?_)
        · skip
          refine jt_iload d_PI_wind_80 rfl ?_
          refine jt_if_eq (t := 89) d_PI_wind_82 rfl (by unfold jRi; omega) (fun c15 => ?_) (fun c15 => ?_)
          · skip
            refine jt_iconst d_PI_wind_89 ?_
            refine jt_istore (L' := [(0, .ref (b + 468)), (1, .ref (b + 464)), (2, .int (jI e)), (3, .long (jL y)), (5, .long (jL v1)), (7, .long (jL v2)), (9, .long (jL v3)), (11, .long (jL v4)), (13, .int (jI 0)), (14, .int (jI 0))]) d_PI_wind_90 (Nat.le_of_ble_eq_true rfl) rfl ?_
            refine jt_iconst d_PI_wind_92 ?_
            refine jt_istore (L' := [(0, .ref (b + 468)), (1, .ref (b + 464)), (2, .int (jI e)), (3, .long (jL y)), (5, .long (jL v1)), (7, .long (jL v2)), (9, .long (jL v3)), (11, .long (jL v4)), (13, .int (jI 0)), (14, .int (jI 0)), (15, .int (jI 0))]) d_PI_wind_93 (Nat.le_of_ble_eq_true rfl) rfl ?_
            exact l95_PI_windv G d b e y I A hI hA he hy f0 sz v1 v2 v3 v4 0 ((by omega)) ((by omega)) ((by omega)) ((by omega)) ((by omega)) 33 0 0 I A hz0 (by omega) (by omega) (by omega)
          · skip
            exfalso
            omega
        · skip
          refine jt_iconst d_PI_wind_77 ?_
          refine jt_istore (L' := [(0, .ref (b + 468)), (1, .ref (b + 464)), (2, .int (jI e)), (3, .long (jL y)), (5, .long (jL v1)), (7, .long (jL v2)), (9, .long (jL v3)), (11, .long (jL v4)), (13, .int (jI (-1)))]) d_PI_wind_78 (Nat.le_of_ble_eq_true rfl) rfl ?_
          refine jt_iload d_PI_wind_80 rfl ?_
          refine jt_if_eq (t := 89) d_PI_wind_82 rfl (by unfold jRi; omega) (fun c16 => ?_) (fun c16 => ?_)
          · skip
            exfalso
            omega
          · skip
            refine jt_iconst d_PI_wind_85 ?_
            refine jt_goto (t := 90) d_PI_wind_86 rfl ?_
            refine jt_istore (L' := [(0, .ref (b + 468)), (1, .ref (b + 464)), (2, .int (jI e)), (3, .long (jL y)), (5, .long (jL v1)), (7, .long (jL v2)), (9, .long (jL v3)), (11, .long (jL v4)), (13, .int (jI (-1))), (14, .int (jI 1))]) d_PI_wind_90 (Nat.le_of_ble_eq_true rfl) rfl ?_
            refine jt_iconst d_PI_wind_92 ?_
            refine jt_istore (L' := [(0, .ref (b + 468)), (1, .ref (b + 464)), (2, .int (jI e)), (3, .long (jL y)), (5, .long (jL v1)), (7, .long (jL v2)), (9, .long (jL v3)), (11, .long (jL v4)), (13, .int (jI (-1))), (14, .int (jI 1)), (15, .int (jI 0))]) d_PI_wind_93 (Nat.le_of_ble_eq_true rfl) rfl ?_
            exact l95_PI_windv G d b e y I A hI hA he hy f0 sz v1 v2 v3 v4 (-1) ((by omega)) ((by omega)) ((by omega)) ((by omega)) ((by omega)) 33 1 0 I A hz0 (by omega) (by omega) (by omega)
    · skip
      refine jt_iconst d_PI_wind_57 ?_
      refine jt_istore (L' := [(0, .ref (b + 468)), (1, .ref (b + 464)), (2, .int (jI e)), (3, .long (jL y)), (5, .long (jL v1)), (7, .long (jL v2)), (9, .long (jL v3)), (11, .long (jL v4)), (13, .int (jI 1))]) d_PI_wind_58 (Nat.le_of_ble_eq_true rfl) rfl ?_
      refine jt_goto (t := 80) d_PI_wind_60 rfl ?_
      refine jt_iload d_PI_wind_80 rfl ?_
      refine jt_if_eq (t := 89) d_PI_wind_82 rfl (by unfold jRi; omega) (fun c17 => ?_) (fun c17 => ?_)
      · skip
        exfalso
        omega
      · skip
        refine jt_iconst d_PI_wind_85 ?_
        refine jt_goto (t := 90) d_PI_wind_86 rfl ?_
        refine jt_istore (L' := [(0, .ref (b + 468)), (1, .ref (b + 464)), (2, .int (jI e)), (3, .long (jL y)), (5, .long (jL v1)), (7, .long (jL v2)), (9, .long (jL v3)), (11, .long (jL v4)), (13, .int (jI 1)), (14, .int (jI 1))]) d_PI_wind_90 (Nat.le_of_ble_eq_true rfl) rfl ?_
        refine jt_iconst d_PI_wind_92 ?_
        refine jt_istore (L' := [(0, .ref (b + 468)), (1, .ref (b + 464)), (2, .int (jI e)), (3, .long (jL y)), (5, .long (jL v1)), (7, .long (jL v2)), (9, .long (jL v3)), (11, .long (jL v4)), (13, .int (jI 1)), (14, .int (jI 1)), (15, .int (jI 0))]) d_PI_wind_93 (Nat.le_of_ble_eq_true rfl) rfl ?_
        exact l95_PI_windv G d b e y I A hI hA he hy f0 sz v1 v2 v3 v4 1 ((by omega)) ((by omega)) ((by omega)) ((by omega)) ((by omega)) 33 1 0 I A hz0 (by omega) (by omega) (by omega)
set_option maxRecDepth 100000 in
set_option maxHeartbeats 4000000 in
theorem l4_PI_blackPointsv (G : jG) (d b : Nat)  (I : Nat → Nat → Int) (A : Nat → Int → Int) (hI : cSI I) (hA : cSA A) (f0 : jF) (sz : Nat)   : ∀ (n9 : Nat) (n : Int) (p : Int) (J : Nat → Nat → Int) (B : Nat → Int → Int), cPo [] [] I A J B → (0 ≤ p ∧ p ≤ 768) → (0 ≤ n ∧ n ≤ p) → 768 - p < (n9 : Int) → jt (jm G Y_PI_blackPoints (gR d) (cQ b f0 sz (fun (rv : Option Value) (I2 : Nat → Nat → Int) (A2 : Nat → Int → Int) => ∃ y : Int, rv = some (.int (jI y)) ∧ (-2147483648 ≤ y ∧ y ≤ 2147483647) ∧ cPo [] [] I A I2 A2))) 4 [(0, .ref (b + 468)), (1, .int (jI n)), (2, .int (jI p))] [] (cmf b f0 J B) sz 0 0 := by
  intro n9
  induction n9 with
  | zero =>
    intro n p J B hJ p0 n0 hmeas
    exfalso
    omega
  | succ n9 ih =>
    intro n p J B hJ p0 n0 hmeas
    refine jt_iload_n d_PI_blackPoints_4 rfl ?_
    refine jt_aload_n d_PI_blackPoints_5 rfl ?_
    refine cm_get (k := 468) (v := .ref (b + 469)) d_PI_blackPoints_6 PI_f9 (by decide) cc_7 rfl ?_
    refine cm_len (k := 469) (n := 768) d_PI_blackPoints_9 jTy_2 (by decide) (cc_10 rfl rfl) ?_
    refine jt_icmp_ge (t := 31) d_PI_blackPoints_10 rfl (by unfold jRi; omega) (by unfold jRi; omega) (fun c101 => ?_) (fun c101 => ?_)
    · skip
      refine jt_iload_n d_PI_blackPoints_31 rfl ?_
      exact cm_ret d_PI_blackPoints_32 rfl rfl (⟨n, rfl, by omega, hJ⟩)
    · skip
      refine jt_aload_n d_PI_blackPoints_13 rfl ?_
      refine cm_get (k := 468) (v := .ref (b + 469)) d_PI_blackPoints_14 PI_f9 (by decide) cc_7 rfl ?_
      refine jt_iload_n d_PI_blackPoints_17 rfl ?_
      refine cm_ld2 (k := 469) (n := 768) (v := (B 469) p) d_PI_blackPoints_18 (by decide) rfl rfl (by omega) (by omega) (by omega) rfl ?_
      refine jt_topi (fun v102 ev102 => ?_)
      have bv102 : 0 ≤ v102 ∧ v102 ≤ 1 := by rw [ev102]; exact hJ.2.1 469 p
      refine jt_if_eq (t := 25) d_PI_blackPoints_19 rfl (by unfold jRi; omega) (fun c103 => ?_) (fun c103 => ?_)
      · skip
        refine jt_iinc (L' := [(0, .ref (b + 468)), (1, .int (jI n)), (2, .int (jI (p + 1)))]) d_PI_blackPoints_25 rfl (Nat.le_of_ble_eq_true rfl) rfl ?_
        refine jt_goto (t := 4) d_PI_blackPoints_28 rfl ?_
        exact ih n (p + 1) J B hJ (by omega) (by omega) (by omega)
      · skip
        refine jt_iinc (L' := [(0, .ref (b + 468)), (1, .int (jI (n + 1))), (2, .int (jI p))]) d_PI_blackPoints_22 rfl (Nat.le_of_ble_eq_true rfl) rfl ?_
        refine jt_iinc (L' := [(0, .ref (b + 468)), (1, .int (jI (n + 1))), (2, .int (jI (p + 1)))]) d_PI_blackPoints_25 rfl (Nat.le_of_ble_eq_true rfl) rfl ?_
        refine jt_goto (t := 4) d_PI_blackPoints_28 rfl ?_
        exact ih (n + 1) (p + 1) J B hJ (by omega) (by omega) (by omega)
set_option maxRecDepth 100000 in
set_option maxHeartbeats 4000000 in
theorem v_PI_blackPoints (G : jG) (d b : Nat)  (I : Nat → Nat → Int) (A : Nat → Int → Int) (hI : cSI I) (hA : cSA A) : cct G Y_PI_blackPoints d b [.ref (b + 468)] I A (fun (rv : Option Value) (I2 : Nat → Nat → Int) (A2 : Nat → Int → Int) => ∃ y : Int, rv = some (.int (jI y)) ∧ (-2147483648 ≤ y ∧ y ≤ 2147483647) ∧ cPo [] [] I A I2 A2) := by
  refine cct_of (by decide) (Nat.le_of_ble_eq_true rfl) (fun f0 sz => ?_)
  show jt _ 0 [(0, .ref (b + 468))] [] _ _ _ _
  have hz0 : cPo [] [] I A I A := cPo.refl hI hA
  refine jt_iconst d_PI_blackPoints_0 ?_
  refine jt_istore_n (L' := [(0, .ref (b + 468)), (1, .int (jI 0))]) d_PI_blackPoints_1 (Nat.le_of_ble_eq_true rfl) rfl ?_
  refine jt_iconst d_PI_blackPoints_2 ?_
  refine jt_istore_n (L' := [(0, .ref (b + 468)), (1, .int (jI 0)), (2, .int (jI 0))]) d_PI_blackPoints_3 (Nat.le_of_ble_eq_true rfl) rfl ?_
  exact l4_PI_blackPointsv G d b  I A hI hA f0 sz  769 0 0 I A hz0 (by omega) (by omega) (by omega)
set_option maxRecDepth 100000 in
set_option maxHeartbeats 4000000 in
theorem l6_PI_edgev (G : jG) (d b : Nat) (c : Int) (g : Int) (I : Nat → Nat → Int) (A : Nat → Int → Int) (hI : cSI I) (hA : cSA A) (hc : 0 ≤ c ∧ c ≤ 1) (hg : 0 ≤ g ∧ g ≤ 1) (f0 : jF) (sz : Nat)   : ∀ (n9 : Nat) (n : Int) (p : Int) (J : Nat → Nat → Int) (B : Nat → Int → Int), cPo [] [] I A J B → (0 ≤ p ∧ p ≤ 768) → (-40 ≤ n ∧ n ≤ 768) → 768 - p < (n9 : Int) → jt (jm G Y_PI_edge (gR d) (cQ b f0 sz (fun (rv : Option Value) (I2 : Nat → Nat → Int) (A2 : Nat → Int → Int) => ∃ y : Int, rv = some (.int (jI y)) ∧ (-2147483648 ≤ y ∧ y ≤ 2147483647) ∧ cPo [] [] I A I2 A2))) 6 [(0, .ref (b + 468)), (1, .int (jI c)), (2, .int (jI g)), (3, .int (jI n)), (4, .int (jI p))] [] (cmf b f0 J B) sz 0 0 := by
  intro n9
  induction n9 with
  | zero =>
    intro n p J B hJ p0 n0 hmeas
    exfalso
    omega
  | succ n9 ih =>
    intro n p J B hJ p0 n0 hmeas
    refine jt_iload d_PI_edge_6 rfl ?_
    refine jt_aload_n d_PI_edge_8 rfl ?_
    refine cm_get (k := 468) (v := .ref (b + 469)) d_PI_edge_9 PI_f9 (by decide) cc_7 rfl ?_
    refine cm_len (k := 469) (n := 768) d_PI_edge_12 jTy_2 (by decide) (cc_10 rfl rfl) ?_
    refine jt_icmp_ge (t := 79) d_PI_edge_13 rfl (by unfold jRi; omega) (by unfold jRi; omega) (fun c101 => ?_) (fun c101 => ?_)
    · skip
      refine jt_iload_n d_PI_edge_79 rfl ?_
      exact cm_ret d_PI_edge_80 rfl rfl (⟨n, rfl, by omega, hJ⟩)
    · skip
      refine jt_iload_n d_PI_edge_16 rfl ?_
      refine jt_if_eq (t := 28) d_PI_edge_17 rfl (by unfold jRi; omega) (fun c102 => ?_) (fun c102 => ?_)
      · skip
        refine jt_iload d_PI_edge_28 rfl ?_
        refine jt_bipush d_PI_edge_30 (by omega) ?_
        refine jt_idiv d_PI_edge_32 (by unfold jRi; omega) (by unfold jRi; omega) (by omega) ?_
        have td103 := gtd p 32 (by omega)
        refine jt_topi (fun v104 ev104 => ?_)
        refine jt_istore (L' := [(0, .ref (b + 468)), (1, .int (jI c)), (2, .int (jI g)), (3, .int (jI n)), (4, .int (jI p)), (5, .int (jI v104))]) d_PI_edge_33 (Nat.le_of_ble_eq_true rfl) rfl ?_
        refine jt_aload_n d_PI_edge_35 rfl ?_
        refine cm_get (k := 468) (v := .ref (b + 469)) d_PI_edge_36 PI_f9 (by decide) cc_7 rfl ?_
        refine jt_iload d_PI_edge_39 rfl ?_
        refine cm_ld2 (k := 469) (n := 768) (v := (B 469) p) d_PI_edge_41 (by decide) rfl rfl (by omega) (by omega) (by omega) rfl ?_
        refine jt_topi (fun v105 ev105 => ?_)
        have bv105 : 0 ≤ v105 ∧ v105 ≤ 1 := by rw [ev105]; exact hJ.2.1 469 p
        refine jt_if_eq (t := 73) d_PI_edge_42 rfl (by unfold jRi; omega) (fun c106 => ?_) (fun c106 => ?_)
        · skip
          refine jt_iinc (L' := [(0, .ref (b + 468)), (1, .int (jI c)), (2, .int (jI g)), (3, .int (jI n)), (4, .int (jI (p + 1))), (5, .int (jI v104))]) d_PI_edge_73 rfl (Nat.le_of_ble_eq_true rfl) rfl ?_
          refine jt_goto (t := 6) d_PI_edge_76 rfl ?_
          refine jt_sub (L' := [(0, .ref (b + 468)), (1, .int (jI c)), (2, .int (jI g)), (3, .int (jI n)), (4, .int (jI (p + 1)))]) (fun _ h => List.mem_append_left [(5, Value.int (jI v104))] h) ?_
          exact ih n (p + 1) J B hJ (by omega) (by omega) (by omega)
        · skip
          refine jt_iload_n d_PI_edge_45 rfl ?_
          refine jt_bipush d_PI_edge_46 (by omega) ?_
          refine jt_icmp_eq (t := 70) d_PI_edge_48 rfl (by unfold jRi; omega) (by unfold jRi; omega) (fun c107 => ?_) (fun c107 => ?_)
          · skip
            refine jt_iload d_PI_edge_70 rfl ?_
            refine jt_istore_n (L' := [(0, .ref (b + 468)), (1, .int (jI c)), (2, .int (jI g)), (3, .int (jI v104)), (4, .int (jI p)), (5, .int (jI v104))]) d_PI_edge_72 (Nat.le_of_ble_eq_true rfl) rfl ?_
            refine jt_iinc (L' := [(0, .ref (b + 468)), (1, .int (jI c)), (2, .int (jI g)), (3, .int (jI v104)), (4, .int (jI (p + 1))), (5, .int (jI v104))]) d_PI_edge_73 rfl (Nat.le_of_ble_eq_true rfl) rfl ?_
            refine jt_goto (t := 6) d_PI_edge_76 rfl ?_
            refine jt_sub (L' := [(0, .ref (b + 468)), (1, .int (jI c)), (2, .int (jI g)), (3, .int (jI v104)), (4, .int (jI (p + 1)))]) (fun _ h => List.mem_append_left [(5, Value.int (jI v104))] h) ?_
            exact ih v104 (p + 1) J B hJ (by omega) (by omega) (by omega)
          · skip
            refine jt_iload_n d_PI_edge_51 rfl ?_
            refine jt_if_eq (t := 64) d_PI_edge_52 rfl (by unfold jRi; omega) (fun c108 => ?_) (fun c108 => ?_)
            · skip
              refine jt_iload d_PI_edge_64 rfl ?_
              refine jt_iload_n d_PI_edge_66 rfl ?_
              refine jt_icmp_ge (t := 73) d_PI_edge_67 rfl (by unfold jRi; omega) (by unfold jRi; omega) (fun c109 => ?_) (fun c109 => ?_)
              · skip
                refine jt_iinc (L' := [(0, .ref (b + 468)), (1, .int (jI c)), (2, .int (jI g)), (3, .int (jI n)), (4, .int (jI (p + 1))), (5, .int (jI v104))]) d_PI_edge_73 rfl (Nat.le_of_ble_eq_true rfl) rfl ?_
                refine jt_goto (t := 6) d_PI_edge_76 rfl ?_
                refine jt_sub (L' := [(0, .ref (b + 468)), (1, .int (jI c)), (2, .int (jI g)), (3, .int (jI n)), (4, .int (jI (p + 1)))]) (fun _ h => List.mem_append_left [(5, Value.int (jI v104))] h) ?_
                exact ih n (p + 1) J B hJ (by omega) (by omega) (by omega)
              · skip
                refine jt_iload d_PI_edge_70 rfl ?_
                refine jt_istore_n (L' := [(0, .ref (b + 468)), (1, .int (jI c)), (2, .int (jI g)), (3, .int (jI v104)), (4, .int (jI p)), (5, .int (jI v104))]) d_PI_edge_72 (Nat.le_of_ble_eq_true rfl) rfl ?_
                refine jt_iinc (L' := [(0, .ref (b + 468)), (1, .int (jI c)), (2, .int (jI g)), (3, .int (jI v104)), (4, .int (jI (p + 1))), (5, .int (jI v104))]) d_PI_edge_73 rfl (Nat.le_of_ble_eq_true rfl) rfl ?_
                refine jt_goto (t := 6) d_PI_edge_76 rfl ?_
                refine jt_sub (L' := [(0, .ref (b + 468)), (1, .int (jI c)), (2, .int (jI g)), (3, .int (jI v104)), (4, .int (jI (p + 1)))]) (fun _ h => List.mem_append_left [(5, Value.int (jI v104))] h) ?_
                exact ih v104 (p + 1) J B hJ (by omega) (by omega) (by omega)
            · skip
              refine jt_iload d_PI_edge_55 rfl ?_
              refine jt_iload_n d_PI_edge_57 rfl ?_
              refine jt_icmp_le (t := 73) d_PI_edge_58 rfl (by unfold jRi; omega) (by unfold jRi; omega) (fun c110 => ?_) (fun c110 => ?_)
              · skip
                refine jt_iinc (L' := [(0, .ref (b + 468)), (1, .int (jI c)), (2, .int (jI g)), (3, .int (jI n)), (4, .int (jI (p + 1))), (5, .int (jI v104))]) d_PI_edge_73 rfl (Nat.le_of_ble_eq_true rfl) rfl ?_
                refine jt_goto (t := 6) d_PI_edge_76 rfl ?_
                refine jt_sub (L' := [(0, .ref (b + 468)), (1, .int (jI c)), (2, .int (jI g)), (3, .int (jI n)), (4, .int (jI (p + 1)))]) (fun _ h => List.mem_append_left [(5, Value.int (jI v104))] h) ?_
                exact ih n (p + 1) J B hJ (by omega) (by omega) (by omega)
              · skip
                refine jt_goto (t := 70) d_PI_edge_61 rfl ?_
                refine jt_iload d_PI_edge_70 rfl ?_
                refine jt_istore_n (L' := [(0, .ref (b + 468)), (1, .int (jI c)), (2, .int (jI g)), (3, .int (jI v104)), (4, .int (jI p)), (5, .int (jI v104))]) d_PI_edge_72 (Nat.le_of_ble_eq_true rfl) rfl ?_
                refine jt_iinc (L' := [(0, .ref (b + 468)), (1, .int (jI c)), (2, .int (jI g)), (3, .int (jI v104)), (4, .int (jI (p + 1))), (5, .int (jI v104))]) d_PI_edge_73 rfl (Nat.le_of_ble_eq_true rfl) rfl ?_
                refine jt_goto (t := 6) d_PI_edge_76 rfl ?_
                refine jt_sub (L' := [(0, .ref (b + 468)), (1, .int (jI c)), (2, .int (jI g)), (3, .int (jI v104)), (4, .int (jI (p + 1)))]) (fun _ h => List.mem_append_left [(5, Value.int (jI v104))] h) ?_
                exact ih v104 (p + 1) J B hJ (by omega) (by omega) (by omega)
      · skip
        refine jt_iload d_PI_edge_20 rfl ?_
        refine jt_bipush d_PI_edge_22 (by omega) ?_
        refine jt_irem d_PI_edge_24 (by unfold jRi; omega) (by unfold jRi; omega) (by omega) ?_
        have td111 := gtd p 32 (by omega)
        refine jt_goto (t := 33) d_PI_edge_25 rfl ?_
        refine jt_topi (fun v112 ev112 => ?_)
        refine jt_istore (L' := [(0, .ref (b + 468)), (1, .int (jI c)), (2, .int (jI g)), (3, .int (jI n)), (4, .int (jI p)), (5, .int (jI v112))]) d_PI_edge_33 (Nat.le_of_ble_eq_true rfl) rfl ?_
        refine jt_aload_n d_PI_edge_35 rfl ?_
        refine cm_get (k := 468) (v := .ref (b + 469)) d_PI_edge_36 PI_f9 (by decide) cc_7 rfl ?_
        refine jt_iload d_PI_edge_39 rfl ?_
        refine cm_ld2 (k := 469) (n := 768) (v := (B 469) p) d_PI_edge_41 (by decide) rfl rfl (by omega) (by omega) (by omega) rfl ?_
        refine jt_topi (fun v113 ev113 => ?_)
        have bv113 : 0 ≤ v113 ∧ v113 ≤ 1 := by rw [ev113]; exact hJ.2.1 469 p
        refine jt_if_eq (t := 73) d_PI_edge_42 rfl (by unfold jRi; omega) (fun c114 => ?_) (fun c114 => ?_)
        · skip
          refine jt_iinc (L' := [(0, .ref (b + 468)), (1, .int (jI c)), (2, .int (jI g)), (3, .int (jI n)), (4, .int (jI (p + 1))), (5, .int (jI v112))]) d_PI_edge_73 rfl (Nat.le_of_ble_eq_true rfl) rfl ?_
          refine jt_goto (t := 6) d_PI_edge_76 rfl ?_
          refine jt_sub (L' := [(0, .ref (b + 468)), (1, .int (jI c)), (2, .int (jI g)), (3, .int (jI n)), (4, .int (jI (p + 1)))]) (fun _ h => List.mem_append_left [(5, Value.int (jI v112))] h) ?_
          exact ih n (p + 1) J B hJ (by omega) (by omega) (by omega)
        · skip
          refine jt_iload_n d_PI_edge_45 rfl ?_
          refine jt_bipush d_PI_edge_46 (by omega) ?_
          refine jt_icmp_eq (t := 70) d_PI_edge_48 rfl (by unfold jRi; omega) (by unfold jRi; omega) (fun c115 => ?_) (fun c115 => ?_)
          · skip
            refine jt_iload d_PI_edge_70 rfl ?_
            refine jt_istore_n (L' := [(0, .ref (b + 468)), (1, .int (jI c)), (2, .int (jI g)), (3, .int (jI v112)), (4, .int (jI p)), (5, .int (jI v112))]) d_PI_edge_72 (Nat.le_of_ble_eq_true rfl) rfl ?_
            refine jt_iinc (L' := [(0, .ref (b + 468)), (1, .int (jI c)), (2, .int (jI g)), (3, .int (jI v112)), (4, .int (jI (p + 1))), (5, .int (jI v112))]) d_PI_edge_73 rfl (Nat.le_of_ble_eq_true rfl) rfl ?_
            refine jt_goto (t := 6) d_PI_edge_76 rfl ?_
            refine jt_sub (L' := [(0, .ref (b + 468)), (1, .int (jI c)), (2, .int (jI g)), (3, .int (jI v112)), (4, .int (jI (p + 1)))]) (fun _ h => List.mem_append_left [(5, Value.int (jI v112))] h) ?_
            exact ih v112 (p + 1) J B hJ (by omega) (by omega) (by omega)
          · skip
            refine jt_iload_n d_PI_edge_51 rfl ?_
            refine jt_if_eq (t := 64) d_PI_edge_52 rfl (by unfold jRi; omega) (fun c116 => ?_) (fun c116 => ?_)
            · skip
              refine jt_iload d_PI_edge_64 rfl ?_
              refine jt_iload_n d_PI_edge_66 rfl ?_
              refine jt_icmp_ge (t := 73) d_PI_edge_67 rfl (by unfold jRi; omega) (by unfold jRi; omega) (fun c117 => ?_) (fun c117 => ?_)
              · skip
                refine jt_iinc (L' := [(0, .ref (b + 468)), (1, .int (jI c)), (2, .int (jI g)), (3, .int (jI n)), (4, .int (jI (p + 1))), (5, .int (jI v112))]) d_PI_edge_73 rfl (Nat.le_of_ble_eq_true rfl) rfl ?_
                refine jt_goto (t := 6) d_PI_edge_76 rfl ?_
                refine jt_sub (L' := [(0, .ref (b + 468)), (1, .int (jI c)), (2, .int (jI g)), (3, .int (jI n)), (4, .int (jI (p + 1)))]) (fun _ h => List.mem_append_left [(5, Value.int (jI v112))] h) ?_
                exact ih n (p + 1) J B hJ (by omega) (by omega) (by omega)
              · skip
                refine jt_iload d_PI_edge_70 rfl ?_
                refine jt_istore_n (L' := [(0, .ref (b + 468)), (1, .int (jI c)), (2, .int (jI g)), (3, .int (jI v112)), (4, .int (jI p)), (5, .int (jI v112))]) d_PI_edge_72 (Nat.le_of_ble_eq_true rfl) rfl ?_
                refine jt_iinc (L' := [(0, .ref (b + 468)), (1, .int (jI c)), (2, .int (jI g)), (3, .int (jI v112)), (4, .int (jI (p + 1))), (5, .int (jI v112))]) d_PI_edge_73 rfl (Nat.le_of_ble_eq_true rfl) rfl ?_
                refine jt_goto (t := 6) d_PI_edge_76 rfl ?_
                refine jt_sub (L' := [(0, .ref (b + 468)), (1, .int (jI c)), (2, .int (jI g)), (3, .int (jI v112)), (4, .int (jI (p + 1)))]) (fun _ h => List.mem_append_left [(5, Value.int (jI v112))] h) ?_
                exact ih v112 (p + 1) J B hJ (by omega) (by omega) (by omega)
            · skip
              refine jt_iload d_PI_edge_55 rfl ?_
              refine jt_iload_n d_PI_edge_57 rfl ?_
              refine jt_icmp_le (t := 73) d_PI_edge_58 rfl (by unfold jRi; omega) (by unfold jRi; omega) (fun c118 => ?_) (fun c118 => ?_)
              · skip
                refine jt_iinc (L' := [(0, .ref (b + 468)), (1, .int (jI c)), (2, .int (jI g)), (3, .int (jI n)), (4, .int (jI (p + 1))), (5, .int (jI v112))]) d_PI_edge_73 rfl (Nat.le_of_ble_eq_true rfl) rfl ?_
                refine jt_goto (t := 6) d_PI_edge_76 rfl ?_
                refine jt_sub (L' := [(0, .ref (b + 468)), (1, .int (jI c)), (2, .int (jI g)), (3, .int (jI n)), (4, .int (jI (p + 1)))]) (fun _ h => List.mem_append_left [(5, Value.int (jI v112))] h) ?_
                exact ih n (p + 1) J B hJ (by omega) (by omega) (by omega)
              · skip
                refine jt_goto (t := 70) d_PI_edge_61 rfl ?_
                refine jt_iload d_PI_edge_70 rfl ?_
                refine jt_istore_n (L' := [(0, .ref (b + 468)), (1, .int (jI c)), (2, .int (jI g)), (3, .int (jI v112)), (4, .int (jI p)), (5, .int (jI v112))]) d_PI_edge_72 (Nat.le_of_ble_eq_true rfl) rfl ?_
                refine jt_iinc (L' := [(0, .ref (b + 468)), (1, .int (jI c)), (2, .int (jI g)), (3, .int (jI v112)), (4, .int (jI (p + 1))), (5, .int (jI v112))]) d_PI_edge_73 rfl (Nat.le_of_ble_eq_true rfl) rfl ?_
                refine jt_goto (t := 6) d_PI_edge_76 rfl ?_
                refine jt_sub (L' := [(0, .ref (b + 468)), (1, .int (jI c)), (2, .int (jI g)), (3, .int (jI v112)), (4, .int (jI (p + 1)))]) (fun _ h => List.mem_append_left [(5, Value.int (jI v112))] h) ?_
                exact ih v112 (p + 1) J B hJ (by omega) (by omega) (by omega)
set_option maxRecDepth 100000 in
set_option maxHeartbeats 4000000 in
theorem v_PI_edge (G : jG) (d b : Nat) (c : Int) (g : Int) (I : Nat → Nat → Int) (A : Nat → Int → Int) (hI : cSI I) (hA : cSA A) (hc : 0 ≤ c ∧ c ≤ 1) (hg : 0 ≤ g ∧ g ≤ 1) : cct G Y_PI_edge d b [.ref (b + 468), .int (jI c), .int (jI g)] I A (fun (rv : Option Value) (I2 : Nat → Nat → Int) (A2 : Nat → Int → Int) => ∃ y : Int, rv = some (.int (jI y)) ∧ (-2147483648 ≤ y ∧ y ≤ 2147483647) ∧ cPo [] [] I A I2 A2) := by
  refine cct_of (by decide) (Nat.le_of_ble_eq_true rfl) (fun f0 sz => ?_)
  show jt _ 0 [(0, .ref (b + 468)), (1, .int (jI c)), (2, .int (jI g))] [] _ _ _ _
  have hz0 : cPo [] [] I A I A := cPo.refl hI hA
  refine jt_bipush d_PI_edge_0 (by omega) ?_
  refine jt_istore_n (L' := [(0, .ref (b + 468)), (1, .int (jI c)), (2, .int (jI g)), (3, .int (jI (-2)))]) d_PI_edge_2 (Nat.le_of_ble_eq_true rfl) rfl ?_
  refine jt_iconst d_PI_edge_3 ?_
  refine jt_istore (L' := [(0, .ref (b + 468)), (1, .int (jI c)), (2, .int (jI g)), (3, .int (jI (-2))), (4, .int (jI 0))]) d_PI_edge_4 (Nat.le_of_ble_eq_true rfl) rfl ?_
  exact l6_PI_edgev G d b c g I A hI hA hc hg f0 sz  769 (-2) 0 I A hz0 (by omega) (by omega) (by omega)
set_option maxRecDepth 100000 in
set_option maxHeartbeats 4000000 in
theorem l11_PI_lengthOfRunv (G : jG) (d b : Nat) (j : Int) (k : Int) (I : Nat → Nat → Int) (A : Nat → Int → Int) (hI : cSI I) (hA : cSA A) (hj : 0 ≤ j ∧ j ≤ 23) (hk : -2147483648 ≤ k ∧ k ≤ 2147483647) (f0 : jF) (sz : Nat)   : ∀ (n9 : Nat) (n : Int) (l : Int) (c : Int) (i : Int) (J : Nat → Nat → Int) (B : Nat → Int → Int), cPo [] [] I A J B → (0 ≤ i ∧ i ≤ 32) → (0 ≤ n ∧ n ≤ i) → (0 ≤ l ∧ l ≤ i) → (0 ≤ c ∧ c ≤ 1) → 32 - i < (n9 : Int) → jt (jm G Y_PI_lengthOfRun (gR (d + 1)) (cQ b f0 sz (fun (rv : Option Value) (I2 : Nat → Nat → Int) (A2 : Nat → Int → Int) => ∃ y : Int, rv = some (.int (jI y)) ∧ (-2147483648 ≤ y ∧ y ≤ 2147483647) ∧ cPo [] [] I A I2 A2))) 11 [(0, .ref (b + 468)), (1, .int (jI j)), (2, .int (jI k)), (3, .int (jI n)), (4, .int (jI l)), (5, .int (jI c)), (6, .int (jI i))] [] (cmf b f0 J B) sz 0 0 := by
  intro n9
  induction n9 with
  | zero =>
    intro n l c i J B hJ i0 n0 l0 c0 hmeas
    exfalso
    omega
  | succ n9 ih =>
    intro n l c i J B hJ i0 n0 l0 c0 hmeas
    refine jt_iload d_PI_lengthOfRun_11 rfl ?_
    refine jt_bipush d_PI_lengthOfRun_13 (by omega) ?_
    refine jt_icmp_ge (t := 65) d_PI_lengthOfRun_15 rfl (by unfold jRi; omega) (by unfold jRi; omega) (fun c101 => ?_) (fun c101 => ?_)
    · skip
      refine jt_iload d_PI_lengthOfRun_65 rfl ?_
      refine jt_if_eq (t := 80) d_PI_lengthOfRun_67 rfl (by unfold jRi; omega) (fun c102 => ?_) (fun c102 => ?_)
      · skip
        refine jt_bipush d_PI_lengthOfRun_80 (by omega) ?_
        exact cm_ret d_PI_lengthOfRun_82 rfl rfl (⟨-2, rfl, by omega, hJ⟩)
      · skip
        refine jt_iload_n d_PI_lengthOfRun_70 rfl ?_
        refine jt_iload_n d_PI_lengthOfRun_71 rfl ?_
        refine jt_icmp_ne (t := 80) d_PI_lengthOfRun_72 rfl (by unfold jRi; omega) (by unfold jRi; omega) (fun c103 => ?_) (fun c103 => ?_)
        · skip
          refine jt_bipush d_PI_lengthOfRun_80 (by omega) ?_
          exact cm_ret d_PI_lengthOfRun_82 rfl rfl (⟨-2, rfl, by omega, hJ⟩)
        · skip
          refine jt_iload d_PI_lengthOfRun_75 rfl ?_
          refine jt_goto (t := 82) d_PI_lengthOfRun_77 rfl ?_
          exact cm_ret d_PI_lengthOfRun_82 rfl rfl (⟨l, rfl, by omega, hJ⟩)
    · skip
      refine jt_aload_n d_PI_lengthOfRun_18 rfl ?_
      refine jt_iload d_PI_lengthOfRun_19 rfl ?_
      refine jt_iload_n d_PI_lengthOfRun_21 rfl ?_
      refine cct_callV (Y := Y_PI_isBlack) (ci := 6) (k := 468) (As := [.int (jI i), .int (jI j)]) (rest := []) d_PI_lengthOfRun_22 PI_c44 yk_PI_isBlack yv_PI_isBlack rfl (Nat.le_of_ble_eq_true rfl) (by decide) cc_7 rfl rfl (Nat.le_of_ble_eq_true rfl) (v_PI_isBlack G _ b i j J B hJ.1 hJ.2.1 (by omega) (by omega)) (fun rvq104 Iq104 Aq104 hq104 => ?_)
      obtain ⟨yq104, rfl, ryq104, hqq104⟩ := hq104
      have hpq104 := cPo.trans hJ hqq104 rfl rfl
      show jt _ 25 [(0, .ref (b + 468)), (1, .int (jI j)), (2, .int (jI k)), (3, .int (jI n)), (4, .int (jI l)), (5, .int (jI c)), (6, .int (jI i))] [.int (jI yq104)] (cmf b f0 Iq104 Aq104) _ _ _
      refine jt_iload d_PI_lengthOfRun_25 rfl ?_
      refine jt_icmp_eq (t := 56) d_PI_lengthOfRun_27 rfl (by unfold jRi; omega) (by unfold jRi; omega) (fun c105 => ?_) (fun c105 => ?_)
      · skip
        refine jt_iinc (L' := [(0, .ref (b + 468)), (1, .int (jI j)), (2, .int (jI k)), (3, .int (jI n)), (4, .int (jI (l + 1))), (5, .int (jI c)), (6, .int (jI i))]) d_PI_lengthOfRun_56 rfl (Nat.le_of_ble_eq_true rfl) rfl ?_
        refine jt_iinc (L' := [(0, .ref (b + 468)), (1, .int (jI j)), (2, .int (jI k)), (3, .int (jI n)), (4, .int (jI (l + 1))), (5, .int (jI c)), (6, .int (jI (i + 1)))]) d_PI_lengthOfRun_59 rfl (Nat.le_of_ble_eq_true rfl) rfl ?_
        refine jt_goto (t := 11) d_PI_lengthOfRun_62 rfl ?_
        exact ih n (l + 1) c (i + 1) Iq104 Aq104 hpq104 (by omega) (by omega) (by omega) (by omega) (by omega)
      · skip
        refine jt_iload_n d_PI_lengthOfRun_30 rfl ?_
        refine jt_iload_n d_PI_lengthOfRun_31 rfl ?_
        refine jt_icmp_ne (t := 38) d_PI_lengthOfRun_32 rfl (by unfold jRi; omega) (by unfold jRi; omega) (fun c106 => ?_) (fun c106 => ?_)
        · skip
          refine jt_iinc (L' := [(0, .ref (b + 468)), (1, .int (jI j)), (2, .int (jI k)), (3, .int (jI (n + 1))), (4, .int (jI l)), (5, .int (jI c)), (6, .int (jI i))]) d_PI_lengthOfRun_38 rfl (Nat.le_of_ble_eq_true rfl) rfl ?_
          refine jt_iconst d_PI_lengthOfRun_41 ?_
          refine jt_istore (L' := [(0, .ref (b + 468)), (1, .int (jI j)), (2, .int (jI k)), (3, .int (jI (n + 1))), (4, .int (jI 0)), (5, .int (jI c)), (6, .int (jI i))]) d_PI_lengthOfRun_42 (Nat.le_of_ble_eq_true rfl) rfl ?_
          refine jt_iload d_PI_lengthOfRun_44 rfl ?_
          refine jt_if_ne (t := 53) d_PI_lengthOfRun_46 rfl (by unfold jRi; omega) (fun c107 => ?_) (fun c107 => ?_)
          · skip
            refine jt_iconst d_PI_lengthOfRun_53 ?_
            refine jt_istore (L' := [(0, .ref (b + 468)), (1, .int (jI j)), (2, .int (jI k)), (3, .int (jI (n + 1))), (4, .int (jI 0)), (5, .int (jI 0)), (6, .int (jI i))]) d_PI_lengthOfRun_54 (Nat.le_of_ble_eq_true rfl) rfl ?_
            refine jt_iinc (L' := [(0, .ref (b + 468)), (1, .int (jI j)), (2, .int (jI k)), (3, .int (jI (n + 1))), (4, .int (jI (0 + 1))), (5, .int (jI 0)), (6, .int (jI i))]) d_PI_lengthOfRun_56 rfl (Nat.le_of_ble_eq_true rfl) rfl ?_
            refine jt_iinc (L' := [(0, .ref (b + 468)), (1, .int (jI j)), (2, .int (jI k)), (3, .int (jI (n + 1))), (4, .int (jI (0 + 1))), (5, .int (jI 0)), (6, .int (jI (i + 1)))]) d_PI_lengthOfRun_59 rfl (Nat.le_of_ble_eq_true rfl) rfl ?_
            refine jt_goto (t := 11) d_PI_lengthOfRun_62 rfl ?_
            exact ih (n + 1) (0 + 1) 0 (i + 1) Iq104 Aq104 hpq104 (by omega) (by omega) (by omega) (by omega) (by omega)
          · skip
            refine jt_iconst d_PI_lengthOfRun_49 ?_
            refine jt_goto (t := 54) d_PI_lengthOfRun_50 rfl ?_
            refine jt_istore (L' := [(0, .ref (b + 468)), (1, .int (jI j)), (2, .int (jI k)), (3, .int (jI (n + 1))), (4, .int (jI 0)), (5, .int (jI 1)), (6, .int (jI i))]) d_PI_lengthOfRun_54 (Nat.le_of_ble_eq_true rfl) rfl ?_
            refine jt_iinc (L' := [(0, .ref (b + 468)), (1, .int (jI j)), (2, .int (jI k)), (3, .int (jI (n + 1))), (4, .int (jI (0 + 1))), (5, .int (jI 1)), (6, .int (jI i))]) d_PI_lengthOfRun_56 rfl (Nat.le_of_ble_eq_true rfl) rfl ?_
            refine jt_iinc (L' := [(0, .ref (b + 468)), (1, .int (jI j)), (2, .int (jI k)), (3, .int (jI (n + 1))), (4, .int (jI (0 + 1))), (5, .int (jI 1)), (6, .int (jI (i + 1)))]) d_PI_lengthOfRun_59 rfl (Nat.le_of_ble_eq_true rfl) rfl ?_
            refine jt_goto (t := 11) d_PI_lengthOfRun_62 rfl ?_
            exact ih (n + 1) (0 + 1) 1 (i + 1) Iq104 Aq104 hpq104 (by omega) (by omega) (by omega) (by omega) (by omega)
        · skip
          refine jt_iload d_PI_lengthOfRun_35 rfl ?_
          exact cm_ret d_PI_lengthOfRun_37 rfl rfl (⟨l, rfl, by omega, hpq104⟩)
set_option maxRecDepth 100000 in
set_option maxHeartbeats 4000000 in
theorem v_PI_lengthOfRun (G : jG) (d b : Nat) (j : Int) (k : Int) (I : Nat → Nat → Int) (A : Nat → Int → Int) (hI : cSI I) (hA : cSA A) (hj : 0 ≤ j ∧ j ≤ 23) (hk : -2147483648 ≤ k ∧ k ≤ 2147483647) : cct G Y_PI_lengthOfRun (d + 1) b [.ref (b + 468), .int (jI j), .int (jI k)] I A (fun (rv : Option Value) (I2 : Nat → Nat → Int) (A2 : Nat → Int → Int) => ∃ y : Int, rv = some (.int (jI y)) ∧ (-2147483648 ≤ y ∧ y ≤ 2147483647) ∧ cPo [] [] I A I2 A2) := by
  refine cct_of (by decide) (Nat.le_of_ble_eq_true rfl) (fun f0 sz => ?_)
  show jt _ 0 [(0, .ref (b + 468)), (1, .int (jI j)), (2, .int (jI k))] [] _ _ _ _
  have hz0 : cPo [] [] I A I A := cPo.refl hI hA
  refine jt_iconst d_PI_lengthOfRun_0 ?_
  refine jt_istore_n (L' := [(0, .ref (b + 468)), (1, .int (jI j)), (2, .int (jI k)), (3, .int (jI 0))]) d_PI_lengthOfRun_1 (Nat.le_of_ble_eq_true rfl) rfl ?_
  refine jt_iconst d_PI_lengthOfRun_2 ?_
  refine jt_istore (L' := [(0, .ref (b + 468)), (1, .int (jI j)), (2, .int (jI k)), (3, .int (jI 0)), (4, .int (jI 0))]) d_PI_lengthOfRun_3 (Nat.le_of_ble_eq_true rfl) rfl ?_
  refine jt_iconst d_PI_lengthOfRun_5 ?_
  refine jt_istore (L' := [(0, .ref (b + 468)), (1, .int (jI j)), (2, .int (jI k)), (3, .int (jI 0)), (4, .int (jI 0)), (5, .int (jI 0))]) d_PI_lengthOfRun_6 (Nat.le_of_ble_eq_true rfl) rfl ?_
  refine jt_iconst d_PI_lengthOfRun_8 ?_
  refine jt_istore (L' := [(0, .ref (b + 468)), (1, .int (jI j)), (2, .int (jI k)), (3, .int (jI 0)), (4, .int (jI 0)), (5, .int (jI 0)), (6, .int (jI 0))]) d_PI_lengthOfRun_9 (Nat.le_of_ble_eq_true rfl) rfl ?_
  exact l11_PI_lengthOfRunv G d b j k I A hI hA hj hk f0 sz  33 0 0 0 0 I A hz0 (by omega) (by omega) (by omega) (by omega) (by omega)
set_option maxRecDepth 100000 in
set_option maxHeartbeats 4000000 in
theorem v_OU_addPoint (G : jG) (d b : Nat) (x : Int) (y : Int) (I : Nat → Nat → Int) (A : Nat → Int → Int) (hI : cSI I) (hA : cSA A) (hx : -2147483648 ≤ x ∧ x ≤ 2147483647) (hy : -2147483648 ≤ y ∧ y ≤ 2147483647) : cct G Y_OU_addPoint d b [.ref (b + 464), .int (jI x), .int (jI y)] I A (fun (rv : Option Value) (I2 : Nat → Nat → Int) (A2 : Nat → Int → Int) => rv = none ∧ cPo [7427] [466, 467] I A I2 A2) := by
  refine cct_of (by decide) (Nat.le_of_ble_eq_true rfl) (fun f0 sz => ?_)
  show jt _ 0 [(0, .ref (b + 464)), (1, .int (jI x)), (2, .int (jI y))] [] _ _ _ _
  have hz0 : cPo [7427] [466, 467] I A I A := cPo.refl hI hA
  refine jt_aload_n d_OU_addPoint_0 rfl ?_
  refine cm_get (k := 464) (v := .int (jI (I 464 3))) d_OU_addPoint_1 OU_f37 (by decide) cc_6 rfl ?_
  have rb1 : 0 ≤ I 464 3 ∧ I 464 3 ≤ 98 := hz0.1 464 3
  refine jt_bipush d_OU_addPoint_4 (by omega) ?_
  refine jt_icmp_ge (t := 39) d_OU_addPoint_6 rfl (by unfold jRi; omega) (by unfold jRi; omega) (fun c2 => ?_) (fun c2 => ?_)
  · skip
    exact cm_vret d_OU_addPoint_39 rfl (⟨rfl, hz0⟩)
  · skip
    refine jt_aload_n d_OU_addPoint_9 rfl ?_
    refine cm_get (k := 464) (v := .ref (b + 466)) d_OU_addPoint_10 OU_f15 (by decide) cc_6 rfl ?_
    refine jt_aload_n d_OU_addPoint_13 rfl ?_
    refine cm_get (k := 464) (v := .int (jI (I 464 3))) d_OU_addPoint_14 OU_f37 (by decide) cc_6 rfl ?_
    refine jt_iload_n d_OU_addPoint_17 rfl ?_
    refine cm_st0 (k := 466) (n := 98) (v := x) d_OU_addPoint_18 (by decide) rfl rfl (by omega) (by omega) (by omega) ?_
    have p3 := cPo.A 466 (ju (A 466) (I 464 3) x) hz0 (Or.inl rfl) (gju (hz0.2.1 466) (show -2147483648 ≤ x ∧ x ≤ 2147483647 by omega))
    refine jt_aload_n d_OU_addPoint_19 rfl ?_
    refine cm_get (k := 464) (v := .ref (b + 467)) d_OU_addPoint_20 OU_f18 (by decide) cc_6 rfl ?_
    refine jt_aload_n d_OU_addPoint_23 rfl ?_
    refine cm_get (k := 464) (v := .int (jI (I 464 3))) d_OU_addPoint_24 OU_f37 (by decide) cc_6 rfl ?_
    refine jt_iload_n d_OU_addPoint_27 rfl ?_
    refine cm_st0 (k := 467) (n := 98) (v := y) d_OU_addPoint_28 (by decide) rfl rfl (by omega) (by omega) (by omega) ?_
    have p4 := cPo.A 467 (ju (A 467) (I 464 3) y) p3 (Or.inl rfl) (gju (p3.2.1 467) (show -2147483648 ≤ y ∧ y ≤ 2147483647 by omega))
    refine jt_aload_n d_OU_addPoint_29 rfl ?_
    refine jt_dup d_OU_addPoint_30 rfl ?_
    refine cm_get (k := 464) (v := .int (jI (I 464 3))) d_OU_addPoint_31 OU_f37 (by decide) cc_6 rfl ?_
    refine jt_iconst d_OU_addPoint_34 ?_
    refine jt_iadd d_OU_addPoint_35 ?_
    refine jt_topi (fun v5 ev5 => ?_)
    refine cm_put (k := 464) (j := 3) (v := v5) d_OU_addPoint_36 (OU_w37 _ rfl) (by decide) cc_6 rfl rfl (Nat.le_of_ble_eq_true rfl) rfl ?_
    have p6 := cPo.I 464 3 v5 p4 rfl (show 0 ≤ v5 ∧ v5 ≤ 98 by omega)
    exact cm_vret d_OU_addPoint_39 rfl (⟨rfl, p6⟩)
set_option maxRecDepth 100000 in
set_option maxHeartbeats 4000000 in
theorem v_OU_onCurve (G : jG) (d b : Nat) (q : Int) (t : Int) (I : Nat → Nat → Int) (A : Nat → Int → Int) (hI : cSI I) (hA : cSA A) (hq : 0 ≤ q ∧ q ≤ 67) (ht : 1 ≤ t ∧ t ≤ 8) : cct G Y_OU_onCurve d b [.ref (b + 464), .int (jI q), .int (jI t)] I A (fun (rv : Option Value) (I2 : Nat → Nat → Int) (A2 : Nat → Int → Int) => ∃ y : Int, rv = some (.int (jI y)) ∧ (-2147483648 ≤ y ∧ y ≤ 2147483647) ∧ cPo [] [] I A I2 A2) := by
  refine cct_of (by decide) (Nat.le_of_ble_eq_true rfl) (fun f0 sz => ?_)
  show jt _ 0 [(0, .ref (b + 464)), (1, .int (jI q)), (2, .int (jI t))] [] _ _ _ _
  have hz0 : cPo [] [] I A I A := cPo.refl hI hA
  refine jt_bipush d_OU_onCurve_0 (by omega) ?_
  refine jt_iload_n d_OU_onCurve_2 rfl ?_
  refine jt_isub d_OU_onCurve_3 ?_
  refine jt_topi (fun v1 ev1 => ?_)
  refine jt_istore_n (L' := [(0, .ref (b + 464)), (1, .int (jI q)), (2, .int (jI t)), (3, .int (jI v1))]) d_OU_onCurve_4 (Nat.le_of_ble_eq_true rfl) rfl ?_
  refine jt_iload_n d_OU_onCurve_5 rfl ?_
  refine jt_iload_n d_OU_onCurve_6 rfl ?_
  refine jt_imul d_OU_onCurve_7 ?_
  refine jt_topie (fun v2 bv2 ev2 => ?_)
  refine jt_iload_n d_OU_onCurve_8 rfl ?_
  refine jt_imul d_OU_onCurve_9 ?_
  refine jt_topie (fun v3 bv3 ev3 => ?_)
  refine jt_aload_n d_OU_onCurve_10 rfl ?_
  refine cm_get (k := 464) (v := .ref (b + 465)) d_OU_onCurve_11 OU_f11 (by decide) cc_6 rfl ?_
  refine jt_iload_n d_OU_onCurve_14 rfl ?_
  refine cm_ld0 (k := 465) (n := 74) (v := (A 465) q) d_OU_onCurve_15 (by decide) rfl rfl (by omega) (by omega) (by omega) rfl ?_
  refine jt_topi (fun v4 ev4 => ?_)
  have bv4 : -2147483648 ≤ v4 ∧ v4 ≤ 2147483647 := by rw [ev4]; exact hz0.2.1 465 q
  refine jt_imul d_OU_onCurve_16 ?_
  refine jt_topie (fun v5 bv5 ev5 => ?_)
  refine jt_iconst d_OU_onCurve_17 ?_
  refine jt_iload_n d_OU_onCurve_18 rfl ?_
  refine jt_imul d_OU_onCurve_19 ?_
  refine jt_topie (fun v6 bv6 ev6 => ?_)
  refine jt_iload_n d_OU_onCurve_20 rfl ?_
  refine jt_imul d_OU_onCurve_21 ?_
  refine jt_topie (fun v7 bv7 ev7 => ?_)
  refine jt_iload_n d_OU_onCurve_22 rfl ?_
  refine jt_imul d_OU_onCurve_23 ?_
  refine jt_topie (fun v8 bv8 ev8 => ?_)
  refine jt_aload_n d_OU_onCurve_24 rfl ?_
  refine cm_get (k := 464) (v := .ref (b + 465)) d_OU_onCurve_25 OU_f11 (by decide) cc_6 rfl ?_
  refine jt_iload_n d_OU_onCurve_28 rfl ?_
  refine jt_iconst d_OU_onCurve_29 ?_
  refine jt_iadd d_OU_onCurve_30 ?_
  refine cm_ld0 (k := 465) (n := 74) (v := (A 465) (q + 2)) d_OU_onCurve_31 (by decide) rfl rfl (by omega) (by omega) (by omega) rfl ?_
  refine jt_topi (fun v9 ev9 => ?_)
  have bv9 : -2147483648 ≤ v9 ∧ v9 ≤ 2147483647 := by rw [ev9]; exact hz0.2.1 465 (q + 2)
  refine jt_imul d_OU_onCurve_32 ?_
  refine jt_topie (fun v10 bv10 ev10 => ?_)
  refine jt_iadd d_OU_onCurve_33 ?_
  refine jt_topie (fun v11 bv11 ev11 => ?_)
  refine jt_iconst d_OU_onCurve_34 ?_
  refine jt_iload_n d_OU_onCurve_35 rfl ?_
  refine jt_imul d_OU_onCurve_36 ?_
  refine jt_topie (fun v12 bv12 ev12 => ?_)
  refine jt_iload_n d_OU_onCurve_37 rfl ?_
  refine jt_imul d_OU_onCurve_38 ?_
  refine jt_topie (fun v13 bv13 ev13 => ?_)
  refine jt_iload_n d_OU_onCurve_39 rfl ?_
  refine jt_imul d_OU_onCurve_40 ?_
  refine jt_topie (fun v14 bv14 ev14 => ?_)
  refine jt_aload_n d_OU_onCurve_41 rfl ?_
  refine cm_get (k := 464) (v := .ref (b + 465)) d_OU_onCurve_42 OU_f11 (by decide) cc_6 rfl ?_
  refine jt_iload_n d_OU_onCurve_45 rfl ?_
  refine jt_iconst d_OU_onCurve_46 ?_
  refine jt_iadd d_OU_onCurve_47 ?_
  refine cm_ld0 (k := 465) (n := 74) (v := (A 465) (q + 4)) d_OU_onCurve_48 (by decide) rfl rfl (by omega) (by omega) (by omega) rfl ?_
  refine jt_topi (fun v15 ev15 => ?_)
  have bv15 : -2147483648 ≤ v15 ∧ v15 ≤ 2147483647 := by rw [ev15]; exact hz0.2.1 465 (q + 4)
  refine jt_imul d_OU_onCurve_49 ?_
  refine jt_topie (fun v16 bv16 ev16 => ?_)
  refine jt_iadd d_OU_onCurve_50 ?_
  refine jt_topie (fun v17 bv17 ev17 => ?_)
  refine jt_iload_n d_OU_onCurve_51 rfl ?_
  refine jt_iload_n d_OU_onCurve_52 rfl ?_
  refine jt_imul d_OU_onCurve_53 ?_
  refine jt_topie (fun v18 bv18 ev18 => ?_)
  refine jt_iload_n d_OU_onCurve_54 rfl ?_
  refine jt_imul d_OU_onCurve_55 ?_
  refine jt_topie (fun v19 bv19 ev19 => ?_)
  refine jt_aload_n d_OU_onCurve_56 rfl ?_
  refine cm_get (k := 464) (v := .ref (b + 465)) d_OU_onCurve_57 OU_f11 (by decide) cc_6 rfl ?_
  refine jt_iload_n d_OU_onCurve_60 rfl ?_
  refine jt_bipush d_OU_onCurve_61 (by omega) ?_
  refine jt_iadd d_OU_onCurve_63 ?_
  refine cm_ld0 (k := 465) (n := 74) (v := (A 465) (q + 6)) d_OU_onCurve_64 (by decide) rfl rfl (by omega) (by omega) (by omega) rfl ?_
  refine jt_topi (fun v20 ev20 => ?_)
  have bv20 : -2147483648 ≤ v20 ∧ v20 ≤ 2147483647 := by rw [ev20]; exact hz0.2.1 465 (q + 6)
  refine jt_imul d_OU_onCurve_65 ?_
  refine jt_topie (fun v21 bv21 ev21 => ?_)
  refine jt_iadd d_OU_onCurve_66 ?_
  refine jt_topie (fun v22 bv22 ev22 => ?_)
  exact cm_ret d_OU_onCurve_67 rfl rfl (⟨v22, rfl, by omega, hz0⟩)
set_option maxRecDepth 100000 in
set_option maxHeartbeats 4000000 in
theorem l2_OU_addCurvev (G : jG) (d b : Nat) (q : Int) (I : Nat → Nat → Int) (A : Nat → Int → Int) (hI : cSI I) (hA : cSA A) (hq : 0 ≤ q ∧ q ≤ 66) (f0 : jF) (sz : Nat)   : ∀ (n9 : Nat) (t : Int) (J : Nat → Nat → Int) (B : Nat → Int → Int), cPo [7427] [466, 467] I A J B → (1 ≤ t ∧ t ≤ 9) → 9 - t < (n9 : Int) → jt (jm G Y_OU_addCurve (gR (d + 1)) (cQ b f0 sz (fun (rv : Option Value) (I2 : Nat → Nat → Int) (A2 : Nat → Int → Int) => rv = none ∧ cPo [7427] [466, 467] I A I2 A2))) 2 [(0, .ref (b + 464)), (1, .int (jI q)), (2, .int (jI t))] [] (cmf b f0 J B) sz 0 0 := by
  intro n9
  induction n9 with
  | zero =>
    intro t J B hJ t0 hmeas
    exfalso
    omega
  | succ n9 ih =>
    intro t J B hJ t0 hmeas
    refine jt_iload_n d_OU_addCurve_2 rfl ?_
    refine jt_bipush d_OU_addCurve_3 (by omega) ?_
    refine jt_icmp_gt (t := 32) d_OU_addCurve_5 rfl (by unfold jRi; omega) (by unfold jRi; omega) (fun c101 => ?_) (fun c101 => ?_)
    · skip
      exact cm_vret d_OU_addCurve_32 rfl (⟨rfl, hJ⟩)
    · skip
      refine jt_aload_n d_OU_addCurve_8 rfl ?_
      refine jt_aload_n d_OU_addCurve_9 rfl ?_
      refine jt_iload_n d_OU_addCurve_10 rfl ?_
      refine jt_iload_n d_OU_addCurve_11 rfl ?_
      refine cct_callV (Y := Y_OU_onCurve) (ci := 5) (k := 464) (As := [.int (jI q), .int (jI t)]) (rest := [.ref (b + 464)]) d_OU_addCurve_12 OU_c49 yk_OU_onCurve yv_OU_onCurve rfl (Nat.le_of_ble_eq_true rfl) (by decide) cc_6 rfl rfl (Nat.le_of_ble_eq_true rfl) (v_OU_onCurve G _ b q t J B hJ.1 hJ.2.1 (by omega) (by omega)) (fun rvq102 Iq102 Aq102 hq102 => ?_)
      obtain ⟨yq102, rfl, ryq102, hqq102⟩ := hq102
      have hpq102 := cPo.trans hJ hqq102 rfl rfl
      show jt _ 15 [(0, .ref (b + 464)), (1, .int (jI q)), (2, .int (jI t))] [.int (jI yq102), .ref (b + 464)] (cmf b f0 Iq102 Aq102) _ _ _
      refine jt_aload_n d_OU_addCurve_15 rfl ?_
      refine jt_iload_n d_OU_addCurve_16 rfl ?_
      refine jt_iconst d_OU_addCurve_17 ?_
      refine jt_iadd d_OU_addCurve_18 ?_
      refine jt_iload_n d_OU_addCurve_19 rfl ?_
      refine cct_callV (Y := Y_OU_onCurve) (ci := 5) (k := 464) (As := [.int (jI (q + 1)), .int (jI t)]) (rest := [.int (jI yq102), .ref (b + 464)]) d_OU_addCurve_20 OU_c49 yk_OU_onCurve yv_OU_onCurve rfl (Nat.le_of_ble_eq_true rfl) (by decide) cc_6 rfl rfl (Nat.le_of_ble_eq_true rfl) (v_OU_onCurve G _ b (q + 1) t Iq102 Aq102 hpq102.1 hpq102.2.1 (by omega) (by omega)) (fun rvq103 Iq103 Aq103 hq103 => ?_)
      obtain ⟨yq103, rfl, ryq103, hqq103⟩ := hq103
      have hpq103 := cPo.trans hpq102 hqq103 rfl rfl
      show jt _ 23 [(0, .ref (b + 464)), (1, .int (jI q)), (2, .int (jI t))] [.int (jI yq103), .int (jI yq102), .ref (b + 464)] (cmf b f0 Iq103 Aq103) _ _ _
      refine cct_callV (Y := Y_OU_addPoint) (ci := 5) (k := 464) (As := [.int (jI yq102), .int (jI yq103)]) (rest := []) d_OU_addCurve_23 OU_c41 yk_OU_addPoint yv_OU_addPoint rfl (Nat.le_of_ble_eq_true rfl) (by decide) cc_6 rfl rfl (Nat.le_of_ble_eq_true rfl) (v_OU_addPoint G _ b yq102 yq103 Iq103 Aq103 hpq103.1 hpq103.2.1 (by omega) (by omega)) (fun rvq104 Iq104 Aq104 hq104 => ?_)
      obtain ⟨rfl, hqq104⟩ := hq104
      have hpq104 := cPo.trans hpq103 hqq104 rfl rfl
      show jt _ 26 [(0, .ref (b + 464)), (1, .int (jI q)), (2, .int (jI t))] [] (cmf b f0 Iq104 Aq104) _ _ _
      refine jt_iinc (L' := [(0, .ref (b + 464)), (1, .int (jI q)), (2, .int (jI (t + 1)))]) d_OU_addCurve_26 rfl (Nat.le_of_ble_eq_true rfl) rfl ?_
      refine jt_goto (t := 2) d_OU_addCurve_29 rfl ?_
      exact ih (t + 1) Iq104 Aq104 hpq104 (by omega) (by omega)
set_option maxRecDepth 100000 in
set_option maxHeartbeats 4000000 in
theorem v_OU_addCurve (G : jG) (d b : Nat) (q : Int) (I : Nat → Nat → Int) (A : Nat → Int → Int) (hI : cSI I) (hA : cSA A) (hq : 0 ≤ q ∧ q ≤ 66) : cct G Y_OU_addCurve (d + 1) b [.ref (b + 464), .int (jI q)] I A (fun (rv : Option Value) (I2 : Nat → Nat → Int) (A2 : Nat → Int → Int) => rv = none ∧ cPo [7427] [466, 467] I A I2 A2) := by
  refine cct_of (by decide) (Nat.le_of_ble_eq_true rfl) (fun f0 sz => ?_)
  show jt _ 0 [(0, .ref (b + 464)), (1, .int (jI q))] [] _ _ _ _
  have hz0 : cPo [7427] [466, 467] I A I A := cPo.refl hI hA
  refine jt_iconst d_OU_addCurve_0 ?_
  refine jt_istore_n (L' := [(0, .ref (b + 464)), (1, .int (jI q)), (2, .int (jI 1))]) d_OU_addCurve_1 (Nat.le_of_ble_eq_true rfl) rfl ?_
  exact l2_OU_addCurvev G d b q I A hI hA hq f0 sz  9 1 I A hz0 (by omega) (by omega)
set_option maxRecDepth 100000 in
set_option maxHeartbeats 4000000 in
theorem l2_OU_takeNumbersv (G : jG) (d b : Nat) (n : Int) (I : Nat → Nat → Int) (A : Nat → Int → Int) (hI : cSI I) (hA : cSA A) (hn : 0 ≤ n ∧ n ≤ 150) (f0 : jF) (sz : Nat)   : ∀ (n9 : Nat) (f : Int) (J : Nat → Nat → Int) (B : Nat → Int → Int), cPo [] [465] I A J B → (0 ≤ f ∧ f ≤ 150) → 150 - f < (n9 : Int) → jt (jm G Y_OU_takeNumbers (gR (d + 1)) (cQ b f0 sz (fun (rv : Option Value) (I2 : Nat → Nat → Int) (A2 : Nat → Int → Int) => ∃ y : Int, rv = some (.int (jI y)) ∧ (-2147483648 ≤ y ∧ y ≤ 2147483647) ∧ cPo [] [465] I A I2 A2))) 2 [(0, .ref (b + 464)), (1, .ref (b + 74)), (2, .int (jI n)), (3, .int (jI f))] [] (cmf b f0 J B) sz 0 0 := by
  intro n9
  induction n9 with
  | zero =>
    intro f J B hJ fz hmeas
    exfalso
    omega
  | succ n9 ih =>
    intro f J B hJ fz hmeas
    refine jt_iload_n d_OU_takeNumbers_2 rfl ?_
    refine jt_iload_n d_OU_takeNumbers_3 rfl ?_
    refine jt_icmp_ge (t := 90) d_OU_takeNumbers_4 rfl (by unfold jRi; omega) (by unfold jRi; omega) (fun c101 => ?_) (fun c101 => ?_)
    · skip
      refine jt_iconst d_OU_takeNumbers_90 ?_
      exact cm_ret d_OU_takeNumbers_91 rfl rfl (⟨0, rfl, by omega, hJ⟩)
    · skip
      refine jt_iload_n d_OU_takeNumbers_7 rfl ?_
      refine jt_bipush d_OU_takeNumbers_8 (by omega) ?_
      refine jt_icmp_ge (t := 90) d_OU_takeNumbers_10 rfl (by unfold jRi; omega) (by unfold jRi; omega) (fun c102 => ?_) (fun c102 => ?_)
      · skip
        refine jt_iconst d_OU_takeNumbers_90 ?_
        exact cm_ret d_OU_takeNumbers_91 rfl rfl (⟨0, rfl, by omega, hJ⟩)
      · skip
        refine jt_aload_n d_OU_takeNumbers_13 rfl ?_
        refine jt_iload_n d_OU_takeNumbers_14 rfl ?_
        refine cm_ldF (k := 74) (n := 150) (z := f) d_OU_takeNumbers_15 (by decide) rfl rfl (by omega) (by omega) (by omega) ?_
        have hfq103 := form_at 74 (by decide) rfl (f : Int).toNat (show (f : Int).toNat < 150 by omega)
        generalize 74 + 1 + 2 * (f : Int).toNat = q103 at hfq103 ⊢
        have fpq103 := form_parts q103 hfq103.2 hfq103.1
        have glq103 := eLong hfq103.2 hfq103.1
        refine cm_get (k := q103) (v := .ref (b + (q103 + 1))) d_OU_takeNumbers_16 OU_f21 hfq103.2 (cc_5 hfq103.1) rfl ?_
        refine jt_bipush d_OU_takeNumbers_19 (by omega) ?_
        refine cm_ld1 (k := q103 + 1) (n := 13) (v := (B ((q103 + 1))) 12) d_OU_takeNumbers_21 fpq103.2.2 fpq103.1 fpq103.2.1 (by omega) (by omega) (by omega) rfl ?_
        refine jt_topl (fun v104 ev104 => ?_)
        have bv104 : -9223372036854775808 ≤ v104 ∧ v104 ≤ 9223372036854775807 := by have q9 := hJ.2.1 (q103 + 1) 12; rw [glq103.1, glq103.2] at q9; rw [ev104]; exact q9
        refine jt_lstore (L' := [(0, .ref (b + 464)), (1, .ref (b + 74)), (2, .int (jI n)), (3, .int (jI f)), (4, .long (jL v104))]) d_OU_takeNumbers_22 (Nat.le_of_ble_eq_true rfl) rfl ?_
        refine jt_aload_n d_OU_takeNumbers_24 rfl ?_
        refine jt_iload_n d_OU_takeNumbers_25 rfl ?_
        refine cm_ldF (k := 74) (n := 150) (z := f) d_OU_takeNumbers_26 (by decide) rfl rfl (by omega) (by omega) (by omega) ?_
        have hfq105 := form_at 74 (by decide) rfl (f : Int).toNat (show (f : Int).toNat < 150 by omega)
        generalize 74 + 1 + 2 * (f : Int).toNat = q105 at hfq105 ⊢
        have fpq105 := form_parts q105 hfq105.2 hfq105.1
        have glq105 := eLong hfq105.2 hfq105.1
        refine cct_callV (Y := Y_FO_isPlain) (ci := 4) (k := q105) (As := []) (rest := []) d_OU_takeNumbers_27 OU_c27 yk_FO_isPlain yv_FO_isPlain rfl (Nat.le_of_ble_eq_true rfl) hfq105.2 (cc_5 hfq105.1) rfl rfl (Nat.le_of_ble_eq_true rfl) (v_FO_isPlain G _ b q105 J B hJ.1 hJ.2.1 hfq105.2 hfq105.1 ) (fun rvq106 Iq106 Aq106 hq106 => ?_)
        obtain ⟨yq106, rfl, ryq106, hqq106⟩ := hq106
        have hpq106 := cPo.trans hJ hqq106 rfl rfl
        show jt _ 30 [(0, .ref (b + 464)), (1, .ref (b + 74)), (2, .int (jI n)), (3, .int (jI f)), (4, .long (jL v104))] [.int (jI yq106)] (cmf b f0 Iq106 Aq106) _ _ _
        refine jt_if_ne (t := 36) d_OU_takeNumbers_30 rfl (by unfold jRi; omega) (fun c107 => ?_) (fun c107 => ?_)
        · skip
          refine jt_lload d_OU_takeNumbers_36 rfl ?_
          refine jt_ldc2 (z := 4096) d_OU_takeNumbers_38 OU_k31 ?_
          refine jt_lrem d_OU_takeNumbers_41 (by unfold jRl; omega) (by unfold jRl; omega) (by omega) ?_
          have td108 := gtd v104 4096 (by omega)
          refine jt_toplw (fun v109 bv109 => ?_)
          refine jt_lconst (z := 0) d_OU_takeNumbers_42 (by decide) ?_
          refine jt_lif_eq (t := 50) d_OU_takeNumbers_43 d_OU_takeNumbers_44 rfl (by unfold jRl; omega) (by unfold jRl; omega) (fun c110 => ?_) (fun c110 => ?_)
          · skip
            refine jt_lload d_OU_takeNumbers_50 rfl ?_
            refine jt_ldc2 (z := -2097152) d_OU_takeNumbers_52 OU_k33 ?_
            refine jt_lif_lt (t := 68) d_OU_takeNumbers_55 d_OU_takeNumbers_56 rfl (by unfold jRl; omega) (by unfold jRl; omega) (fun c111 => ?_) (fun c111 => ?_)
            · skip
              refine jt_bipush d_OU_takeNumbers_68 (by omega) ?_
              exact cm_ret d_OU_takeNumbers_70 rfl rfl (⟨-9, rfl, by omega, hpq106⟩)
            · skip
              refine jt_lload d_OU_takeNumbers_59 rfl ?_
              refine jt_ldc2 (z := 6291456) d_OU_takeNumbers_61 OU_k35 ?_
              refine jt_lif_le (t := 71) d_OU_takeNumbers_64 d_OU_takeNumbers_65 rfl (by unfold jRl; omega) (by unfold jRl; omega) (fun c112 => ?_) (fun c112 => ?_)
              · skip
                refine jt_aload_n d_OU_takeNumbers_71 rfl ?_
                refine cm_get (k := 464) (v := .ref (b + 465)) d_OU_takeNumbers_72 OU_f11 (by decide) cc_6 rfl ?_
                refine jt_iload_n d_OU_takeNumbers_75 rfl ?_
                refine jt_lload d_OU_takeNumbers_76 rfl ?_
                refine jt_ldc2 (z := 4096) d_OU_takeNumbers_78 OU_k31 ?_
                refine jt_ldiv d_OU_takeNumbers_81 (by unfold jRl; omega) (by unfold jRl; omega) (by omega) ?_
                have td113 := gtd v104 4096 (by omega)
                refine jt_toplw (fun v114 bv114 => ?_)
                refine jt_l2i d_OU_takeNumbers_82 ?_
                refine jt_topiw (fun v115 bv115 => ?_)
                refine cm_st0 (k := 465) (n := 74) (v := v115) d_OU_takeNumbers_83 (by decide) rfl rfl (by omega) (by omega) (by omega) ?_
                have p116 := cPo.A 465 (ju (Aq106 465) f v115) hpq106 (Or.inl rfl) (gju (hpq106.2.1 465) (show -2147483648 ≤ v115 ∧ v115 ≤ 2147483647 by omega))
                refine jt_iinc (L' := [(0, .ref (b + 464)), (1, .ref (b + 74)), (2, .int (jI n)), (3, .int (jI (f + 1))), (4, .long (jL v104))]) d_OU_takeNumbers_84 rfl (Nat.le_of_ble_eq_true rfl) rfl ?_
                refine jt_goto (t := 2) d_OU_takeNumbers_87 rfl ?_
                refine jt_sub (L' := [(0, .ref (b + 464)), (1, .ref (b + 74)), (2, .int (jI n)), (3, .int (jI (f + 1)))]) (fun _ h => List.mem_append_left [(4, Value.long (jL v104))] h) ?_
                exact ih (f + 1) Iq106 (va_up Aq106 465 (ju (Aq106 465) f v115)) p116 (by omega) (by omega)
              · skip
                refine jt_bipush d_OU_takeNumbers_68 (by omega) ?_
                exact cm_ret d_OU_takeNumbers_70 rfl rfl (⟨-9, rfl, by omega, hpq106⟩)
          · skip
            refine jt_bipush d_OU_takeNumbers_47 (by omega) ?_
            exact cm_ret d_OU_takeNumbers_49 rfl rfl (⟨-13, rfl, by omega, hpq106⟩)
        · skip
          refine jt_bipush d_OU_takeNumbers_33 (by omega) ?_
          exact cm_ret d_OU_takeNumbers_35 rfl rfl (⟨-12, rfl, by omega, hpq106⟩)
set_option maxRecDepth 100000 in
set_option maxHeartbeats 4000000 in
theorem v_OU_takeNumbers (G : jG) (d b : Nat) (n : Int) (I : Nat → Nat → Int) (A : Nat → Int → Int) (hI : cSI I) (hA : cSA A) (hn : 0 ≤ n ∧ n ≤ 150) : cct G Y_OU_takeNumbers (d + 1) b [.ref (b + 464), .ref (b + 74), .int (jI n)] I A (fun (rv : Option Value) (I2 : Nat → Nat → Int) (A2 : Nat → Int → Int) => ∃ y : Int, rv = some (.int (jI y)) ∧ (-2147483648 ≤ y ∧ y ≤ 2147483647) ∧ cPo [] [465] I A I2 A2) := by
  refine cct_of (by decide) (Nat.le_of_ble_eq_true rfl) (fun f0 sz => ?_)
  show jt _ 0 [(0, .ref (b + 464)), (1, .ref (b + 74)), (2, .int (jI n))] [] _ _ _ _
  have hz0 : cPo [] [465] I A I A := cPo.refl hI hA
  refine jt_iconst d_OU_takeNumbers_0 ?_
  refine jt_istore_n (L' := [(0, .ref (b + 464)), (1, .ref (b + 74)), (2, .int (jI n)), (3, .int (jI 0))]) d_OU_takeNumbers_1 (Nat.le_of_ble_eq_true rfl) rfl ?_
  exact l2_OU_takeNumbersv G d b n I A hI hA hn f0 sz  151 0 I A hz0 (by omega) (by omega)
set_option maxRecDepth 100000 in
set_option maxHeartbeats 4000000 in
theorem l34_OU_tracev (G : jG) (d b : Nat) (n : Int) (I : Nat → Nat → Int) (A : Nat → Int → Int) (hI : cSI I) (hA : cSA A) (hn : 0 ≤ n ∧ n ≤ 2000) (f0 : jF) (sz : Nat)   : ∀ (n9 : Nat) (q : Int) (l : Int) (J : Nat → Nat → Int) (B : Nat → Int → Int), cPo [7427] [466, 467] I A J B → (0 ≤ l ∧ l ≤ 12) → (0 ≤ q ∧ q ≤ 6 * l) → 12 - l < (n9 : Int) → jt (jm G Y_OU_trace (gR (d + 2)) (cQ b f0 sz (fun (rv : Option Value) (I2 : Nat → Nat → Int) (A2 : Nat → Int → Int) => rv = none ∧ cPo [7427] [466, 467] I A I2 A2))) 34 [(0, .ref (b + 464)), (1, .ref (b + 375)), (2, .int (jI n)), (3, .int (jI q)), (4, .int (jI l))] [] (cmf b f0 J B) sz 0 0 := by
  intro n9
  induction n9 with
  | zero =>
    intro q l J B hJ l0 q0 hmeas
    exfalso
    omega
  | succ n9 ih =>
    intro q l J B hJ l0 q0 hmeas
    refine jt_iload d_OU_trace_34 rfl ?_
    refine jt_iload_n d_OU_trace_36 rfl ?_
    refine jt_icmp_ge (t := 100) d_OU_trace_37 rfl (by unfold jRi; omega) (by unfold jRi; omega) (fun c101 => ?_) (fun c101 => ?_)
    · skip
      refine jt_aload_n d_OU_trace_100 rfl ?_
      refine jt_aload_n d_OU_trace_101 rfl ?_
      refine cm_get (k := 464) (v := .ref (b + 466)) d_OU_trace_102 OU_f15 (by decide) cc_6 rfl ?_
      refine jt_iconst d_OU_trace_105 ?_
      refine cm_ld0 (k := 466) (n := 98) (v := (B 466) 0) d_OU_trace_106 (by decide) rfl rfl (by omega) (by omega) (by omega) rfl ?_
      refine jt_topi (fun v102 ev102 => ?_)
      have bv102 : -2147483648 ≤ v102 ∧ v102 ≤ 2147483647 := by rw [ev102]; exact hJ.2.1 466 0
      refine jt_aload_n d_OU_trace_107 rfl ?_
      refine cm_get (k := 464) (v := .ref (b + 467)) d_OU_trace_108 OU_f18 (by decide) cc_6 rfl ?_
      refine jt_iconst d_OU_trace_111 ?_
      refine cm_ld0 (k := 467) (n := 98) (v := (B 467) 0) d_OU_trace_112 (by decide) rfl rfl (by omega) (by omega) (by omega) rfl ?_
      refine jt_topi (fun v103 ev103 => ?_)
      have bv103 : -2147483648 ≤ v103 ∧ v103 ≤ 2147483647 := by rw [ev103]; exact hJ.2.1 467 0
      refine cct_callV (Y := Y_OU_addPoint) (ci := 5) (k := 464) (As := [.int (jI v102), .int (jI v103)]) (rest := []) d_OU_trace_113 OU_c41 yk_OU_addPoint yv_OU_addPoint rfl (Nat.le_of_ble_eq_true rfl) (by decide) cc_6 rfl rfl (Nat.le_of_ble_eq_true rfl) (v_OU_addPoint G _ b v102 v103 J B hJ.1 hJ.2.1 (by omega) (by omega)) (fun rvq104 Iq104 Aq104 hq104 => ?_)
      obtain ⟨rfl, hqq104⟩ := hq104
      have hpq104 := cPo.trans hJ hqq104 rfl rfl
      show jt _ 116 [(0, .ref (b + 464)), (1, .ref (b + 375)), (2, .int (jI n)), (3, .int (jI q)), (4, .int (jI l))] [] (cmf b f0 Iq104 Aq104) _ _ _
      exact cm_vret d_OU_trace_116 rfl (⟨rfl, hpq104⟩)
    · skip
      refine jt_iload d_OU_trace_40 rfl ?_
      refine jt_bipush d_OU_trace_42 (by omega) ?_
      refine jt_icmp_ge (t := 100) d_OU_trace_44 rfl (by unfold jRi; omega) (by unfold jRi; omega) (fun c105 => ?_) (fun c105 => ?_)
      · skip
        refine jt_aload_n d_OU_trace_100 rfl ?_
        refine jt_aload_n d_OU_trace_101 rfl ?_
        refine cm_get (k := 464) (v := .ref (b + 466)) d_OU_trace_102 OU_f15 (by decide) cc_6 rfl ?_
        refine jt_iconst d_OU_trace_105 ?_
        refine cm_ld0 (k := 466) (n := 98) (v := (B 466) 0) d_OU_trace_106 (by decide) rfl rfl (by omega) (by omega) (by omega) rfl ?_
        refine jt_topi (fun v106 ev106 => ?_)
        have bv106 : -2147483648 ≤ v106 ∧ v106 ≤ 2147483647 := by rw [ev106]; exact hJ.2.1 466 0
        refine jt_aload_n d_OU_trace_107 rfl ?_
        refine cm_get (k := 464) (v := .ref (b + 467)) d_OU_trace_108 OU_f18 (by decide) cc_6 rfl ?_
        refine jt_iconst d_OU_trace_111 ?_
        refine cm_ld0 (k := 467) (n := 98) (v := (B 467) 0) d_OU_trace_112 (by decide) rfl rfl (by omega) (by omega) (by omega) rfl ?_
        refine jt_topi (fun v107 ev107 => ?_)
        have bv107 : -2147483648 ≤ v107 ∧ v107 ≤ 2147483647 := by rw [ev107]; exact hJ.2.1 467 0
        refine cct_callV (Y := Y_OU_addPoint) (ci := 5) (k := 464) (As := [.int (jI v106), .int (jI v107)]) (rest := []) d_OU_trace_113 OU_c41 yk_OU_addPoint yv_OU_addPoint rfl (Nat.le_of_ble_eq_true rfl) (by decide) cc_6 rfl rfl (Nat.le_of_ble_eq_true rfl) (v_OU_addPoint G _ b v106 v107 J B hJ.1 hJ.2.1 (by omega) (by omega)) (fun rvq108 Iq108 Aq108 hq108 => ?_)
        obtain ⟨rfl, hqq108⟩ := hq108
        have hpq108 := cPo.trans hJ hqq108 rfl rfl
        show jt _ 116 [(0, .ref (b + 464)), (1, .ref (b + 375)), (2, .int (jI n)), (3, .int (jI q)), (4, .int (jI l))] [] (cmf b f0 Iq108 Aq108) _ _ _
        exact cm_vret d_OU_trace_116 rfl (⟨rfl, hpq108⟩)
      · skip
        refine jt_aload_n d_OU_trace_47 rfl ?_
        refine jt_iload d_OU_trace_48 rfl ?_
        refine cm_ld2 (k := 375) (n := 12) (v := (B 375) l) d_OU_trace_50 (by decide) rfl rfl (by omega) (by omega) (by omega) rfl ?_
        refine jt_topi (fun v109 ev109 => ?_)
        have bv109 : 0 ≤ v109 ∧ v109 ≤ 1 := by rw [ev109]; exact hJ.2.1 375 l
        refine jt_if_eq (t := 65) d_OU_trace_51 rfl (by unfold jRi; omega) (fun c110 => ?_) (fun c110 => ?_)
        · skip
          refine jt_iinc (L' := [(0, .ref (b + 464)), (1, .ref (b + 375)), (2, .int (jI n)), (3, .int (jI (q + 2))), (4, .int (jI l))]) d_OU_trace_65 rfl (Nat.le_of_ble_eq_true rfl) rfl ?_
          refine jt_aload_n d_OU_trace_68 rfl ?_
          refine jt_aload_n d_OU_trace_69 rfl ?_
          refine cm_get (k := 464) (v := .ref (b + 465)) d_OU_trace_70 OU_f11 (by decide) cc_6 rfl ?_
          refine jt_iload_n d_OU_trace_73 rfl ?_
          refine cm_ld0 (k := 465) (n := 74) (v := (B 465) (q + 2)) d_OU_trace_74 (by decide) rfl rfl (by omega) (by omega) (by omega) rfl ?_
          refine jt_topi (fun v111 ev111 => ?_)
          have bv111 : -2147483648 ≤ v111 ∧ v111 ≤ 2147483647 := by rw [ev111]; exact hJ.2.1 465 (q + 2)
          refine jt_sipush d_OU_trace_75 (by omega) ?_
          refine jt_imul d_OU_trace_78 ?_
          refine jt_topie (fun v112 bv112 ev112 => ?_)
          refine jt_aload_n d_OU_trace_79 rfl ?_
          refine cm_get (k := 464) (v := .ref (b + 465)) d_OU_trace_80 OU_f11 (by decide) cc_6 rfl ?_
          refine jt_iload_n d_OU_trace_83 rfl ?_
          refine jt_iconst d_OU_trace_84 ?_
          refine jt_iadd d_OU_trace_85 ?_
          refine cm_ld0 (k := 465) (n := 74) (v := (B 465) ((q + 2) + 1)) d_OU_trace_86 (by decide) rfl rfl (by omega) (by omega) (by omega) rfl ?_
          refine jt_topi (fun v113 ev113 => ?_)
          have bv113 : -2147483648 ≤ v113 ∧ v113 ≤ 2147483647 := by rw [ev113]; exact hJ.2.1 465 ((q + 2) + 1)
          refine jt_sipush d_OU_trace_87 (by omega) ?_
          refine jt_imul d_OU_trace_90 ?_
          refine jt_topie (fun v114 bv114 ev114 => ?_)
          refine cct_callV (Y := Y_OU_addPoint) (ci := 5) (k := 464) (As := [.int (jI v112), .int (jI v114)]) (rest := []) d_OU_trace_91 OU_c41 yk_OU_addPoint yv_OU_addPoint rfl (Nat.le_of_ble_eq_true rfl) (by decide) cc_6 rfl rfl (Nat.le_of_ble_eq_true rfl) (v_OU_addPoint G _ b v112 v114 J B hJ.1 hJ.2.1 (by omega) (by omega)) (fun rvq115 Iq115 Aq115 hq115 => ?_)
          obtain ⟨rfl, hqq115⟩ := hq115
          have hpq115 := cPo.trans hJ hqq115 rfl rfl
          show jt _ 94 [(0, .ref (b + 464)), (1, .ref (b + 375)), (2, .int (jI n)), (3, .int (jI (q + 2))), (4, .int (jI l))] [] (cmf b f0 Iq115 Aq115) _ _ _
          refine jt_iinc (L' := [(0, .ref (b + 464)), (1, .ref (b + 375)), (2, .int (jI n)), (3, .int (jI (q + 2))), (4, .int (jI (l + 1)))]) d_OU_trace_94 rfl (Nat.le_of_ble_eq_true rfl) rfl ?_
          refine jt_goto (t := 34) d_OU_trace_97 rfl ?_
          exact ih (q + 2) (l + 1) Iq115 Aq115 hpq115 (by omega) (by omega) (by omega)
        · skip
          refine jt_aload_n d_OU_trace_54 rfl ?_
          refine jt_iload_n d_OU_trace_55 rfl ?_
          refine cct_callV (Y := Y_OU_addCurve) (ci := 5) (k := 464) (As := [.int (jI q)]) (rest := []) d_OU_trace_56 OU_c45 yk_OU_addCurve yv_OU_addCurve rfl (Nat.le_of_ble_eq_true rfl) (by decide) cc_6 rfl rfl (Nat.le_of_ble_eq_true rfl) (v_OU_addCurve G _ b q J B hJ.1 hJ.2.1 (by omega)) (fun rvq116 Iq116 Aq116 hq116 => ?_)
          obtain ⟨rfl, hqq116⟩ := hq116
          have hpq116 := cPo.trans hJ hqq116 rfl rfl
          show jt _ 59 [(0, .ref (b + 464)), (1, .ref (b + 375)), (2, .int (jI n)), (3, .int (jI q)), (4, .int (jI l))] [] (cmf b f0 Iq116 Aq116) _ _ _
          refine jt_iinc (L' := [(0, .ref (b + 464)), (1, .ref (b + 375)), (2, .int (jI n)), (3, .int (jI (q + 6))), (4, .int (jI l))]) d_OU_trace_59 rfl (Nat.le_of_ble_eq_true rfl) rfl ?_
          refine jt_goto (t := 94) d_OU_trace_62 rfl ?_
          refine jt_iinc (L' := [(0, .ref (b + 464)), (1, .ref (b + 375)), (2, .int (jI n)), (3, .int (jI (q + 6))), (4, .int (jI (l + 1)))]) d_OU_trace_94 rfl (Nat.le_of_ble_eq_true rfl) rfl ?_
          refine jt_goto (t := 34) d_OU_trace_97 rfl ?_
          exact ih (q + 6) (l + 1) Iq116 Aq116 hpq116 (by omega) (by omega) (by omega)
set_option maxRecDepth 100000 in
set_option maxHeartbeats 4000000 in
theorem v_OU_trace (G : jG) (d b : Nat) (n : Int) (I : Nat → Nat → Int) (A : Nat → Int → Int) (hI : cSI I) (hA : cSA A) (hn : 0 ≤ n ∧ n ≤ 2000) : cct G Y_OU_trace (d + 2) b [.ref (b + 464), .ref (b + 375), .int (jI n)] I A (fun (rv : Option Value) (I2 : Nat → Nat → Int) (A2 : Nat → Int → Int) => rv = none ∧ cPo [7427] [466, 467] I A I2 A2) := by
  refine cct_of (by decide) (Nat.le_of_ble_eq_true rfl) (fun f0 sz => ?_)
  show jt _ 0 [(0, .ref (b + 464)), (1, .ref (b + 375)), (2, .int (jI n))] [] _ _ _ _
  have hz0 : cPo [7427] [466, 467] I A I A := cPo.refl hI hA
  refine jt_aload_n d_OU_trace_0 rfl ?_
  refine jt_iconst d_OU_trace_1 ?_
  refine cm_put (k := 464) (j := 3) (v := 0) d_OU_trace_2 (OU_w37 _ rfl) (by decide) cc_6 rfl rfl (Nat.le_of_ble_eq_true rfl) rfl ?_
  have p1 := cPo.I 464 3 0 hz0 rfl (show 0 ≤ 0 ∧ 0 ≤ 98 by omega)
  refine jt_iconst d_OU_trace_5 ?_
  refine jt_istore_n (L' := [(0, .ref (b + 464)), (1, .ref (b + 375)), (2, .int (jI n)), (3, .int (jI 0))]) d_OU_trace_6 (Nat.le_of_ble_eq_true rfl) rfl ?_
  refine jt_aload_n d_OU_trace_7 rfl ?_
  refine jt_aload_n d_OU_trace_8 rfl ?_
  refine cm_get (k := 464) (v := .ref (b + 465)) d_OU_trace_9 OU_f11 (by decide) cc_6 rfl ?_
  refine jt_iconst d_OU_trace_12 ?_
  refine cm_ld0 (k := 465) (n := 74) (v := (A 465) 0) d_OU_trace_13 (by decide) rfl rfl (by omega) (by omega) (by omega) rfl ?_
  refine jt_topi (fun v2 ev2 => ?_)
  have bv2 : -2147483648 ≤ v2 ∧ v2 ≤ 2147483647 := by rw [ev2]; exact p1.2.1 465 0
  refine jt_sipush d_OU_trace_14 (by omega) ?_
  refine jt_imul d_OU_trace_17 ?_
  refine jt_topie (fun v3 bv3 ev3 => ?_)
  refine jt_aload_n d_OU_trace_18 rfl ?_
  refine cm_get (k := 464) (v := .ref (b + 465)) d_OU_trace_19 OU_f11 (by decide) cc_6 rfl ?_
  refine jt_iconst d_OU_trace_22 ?_
  refine cm_ld0 (k := 465) (n := 74) (v := (A 465) 1) d_OU_trace_23 (by decide) rfl rfl (by omega) (by omega) (by omega) rfl ?_
  refine jt_topi (fun v4 ev4 => ?_)
  have bv4 : -2147483648 ≤ v4 ∧ v4 ≤ 2147483647 := by rw [ev4]; exact p1.2.1 465 1
  refine jt_sipush d_OU_trace_24 (by omega) ?_
  refine jt_imul d_OU_trace_27 ?_
  refine jt_topie (fun v5 bv5 ev5 => ?_)
  refine cct_callV (Y := Y_OU_addPoint) (ci := 5) (k := 464) (As := [.int (jI v3), .int (jI v5)]) (rest := []) d_OU_trace_28 OU_c41 yk_OU_addPoint yv_OU_addPoint rfl (Nat.le_of_ble_eq_true rfl) (by decide) cc_6 rfl rfl (Nat.le_of_ble_eq_true rfl) (v_OU_addPoint G _ b v3 v5 (cu I 464 3 0) A p1.1 p1.2.1 (by omega) (by omega)) (fun rvq6 Iq6 Aq6 hq6 => ?_)
  obtain ⟨rfl, hqq6⟩ := hq6
  have hpq6 := cPo.trans p1 hqq6 rfl rfl
  show jt _ 31 [(0, .ref (b + 464)), (1, .ref (b + 375)), (2, .int (jI n)), (3, .int (jI 0))] [] (cmf b f0 Iq6 Aq6) _ _ _
  refine jt_iconst d_OU_trace_31 ?_
  refine jt_istore (L' := [(0, .ref (b + 464)), (1, .ref (b + 375)), (2, .int (jI n)), (3, .int (jI 0)), (4, .int (jI 0))]) d_OU_trace_32 (Nat.le_of_ble_eq_true rfl) rfl ?_
  exact l34_OU_tracev G d b n I A hI hA hn f0 sz  13 0 0 Iq6 Aq6 hpq6 (by omega) (by omega) (by omega)
set_option maxRecDepth 100000 in
set_option maxHeartbeats 4000000 in
theorem l2_VA_freev (G : jG) (d b : Nat)  (I : Nat → Nat → Int) (A : Nat → Int → Int) (hI : cSI I) (hA : cSA A) (f0 : jF) (sz : Nat)   : ∀ (n9 : Nat) (v : Int) (J : Nat → Nat → Int) (B : Nat → Int → Int), cPo [] [44] I A J B → (0 ≤ v ∧ v ≤ 12) → 12 - v < (n9 : Int) → jt (jm G Y_VA_free (gR (d + 1)) (cQ b f0 sz (fun (rv : Option Value) (I2 : Nat → Nat → Int) (A2 : Nat → Int → Int) => rv = none ∧ cPo [] [44] I A I2 A2))) 2 [(0, .ref (b + 43)), (1, .int (jI v))] [] (cmf b f0 J B) sz 0 0 := by
  intro n9
  induction n9 with
  | zero =>
    intro v J B hJ v0 hmeas
    exfalso
    omega
  | succ n9 ih =>
    intro v J B hJ v0 hmeas
    refine jt_iload_n d_VA_free_2 rfl ?_
    refine jt_bipush d_VA_free_3 (by omega) ?_
    refine jt_icmp_ge (t := 34) d_VA_free_5 rfl (by unfold jRi; omega) (by unfold jRi; omega) (fun c101 => ?_) (fun c101 => ?_)
    · skip
      exact cm_vret d_VA_free_34 rfl (⟨rfl, hJ⟩)
    · skip
      refine jt_aload_n d_VA_free_8 rfl ?_
      refine cm_get (k := 43) (v := .ref (b + 44)) d_VA_free_9 VA_f9 (by decide) (cc_4 rfl) rfl ?_
      refine jt_iload_n d_VA_free_12 rfl ?_
      refine jt_iconst d_VA_free_13 ?_
      refine cm_st0 (k := 44) (n := 12) (v := 0) d_VA_free_14 (by decide) rfl rfl (by omega) (by omega) (by omega) ?_
      have p102 := cPo.A 44 (ju (B 44) v 0) hJ (Or.inl rfl) (gju (hJ.2.1 44) (show -2147483648 ≤ 0 ∧ 0 ≤ 2147483647 by omega))
      refine jt_aload_n d_VA_free_15 rfl ?_
      refine cm_get (k := 43) (v := .ref (b + 45)) d_VA_free_16 VA_f21 (by decide) (cc_4 rfl) rfl ?_
      refine jt_iload_n d_VA_free_19 rfl ?_
      refine cm_ldF (k := 45) (n := 12) (z := v) d_VA_free_20 (by decide) rfl rfl (by omega) (by omega) (by omega) ?_
      have hfq103 := form_at 45 (by decide) rfl (v : Int).toNat (show (v : Int).toNat < 12 by omega)
      generalize 45 + 1 + 2 * (v : Int).toNat = q103 at hfq103 ⊢
      have fpq103 := form_parts q103 hfq103.2 hfq103.1
      have glq103 := eLong hfq103.2 hfq103.1
      refine jt_iload_n d_VA_free_21 rfl ?_
      refine jt_ldc2 (z := 65536) d_VA_free_22 VA_k33 ?_
      refine cct_callV (Y := Y_FO_set) (ci := 4) (k := q103) (As := [.int (jI v), .long (jL 65536)]) (rest := []) d_VA_free_25 VA_c35 yk_FO_set yv_FO_set rfl (Nat.le_of_ble_eq_true rfl) hfq103.2 (cc_5 hfq103.1) rfl rfl (Nat.le_of_ble_eq_true rfl) (v_FO_set G _ b q103 v 65536 J (va_up B 44 (ju (B 44) v 0)) p102.1 p102.2.1 hfq103.2 hfq103.1 (by omega) (by omega)) (fun rvq104 Iq104 Aq104 hq104 => ?_)
      obtain ⟨rfl, hqq104⟩ := hq104
      have hpq104 := cPo.trans p102 hqq104 rfl rfl
      show jt _ 28 [(0, .ref (b + 43)), (1, .int (jI v))] [] (cmf b f0 Iq104 Aq104) _ _ _
      refine jt_iinc (L' := [(0, .ref (b + 43)), (1, .int (jI (v + 1)))]) d_VA_free_28 rfl (Nat.le_of_ble_eq_true rfl) rfl ?_
      refine jt_goto (t := 2) d_VA_free_31 rfl ?_
      exact ih (v + 1) Iq104 Aq104 hpq104 (by omega) (by omega)
set_option maxRecDepth 100000 in
set_option maxHeartbeats 4000000 in
theorem v_VA_free (G : jG) (d b : Nat)  (I : Nat → Nat → Int) (A : Nat → Int → Int) (hI : cSI I) (hA : cSA A) : cct G Y_VA_free (d + 1) b [.ref (b + 43)] I A (fun (rv : Option Value) (I2 : Nat → Nat → Int) (A2 : Nat → Int → Int) => rv = none ∧ cPo [] [44] I A I2 A2) := by
  refine cct_of (by decide) (Nat.le_of_ble_eq_true rfl) (fun f0 sz => ?_)
  show jt _ 0 [(0, .ref (b + 43))] [] _ _ _ _
  have hz0 : cPo [] [44] I A I A := cPo.refl hI hA
  refine jt_iconst d_VA_free_0 ?_
  refine jt_istore_n (L' := [(0, .ref (b + 43)), (1, .int (jI 0))]) d_VA_free_1 (Nat.le_of_ble_eq_true rfl) rfl ?_
  exact l2_VA_freev G d b  I A hI hA f0 sz  13 0 I A hz0 (by omega) (by omega)
set_option maxRecDepth 100000 in
set_option maxHeartbeats 4000000 in
theorem l2_VA_copy_43v (G : jG) (d b : Nat)  (I : Nat → Nat → Int) (A : Nat → Int → Int) (hI : cSI I) (hA : cSA A) (f0 : jF) (sz : Nat)   : ∀ (n9 : Nat) (v : Int) (J : Nat → Nat → Int) (B : Nat → Int → Int), cPo [] [44] I A J B → (0 ≤ v ∧ v ≤ 12) → 12 - v < (n9 : Int) → jt (jm G Y_VA_copy (gR (d + 1)) (cQ b f0 sz (fun (rv : Option Value) (I2 : Nat → Nat → Int) (A2 : Nat → Int → Int) => rv = none ∧ cPo [] [44] I A I2 A2))) 2 [(0, .ref (b + 43)), (1, .ref (b + 433)), (2, .int (jI v))] [] (cmf b f0 J B) sz 0 0 := by
  intro n9
  induction n9 with
  | zero =>
    intro v J B hJ v0 hmeas
    exfalso
    omega
  | succ n9 ih =>
    intro v J B hJ v0 hmeas
    refine jt_iload_n d_VA_copy_2 rfl ?_
    refine jt_bipush d_VA_copy_3 (by omega) ?_
    refine jt_icmp_ge (t := 41) d_VA_copy_5 rfl (by unfold jRi; omega) (by unfold jRi; omega) (fun c101 => ?_) (fun c101 => ?_)
    · skip
      exact cm_vret d_VA_copy_41 rfl (⟨rfl, hJ⟩)
    · skip
      refine jt_aload_n d_VA_copy_8 rfl ?_
      refine cm_get (k := 43) (v := .ref (b + 44)) d_VA_copy_9 VA_f9 (by decide) (cc_4 rfl) rfl ?_
      refine jt_iload_n d_VA_copy_12 rfl ?_
      refine jt_aload_n d_VA_copy_13 rfl ?_
      refine cm_get (k := 433) (v := .ref (b + 434)) d_VA_copy_14 VA_f9 (by decide) (cc_4 rfl) rfl ?_
      refine jt_iload_n d_VA_copy_17 rfl ?_
      refine cm_ld0 (k := 434) (n := 12) (v := (B 434) v) d_VA_copy_18 (by decide) rfl rfl (by omega) (by omega) (by omega) rfl ?_
      refine jt_topi (fun v102 ev102 => ?_)
      have bv102 : -2147483648 ≤ v102 ∧ v102 ≤ 2147483647 := by rw [ev102]; exact hJ.2.1 434 v
      refine cm_st0 (k := 44) (n := 12) (v := v102) d_VA_copy_19 (by decide) rfl rfl (by omega) (by omega) (by omega) ?_
      have p103 := cPo.A 44 (ju (B 44) v v102) hJ (Or.inl rfl) (gju (hJ.2.1 44) (show -2147483648 ≤ v102 ∧ v102 ≤ 2147483647 by omega))
      refine jt_aload_n d_VA_copy_20 rfl ?_
      refine cm_get (k := 43) (v := .ref (b + 45)) d_VA_copy_21 VA_f21 (by decide) (cc_4 rfl) rfl ?_
      refine jt_iload_n d_VA_copy_24 rfl ?_
      refine cm_ldF (k := 45) (n := 12) (z := v) d_VA_copy_25 (by decide) rfl rfl (by omega) (by omega) (by omega) ?_
      have hfq104 := form_at 45 (by decide) rfl (v : Int).toNat (show (v : Int).toNat < 12 by omega)
      generalize 45 + 1 + 2 * (v : Int).toNat = q104 at hfq104 ⊢
      have fpq104 := form_parts q104 hfq104.2 hfq104.1
      have glq104 := eLong hfq104.2 hfq104.1
      refine jt_aload_n d_VA_copy_26 rfl ?_
      refine cm_get (k := 433) (v := .ref (b + 435)) d_VA_copy_27 VA_f21 (by decide) (cc_4 rfl) rfl ?_
      refine jt_iload_n d_VA_copy_30 rfl ?_
      refine cm_ldF (k := 435) (n := 12) (z := v) d_VA_copy_31 (by decide) rfl rfl (by omega) (by omega) (by omega) ?_
      have hfq105 := form_at 435 (by decide) rfl (v : Int).toNat (show (v : Int).toNat < 12 by omega)
      generalize 435 + 1 + 2 * (v : Int).toNat = q105 at hfq105 ⊢
      have fpq105 := form_parts q105 hfq105.2 hfq105.1
      have glq105 := eLong hfq105.2 hfq105.1
      refine cct_callV (Y := Y_FO_copy) (ci := 4) (k := q104) (As := [.ref (b + q105)]) (rest := []) d_VA_copy_32 VA_c39 yk_FO_copy yv_FO_copy rfl (Nat.le_of_ble_eq_true rfl) hfq104.2 (cc_5 hfq104.1) rfl rfl (Nat.le_of_ble_eq_true rfl) (v_FO_copy G _ b q104 q105 J (va_up B 44 (ju (B 44) v v102)) p103.1 p103.2.1 hfq104.2 hfq104.1 hfq105.2 hfq105.1 ) (fun rvq106 Iq106 Aq106 hq106 => ?_)
      obtain ⟨rfl, hqq106⟩ := hq106
      have hpq106 := cPo.trans p103 hqq106 rfl rfl
      show jt _ 35 [(0, .ref (b + 43)), (1, .ref (b + 433)), (2, .int (jI v))] [] (cmf b f0 Iq106 Aq106) _ _ _
      refine jt_iinc (L' := [(0, .ref (b + 43)), (1, .ref (b + 433)), (2, .int (jI (v + 1)))]) d_VA_copy_35 rfl (Nat.le_of_ble_eq_true rfl) rfl ?_
      refine jt_goto (t := 2) d_VA_copy_38 rfl ?_
      exact ih (v + 1) Iq106 Aq106 hpq106 (by omega) (by omega)
set_option maxRecDepth 100000 in
set_option maxHeartbeats 4000000 in
theorem v_VA_copy_43 (G : jG) (d b : Nat)  (I : Nat → Nat → Int) (A : Nat → Int → Int) (hI : cSI I) (hA : cSA A) : cct G Y_VA_copy (d + 1) b [.ref (b + 43), .ref (b + 433)] I A (fun (rv : Option Value) (I2 : Nat → Nat → Int) (A2 : Nat → Int → Int) => rv = none ∧ cPo [] [44] I A I2 A2) := by
  refine cct_of (by decide) (Nat.le_of_ble_eq_true rfl) (fun f0 sz => ?_)
  show jt _ 0 [(0, .ref (b + 43)), (1, .ref (b + 433))] [] _ _ _ _
  have hz0 : cPo [] [44] I A I A := cPo.refl hI hA
  refine jt_iconst d_VA_copy_0 ?_
  refine jt_istore_n (L' := [(0, .ref (b + 43)), (1, .ref (b + 433)), (2, .int (jI 0))]) d_VA_copy_1 (Nat.le_of_ble_eq_true rfl) rfl ?_
  exact l2_VA_copy_43v G d b  I A hI hA f0 sz  13 0 I A hz0 (by omega) (by omega)
set_option maxRecDepth 100000 in
set_option maxHeartbeats 4000000 in
theorem l2_VA_copy_433v (G : jG) (d b : Nat)  (I : Nat → Nat → Int) (A : Nat → Int → Int) (hI : cSI I) (hA : cSA A) (f0 : jF) (sz : Nat)   : ∀ (n9 : Nat) (v : Int) (J : Nat → Nat → Int) (B : Nat → Int → Int), cPo [] [434] I A J B → (0 ≤ v ∧ v ≤ 12) → 12 - v < (n9 : Int) → jt (jm G Y_VA_copy (gR (d + 1)) (cQ b f0 sz (fun (rv : Option Value) (I2 : Nat → Nat → Int) (A2 : Nat → Int → Int) => rv = none ∧ cPo [] [434] I A I2 A2))) 2 [(0, .ref (b + 433)), (1, .ref (b + 43)), (2, .int (jI v))] [] (cmf b f0 J B) sz 0 0 := by
  intro n9
  induction n9 with
  | zero =>
    intro v J B hJ v0 hmeas
    exfalso
    omega
  | succ n9 ih =>
    intro v J B hJ v0 hmeas
    refine jt_iload_n d_VA_copy_2 rfl ?_
    refine jt_bipush d_VA_copy_3 (by omega) ?_
    refine jt_icmp_ge (t := 41) d_VA_copy_5 rfl (by unfold jRi; omega) (by unfold jRi; omega) (fun c101 => ?_) (fun c101 => ?_)
    · skip
      exact cm_vret d_VA_copy_41 rfl (⟨rfl, hJ⟩)
    · skip
      refine jt_aload_n d_VA_copy_8 rfl ?_
      refine cm_get (k := 433) (v := .ref (b + 434)) d_VA_copy_9 VA_f9 (by decide) (cc_4 rfl) rfl ?_
      refine jt_iload_n d_VA_copy_12 rfl ?_
      refine jt_aload_n d_VA_copy_13 rfl ?_
      refine cm_get (k := 43) (v := .ref (b + 44)) d_VA_copy_14 VA_f9 (by decide) (cc_4 rfl) rfl ?_
      refine jt_iload_n d_VA_copy_17 rfl ?_
      refine cm_ld0 (k := 44) (n := 12) (v := (B 44) v) d_VA_copy_18 (by decide) rfl rfl (by omega) (by omega) (by omega) rfl ?_
      refine jt_topi (fun v102 ev102 => ?_)
      have bv102 : -2147483648 ≤ v102 ∧ v102 ≤ 2147483647 := by rw [ev102]; exact hJ.2.1 44 v
      refine cm_st0 (k := 434) (n := 12) (v := v102) d_VA_copy_19 (by decide) rfl rfl (by omega) (by omega) (by omega) ?_
      have p103 := cPo.A 434 (ju (B 434) v v102) hJ (Or.inl rfl) (gju (hJ.2.1 434) (show -2147483648 ≤ v102 ∧ v102 ≤ 2147483647 by omega))
      refine jt_aload_n d_VA_copy_20 rfl ?_
      refine cm_get (k := 433) (v := .ref (b + 435)) d_VA_copy_21 VA_f21 (by decide) (cc_4 rfl) rfl ?_
      refine jt_iload_n d_VA_copy_24 rfl ?_
      refine cm_ldF (k := 435) (n := 12) (z := v) d_VA_copy_25 (by decide) rfl rfl (by omega) (by omega) (by omega) ?_
      have hfq104 := form_at 435 (by decide) rfl (v : Int).toNat (show (v : Int).toNat < 12 by omega)
      generalize 435 + 1 + 2 * (v : Int).toNat = q104 at hfq104 ⊢
      have fpq104 := form_parts q104 hfq104.2 hfq104.1
      have glq104 := eLong hfq104.2 hfq104.1
      refine jt_aload_n d_VA_copy_26 rfl ?_
      refine cm_get (k := 43) (v := .ref (b + 45)) d_VA_copy_27 VA_f21 (by decide) (cc_4 rfl) rfl ?_
      refine jt_iload_n d_VA_copy_30 rfl ?_
      refine cm_ldF (k := 45) (n := 12) (z := v) d_VA_copy_31 (by decide) rfl rfl (by omega) (by omega) (by omega) ?_
      have hfq105 := form_at 45 (by decide) rfl (v : Int).toNat (show (v : Int).toNat < 12 by omega)
      generalize 45 + 1 + 2 * (v : Int).toNat = q105 at hfq105 ⊢
      have fpq105 := form_parts q105 hfq105.2 hfq105.1
      have glq105 := eLong hfq105.2 hfq105.1
      refine cct_callV (Y := Y_FO_copy) (ci := 4) (k := q104) (As := [.ref (b + q105)]) (rest := []) d_VA_copy_32 VA_c39 yk_FO_copy yv_FO_copy rfl (Nat.le_of_ble_eq_true rfl) hfq104.2 (cc_5 hfq104.1) rfl rfl (Nat.le_of_ble_eq_true rfl) (v_FO_copy G _ b q104 q105 J (va_up B 434 (ju (B 434) v v102)) p103.1 p103.2.1 hfq104.2 hfq104.1 hfq105.2 hfq105.1 ) (fun rvq106 Iq106 Aq106 hq106 => ?_)
      obtain ⟨rfl, hqq106⟩ := hq106
      have hpq106 := cPo.trans p103 hqq106 rfl rfl
      show jt _ 35 [(0, .ref (b + 433)), (1, .ref (b + 43)), (2, .int (jI v))] [] (cmf b f0 Iq106 Aq106) _ _ _
      refine jt_iinc (L' := [(0, .ref (b + 433)), (1, .ref (b + 43)), (2, .int (jI (v + 1)))]) d_VA_copy_35 rfl (Nat.le_of_ble_eq_true rfl) rfl ?_
      refine jt_goto (t := 2) d_VA_copy_38 rfl ?_
      exact ih (v + 1) Iq106 Aq106 hpq106 (by omega) (by omega)
set_option maxRecDepth 100000 in
set_option maxHeartbeats 4000000 in
theorem v_VA_copy_433 (G : jG) (d b : Nat)  (I : Nat → Nat → Int) (A : Nat → Int → Int) (hI : cSI I) (hA : cSA A) : cct G Y_VA_copy (d + 1) b [.ref (b + 433), .ref (b + 43)] I A (fun (rv : Option Value) (I2 : Nat → Nat → Int) (A2 : Nat → Int → Int) => rv = none ∧ cPo [] [434] I A I2 A2) := by
  refine cct_of (by decide) (Nat.le_of_ble_eq_true rfl) (fun f0 sz => ?_)
  show jt _ 0 [(0, .ref (b + 433)), (1, .ref (b + 43))] [] _ _ _ _
  have hz0 : cPo [] [434] I A I A := cPo.refl hI hA
  refine jt_iconst d_VA_copy_0 ?_
  refine jt_istore_n (L' := [(0, .ref (b + 433)), (1, .ref (b + 43)), (2, .int (jI 0))]) d_VA_copy_1 (Nat.le_of_ble_eq_true rfl) rfl ?_
  exact l2_VA_copy_433v G d b  I A hI hA f0 sz  13 0 I A hz0 (by omega) (by omega)
set_option maxRecDepth 100000 in
set_option maxHeartbeats 4000000 in
theorem v_VA_settle (G : jG) (d b : Nat) (v : Int) (I : Nat → Nat → Int) (A : Nat → Int → Int) (hI : cSI I) (hA : cSA A) (v0 : 0 ≤ v ∧ v < 12) : cct G Y_VA_settle (d + 1) b [.ref (b + 43), .int (jI v)] I A (fun (rv : Option Value) (I2 : Nat → Nat → Int) (A2 : Nat → Int → Int) => rv = none ∧ cPo [] [44] I A I2 A2) := by
  refine cct_of (by decide) (Nat.le_of_ble_eq_true rfl) (fun f0 sz => ?_)
  show jt _ 0 [(0, .ref (b + 43)), (1, .int (jI v))] [] _ _ _ _
  have hz0 : cPo [] [44] I A I A := cPo.refl hI hA
  refine jt_aload_n d_VA_settle_0 rfl ?_
  refine cm_get (k := 43) (v := .ref (b + 44)) d_VA_settle_1 VA_f9 (by decide) (cc_4 rfl) rfl ?_
  refine jt_iload_n d_VA_settle_4 rfl ?_
  refine jt_aload_n d_VA_settle_5 rfl ?_
  refine cm_get (k := 43) (v := .ref (b + 45)) d_VA_settle_6 VA_f21 (by decide) (cc_4 rfl) rfl ?_
  refine jt_iload_n d_VA_settle_9 rfl ?_
  refine cm_ldF (k := 45) (n := 12) (z := v) d_VA_settle_10 (by decide) rfl rfl (by omega) (by omega) (by omega) ?_
  have hfq1 := form_at 45 (by decide) rfl (v : Int).toNat (show (v : Int).toNat < 12 by omega)
  generalize 45 + 1 + 2 * (v : Int).toNat = q1 at hfq1 ⊢
  have fpq1 := form_parts q1 hfq1.2 hfq1.1
  have glq1 := eLong hfq1.2 hfq1.1
  refine cct_callV (Y := Y_FO_isPlain) (ci := 4) (k := q1) (As := []) (rest := [.int (jI v), .ref (b + 44)]) d_VA_settle_11 VA_c50 yk_FO_isPlain yv_FO_isPlain rfl (Nat.le_of_ble_eq_true rfl) hfq1.2 (cc_5 hfq1.1) rfl rfl (Nat.le_of_ble_eq_true rfl) (v_FO_isPlain G _ b q1 I A hz0.1 hz0.2.1 hfq1.2 hfq1.1 ) (fun rvq2 Iq2 Aq2 hq2 => ?_)
  obtain ⟨yq2, rfl, ryq2, hqq2⟩ := hq2
  have hpq2 := cPo.trans hz0 hqq2 rfl rfl
  show jt _ 14 [(0, .ref (b + 43)), (1, .int (jI v))] [.int (jI yq2), .int (jI v), .ref (b + 44)] (cmf b f0 Iq2 Aq2) _ _ _
  refine jt_if_eq (t := 21) d_VA_settle_14 rfl (by unfold jRi; omega) (fun c3 => ?_) (fun c3 => ?_)
  · skip
    refine jt_iconst d_VA_settle_21 ?_
    refine cm_st0 (k := 44) (n := 12) (v := 1) d_VA_settle_22 (by decide) rfl rfl (by omega) (by omega) (by omega) ?_
    have p4 := cPo.A 44 (ju (Aq2 44) v 1) hpq2 (Or.inl rfl) (gju (hpq2.2.1 44) (show -2147483648 ≤ 1 ∧ 1 ≤ 2147483647 by omega))
    exact cm_vret d_VA_settle_23 rfl (⟨rfl, p4⟩)
  · skip
    refine jt_iconst d_VA_settle_17 ?_
    refine jt_goto (t := 22) d_VA_settle_18 rfl ?_
    refine cm_st0 (k := 44) (n := 12) (v := 2) d_VA_settle_22 (by decide) rfl rfl (by omega) (by omega) (by omega) ?_
    have p5 := cPo.A 44 (ju (Aq2 44) v 2) hpq2 (Or.inl rfl) (gju (hpq2.2.1 44) (show -2147483648 ≤ 2 ∧ 2 ≤ 2147483647 by omega))
    exact cm_vret d_VA_settle_23 rfl (⟨rfl, p5⟩)
set_option maxRecDepth 100000 in
set_option maxHeartbeats 4000000 in
theorem l7_VA_replaceInAllv (G : jG) (d b : Nat) (v : Int) (I : Nat → Nat → Int) (A : Nat → Int → Int) (hI : cSI I) (hA : cSA A) (v0 : 0 ≤ v ∧ v < 12) (f0 : jF) (sz : Nat)   : ∀ (n9 : Nat) (u : Int) (J : Nat → Nat → Int) (B : Nat → Int → Int), cPo [] [44] I A J B → (0 ≤ u ∧ u ≤ 12) → 12 - u < (n9 : Int) → jt (jm G Y_VA_replaceInAll (gR (d + 2)) (cQ b f0 sz (fun (rv : Option Value) (I2 : Nat → Nat → Int) (A2 : Nat → Int → Int) => ∃ y : Int, rv = some (.int (jI y)) ∧ (0 ≤ y ∧ y ≤ 1) ∧ cPo [] [44] I A I2 A2))) 7 [(0, .ref (b + 43)), (1, .int (jI v)), (2, .int (jI u))] [] (cmf b f0 J B) sz 0 0 := by
  intro n9
  induction n9 with
  | zero =>
    intro u J B hJ u0 hmeas
    exfalso
    omega
  | succ n9 ih =>
    intro u J B hJ u0 hmeas
    refine jt_iload_n d_VA_replaceInAll_7 rfl ?_
    refine jt_bipush d_VA_replaceInAll_8 (by omega) ?_
    refine jt_icmp_ge (t := 85) d_VA_replaceInAll_10 rfl (by unfold jRi; omega) (by unfold jRi; omega) (fun c101 => ?_) (fun c101 => ?_)
    · skip
      refine jt_iconst d_VA_replaceInAll_85 ?_
      exact cm_ret d_VA_replaceInAll_86 rfl (jnz (by omega)) (⟨1, rfl, by omega, hJ⟩)
    · skip
      refine jt_aload_n d_VA_replaceInAll_13 rfl ?_
      refine cm_get (k := 43) (v := .ref (b + 44)) d_VA_replaceInAll_14 VA_f9 (by decide) (cc_4 rfl) rfl ?_
      refine jt_iload_n d_VA_replaceInAll_17 rfl ?_
      refine cm_ld0 (k := 44) (n := 12) (v := (B 44) u) d_VA_replaceInAll_18 (by decide) rfl rfl (by omega) (by omega) (by omega) rfl ?_
      refine jt_topi (fun v102 ev102 => ?_)
      have bv102 : -2147483648 ≤ v102 ∧ v102 ≤ 2147483647 := by rw [ev102]; exact hJ.2.1 44 u
      refine jt_iconst d_VA_replaceInAll_19 ?_
      refine jt_icmp_ne (t := 79) d_VA_replaceInAll_20 rfl (by unfold jRi; omega) (by unfold jRi; omega) (fun c103 => ?_) (fun c103 => ?_)
      · skip
        refine jt_iinc (L' := [(0, .ref (b + 43)), (1, .int (jI v)), (2, .int (jI (u + 1)))]) d_VA_replaceInAll_79 rfl (Nat.le_of_ble_eq_true rfl) rfl ?_
        refine jt_goto (t := 7) d_VA_replaceInAll_82 rfl ?_
        exact ih (u + 1) J B hJ (by omega) (by omega)
      · skip
        refine jt_aload_n d_VA_replaceInAll_23 rfl ?_
        refine cm_get (k := 43) (v := .ref (b + 45)) d_VA_replaceInAll_24 VA_f21 (by decide) (cc_4 rfl) rfl ?_
        refine jt_iload_n d_VA_replaceInAll_27 rfl ?_
        refine cm_ldF (k := 45) (n := 12) (z := u) d_VA_replaceInAll_28 (by decide) rfl rfl (by omega) (by omega) (by omega) ?_
        have hfq104 := form_at 45 (by decide) rfl (u : Int).toNat (show (u : Int).toNat < 12 by omega)
        generalize 45 + 1 + 2 * (u : Int).toNat = q104 at hfq104 ⊢
        have fpq104 := form_parts q104 hfq104.2 hfq104.1
        have glq104 := eLong hfq104.2 hfq104.1
        refine cm_get (k := q104) (v := .ref (b + (q104 + 1))) d_VA_replaceInAll_29 VA_f54 hfq104.2 (cc_5 hfq104.1) rfl ?_
        refine jt_iload_n d_VA_replaceInAll_32 rfl ?_
        refine cm_ld1 (k := q104 + 1) (n := 13) (v := (B ((q104 + 1))) v) d_VA_replaceInAll_33 fpq104.2.2 fpq104.1 fpq104.2.1 (by omega) (by omega) (by omega) rfl ?_
        refine jt_topl (fun v105 ev105 => ?_)
        have bv105 : -9223372036854775808 ≤ v105 ∧ v105 ≤ 9223372036854775807 := by have q9 := hJ.2.1 (q104 + 1) v; rw [glq104.1, glq104.2] at q9; rw [ev105]; exact q9
        refine jt_lconst (z := 0) d_VA_replaceInAll_34 (by decide) ?_
        refine jt_lif_eq (t := 79) d_VA_replaceInAll_35 d_VA_replaceInAll_36 rfl (by unfold jRl; omega) (by unfold jRl; omega) (fun c106 => ?_) (fun c106 => ?_)
        · skip
          refine jt_iinc (L' := [(0, .ref (b + 43)), (1, .int (jI v)), (2, .int (jI (u + 1)))]) d_VA_replaceInAll_79 rfl (Nat.le_of_ble_eq_true rfl) rfl ?_
          refine jt_goto (t := 7) d_VA_replaceInAll_82 rfl ?_
          exact ih (u + 1) J B hJ (by omega) (by omega)
        · skip
          refine jt_aload_n d_VA_replaceInAll_39 rfl ?_
          refine cm_get (k := 43) (v := .ref (b + 72)) d_VA_replaceInAll_40 VA_f30 (by decide) (cc_4 rfl) rfl ?_
          refine jt_aload_n d_VA_replaceInAll_43 rfl ?_
          refine cm_get (k := 43) (v := .ref (b + 45)) d_VA_replaceInAll_44 VA_f21 (by decide) (cc_4 rfl) rfl ?_
          refine jt_iload_n d_VA_replaceInAll_47 rfl ?_
          refine cm_ldF (k := 45) (n := 12) (z := u) d_VA_replaceInAll_48 (by decide) rfl rfl (by omega) (by omega) (by omega) ?_
          have hfq107 := form_at 45 (by decide) rfl (u : Int).toNat (show (u : Int).toNat < 12 by omega)
          generalize 45 + 1 + 2 * (u : Int).toNat = q107 at hfq107 ⊢
          have fpq107 := form_parts q107 hfq107.2 hfq107.1
          have glq107 := eLong hfq107.2 hfq107.1
          refine jt_aload_n d_VA_replaceInAll_49 rfl ?_
          refine cm_get (k := 43) (v := .ref (b + 45)) d_VA_replaceInAll_50 VA_f21 (by decide) (cc_4 rfl) rfl ?_
          refine cct_callV (Y := Y_FO_setReplaced) (ci := 4) (k := 72) (As := [.ref (b + q107), .ref (b + 45)]) (rest := []) d_VA_replaceInAll_53 VA_c43 yk_FO_setReplaced yv_FO_setReplaced rfl (Nat.le_of_ble_eq_true rfl) (by decide) (cc_5 rfl) rfl rfl (Nat.le_of_ble_eq_true rfl) (v_FO_setReplaced G _ b 72 q107 J B hJ.1 hJ.2.1 (by decide) rfl hfq107.2 hfq107.1 ) (fun rvq108 Iq108 Aq108 hq108 => ?_)
          obtain ⟨yq108, rfl, ryq108, hqq108⟩ := hq108
          have hpq108 := cPo.trans hJ hqq108 rfl rfl
          show jt _ 56 [(0, .ref (b + 43)), (1, .int (jI v)), (2, .int (jI u))] [.int (jI yq108)] (cmf b f0 Iq108 Aq108) _ _ _
          refine jt_if_ne (t := 61) d_VA_replaceInAll_56 rfl (by unfold jRi; omega) (fun c109 => ?_) (fun c109 => ?_)
          · skip
            refine jt_aload_n d_VA_replaceInAll_61 rfl ?_
            refine cm_get (k := 43) (v := .ref (b + 45)) d_VA_replaceInAll_62 VA_f21 (by decide) (cc_4 rfl) rfl ?_
            refine jt_iload_n d_VA_replaceInAll_65 rfl ?_
            refine cm_ldF (k := 45) (n := 12) (z := u) d_VA_replaceInAll_66 (by decide) rfl rfl (by omega) (by omega) (by omega) ?_
            have hfq110 := form_at 45 (by decide) rfl (u : Int).toNat (show (u : Int).toNat < 12 by omega)
            generalize 45 + 1 + 2 * (u : Int).toNat = q110 at hfq110 ⊢
            have fpq110 := form_parts q110 hfq110.2 hfq110.1
            have glq110 := eLong hfq110.2 hfq110.1
            refine jt_aload_n d_VA_replaceInAll_67 rfl ?_
            refine cm_get (k := 43) (v := .ref (b + 72)) d_VA_replaceInAll_68 VA_f30 (by decide) (cc_4 rfl) rfl ?_
            refine cct_callV (Y := Y_FO_copy) (ci := 4) (k := q110) (As := [.ref (b + 72)]) (rest := []) d_VA_replaceInAll_71 VA_c39 yk_FO_copy yv_FO_copy rfl (Nat.le_of_ble_eq_true rfl) hfq110.2 (cc_5 hfq110.1) rfl rfl (Nat.le_of_ble_eq_true rfl) (v_FO_copy G _ b q110 72 Iq108 Aq108 hpq108.1 hpq108.2.1 hfq110.2 hfq110.1 (by decide) rfl ) (fun rvq111 Iq111 Aq111 hq111 => ?_)
            obtain ⟨rfl, hqq111⟩ := hq111
            have hpq111 := cPo.trans hpq108 hqq111 rfl rfl
            show jt _ 74 [(0, .ref (b + 43)), (1, .int (jI v)), (2, .int (jI u))] [] (cmf b f0 Iq111 Aq111) _ _ _
            refine jt_aload_n d_VA_replaceInAll_74 rfl ?_
            refine jt_iload_n d_VA_replaceInAll_75 rfl ?_
            refine cct_callV (Y := Y_VA_settle) (ci := 3) (k := 43) (As := [.int (jI u)]) (rest := []) d_VA_replaceInAll_76 VA_c84 yk_VA_settle yv_VA_settle rfl (Nat.le_of_ble_eq_true rfl) (by decide) (cc_4 rfl) rfl rfl (Nat.le_of_ble_eq_true rfl) (v_VA_settle G _ b u Iq111 Aq111 hpq111.1 hpq111.2.1 (by omega)) (fun rvq112 Iq112 Aq112 hq112 => ?_)
            obtain ⟨rfl, hqq112⟩ := hq112
            have hpq112 := cPo.trans hpq111 hqq112 rfl rfl
            show jt _ 79 [(0, .ref (b + 43)), (1, .int (jI v)), (2, .int (jI u))] [] (cmf b f0 Iq112 Aq112) _ _ _
            refine jt_iinc (L' := [(0, .ref (b + 43)), (1, .int (jI v)), (2, .int (jI (u + 1)))]) d_VA_replaceInAll_79 rfl (Nat.le_of_ble_eq_true rfl) rfl ?_
            refine jt_goto (t := 7) d_VA_replaceInAll_82 rfl ?_
            exact ih (u + 1) Iq112 Aq112 hpq112 (by omega) (by omega)
          · skip
            refine jt_iconst d_VA_replaceInAll_59 ?_
            exact cm_ret d_VA_replaceInAll_60 rfl (jnz (by omega)) (⟨0, rfl, by omega, hpq108⟩)
set_option maxRecDepth 100000 in
set_option maxHeartbeats 4000000 in
theorem v_VA_replaceInAll (G : jG) (d b : Nat) (v : Int) (I : Nat → Nat → Int) (A : Nat → Int → Int) (hI : cSI I) (hA : cSA A) (v0 : 0 ≤ v ∧ v < 12) : cct G Y_VA_replaceInAll (d + 2) b [.ref (b + 43), .int (jI v)] I A (fun (rv : Option Value) (I2 : Nat → Nat → Int) (A2 : Nat → Int → Int) => ∃ y : Int, rv = some (.int (jI y)) ∧ (0 ≤ y ∧ y ≤ 1) ∧ cPo [] [44] I A I2 A2) := by
  refine cct_of (by decide) (Nat.le_of_ble_eq_true rfl) (fun f0 sz => ?_)
  show jt _ 0 [(0, .ref (b + 43)), (1, .int (jI v))] [] _ _ _ _
  have hz0 : cPo [] [44] I A I A := cPo.refl hI hA
  refine jt_aload_n d_VA_replaceInAll_0 rfl ?_
  refine jt_iload_n d_VA_replaceInAll_1 rfl ?_
  refine cct_callV (Y := Y_VA_settle) (ci := 3) (k := 43) (As := [.int (jI v)]) (rest := []) d_VA_replaceInAll_2 VA_c84 yk_VA_settle yv_VA_settle rfl (Nat.le_of_ble_eq_true rfl) (by decide) (cc_4 rfl) rfl rfl (Nat.le_of_ble_eq_true rfl) (v_VA_settle G _ b v I A hz0.1 hz0.2.1 (by omega)) (fun rvq1 Iq1 Aq1 hq1 => ?_)
  obtain ⟨rfl, hqq1⟩ := hq1
  have hpq1 := cPo.trans hz0 hqq1 rfl rfl
  show jt _ 5 [(0, .ref (b + 43)), (1, .int (jI v))] [] (cmf b f0 Iq1 Aq1) _ _ _
  refine jt_iconst d_VA_replaceInAll_5 ?_
  refine jt_istore_n (L' := [(0, .ref (b + 43)), (1, .int (jI v)), (2, .int (jI 0))]) d_VA_replaceInAll_6 (Nat.le_of_ble_eq_true rfl) rfl ?_
  exact l7_VA_replaceInAllv G d b v I A hI hA v0 f0 sz  13 0 Iq1 Aq1 hpq1 (by omega) (by omega)
set_option maxRecDepth 100000 in
set_option maxHeartbeats 4000000 in
theorem v_Lo_bitCount (G : jG) (d b : Nat) (x : Int) (I : Nat → Nat → Int) (A : Nat → Int → Int) (hI : cSI I) (hA : cSA A) (hx : -9223372036854775808 ≤ x ∧ x ≤ 9223372036854775807) : cct G Y_Lo_bitCount d b [.long (jL x)] I A (fun (rv : Option Value) (I2 : Nat → Nat → Int) (A2 : Nat → Int → Int) => ∃ y : Int, rv = some (.int (jI y)) ∧ (-2147483648 ≤ y ∧ y ≤ 2147483647) ∧ cPo [] [] I A I2 A2) := by
  refine cct_of (by decide) (Nat.le_of_ble_eq_true rfl) (fun f0 sz => ?_)
  show jt _ 0 [(0, .long (jL x))] [] _ _ _ _
  have hz0 : cPo [] [] I A I A := cPo.refl hI hA
  refine jt_lload_n d_Lo_bitCount_0 rfl ?_
  refine jt_lload_n d_Lo_bitCount_1 rfl ?_
  refine jt_iconst d_Lo_bitCount_2 ?_
  refine jt_lushrW d_Lo_bitCount_3 (fun v1 bv1 => ?_)
  refine jt_ldc2 (z := 6148914691236517205) d_Lo_bitCount_4 Lo_k314 ?_
  refine jt_landW d_Lo_bitCount_7 (fun v2 bv2 => ?_)
  refine jt_lsub d_Lo_bitCount_8 ?_
  refine jt_toplw (fun v3 bv3 => ?_)
  refine jt_lstore_n (L' := [(0, .long (jL v3))]) d_Lo_bitCount_9 (Nat.le_of_ble_eq_true rfl) rfl ?_
  refine jt_lload_n d_Lo_bitCount_10 rfl ?_
  refine jt_ldc2 (z := 3689348814741910323) d_Lo_bitCount_11 Lo_k316 ?_
  refine jt_landW d_Lo_bitCount_14 (fun v4 bv4 => ?_)
  refine jt_lload_n d_Lo_bitCount_15 rfl ?_
  refine jt_iconst d_Lo_bitCount_16 ?_
  refine jt_lushrW d_Lo_bitCount_17 (fun v5 bv5 => ?_)
  refine jt_ldc2 (z := 3689348814741910323) d_Lo_bitCount_18 Lo_k316 ?_
  refine jt_landW d_Lo_bitCount_21 (fun v6 bv6 => ?_)
  refine jt_ladd d_Lo_bitCount_22 ?_
  refine jt_toplw (fun v7 bv7 => ?_)
  refine jt_lstore_n (L' := [(0, .long (jL v7))]) d_Lo_bitCount_23 (Nat.le_of_ble_eq_true rfl) rfl ?_
  refine jt_lload_n d_Lo_bitCount_24 rfl ?_
  refine jt_lload_n d_Lo_bitCount_25 rfl ?_
  refine jt_iconst d_Lo_bitCount_26 ?_
  refine jt_lushrW d_Lo_bitCount_27 (fun v8 bv8 => ?_)
  refine jt_ladd d_Lo_bitCount_28 ?_
  refine jt_toplw (fun v9 bv9 => ?_)
  refine jt_ldc2 (z := 1085102592571150095) d_Lo_bitCount_29 Lo_k318 ?_
  refine jt_landW d_Lo_bitCount_32 (fun v10 bv10 => ?_)
  refine jt_lstore_n (L' := [(0, .long (jL v10))]) d_Lo_bitCount_33 (Nat.le_of_ble_eq_true rfl) rfl ?_
  refine jt_lload_n d_Lo_bitCount_34 rfl ?_
  refine jt_lload_n d_Lo_bitCount_35 rfl ?_
  refine jt_bipush d_Lo_bitCount_36 (by omega) ?_
  refine jt_lushrW d_Lo_bitCount_38 (fun v11 bv11 => ?_)
  refine jt_ladd d_Lo_bitCount_39 ?_
  refine jt_toplw (fun v12 bv12 => ?_)
  refine jt_lstore_n (L' := [(0, .long (jL v12))]) d_Lo_bitCount_40 (Nat.le_of_ble_eq_true rfl) rfl ?_
  refine jt_lload_n d_Lo_bitCount_41 rfl ?_
  refine jt_lload_n d_Lo_bitCount_42 rfl ?_
  refine jt_bipush d_Lo_bitCount_43 (by omega) ?_
  refine jt_lushrW d_Lo_bitCount_45 (fun v13 bv13 => ?_)
  refine jt_ladd d_Lo_bitCount_46 ?_
  refine jt_toplw (fun v14 bv14 => ?_)
  refine jt_lstore_n (L' := [(0, .long (jL v14))]) d_Lo_bitCount_47 (Nat.le_of_ble_eq_true rfl) rfl ?_
  refine jt_lload_n d_Lo_bitCount_48 rfl ?_
  refine jt_lload_n d_Lo_bitCount_49 rfl ?_
  refine jt_bipush d_Lo_bitCount_50 (by omega) ?_
  refine jt_lushrW d_Lo_bitCount_52 (fun v15 bv15 => ?_)
  refine jt_ladd d_Lo_bitCount_53 ?_
  refine jt_toplw (fun v16 bv16 => ?_)
  refine jt_lstore_n (L' := [(0, .long (jL v16))]) d_Lo_bitCount_54 (Nat.le_of_ble_eq_true rfl) rfl ?_
  refine jt_lload_n d_Lo_bitCount_55 rfl ?_
  refine jt_l2i d_Lo_bitCount_56 ?_
  refine jt_topiw (fun v17 bv17 => ?_)
  refine jt_bipush d_Lo_bitCount_57 (by omega) ?_
  refine jt_iandW d_Lo_bitCount_59 (fun v18 bv18 => ?_)
  exact cm_ret d_Lo_bitCount_60 rfl rfl (⟨v18, rfl, by omega, hz0⟩)
set_option maxRecDepth 100000 in
set_option maxHeartbeats 4000000 in
theorem l5_Ar_fillv (G : jG) (d b : Nat) (x : Int) (I : Nat → Nat → Int) (A : Nat → Int → Int) (hI : cSI I) (hA : cSA A) (hx : -2147483648 ≤ x ∧ x ≤ 2147483647) (f0 : jF) (sz : Nat)   : ∀ (n9 : Nat) (i : Int) (J : Nat → Nat → Int) (B : Nat → Int → Int), cPo [] [470] I A J B → (0 ≤ i ∧ i ≤ 32) → 32 - i < (n9 : Int) → jt (jm G Y_Ar_fill (gR d) (cQ b f0 sz (fun (rv : Option Value) (I2 : Nat → Nat → Int) (A2 : Nat → Int → Int) => rv = none ∧ cPo [] [470] I A I2 A2))) 5 [(0, .ref (b + 470)), (1, .int (jI x)), (2, .int (jI i)), (3, .int (jI 32))] [] (cmf b f0 J B) sz 0 0 := by
  intro n9
  induction n9 with
  | zero =>
    intro i J B hJ i0 hmeas
    exfalso
    omega
  | succ n9 ih =>
    intro i J B hJ i0 hmeas
    refine jt_iload_n d_Ar_fill_5 rfl ?_
    refine jt_iload_n d_Ar_fill_6 rfl ?_
    refine jt_icmp_ge (t := 20) d_Ar_fill_7 rfl (by unfold jRi; omega) (by unfold jRi; omega) (fun c101 => ?_) (fun c101 => ?_)
    · skip
      exact cm_vret d_Ar_fill_20 rfl (⟨rfl, hJ⟩)
    · skip
      refine jt_aload_n d_Ar_fill_10 rfl ?_
      refine jt_iload_n d_Ar_fill_11 rfl ?_
      refine jt_iload_n d_Ar_fill_12 rfl ?_
      refine cm_st0 (k := 470) (n := 32) (v := x) d_Ar_fill_13 (by decide) rfl rfl (by omega) (by omega) (by omega) ?_
      have p102 := cPo.A 470 (ju (B 470) i x) hJ (Or.inl rfl) (gju (hJ.2.1 470) (show -2147483648 ≤ x ∧ x ≤ 2147483647 by omega))
      refine jt_iinc (L' := [(0, .ref (b + 470)), (1, .int (jI x)), (2, .int (jI (i + 1))), (3, .int (jI 32))]) d_Ar_fill_14 rfl (Nat.le_of_ble_eq_true rfl) rfl ?_
      refine jt_goto (t := 5) d_Ar_fill_17 rfl ?_
      exact ih (i + 1) J (va_up B 470 (ju (B 470) i x)) p102 (by omega) (by omega)
set_option maxRecDepth 100000 in
set_option maxHeartbeats 4000000 in
theorem v_Ar_fill (G : jG) (d b : Nat) (x : Int) (I : Nat → Nat → Int) (A : Nat → Int → Int) (hI : cSI I) (hA : cSA A) (hx : -2147483648 ≤ x ∧ x ≤ 2147483647) : cct G Y_Ar_fill d b [.ref (b + 470), .int (jI x)] I A (fun (rv : Option Value) (I2 : Nat → Nat → Int) (A2 : Nat → Int → Int) => rv = none ∧ cPo [] [470] I A I2 A2) := by
  refine cct_of (by decide) (Nat.le_of_ble_eq_true rfl) (fun f0 sz => ?_)
  show jt _ 0 [(0, .ref (b + 470)), (1, .int (jI x))] [] _ _ _ _
  have hz0 : cPo [] [470] I A I A := cPo.refl hI hA
  refine jt_iconst d_Ar_fill_0 ?_
  refine jt_istore_n (L' := [(0, .ref (b + 470)), (1, .int (jI x)), (2, .int (jI 0))]) d_Ar_fill_1 (Nat.le_of_ble_eq_true rfl) rfl ?_
  refine jt_aload_n d_Ar_fill_2 rfl ?_
  refine cm_len (k := 470) (n := 32) d_Ar_fill_3 jTy_0 (by decide) (cc_8 rfl rfl) ?_
  refine jt_istore_n (L' := [(0, .ref (b + 470)), (1, .int (jI x)), (2, .int (jI 0)), (3, .int (jI 32))]) d_Ar_fill_4 (Nat.le_of_ble_eq_true rfl) rfl ?_
  exact l5_Ar_fillv G d b x I A hI hA hx f0 sz  33 0 I A hz0 (by omega) (by omega)
set_option maxRecDepth 100000 in
set_option maxHeartbeats 4000000 in
theorem l8_VA_chooseSolvedv (G : jG) (d b : Nat)  (I : Nat → Nat → Int) (A : Nat → Int → Int) (hI : cSI I) (hA : cSA A) (f0 : jF) (sz : Nat)   : ∀ (n9 : Nat) (n : Int) (g : Int) (v : Int) (J : Nat → Nat → Int) (B : Nat → Int → Int), cPo [] [] I A J B → (-2 ≤ n ∧ n ≤ 11 ∧ n ≠ -1) → (-9223372036854775808 ≤ g ∧ g ≤ 9223372036854775807) → (0 ≤ v ∧ v ≤ 12) → 12 - v < (n9 : Int) → jt (jm G Y_VA_chooseSolved (gR (d + 1)) (cQ b f0 sz (fun (rv : Option Value) (I2 : Nat → Nat → Int) (A2 : Nat → Int → Int) => ∃ y : Int, rv = some (.int (jI y)) ∧ (-2 ≤ y ∧ y ≤ 11 ∧ y ≠ -1) ∧ cPo [] [] I A I2 A2))) 8 [(0, .ref (b + 43)), (1, .int (jI n)), (2, .long (jL g)), (4, .int (jI v))] [] (cmf b f0 J B) sz 0 0 := by
  intro n9
  induction n9 with
  | zero =>
    intro n g v J B hJ n0 g0 v0 hmeas
    exfalso
    omega
  | succ n9 ih =>
    intro n g v J B hJ n0 g0 v0 hmeas
    refine jt_iload d_VA_chooseSolved_8 rfl ?_
    refine jt_bipush d_VA_chooseSolved_10 (by omega) ?_
    refine jt_icmp_ge (t := 67) d_VA_chooseSolved_12 rfl (by unfold jRi; omega) (by unfold jRi; omega) (fun c101 => ?_) (fun c101 => ?_)
    · skip
      refine jt_iload_n d_VA_chooseSolved_67 rfl ?_
      exact cm_ret d_VA_chooseSolved_68 rfl rfl (⟨n, rfl, by omega, hJ⟩)
    · skip
      refine jt_aload_n d_VA_chooseSolved_15 rfl ?_
      refine cm_get (k := 43) (v := .ref (b + 70)) d_VA_chooseSolved_16 VA_f26 (by decide) (cc_4 rfl) rfl ?_
      refine cm_get (k := 70) (v := .ref (b + 71)) d_VA_chooseSolved_19 VA_f54 (by decide) (cc_5 rfl) rfl ?_
      refine jt_iload d_VA_chooseSolved_22 rfl ?_
      refine cm_ld1 (k := 71) (n := 13) (v := (B 71) v) d_VA_chooseSolved_24 (by decide) rfl rfl (by omega) (by omega) (by omega) rfl ?_
      refine jt_topl (fun v102 ev102 => ?_)
      have bv102 : -9223372036854775808 ≤ v102 ∧ v102 ≤ 9223372036854775807 := by rw [ev102]; exact hJ.2.1 71 v
      refine jt_labs d_VA_chooseSolved_25 mw_abs (by unfold jRl; omega) (show 1 ≤ d + 1 by omega) (show 0 + 13 ≤ (d + 1) * 40 by omega) (Nat.le_refl _) (Nat.le_refl _) ?_
      refine jt_toplw (fun v103 bv103 => ?_)
      refine jt_lstore (L' := [(0, .ref (b + 43)), (1, .int (jI n)), (2, .long (jL g)), (4, .int (jI v)), (5, .long (jL v103))]) d_VA_chooseSolved_28 (Nat.le_of_ble_eq_true rfl) rfl ?_
      refine jt_lload d_VA_chooseSolved_30 rfl ?_
      refine cct_callS (Y := Y_Lo_bitCount) (As := [.long (jL v103)]) (rest := []) d_VA_chooseSolved_32 VA_c76 yk_Lo_bitCount ys_Lo_bitCount (Nat.le_of_ble_eq_true rfl) rfl rfl (Nat.le_of_ble_eq_true rfl) (v_Lo_bitCount G _ b v103 J B hJ.1 hJ.2.1 (by omega)) (fun rvq104 Iq104 Aq104 hq104 => ?_)
      obtain ⟨yq104, rfl, ryq104, hqq104⟩ := hq104
      have hpq104 := cPo.trans hJ hqq104 rfl rfl
      show jt _ 35 [(0, .ref (b + 43)), (1, .int (jI n)), (2, .long (jL g)), (4, .int (jI v)), (5, .long (jL v103))] [.int (jI yq104)] (cmf b f0 Iq104 Aq104) _ _ _
      refine jt_iconst d_VA_chooseSolved_35 ?_
      refine jt_icmp_ne (t := 61) d_VA_chooseSolved_36 rfl (by unfold jRi; omega) (by unfold jRi; omega) (fun c105 => ?_) (fun c105 => ?_)
      · skip
        refine jt_iinc (L' := [(0, .ref (b + 43)), (1, .int (jI n)), (2, .long (jL g)), (4, .int (jI (v + 1))), (5, .long (jL v103))]) d_VA_chooseSolved_61 rfl (Nat.le_of_ble_eq_true rfl) rfl ?_
        refine jt_goto (t := 8) d_VA_chooseSolved_64 rfl ?_
        refine jt_sub (L' := [(0, .ref (b + 43)), (1, .int (jI n)), (2, .long (jL g)), (4, .int (jI (v + 1)))]) (fun _ h => List.mem_append_left [(5, Value.long (jL v103))] h) ?_
        exact ih n g (v + 1) Iq104 Aq104 hpq104 (by omega) (by omega) (by omega) (by omega)
      · skip
        refine jt_lload d_VA_chooseSolved_39 rfl ?_
        refine jt_ldc2 (z := 68719476736) d_VA_chooseSolved_41 VA_k82 ?_
        refine jt_lif_gt (t := 61) d_VA_chooseSolved_44 d_VA_chooseSolved_45 rfl (by unfold jRl; omega) (by unfold jRl; omega) (fun c106 => ?_) (fun c106 => ?_)
        · skip
          refine jt_iinc (L' := [(0, .ref (b + 43)), (1, .int (jI n)), (2, .long (jL g)), (4, .int (jI (v + 1))), (5, .long (jL v103))]) d_VA_chooseSolved_61 rfl (Nat.le_of_ble_eq_true rfl) rfl ?_
          refine jt_goto (t := 8) d_VA_chooseSolved_64 rfl ?_
          refine jt_sub (L' := [(0, .ref (b + 43)), (1, .int (jI n)), (2, .long (jL g)), (4, .int (jI (v + 1)))]) (fun _ h => List.mem_append_left [(5, Value.long (jL v103))] h) ?_
          exact ih n g (v + 1) Iq104 Aq104 hpq104 (by omega) (by omega) (by omega) (by omega)
        · skip
          refine jt_lload d_VA_chooseSolved_48 rfl ?_
          refine jt_lload_n d_VA_chooseSolved_50 rfl ?_
          refine jt_lif_le (t := 61) d_VA_chooseSolved_51 d_VA_chooseSolved_52 rfl (by unfold jRl; omega) (by unfold jRl; omega) (fun c107 => ?_) (fun c107 => ?_)
          · skip
            refine jt_iinc (L' := [(0, .ref (b + 43)), (1, .int (jI n)), (2, .long (jL g)), (4, .int (jI (v + 1))), (5, .long (jL v103))]) d_VA_chooseSolved_61 rfl (Nat.le_of_ble_eq_true rfl) rfl ?_
            refine jt_goto (t := 8) d_VA_chooseSolved_64 rfl ?_
            refine jt_sub (L' := [(0, .ref (b + 43)), (1, .int (jI n)), (2, .long (jL g)), (4, .int (jI (v + 1)))]) (fun _ h => List.mem_append_left [(5, Value.long (jL v103))] h) ?_
            exact ih n g (v + 1) Iq104 Aq104 hpq104 (by omega) (by omega) (by omega) (by omega)
          · skip
            refine jt_iload d_VA_chooseSolved_55 rfl ?_
            refine jt_istore_n (L' := [(0, .ref (b + 43)), (1, .int (jI v)), (2, .long (jL g)), (4, .int (jI v)), (5, .long (jL v103))]) d_VA_chooseSolved_57 (Nat.le_of_ble_eq_true rfl) rfl ?_
            refine jt_lload d_VA_chooseSolved_58 rfl ?_
            refine jt_lstore_n (L' := [(0, .ref (b + 43)), (1, .int (jI v)), (2, .long (jL v103)), (4, .int (jI v)), (5, .long (jL v103))]) d_VA_chooseSolved_60 (Nat.le_of_ble_eq_true rfl) rfl ?_
            refine jt_iinc (L' := [(0, .ref (b + 43)), (1, .int (jI v)), (2, .long (jL v103)), (4, .int (jI (v + 1))), (5, .long (jL v103))]) d_VA_chooseSolved_61 rfl (Nat.le_of_ble_eq_true rfl) rfl ?_
            refine jt_goto (t := 8) d_VA_chooseSolved_64 rfl ?_
            refine jt_sub (L' := [(0, .ref (b + 43)), (1, .int (jI v)), (2, .long (jL v103)), (4, .int (jI (v + 1)))]) (fun _ h => List.mem_append_left [(5, Value.long (jL v103))] h) ?_
            exact ih v v103 (v + 1) Iq104 Aq104 hpq104 (by omega) (by omega) (by omega) (by omega)
set_option maxRecDepth 100000 in
set_option maxHeartbeats 4000000 in
theorem v_VA_chooseSolved (G : jG) (d b : Nat)  (I : Nat → Nat → Int) (A : Nat → Int → Int) (hI : cSI I) (hA : cSA A) : cct G Y_VA_chooseSolved (d + 1) b [.ref (b + 43)] I A (fun (rv : Option Value) (I2 : Nat → Nat → Int) (A2 : Nat → Int → Int) => ∃ y : Int, rv = some (.int (jI y)) ∧ (-2 ≤ y ∧ y ≤ 11 ∧ y ≠ -1) ∧ cPo [] [] I A I2 A2) := by
  refine cct_of (by decide) (Nat.le_of_ble_eq_true rfl) (fun f0 sz => ?_)
  show jt _ 0 [(0, .ref (b + 43))] [] _ _ _ _
  have hz0 : cPo [] [] I A I A := cPo.refl hI hA
  refine jt_bipush d_VA_chooseSolved_0 (by omega) ?_
  refine jt_istore_n (L' := [(0, .ref (b + 43)), (1, .int (jI (-2)))]) d_VA_chooseSolved_2 (Nat.le_of_ble_eq_true rfl) rfl ?_
  refine jt_lconst (z := 0) d_VA_chooseSolved_3 (by decide) ?_
  refine jt_lstore_n (L' := [(0, .ref (b + 43)), (1, .int (jI (-2))), (2, .long (jL 0))]) d_VA_chooseSolved_4 (Nat.le_of_ble_eq_true rfl) rfl ?_
  refine jt_iconst d_VA_chooseSolved_5 ?_
  refine jt_istore (L' := [(0, .ref (b + 43)), (1, .int (jI (-2))), (2, .long (jL 0)), (4, .int (jI 0))]) d_VA_chooseSolved_6 (Nat.le_of_ble_eq_true rfl) rfl ?_
  exact l8_VA_chooseSolvedv G d b  I A hI hA f0 sz  13 (-2) 0 0 I A hz0 (by omega) (by omega) (by omega) (by omega)
set_option maxRecDepth 100000 in
set_option maxHeartbeats 4000000 in
theorem v_VA_equate (G : jG) (d b : Nat) (p : Nat) (q : Nat) (I : Nat → Nat → Int) (A : Nat → Int → Int) (hI : cSI I) (hA : cSA A) (k_p : p < 472) (k5p : ck p = 5) (k_q : q < 472) (k5q : ck q = 5) : cct G Y_VA_equate (d + 3) b [.ref (b + 43), .ref (b + p), .ref (b + q)] I A (fun (rv : Option Value) (I2 : Nat → Nat → Int) (A2 : Nat → Int → Int) => ∃ y : Int, rv = some (.int (jI y)) ∧ (-2147483648 ≤ y ∧ y ≤ 2147483647) ∧ cPo [] [44] I A I2 A2) := by
  refine cct_of (by decide) (Nat.le_of_ble_eq_true rfl) (fun f0 sz => ?_)
  show jt _ 0 [(0, .ref (b + 43)), (1, .ref (b + p)), (2, .ref (b + q))] [] _ _ _ _
  have fpp := form_parts p k_p k5p
  have glp := eLong k_p k5p
  have fpq := form_parts q k_q k5q
  have glq := eLong k_q k5q
  have hz0 : cPo [] [44] I A I A := cPo.refl hI hA
  refine jt_aload_n d_VA_equate_0 rfl ?_
  refine cm_get (k := 43) (v := .ref (b + 70)) d_VA_equate_1 VA_f26 (by decide) (cc_4 rfl) rfl ?_
  refine jt_aload_n d_VA_equate_4 rfl ?_
  refine jt_aload_n d_VA_equate_5 rfl ?_
  refine cm_get (k := 43) (v := .ref (b + 45)) d_VA_equate_6 VA_f21 (by decide) (cc_4 rfl) rfl ?_
  refine cct_callV (Y := Y_FO_setReplaced) (ci := 4) (k := 70) (As := [.ref (b + p), .ref (b + 45)]) (rest := []) d_VA_equate_9 VA_c43 yk_FO_setReplaced yv_FO_setReplaced rfl (Nat.le_of_ble_eq_true rfl) (by decide) (cc_5 rfl) rfl rfl (Nat.le_of_ble_eq_true rfl) (v_FO_setReplaced G _ b 70 p I A hz0.1 hz0.2.1 (by decide) rfl k_p k5p ) (fun rvq1 Iq1 Aq1 hq1 => ?_)
  obtain ⟨yq1, rfl, ryq1, hqq1⟩ := hq1
  have hpq1 := cPo.trans hz0 hqq1 rfl rfl
  show jt _ 12 [(0, .ref (b + 43)), (1, .ref (b + p)), (2, .ref (b + q))] [.int (jI yq1)] (cmf b f0 Iq1 Aq1) _ _ _
  refine jt_if_eq (t := 30) d_VA_equate_12 rfl (by unfold jRi; omega) (fun c2 => ?_) (fun c2 => ?_)
  · skip
    refine jt_bipush d_VA_equate_30 (by omega) ?_
    exact cm_ret d_VA_equate_32 rfl rfl (⟨-9, rfl, by omega, hpq1⟩)
  · skip
    refine jt_aload_n d_VA_equate_15 rfl ?_
    refine cm_get (k := 43) (v := .ref (b + 72)) d_VA_equate_16 VA_f30 (by decide) (cc_4 rfl) rfl ?_
    refine jt_aload_n d_VA_equate_19 rfl ?_
    refine jt_aload_n d_VA_equate_20 rfl ?_
    refine cm_get (k := 43) (v := .ref (b + 45)) d_VA_equate_21 VA_f21 (by decide) (cc_4 rfl) rfl ?_
    refine cct_callV (Y := Y_FO_setReplaced) (ci := 4) (k := 72) (As := [.ref (b + q), .ref (b + 45)]) (rest := []) d_VA_equate_24 VA_c43 yk_FO_setReplaced yv_FO_setReplaced rfl (Nat.le_of_ble_eq_true rfl) (by decide) (cc_5 rfl) rfl rfl (Nat.le_of_ble_eq_true rfl) (v_FO_setReplaced G _ b 72 q Iq1 Aq1 hpq1.1 hpq1.2.1 (by decide) rfl k_q k5q ) (fun rvq3 Iq3 Aq3 hq3 => ?_)
    obtain ⟨yq3, rfl, ryq3, hqq3⟩ := hq3
    have hpq3 := cPo.trans hpq1 hqq3 rfl rfl
    show jt _ 27 [(0, .ref (b + 43)), (1, .ref (b + p)), (2, .ref (b + q))] [.int (jI yq3)] (cmf b f0 Iq3 Aq3) _ _ _
    refine jt_if_ne (t := 33) d_VA_equate_27 rfl (by unfold jRi; omega) (fun c4 => ?_) (fun c4 => ?_)
    · skip
      refine jt_aload_n d_VA_equate_33 rfl ?_
      refine cm_get (k := 43) (v := .ref (b + 70)) d_VA_equate_34 VA_f26 (by decide) (cc_4 rfl) rfl ?_
      refine jt_aload_n d_VA_equate_37 rfl ?_
      refine cm_get (k := 43) (v := .ref (b + 72)) d_VA_equate_38 VA_f30 (by decide) (cc_4 rfl) rfl ?_
      refine cct_callV (Y := Y_FO_subtract) (ci := 4) (k := 70) (As := [.ref (b + 72)]) (rest := []) d_VA_equate_41 VA_c47 yk_FO_subtract yv_FO_subtract rfl (Nat.le_of_ble_eq_true rfl) (by decide) (cc_5 rfl) rfl rfl (Nat.le_of_ble_eq_true rfl) (v_FO_subtract G _ b 70 72 Iq3 Aq3 hpq3.1 hpq3.2.1 (by decide) rfl (by decide) rfl ) (fun rvq5 Iq5 Aq5 hq5 => ?_)
      obtain ⟨rfl, hqq5⟩ := hq5
      have hpq5 := cPo.trans hpq3 hqq5 rfl rfl
      show jt _ 44 [(0, .ref (b + 43)), (1, .ref (b + p)), (2, .ref (b + q))] [] (cmf b f0 Iq5 Aq5) _ _ _
      refine jt_aload_n d_VA_equate_44 rfl ?_
      refine cm_get (k := 43) (v := .ref (b + 70)) d_VA_equate_45 VA_f26 (by decide) (cc_4 rfl) rfl ?_
      refine cct_callV (Y := Y_FO_isPlain) (ci := 4) (k := 70) (As := []) (rest := []) d_VA_equate_48 VA_c50 yk_FO_isPlain yv_FO_isPlain rfl (Nat.le_of_ble_eq_true rfl) (by decide) (cc_5 rfl) rfl rfl (Nat.le_of_ble_eq_true rfl) (v_FO_isPlain G _ b 70 Iq5 Aq5 hpq5.1 hpq5.2.1 (by decide) rfl ) (fun rvq6 Iq6 Aq6 hq6 => ?_)
      obtain ⟨yq6, rfl, ryq6, hqq6⟩ := hq6
      have hpq6 := cPo.trans hpq5 hqq6 rfl rfl
      show jt _ 51 [(0, .ref (b + 43)), (1, .ref (b + p)), (2, .ref (b + q))] [.int (jI yq6)] (cmf b f0 Iq6 Aq6) _ _ _
      refine jt_if_eq (t := 76) d_VA_equate_51 rfl (by unfold jRi; omega) (fun c7 => ?_) (fun c7 => ?_)
      · skip
        refine jt_aload_n d_VA_equate_76 rfl ?_
        refine cct_callV (Y := Y_VA_chooseSolved) (ci := 3) (k := 43) (As := []) (rest := []) d_VA_equate_77 VA_c58 yk_VA_chooseSolved yv_VA_chooseSolved rfl (Nat.le_of_ble_eq_true rfl) (by decide) (cc_4 rfl) rfl rfl (Nat.le_of_ble_eq_true rfl) (v_VA_chooseSolved G _ b  Iq6 Aq6 hpq6.1 hpq6.2.1 ) (fun rvq8 Iq8 Aq8 hq8 => ?_)
        obtain ⟨yq8, rfl, ryq8, hqq8⟩ := hq8
        have hpq8 := cPo.trans hpq6 hqq8 rfl rfl
        show jt _ 80 [(0, .ref (b + 43)), (1, .ref (b + p)), (2, .ref (b + q))] [.int (jI yq8)] (cmf b f0 Iq8 Aq8) _ _ _
        refine jt_istore_n (L' := [(0, .ref (b + 43)), (1, .ref (b + p)), (2, .ref (b + q)), (3, .int (jI yq8))]) d_VA_equate_80 (Nat.le_of_ble_eq_true rfl) rfl ?_
        refine jt_iload_n d_VA_equate_81 rfl ?_
        refine jt_bipush d_VA_equate_82 (by omega) ?_
        refine jt_icmp_ne (t := 90) d_VA_equate_84 rfl (by unfold jRi; omega) (by unfold jRi; omega) (fun c9 => ?_) (fun c9 => ?_)
        · skip
          refine jt_aload_n d_VA_equate_90 rfl ?_
          refine cm_get (k := 43) (v := .ref (b + 45)) d_VA_equate_91 VA_f21 (by decide) (cc_4 rfl) rfl ?_
          refine jt_iload_n d_VA_equate_94 rfl ?_
          refine cm_ldF (k := 45) (n := 12) (z := yq8) d_VA_equate_95 (by decide) rfl rfl (by omega) (by omega) (by omega) ?_
          have hfq10 := form_at 45 (by decide) rfl (yq8 : Int).toNat (show (yq8 : Int).toNat < 12 by omega)
          generalize 45 + 1 + 2 * (yq8 : Int).toNat = q10 at hfq10 ⊢
          have fpq10 := form_parts q10 hfq10.2 hfq10.1
          have glq10 := eLong hfq10.2 hfq10.1
          refine jt_aload_n d_VA_equate_96 rfl ?_
          refine cm_get (k := 43) (v := .ref (b + 70)) d_VA_equate_97 VA_f26 (by decide) (cc_4 rfl) rfl ?_
          refine jt_iload_n d_VA_equate_100 rfl ?_
          refine cct_callV (Y := Y_FO_setSolved) (ci := 4) (k := q10) (As := [.ref (b + 70), .int (jI yq8)]) (rest := []) d_VA_equate_101 VA_c62 yk_FO_setSolved yv_FO_setSolved rfl (Nat.le_of_ble_eq_true rfl) hfq10.2 (cc_5 hfq10.1) rfl rfl (Nat.le_of_ble_eq_true rfl) (v_FO_setSolved G _ b q10 70 yq8 Iq8 Aq8 hpq8.1 hpq8.2.1 hfq10.2 hfq10.1 (by decide) rfl (by omega)) (fun rvq11 Iq11 Aq11 hq11 => ?_)
          obtain ⟨yq11, rfl, ryq11, hqq11⟩ := hq11
          have hpq11 := cPo.trans hpq8 hqq11 rfl rfl
          show jt _ 104 [(0, .ref (b + 43)), (1, .ref (b + p)), (2, .ref (b + q)), (3, .int (jI yq8))] [.int (jI yq11)] (cmf b f0 Iq11 Aq11) _ _ _
          refine jt_if_eq (t := 119) d_VA_equate_104 rfl (by unfold jRi; omega) (fun c12 => ?_) (fun c12 => ?_)
          · skip
            refine jt_bipush d_VA_equate_119 (by omega) ?_
            exact cm_ret d_VA_equate_121 rfl rfl (⟨-9, rfl, by omega, hpq11⟩)
          · skip
            refine jt_aload_n d_VA_equate_107 rfl ?_
            refine jt_iload_n d_VA_equate_108 rfl ?_
            refine cct_callV (Y := Y_VA_replaceInAll) (ci := 3) (k := 43) (As := [.int (jI yq8)]) (rest := []) d_VA_equate_109 VA_c66 yk_VA_replaceInAll yv_VA_replaceInAll rfl (Nat.le_of_ble_eq_true rfl) (by decide) (cc_4 rfl) rfl rfl (Nat.le_of_ble_eq_true rfl) (v_VA_replaceInAll G _ b yq8 Iq11 Aq11 hpq11.1 hpq11.2.1 (by omega)) (fun rvq13 Iq13 Aq13 hq13 => ?_)
            obtain ⟨yq13, rfl, ryq13, hqq13⟩ := hq13
            have hpq13 := cPo.trans hpq11 hqq13 rfl rfl
            show jt _ 112 [(0, .ref (b + 43)), (1, .ref (b + p)), (2, .ref (b + q)), (3, .int (jI yq8))] [.int (jI yq13)] (cmf b f0 Iq13 Aq13) _ _ _
            refine jt_if_eq (t := 119) d_VA_equate_112 rfl (by unfold jRi; omega) (fun c14 => ?_) (fun c14 => ?_)
            · skip
              refine jt_bipush d_VA_equate_119 (by omega) ?_
              exact cm_ret d_VA_equate_121 rfl rfl (⟨-9, rfl, by omega, hpq13⟩)
            · skip
              refine jt_iconst d_VA_equate_115 ?_
              refine jt_goto (t := 121) d_VA_equate_116 rfl ?_
              exact cm_ret d_VA_equate_121 rfl rfl (⟨0, rfl, by omega, hpq13⟩)
        · skip
          refine jt_bipush d_VA_equate_87 (by omega) ?_
          exact cm_ret d_VA_equate_89 rfl rfl (⟨-11, rfl, by omega, hpq8⟩)
      · skip
        refine jt_aload_n d_VA_equate_54 rfl ?_
        refine cm_get (k := 43) (v := .ref (b + 70)) d_VA_equate_55 VA_f26 (by decide) (cc_4 rfl) rfl ?_
        refine cm_get (k := 70) (v := .ref (b + 71)) d_VA_equate_58 VA_f54 (by decide) (cc_5 rfl) rfl ?_
        refine jt_bipush d_VA_equate_61 (by omega) ?_
        refine cm_ld1 (k := 71) (n := 13) (v := (Aq6 71) 12) d_VA_equate_63 (by decide) rfl rfl (by omega) (by omega) (by omega) rfl ?_
        refine jt_topl (fun v15 ev15 => ?_)
        have bv15 : -9223372036854775808 ≤ v15 ∧ v15 ≤ 9223372036854775807 := by rw [ev15]; exact hpq6.2.1 71 12
        refine jt_lconst (z := 0) d_VA_equate_64 (by decide) ?_
        refine jt_lif_ne (t := 73) d_VA_equate_65 d_VA_equate_66 rfl (by unfold jRl; omega) (by unfold jRl; omega) (fun c16 => ?_) (fun c16 => ?_)
        · skip
          refine jt_bipush d_VA_equate_73 (by omega) ?_
          exact cm_ret d_VA_equate_75 rfl rfl (⟨-10, rfl, by omega, hpq6⟩)
        · skip
          refine jt_iconst d_VA_equate_69 ?_
          refine jt_goto (t := 75) d_VA_equate_70 rfl ?_
          exact cm_ret d_VA_equate_75 rfl rfl (⟨0, rfl, by omega, hpq6⟩)
    · skip
      refine jt_bipush d_VA_equate_30 (by omega) ?_
      exact cm_ret d_VA_equate_32 rfl rfl (⟨-9, rfl, by omega, hpq3⟩)
set_option maxRecDepth 100000 in
set_option maxHeartbeats 4000000 in
theorem l48_PI_paintv (G : jG) (d b : Nat) (c : Int) (I : Nat → Nat → Int) (A : Nat → Int → Int) (hI : cSI I) (hA : cSA A) (hc : 0 ≤ c ∧ c ≤ 1) (f0 : jF) (sz : Nat)  (j : Int) (j0 : 0 ≤ j ∧ j < 24) (hout : ∀ (i : Int) (J : Nat → Nat → Int) (B : Nat → Int → Int), cPo [] [469, 470] I A J B → (0 ≤ i ∧ i ≤ 32) → jt (jm G Y_PI_paint (gR (d + 2)) (cQ b f0 sz (fun (rv : Option Value) (I2 : Nat → Nat → Int) (A2 : Nat → Int → Int) => rv = none ∧ cPo [] [469, 470] I A I2 A2))) 84 [(0, .ref (b + 468)), (1, .ref (b + 464)), (2, .int (jI c)), (3, .int (jI j)), (4, .int (jI i))] [] (cmf b f0 J B) sz 0 0) : ∀ (n9 : Nat) (i : Int) (J : Nat → Nat → Int) (B : Nat → Int → Int), cPo [] [469, 470] I A J B → (0 ≤ i ∧ i ≤ 32) → 32 - i < (n9 : Int) → jt (jm G Y_PI_paint (gR (d + 2)) (cQ b f0 sz (fun (rv : Option Value) (I2 : Nat → Nat → Int) (A2 : Nat → Int → Int) => rv = none ∧ cPo [] [469, 470] I A I2 A2))) 48 [(0, .ref (b + 468)), (1, .ref (b + 464)), (2, .int (jI c)), (3, .int (jI j)), (4, .int (jI i))] [] (cmf b f0 J B) sz 0 0 := by
  intro n9
  induction n9 with
  | zero =>
    intro i J B hJ i0 hmeas
    exfalso
    omega
  | succ n9 ih =>
    intro i J B hJ i0 hmeas
    refine jt_iload d_PI_paint_48 rfl ?_
    refine jt_bipush d_PI_paint_50 (by omega) ?_
    refine jt_icmp_ge (t := 84) d_PI_paint_52 rfl (by unfold jRi; omega) (by unfold jRi; omega) (fun c101 => ?_) (fun c101 => ?_)
    · skip
      exact hout i J B hJ i0 
    · skip
      refine jt_aload_n d_PI_paint_55 rfl ?_
      refine cm_get (k := 468) (v := .ref (b + 470)) d_PI_paint_56 PI_f15 (by decide) cc_7 rfl ?_
      refine jt_iload d_PI_paint_59 rfl ?_
      refine cm_ld0 (k := 470) (n := 32) (v := (B 470) i) d_PI_paint_61 (by decide) rfl rfl (by omega) (by omega) (by omega) rfl ?_
      refine jt_topi (fun v102 ev102 => ?_)
      have bv102 : -2147483648 ≤ v102 ∧ v102 ≤ 2147483647 := by rw [ev102]; exact hJ.2.1 470 i
      refine jt_if_eq (t := 78) d_PI_paint_62 rfl (by unfold jRi; omega) (fun c103 => ?_) (fun c103 => ?_)
      · skip
        refine jt_iinc (L' := [(0, .ref (b + 468)), (1, .ref (b + 464)), (2, .int (jI c)), (3, .int (jI j)), (4, .int (jI (i + 1)))]) d_PI_paint_78 rfl (Nat.le_of_ble_eq_true rfl) rfl ?_
        refine jt_goto (t := 48) d_PI_paint_81 rfl ?_
        exact ih (i + 1) J B hJ (by omega) (by omega)
      · skip
        refine jt_aload_n d_PI_paint_65 rfl ?_
        refine cm_get (k := 468) (v := .ref (b + 469)) d_PI_paint_66 PI_f9 (by decide) cc_7 rfl ?_
        refine jt_iload_n d_PI_paint_69 rfl ?_
        refine jt_bipush d_PI_paint_70 (by omega) ?_
        refine jt_imul d_PI_paint_72 ?_
        refine jt_iload d_PI_paint_73 rfl ?_
        refine jt_iadd d_PI_paint_75 ?_
        refine jt_iload_n d_PI_paint_76 rfl ?_
        refine cm_st2 (k := 469) (n := 768) (v := c) d_PI_paint_77 (by decide) rfl rfl (by omega) (by omega) (by omega) (by omega) ?_
        have p104 := cPo.A 469 (ju (B 469) ((j * 32) + i) c) hJ (Or.inl rfl) (gju (hJ.2.1 469) (show 0 ≤ c ∧ c ≤ 1 by omega))
        refine jt_iinc (L' := [(0, .ref (b + 468)), (1, .ref (b + 464)), (2, .int (jI c)), (3, .int (jI j)), (4, .int (jI (i + 1)))]) d_PI_paint_78 rfl (Nat.le_of_ble_eq_true rfl) rfl ?_
        refine jt_goto (t := 48) d_PI_paint_81 rfl ?_
        exact ih (i + 1) J (va_up B 469 (ju (B 469) ((j * 32) + i) c)) p104 (by omega) (by omega)
set_option maxRecDepth 100000 in
set_option maxHeartbeats 4000000 in
theorem l19_PI_paintv (G : jG) (d b : Nat) (c : Int) (I : Nat → Nat → Int) (A : Nat → Int → Int) (hI : cSI I) (hA : cSA A) (hc : 0 ≤ c ∧ c ≤ 1) (f0 : jF) (sz : Nat)  (j : Int) (j0 : 0 ≤ j ∧ j < 24) (hout : ∀ (e : Int) (J : Nat → Nat → Int) (B : Nat → Int → Int), cPo [] [469, 470] I A J B → (1 ≤ e ∧ e ≤ 98) → jt (jm G Y_PI_paint (gR (d + 2)) (cQ b f0 sz (fun (rv : Option Value) (I2 : Nat → Nat → Int) (A2 : Nat → Int → Int) => rv = none ∧ cPo [] [469, 470] I A I2 A2))) 45 [(0, .ref (b + 468)), (1, .ref (b + 464)), (2, .int (jI c)), (3, .int (jI j)), (4, .int (jI e))] [] (cmf b f0 J B) sz 0 0) : ∀ (n9 : Nat) (e : Int) (J : Nat → Nat → Int) (B : Nat → Int → Int), cPo [] [469, 470] I A J B → (1 ≤ e ∧ e ≤ 98) → 98 - e < (n9 : Int) → jt (jm G Y_PI_paint (gR (d + 2)) (cQ b f0 sz (fun (rv : Option Value) (I2 : Nat → Nat → Int) (A2 : Nat → Int → Int) => rv = none ∧ cPo [] [469, 470] I A I2 A2))) 19 [(0, .ref (b + 468)), (1, .ref (b + 464)), (2, .int (jI c)), (3, .int (jI j)), (4, .int (jI e))] [] (cmf b f0 J B) sz 0 0 := by
  intro n9
  induction n9 with
  | zero =>
    intro e J B hJ e0 hmeas
    have r464 : 0 ≤ J 464 3 ∧ J 464 3 ≤ 98 := hJ.1 464 3
    exfalso
    omega
  | succ n9 ih =>
    intro e J B hJ e0 hmeas
    have r464 : 0 ≤ J 464 3 ∧ J 464 3 ≤ 98 := hJ.1 464 3
    refine jt_iload d_PI_paint_19 rfl ?_
    refine jt_aload_n d_PI_paint_21 rfl ?_
    refine cm_get (k := 464) (v := .int (jI (J 464 3))) d_PI_paint_22 PI_f25 (by decide) cc_6 rfl ?_
    have rb201 : 0 ≤ J 464 3 ∧ J 464 3 ≤ 98 := hJ.1 464 3
    refine jt_icmp_ge (t := 45) d_PI_paint_25 rfl (by unfold jRi; omega) (by unfold jRi; omega) (fun c202 => ?_) (fun c202 => ?_)
    · skip
      exact hout e J B hJ e0 
    · skip
      refine jt_aload_n d_PI_paint_28 rfl ?_
      refine jt_aload_n d_PI_paint_29 rfl ?_
      refine jt_iload d_PI_paint_30 rfl ?_
      refine jt_iload_n d_PI_paint_32 rfl ?_
      refine cct_callS (Y := Y_PI_middle) (As := [.int (jI j)]) (rest := [.int (jI e), .ref (b + 464), .ref (b + 468)]) d_PI_paint_33 PI_c30 yk_PI_middle ys_PI_middle (Nat.le_of_ble_eq_true rfl) rfl rfl (Nat.le_of_ble_eq_true rfl) (v_PI_middle G _ b j J B hJ.1 hJ.2.1 (by omega)) (fun rvq203 Iq203 Aq203 hq203 => ?_)
      obtain ⟨yq203, rfl, ryq203, hqq203⟩ := hq203
      have hpq203 := cPo.trans hJ hqq203 rfl rfl
      show jt _ 36 [(0, .ref (b + 468)), (1, .ref (b + 464)), (2, .int (jI c)), (3, .int (jI j)), (4, .int (jI e))] [.long (jL yq203), .int (jI e), .ref (b + 464), .ref (b + 468)] (cmf b f0 Iq203 Aq203) _ _ _
      refine cct_callV (Y := Y_PI_wind) (ci := 6) (k := 468) (As := [.ref (b + 464), .int (jI e), .long (jL yq203)]) (rest := []) d_PI_paint_36 PI_c34 yk_PI_wind yv_PI_wind rfl (Nat.le_of_ble_eq_true rfl) (by decide) cc_7 rfl rfl (Nat.le_of_ble_eq_true rfl) (v_PI_wind G _ b e yq203 Iq203 Aq203 hpq203.1 hpq203.2.1 (by omega) (by omega)) (fun rvq204 Iq204 Aq204 hq204 => ?_)
      obtain ⟨rfl, hqq204⟩ := hq204
      have hpq204 := cPo.trans hpq203 hqq204 rfl rfl
      show jt _ 39 [(0, .ref (b + 468)), (1, .ref (b + 464)), (2, .int (jI c)), (3, .int (jI j)), (4, .int (jI e))] [] (cmf b f0 Iq204 Aq204) _ _ _
      refine jt_iinc (L' := [(0, .ref (b + 468)), (1, .ref (b + 464)), (2, .int (jI c)), (3, .int (jI j)), (4, .int (jI (e + 1)))]) d_PI_paint_39 rfl (Nat.le_of_ble_eq_true rfl) rfl ?_
      refine jt_goto (t := 19) d_PI_paint_42 rfl ?_
      exact ih (e + 1) Iq204 Aq204 hpq204 (by omega) (by omega)
set_option maxRecDepth 100000 in
set_option maxHeartbeats 4000000 in
theorem l2_PI_paintv (G : jG) (d b : Nat) (c : Int) (I : Nat → Nat → Int) (A : Nat → Int → Int) (hI : cSI I) (hA : cSA A) (hc : 0 ≤ c ∧ c ≤ 1) (f0 : jF) (sz : Nat)   : ∀ (n9 : Nat) (j : Int) (J : Nat → Nat → Int) (B : Nat → Int → Int), cPo [] [469, 470] I A J B → (0 ≤ j ∧ j ≤ 24) → 24 - j < (n9 : Int) → jt (jm G Y_PI_paint (gR (d + 2)) (cQ b f0 sz (fun (rv : Option Value) (I2 : Nat → Nat → Int) (A2 : Nat → Int → Int) => rv = none ∧ cPo [] [469, 470] I A I2 A2))) 2 [(0, .ref (b + 468)), (1, .ref (b + 464)), (2, .int (jI c)), (3, .int (jI j))] [] (cmf b f0 J B) sz 0 0 := by
  intro n9
  induction n9 with
  | zero =>
    intro j J B hJ j0 hmeas
    exfalso
    omega
  | succ n9 ih =>
    intro j J B hJ j0 hmeas
    refine jt_iload_n d_PI_paint_2 rfl ?_
    refine jt_bipush d_PI_paint_3 (by omega) ?_
    refine jt_icmp_ge (t := 90) d_PI_paint_5 rfl (by unfold jRi; omega) (by unfold jRi; omega) (fun c301 => ?_) (fun c301 => ?_)
    · skip
      exact cm_vret d_PI_paint_90 rfl (⟨rfl, hJ⟩)
    · skip
      refine jt_aload_n d_PI_paint_8 rfl ?_
      refine cm_get (k := 468) (v := .ref (b + 470)) d_PI_paint_9 PI_f15 (by decide) cc_7 rfl ?_
      refine jt_iconst d_PI_paint_12 ?_
      refine cct_callS (Y := Y_Ar_fill) (As := [.ref (b + 470), .int (jI 0)]) (rest := []) d_PI_paint_13 PI_c19 yk_Ar_fill ys_Ar_fill (Nat.le_of_ble_eq_true rfl) rfl rfl (Nat.le_of_ble_eq_true rfl) (v_Ar_fill G _ b 0 J B hJ.1 hJ.2.1 (by omega)) (fun rvq302 Iq302 Aq302 hq302 => ?_)
      obtain ⟨rfl, hqq302⟩ := hq302
      have hpq302 := cPo.trans hJ hqq302 rfl rfl
      show jt _ 16 [(0, .ref (b + 468)), (1, .ref (b + 464)), (2, .int (jI c)), (3, .int (jI j))] [] (cmf b f0 Iq302 Aq302) _ _ _
      refine jt_iconst d_PI_paint_16 ?_
      refine jt_istore (L' := [(0, .ref (b + 468)), (1, .ref (b + 464)), (2, .int (jI c)), (3, .int (jI j)), (4, .int (jI 1))]) d_PI_paint_17 (Nat.le_of_ble_eq_true rfl) rfl ?_
      refine l19_PI_paintv G d b c I A hI hA hc f0 sz j ((by omega)) (fun eo303 Jo303 Bo303 hJo303 e0o303 => ?_) 98 1 Iq302 Aq302 hpq302 (by omega) (by omega)
      refine jt_iconst d_PI_paint_45 ?_
      refine jt_istore (L' := [(0, .ref (b + 468)), (1, .ref (b + 464)), (2, .int (jI c)), (3, .int (jI j)), (4, .int (jI 0))]) d_PI_paint_46 (Nat.le_of_ble_eq_true rfl) rfl ?_
      refine l48_PI_paintv G d b c I A hI hA hc f0 sz j ((by omega)) (fun io304 Jo304 Bo304 hJo304 i0o304 => ?_) 33 0 Jo303 Bo303 hJo303 (by omega) (by omega)
      refine jt_iinc (L' := [(0, .ref (b + 468)), (1, .ref (b + 464)), (2, .int (jI c)), (3, .int (jI (j + 1))), (4, .int (jI io304))]) d_PI_paint_84 rfl (Nat.le_of_ble_eq_true rfl) rfl ?_
      refine jt_goto (t := 2) d_PI_paint_87 rfl ?_
      refine jt_sub (L' := [(0, .ref (b + 468)), (1, .ref (b + 464)), (2, .int (jI c)), (3, .int (jI (j + 1)))]) (fun _ h => List.mem_append_left [(4, Value.int (jI io304))] h) ?_
      exact ih (j + 1) Jo304 Bo304 hJo304 (by omega) (by omega)
set_option maxRecDepth 100000 in
set_option maxHeartbeats 4000000 in
theorem v_PI_paint (G : jG) (d b : Nat) (c : Int) (I : Nat → Nat → Int) (A : Nat → Int → Int) (hI : cSI I) (hA : cSA A) (hc : 0 ≤ c ∧ c ≤ 1) : cct G Y_PI_paint (d + 2) b [.ref (b + 468), .ref (b + 464), .int (jI c)] I A (fun (rv : Option Value) (I2 : Nat → Nat → Int) (A2 : Nat → Int → Int) => rv = none ∧ cPo [] [469, 470] I A I2 A2) := by
  refine cct_of (by decide) (Nat.le_of_ble_eq_true rfl) (fun f0 sz => ?_)
  show jt _ 0 [(0, .ref (b + 468)), (1, .ref (b + 464)), (2, .int (jI c))] [] _ _ _ _
  have hz0 : cPo [] [469, 470] I A I A := cPo.refl hI hA
  refine jt_iconst d_PI_paint_0 ?_
  refine jt_istore_n (L' := [(0, .ref (b + 468)), (1, .ref (b + 464)), (2, .int (jI c)), (3, .int (jI 0))]) d_PI_paint_1 (Nat.le_of_ble_eq_true rfl) rfl ?_
  exact l2_PI_paintv G d b c I A hI hA hc f0 sz  25 0 I A hz0 (by omega) (by omega)

set_option maxRecDepth 100000 in
set_option maxHeartbeats 4000000 in
theorem v_PI_middle_x (G : jG) (d b : Nat) (i : Int) (I : Nat → Nat → Int) (A : Nat → Int → Int) (hI : cSI I) (hA : cSA A) (hi : 0 ≤ i ∧ i ≤ 31) : cct G Y_PI_middle d b [.int (jI i)] I A (fun (rv : Option Value) (I2 : Nat → Nat → Int) (A2 : Nat → Int → Int) => ∃ y : Int, rv = some (.long (jL y)) ∧ (0 ≤ y ∧ y ≤ 262144) ∧ I2 = I ∧ A2 = A ∧ y = pmd i) := by
  refine cct_of (by decide) (Nat.le_of_ble_eq_true rfl) (fun f0 sz => ?_)
  show jt _ 0 [(0, .int (jI i))] [] _ _ _ _
  have hz0 : cPx [] [] I A I A := cPx.refl hI hA
  refine jt_iload_n d_PI_middle_0 rfl ?_
  refine jt_sipush d_PI_middle_1 (by omega) ?_
  refine jt_imul d_PI_middle_4 ?_
  refine jt_sipush d_PI_middle_5 (by omega) ?_
  refine jt_iadd d_PI_middle_8 ?_
  refine jt_i2l d_PI_middle_9 (by unfold jRi; omega) ?_
  exact cm_lret d_PI_middle_10 rfl (⟨pmd i, rfl, by unfold pmd; omega, rfl, rfl, rfl⟩)
set_option maxRecDepth 100000 in
set_option maxHeartbeats 4000000 in
theorem l95_PI_wind_xv (G : jG) (d b : Nat) (e : Int) (y : Int) (I : Nat → Nat → Int) (A : Nat → Int → Int) (hI : cSI I) (hA : cSA A) (he : 1 ≤ e ∧ e < 98) (hy : 0 ≤ y ∧ y ≤ 262144) (t9 : Pc) (ht : A 466 (e - 1) = t9.1 ∧ A 467 (e - 1) = t9.2.1 ∧ A 466 e = t9.2.2.1 ∧ A 467 e = t9.2.2.2) (hi : pin t9) (hW : ∀ w : Int, 0 ≤ w → w < 32 → -100 ≤ A 470 w ∧ A 470 w ≤ 100) (f0 : jF) (sz : Nat)  (p : Int) (q : Int) (u : Int) (v : Int) (t : Int) (ep : p = t9.1) (eq : q = t9.2.1) (eu : u = t9.2.2.1) (ev : v = t9.2.2.2) (ht0 : (t = 1 ∧ t9.2.1 ≤ y ∧ y < t9.2.2.2) ∨ (t = -1 ∧ ¬ (t9.2.1 ≤ y ∧ y < t9.2.2.2) ∧ t9.2.2.2 ≤ y ∧ y < t9.2.1) ∨ (t = 0 ∧ ¬ (t9.2.1 ≤ y ∧ y < t9.2.2.2) ∧ ¬ (t9.2.2.2 ≤ y ∧ y < t9.2.1))) : ∀ (n9 : Nat) (s : Int) (i : Int) (J : Nat → Nat → Int) (B : Nat → Int → Int), cPx [] [470] I A J B → (0 ≤ s ∧ s ≤ 1) → (0 ≤ i ∧ i ≤ 32) → (s = 1 → ¬ t = 0) → (∀ w : Int, 0 ≤ w → w < i → B 470 w = A 470 w + pwd (pmd w) y t9) → (∀ w : Int, i ≤ w → w < 32 → B 470 w = A 470 w) → (s = 0 → ∀ w : Int, i ≤ w → pwd (pmd w) y t9 = 0) → 32 - i < (n9 : Int) → jt (jm G Y_PI_wind (gR (d + 1)) (cQ b f0 sz (fun (rv : Option Value) (I2 : Nat → Nat → Int) (A2 : Nat → Int → Int) => rv = none ∧ cPx [] [470] I A I2 A2 ∧ ∀ w : Int, 0 ≤ w → w < 32 → A2 470 w = A 470 w + pwd (pmd w) y t9))) 95 [(0, .ref (b + 468)), (1, .ref (b + 464)), (2, .int (jI e)), (3, .long (jL y)), (5, .long (jL p)), (7, .long (jL q)), (9, .long (jL u)), (11, .long (jL v)), (13, .int (jI t)), (14, .int (jI s)), (15, .int (jI i))] [] (cmf b f0 J B) sz 0 0 := by
  obtain ⟨i1, i2, i3, i4⟩ := id hi
  intro n9
  induction n9 with
  | zero =>
    intro s i J B hJ s0 i0 hst hd hr hs hmeas
    exfalso
    omega
  | succ n9 ih =>
    intro s i J B hJ s0 i0 hst hd hr hs hmeas
    refine jt_iload d_PI_wind_95 rfl ?_
    refine jt_bipush d_PI_wind_97 (by omega) ?_
    refine jt_icmp_ge (t := 171) d_PI_wind_99 rfl (by unfold jRi; omega) (by unfold jRi; omega) (fun c101 => ?_) (fun c101 => ?_)
    · skip
      exact cm_vret d_PI_wind_171 rfl (⟨rfl, hJ, fun w a c => by rcases Classical.em (w < i) with z | z; exact hd w a z; exact (by rw [hr w (by omega) c, hs (by omega) w (by omega)]; omega)⟩)
    · skip
      refine jt_iload d_PI_wind_102 rfl ?_
      refine jt_if_eq (t := 171) d_PI_wind_104 rfl (by unfold jRi; omega) (fun c102 => ?_) (fun c102 => ?_)
      · skip
        exact cm_vret d_PI_wind_171 rfl (⟨rfl, hJ, fun w a c => by rcases Classical.em (w < i) with z | z; exact hd w a z; exact (by rw [hr w (by omega) c, hs (by omega) w (by omega)]; omega)⟩)
      · skip
        have st1 := hst (by omega)
        refine jt_iload d_PI_wind_107 rfl ?_
        refine jt_i2l d_PI_wind_109 (by unfold jRi; omega) ?_
        refine jt_lload d_PI_wind_110 rfl ?_
        refine jt_lload d_PI_wind_112 rfl ?_
        refine jt_lsub d_PI_wind_114 ?_
        refine jt_topln (fun v103 bv103 ev103 => ?_)
        refine jt_lload_n d_PI_wind_115 rfl ?_
        refine jt_lload d_PI_wind_116 rfl ?_
        refine jt_lsub d_PI_wind_118 ?_
        refine jt_topln (fun v104 bv104 ev104 => ?_)
        refine jt_lmul d_PI_wind_119 ?_
        refine jt_topln (fun v105 bv105 ev105 => ?_)
        refine jt_iload d_PI_wind_120 rfl ?_
        refine cct_callS (Y := Y_PI_middle) (As := [.int (jI i)]) (rest := [.long (jL v105), .long (jL t)]) d_PI_wind_122 PI_c30 yk_PI_middle ys_PI_middle (Nat.le_of_ble_eq_true rfl) rfl rfl (Nat.le_of_ble_eq_true rfl) (v_PI_middle_x G _ b i J B hJ.1 hJ.2.1 (by omega)) (fun rvq106 Iq106 Aq106 hq106 => ?_)
        obtain ⟨yq106, rfl, ryq106, hIq106, hAq106, hxq106⟩ := hq106
        rw [hIq106, hAq106]
        show jt _ 125 [(0, .ref (b + 468)), (1, .ref (b + 464)), (2, .int (jI e)), (3, .long (jL y)), (5, .long (jL p)), (7, .long (jL q)), (9, .long (jL u)), (11, .long (jL v)), (13, .int (jI t)), (14, .int (jI s)), (15, .int (jI i))] [.long (jL yq106), .long (jL v105), .long (jL t)] (cmf b f0 J B) _ _ _
        refine jt_lload d_PI_wind_125 rfl ?_
        refine jt_lsub d_PI_wind_127 ?_
        refine jt_topln (fun v107 bv107 ev107 => ?_)
        refine jt_lload d_PI_wind_128 rfl ?_
        refine jt_lload d_PI_wind_130 rfl ?_
        refine jt_lsub d_PI_wind_132 ?_
        refine jt_topln (fun v108 bv108 ev108 => ?_)
        refine jt_lmul d_PI_wind_133 ?_
        refine jt_topln (fun v109 bv109 ev109 => ?_)
        refine jt_lsub d_PI_wind_134 ?_
        refine jt_topln (fun v110 bv110 ev110 => ?_)
        refine jt_lmul d_PI_wind_135 ?_
        refine jt_topln (fun v111 bv111 ev111 => ?_)
        have q1 : v103 = t9.2.2.1 - t9.1 := by omega
        have q2 : v104 = y - t9.2.1 := by omega
        have q3 := sd_m (u := v103) (v := v104) (by omega) (by omega) bv105 ev105
        rw [hxq106] at ev107 ryq106
        have q4 : v107 = pmd i - t9.1 := by omega
        have q5 : v108 = t9.2.2.2 - t9.2.1 := by omega
        have q6 := sd_m (u := v107) (v := v108) (by omega) (by omega) bv109 ev109
        have q7 : v110 = psd (pmd i) y t9 ∧ -8796093022208 ≤ v110 ∧ v110 ≤ 8796093022208 := by unfold psd; rw [← q1, ← q2, ← q4, ← q5]; generalize v103 * v104 = z1 at q3 ⊢; generalize v107 * v108 = z2 at q6 ⊢; omega
        clear q1 q2 q3 q4 q5 q6 ev105 ev109
        have q8 := pwd_t (x := pmd i) (n8 := v111) ht0 st1 (fun z => by rw [z] at ev111; omega) (fun z => by rw [z] at ev111; omega)
        clear ev111
        refine jt_lconst (z := 0) d_PI_wind_136 (by decide) ?_
        refine jt_lif_le (t := 145) d_PI_wind_137 d_PI_wind_138 rfl (by unfold jRl; omega) (by unfold jRl; omega) (fun c112 => ?_) (fun c112 => ?_)
        · skip
          refine jt_iconst d_PI_wind_145 ?_
          refine jt_istore (L' := [(0, .ref (b + 468)), (1, .ref (b + 464)), (2, .int (jI e)), (3, .long (jL y)), (5, .long (jL p)), (7, .long (jL q)), (9, .long (jL u)), (11, .long (jL v)), (13, .int (jI t)), (14, .int (jI 0)), (15, .int (jI i))]) d_PI_wind_146 (Nat.le_of_ble_eq_true rfl) rfl ?_
          refine jt_iload d_PI_wind_148 rfl ?_
          refine jt_if_eq (t := 165) d_PI_wind_150 rfl (by unfold jRi; omega) (fun c113 => ?_) (fun c113 => ?_)
          · skip
            refine jt_iinc (L' := [(0, .ref (b + 468)), (1, .ref (b + 464)), (2, .int (jI e)), (3, .long (jL y)), (5, .long (jL p)), (7, .long (jL q)), (9, .long (jL u)), (11, .long (jL v)), (13, .int (jI t)), (14, .int (jI 0)), (15, .int (jI (i + 1)))]) d_PI_wind_165 rfl (Nat.le_of_ble_eq_true rfl) rfl ?_
            refine jt_goto (t := 95) d_PI_wind_168 rfl ?_
            exact ih 0 (i + 1) J B hJ (by omega) (by omega) (fun _ => st1) (fun w a c => by rcases Classical.em (w = i) with z | z; exact (by rw [z, q8.2 (by omega), hr i (by omega) (by omega)]; omega); exact hd w a (by omega)) (fun w a c => hr w (by omega) c) (fun _ w a => pwd_m (x := pmd i) (by unfold pmd; omega) (q8.2 (by omega))) (by omega)
          · skip
            exfalso
            omega
        · skip
          refine jt_iconst d_PI_wind_141 ?_
          refine jt_goto (t := 146) d_PI_wind_142 rfl ?_
          refine jt_istore (L' := [(0, .ref (b + 468)), (1, .ref (b + 464)), (2, .int (jI e)), (3, .long (jL y)), (5, .long (jL p)), (7, .long (jL q)), (9, .long (jL u)), (11, .long (jL v)), (13, .int (jI t)), (14, .int (jI 1)), (15, .int (jI i))]) d_PI_wind_146 (Nat.le_of_ble_eq_true rfl) rfl ?_
          refine jt_iload d_PI_wind_148 rfl ?_
          refine jt_if_eq (t := 165) d_PI_wind_150 rfl (by unfold jRi; omega) (fun c114 => ?_) (fun c114 => ?_)
          · skip
            exfalso
            omega
          · skip
            have hbi := hr i (by omega) (by omega)
            have hwi := hW i (by omega) (by omega)
            have htr : -1 ≤ t ∧ t ≤ 1 := by omega
            refine jt_aload_n d_PI_wind_153 rfl ?_
            refine cm_get (k := 468) (v := .ref (b + 470)) d_PI_wind_154 PI_f15 (by decide) cc_7 rfl ?_
            refine jt_iload d_PI_wind_157 rfl ?_
            refine jt_dup2 d_PI_wind_159 rfl rfl ?_
            refine cm_ld0 (k := 470) (n := 32) (v := (B 470) i) d_PI_wind_160 (by decide) rfl rfl (by omega) (by omega) (by omega) rfl ?_
            refine jt_topi (fun v115 ev115 => ?_)
            have bv115 : -2147483648 ≤ v115 ∧ v115 ≤ 2147483647 := by rw [ev115]; exact hJ.2.1 470 i
            refine jt_iload d_PI_wind_161 rfl ?_
            refine jt_iadd d_PI_wind_163 ?_
            refine jt_topi (fun v116 ev116 => ?_)
            refine cm_st0 (k := 470) (n := 32) (v := v116) d_PI_wind_164 (by decide) rfl rfl (by omega) (by omega) (by omega) ?_
            have p117 := cPx.A 470 (ju (B 470) i v116) hJ (Or.inl rfl) (gju (hJ.2.1 470) (show -2147483648 ≤ v116 ∧ v116 ≤ 2147483647 by omega))
            refine jt_iinc (L' := [(0, .ref (b + 468)), (1, .ref (b + 464)), (2, .int (jI e)), (3, .long (jL y)), (5, .long (jL p)), (7, .long (jL q)), (9, .long (jL u)), (11, .long (jL v)), (13, .int (jI t)), (14, .int (jI 1)), (15, .int (jI (i + 1)))]) d_PI_wind_165 rfl (Nat.le_of_ble_eq_true rfl) rfl ?_
            refine jt_goto (t := 95) d_PI_wind_168 rfl ?_
            exact ih 1 (i + 1) J (va_up B 470 (ju (B 470) i v116)) p117 (by omega) (by omega) (fun _ => st1) (fun w a c => by show ju (B 470) i v116 w = _; rcases Classical.em (w = i) with z | z; exact (by rw [z, ju_self, q8.1 (by omega)]; omega); exact (by rw [ju_ne _ _ z]; exact hd w a (by omega))) (fun w a c => by show ju (B 470) i _ w = _; rw [ju_ne _ _ (by omega)]; exact hr w (by omega) c) (fun z => absurd z (by omega)) (by omega)
set_option maxRecDepth 100000 in
set_option maxHeartbeats 4000000 in
theorem v_PI_wind_x (G : jG) (d b : Nat) (e : Int) (y : Int) (I : Nat → Nat → Int) (A : Nat → Int → Int) (hI : cSI I) (hA : cSA A) (he : 1 ≤ e ∧ e < 98) (hy : 0 ≤ y ∧ y ≤ 262144) (t9 : Pc) (ht : A 466 (e - 1) = t9.1 ∧ A 467 (e - 1) = t9.2.1 ∧ A 466 e = t9.2.2.1 ∧ A 467 e = t9.2.2.2) (hi : pin t9) (hW : ∀ w : Int, 0 ≤ w → w < 32 → -100 ≤ A 470 w ∧ A 470 w ≤ 100) : cct G Y_PI_wind (d + 1) b [.ref (b + 468), .ref (b + 464), .int (jI e), .long (jL y)] I A (fun (rv : Option Value) (I2 : Nat → Nat → Int) (A2 : Nat → Int → Int) => rv = none ∧ cPx [] [470] I A I2 A2 ∧ ∀ w : Int, 0 ≤ w → w < 32 → A2 470 w = A 470 w + pwd (pmd w) y t9) := by
  refine cct_of (by decide) (Nat.le_of_ble_eq_true rfl) (fun f0 sz => ?_)
  show jt _ 0 [(0, .ref (b + 468)), (1, .ref (b + 464)), (2, .int (jI e)), (3, .long (jL y))] [] _ _ _ _
  obtain ⟨i1, i2, i3, i4⟩ := id hi
  have hz0 : cPx [] [470] I A I A := cPx.refl hI hA
  refine jt_aload_n d_PI_wind_0 rfl ?_
  refine cm_get (k := 464) (v := .ref (b + 466)) d_PI_wind_1 PI_f38 (by decide) cc_6 rfl ?_
  refine jt_iload_n d_PI_wind_4 rfl ?_
  refine jt_iconst d_PI_wind_5 ?_
  refine jt_isub d_PI_wind_6 ?_
  refine cm_ld0 (k := 466) (n := 98) (v := (A 466) (e - 1)) d_PI_wind_7 (by decide) rfl rfl (by omega) (by omega) (by omega) rfl ?_
  refine jt_topi (fun v1 ev1 => ?_)
  have bv1 : -2147483648 ≤ v1 ∧ v1 ≤ 2147483647 := by rw [ev1]; exact hz0.2.1 466 (e - 1)
  rw [ht.1] at ev1
  refine jt_i2l d_PI_wind_8 (by unfold jRi; omega) ?_
  refine jt_lstore (L' := [(0, .ref (b + 468)), (1, .ref (b + 464)), (2, .int (jI e)), (3, .long (jL y)), (5, .long (jL v1))]) d_PI_wind_9 (Nat.le_of_ble_eq_true rfl) rfl ?_
  refine jt_aload_n d_PI_wind_11 rfl ?_
  refine cm_get (k := 464) (v := .ref (b + 467)) d_PI_wind_12 PI_f41 (by decide) cc_6 rfl ?_
  refine jt_iload_n d_PI_wind_15 rfl ?_
  refine jt_iconst d_PI_wind_16 ?_
  refine jt_isub d_PI_wind_17 ?_
  refine cm_ld0 (k := 467) (n := 98) (v := (A 467) (e - 1)) d_PI_wind_18 (by decide) rfl rfl (by omega) (by omega) (by omega) rfl ?_
  refine jt_topi (fun v2 ev2 => ?_)
  have bv2 : -2147483648 ≤ v2 ∧ v2 ≤ 2147483647 := by rw [ev2]; exact hz0.2.1 467 (e - 1)
  rw [ht.2.1] at ev2
  refine jt_i2l d_PI_wind_19 (by unfold jRi; omega) ?_
  refine jt_lstore (L' := [(0, .ref (b + 468)), (1, .ref (b + 464)), (2, .int (jI e)), (3, .long (jL y)), (5, .long (jL v1)), (7, .long (jL v2))]) d_PI_wind_20 (Nat.le_of_ble_eq_true rfl) rfl ?_
  refine jt_aload_n d_PI_wind_22 rfl ?_
  refine cm_get (k := 464) (v := .ref (b + 466)) d_PI_wind_23 PI_f38 (by decide) cc_6 rfl ?_
  refine jt_iload_n d_PI_wind_26 rfl ?_
  refine cm_ld0 (k := 466) (n := 98) (v := (A 466) e) d_PI_wind_27 (by decide) rfl rfl (by omega) (by omega) (by omega) rfl ?_
  refine jt_topi (fun v3 ev3 => ?_)
  have bv3 : -2147483648 ≤ v3 ∧ v3 ≤ 2147483647 := by rw [ev3]; exact hz0.2.1 466 e
  rw [ht.2.2.1] at ev3
  refine jt_i2l d_PI_wind_28 (by unfold jRi; omega) ?_
  refine jt_lstore (L' := [(0, .ref (b + 468)), (1, .ref (b + 464)), (2, .int (jI e)), (3, .long (jL y)), (5, .long (jL v1)), (7, .long (jL v2)), (9, .long (jL v3))]) d_PI_wind_29 (Nat.le_of_ble_eq_true rfl) rfl ?_
  refine jt_aload_n d_PI_wind_31 rfl ?_
  refine cm_get (k := 464) (v := .ref (b + 467)) d_PI_wind_32 PI_f41 (by decide) cc_6 rfl ?_
  refine jt_iload_n d_PI_wind_35 rfl ?_
  refine cm_ld0 (k := 467) (n := 98) (v := (A 467) e) d_PI_wind_36 (by decide) rfl rfl (by omega) (by omega) (by omega) rfl ?_
  refine jt_topi (fun v4 ev4 => ?_)
  have bv4 : -2147483648 ≤ v4 ∧ v4 ≤ 2147483647 := by rw [ev4]; exact hz0.2.1 467 e
  rw [ht.2.2.2] at ev4
  refine jt_i2l d_PI_wind_37 (by unfold jRi; omega) ?_
  refine jt_lstore (L' := [(0, .ref (b + 468)), (1, .ref (b + 464)), (2, .int (jI e)), (3, .long (jL y)), (5, .long (jL v1)), (7, .long (jL v2)), (9, .long (jL v3)), (11, .long (jL v4))]) d_PI_wind_38 (Nat.le_of_ble_eq_true rfl) rfl ?_
  refine jt_iconst d_PI_wind_40 ?_
  refine jt_istore (L' := [(0, .ref (b + 468)), (1, .ref (b + 464)), (2, .int (jI e)), (3, .long (jL y)), (5, .long (jL v1)), (7, .long (jL v2)), (9, .long (jL v3)), (11, .long (jL v4)), (13, .int (jI 0))]) d_PI_wind_41 (Nat.le_of_ble_eq_true rfl) rfl ?_
  refine jt_lload d_PI_wind_43 rfl ?_
  refine jt_lload_n d_PI_wind_45 rfl ?_
  refine jt_lif_gt (t := 63) d_PI_wind_46 d_PI_wind_47 rfl (by unfold jRl; omega) (by unfold jRl; omega) (fun c5 => ?_) (fun c5 => ?_)
  · skip
    refine jt_lload d_PI_wind_63 rfl ?_
    refine jt_lload_n d_PI_wind_65 rfl ?_
    refine jt_lif_gt (t := 80) d_PI_wind_66 d_PI_wind_67 rfl (by unfold jRl; omega) (by unfold jRl; omega) (fun c6 => ?_) (fun c6 => ?_)
    · skip
      refine jt_iload d_PI_wind_80 rfl ?_
      refine jt_if_eq (t := 89) d_PI_wind_82 rfl (by unfold jRi; omega) (fun c7 => ?_) (fun c7 => ?_)
      · skip
        refine jt_iconst d_PI_wind_89 ?_
        refine jt_istore (L' := [(0, .ref (b + 468)), (1, .ref (b + 464)), (2, .int (jI e)), (3, .long (jL y)), (5, .long (jL v1)), (7, .long (jL v2)), (9, .long (jL v3)), (11, .long (jL v4)), (13, .int (jI 0)), (14, .int (jI 0))]) d_PI_wind_90 (Nat.le_of_ble_eq_true rfl) rfl ?_
        refine jt_iconst d_PI_wind_92 ?_
        refine jt_istore (L' := [(0, .ref (b + 468)), (1, .ref (b + 464)), (2, .int (jI e)), (3, .long (jL y)), (5, .long (jL v1)), (7, .long (jL v2)), (9, .long (jL v3)), (11, .long (jL v4)), (13, .int (jI 0)), (14, .int (jI 0)), (15, .int (jI 0))]) d_PI_wind_93 (Nat.le_of_ble_eq_true rfl) rfl ?_
        exact l95_PI_wind_xv G d b e y I A hI hA he hy t9 ht hi hW f0 sz v1 v2 v3 v4 0 ((by omega)) ((by omega)) ((by omega)) ((by omega)) ((Or.inr (Or.inr ⟨rfl, by omega, by omega⟩))) 33 0 0 I A hz0 (by omega) (by omega) (fun z => by omega) (fun w a c => by omega) (fun w a c => rfl) (fun _ w a => by unfold pwd; rw [if_neg (by omega), if_neg (by omega)]) (by omega)
      · skip
        exfalso
        omega
    · skip
      refine jt_lload_n d_PI_wind_70 rfl ?_
      refine jt_lload d_PI_wind_71 rfl ?_
      refine jt_lif_ge (t := 80) d_PI_wind_73 d_PI_wind_74 rfl (by unfold jRl; omega) (by unfold jRl; omega) (fun c8 => ?_) (fun c8 => ?_)
      · skip
        refine jt_iload d_PI_wind_80 rfl ?_
        refine jt_if_eq (t := 89) d_PI_wind_82 rfl (by unfold jRi; omega) (fun c9 => ?_) (fun c9 => ?_)
        · skip
          refine jt_iconst d_PI_wind_89 ?_
          refine jt_istore (L' := [(0, .ref (b + 468)), (1, .ref (b + 464)), (2, .int (jI e)), (3, .long (jL y)), (5, .long (jL v1)), (7, .long (jL v2)), (9, .long (jL v3)), (11, .long (jL v4)), (13, .int (jI 0)), (14, .int (jI 0))]) d_PI_wind_90 (Nat.le_of_ble_eq_true rfl) rfl ?_
          refine jt_iconst d_PI_wind_92 ?_
          refine jt_istore (L' := [(0, .ref (b + 468)), (1, .ref (b + 464)), (2, .int (jI e)), (3, .long (jL y)), (5, .long (jL v1)), (7, .long (jL v2)), (9, .long (jL v3)), (11, .long (jL v4)), (13, .int (jI 0)), (14, .int (jI 0)), (15, .int (jI 0))]) d_PI_wind_93 (Nat.le_of_ble_eq_true rfl) rfl ?_
          exact l95_PI_wind_xv G d b e y I A hI hA he hy t9 ht hi hW f0 sz v1 v2 v3 v4 0 ((by omega)) ((by omega)) ((by omega)) ((by omega)) ((Or.inr (Or.inr ⟨rfl, by omega, by omega⟩))) 33 0 0 I A hz0 (by omega) (by omega) (fun z => by omega) (fun w a c => by omega) (fun w a c => rfl) (fun _ w a => by unfold pwd; rw [if_neg (by omega), if_neg (by omega)]) (by omega)
        · skip
          exfalso
          omega
      · skip
        refine jt_iconst d_PI_wind_77 ?_
        refine jt_istore (L' := [(0, .ref (b + 468)), (1, .ref (b + 464)), (2, .int (jI e)), (3, .long (jL y)), (5, .long (jL v1)), (7, .long (jL v2)), (9, .long (jL v3)), (11, .long (jL v4)), (13, .int (jI (-1)))]) d_PI_wind_78 (Nat.le_of_ble_eq_true rfl) rfl ?_
        refine jt_iload d_PI_wind_80 rfl ?_
        refine jt_if_eq (t := 89) d_PI_wind_82 rfl (by unfold jRi; omega) (fun c10 => ?_) (fun c10 => ?_)
        · skip
          exfalso
          omega
        · skip
          refine jt_iconst d_PI_wind_85 ?_
          refine jt_goto (t := 90) d_PI_wind_86 rfl ?_
          refine jt_istore (L' := [(0, .ref (b + 468)), (1, .ref (b + 464)), (2, .int (jI e)), (3, .long (jL y)), (5, .long (jL v1)), (7, .long (jL v2)), (9, .long (jL v3)), (11, .long (jL v4)), (13, .int (jI (-1))), (14, .int (jI 1))]) d_PI_wind_90 (Nat.le_of_ble_eq_true rfl) rfl ?_
          refine jt_iconst d_PI_wind_92 ?_
          refine jt_istore (L' := [(0, .ref (b + 468)), (1, .ref (b + 464)), (2, .int (jI e)), (3, .long (jL y)), (5, .long (jL v1)), (7, .long (jL v2)), (9, .long (jL v3)), (11, .long (jL v4)), (13, .int (jI (-1))), (14, .int (jI 1)), (15, .int (jI 0))]) d_PI_wind_93 (Nat.le_of_ble_eq_true rfl) rfl ?_
          exact l95_PI_wind_xv G d b e y I A hI hA he hy t9 ht hi hW f0 sz v1 v2 v3 v4 (-1) ((by omega)) ((by omega)) ((by omega)) ((by omega)) ((Or.inr (Or.inl ⟨rfl, by omega, by omega, by omega⟩))) 33 1 0 I A hz0 (by omega) (by omega) (fun z => by omega) (fun w a c => by omega) (fun w a c => rfl) (fun z => by omega) (by omega)
  · skip
    refine jt_lload_n d_PI_wind_50 rfl ?_
    refine jt_lload d_PI_wind_51 rfl ?_
    refine jt_lif_ge (t := 63) d_PI_wind_53 d_PI_wind_54 rfl (by unfold jRl; omega) (by unfold jRl; omega) (fun c11 => ?_) (fun c11 => ?_)
    · skip
      refine jt_lload d_PI_wind_63 rfl ?_
      refine jt_lload_n d_PI_wind_65 rfl ?_
      refine jt_lif_gt (t := 80) d_PI_wind_66 d_PI_wind_67 rfl (by unfold jRl; omega) (by unfold jRl; omega) (fun c12 => ?_) (fun c12 => ?_)
      · skip
        refine jt_iload d_PI_wind_80 rfl ?_
        refine jt_if_eq (t := 89) d_PI_wind_82 rfl (by unfold jRi; omega) (fun c13 => ?_) (fun c13 => ?_)
        · skip
          refine jt_iconst d_PI_wind_89 ?_
          refine jt_istore (L' := [(0, .ref (b + 468)), (1, .ref (b + 464)), (2, .int (jI e)), (3, .long (jL y)), (5, .long (jL v1)), (7, .long (jL v2)), (9, .long (jL v3)), (11, .long (jL v4)), (13, .int (jI 0)), (14, .int (jI 0))]) d_PI_wind_90 (Nat.le_of_ble_eq_true rfl) rfl ?_
          refine jt_iconst d_PI_wind_92 ?_
          refine jt_istore (L' := [(0, .ref (b + 468)), (1, .ref (b + 464)), (2, .int (jI e)), (3, .long (jL y)), (5, .long (jL v1)), (7, .long (jL v2)), (9, .long (jL v3)), (11, .long (jL v4)), (13, .int (jI 0)), (14, .int (jI 0)), (15, .int (jI 0))]) d_PI_wind_93 (Nat.le_of_ble_eq_true rfl) rfl ?_
          exact l95_PI_wind_xv G d b e y I A hI hA he hy t9 ht hi hW f0 sz v1 v2 v3 v4 0 ((by omega)) ((by omega)) ((by omega)) ((by omega)) ((Or.inr (Or.inr ⟨rfl, by omega, by omega⟩))) 33 0 0 I A hz0 (by omega) (by omega) (fun z => by omega) (fun w a c => by omega) (fun w a c => rfl) (fun _ w a => by unfold pwd; rw [if_neg (by omega), if_neg (by omega)]) (by omega)
        · skip
          exfalso
          omega
      · skip
        refine jt_lload_n d_PI_wind_70 rfl ?_
        refine jt_lload d_PI_wind_71 rfl ?_
        refine jt_lif_ge (t := 80) d_PI_wind_73 d_PI_wind_74 rfl (by unfold jRl; omega) (by unfold jRl; omega) (fun c14 => ?_) (fun c14 => ?_)
        · skip
          refine jt_iload d_PI_wind_80 rfl ?_
          refine jt_if_eq (t := 89) d_PI_wind_82 rfl (by unfold jRi; omega) (fun c15 => ?_) (fun c15 => ?_)
          · skip
            refine jt_iconst d_PI_wind_89 ?_
            refine jt_istore (L' := [(0, .ref (b + 468)), (1, .ref (b + 464)), (2, .int (jI e)), (3, .long (jL y)), (5, .long (jL v1)), (7, .long (jL v2)), (9, .long (jL v3)), (11, .long (jL v4)), (13, .int (jI 0)), (14, .int (jI 0))]) d_PI_wind_90 (Nat.le_of_ble_eq_true rfl) rfl ?_
            refine jt_iconst d_PI_wind_92 ?_
            refine jt_istore (L' := [(0, .ref (b + 468)), (1, .ref (b + 464)), (2, .int (jI e)), (3, .long (jL y)), (5, .long (jL v1)), (7, .long (jL v2)), (9, .long (jL v3)), (11, .long (jL v4)), (13, .int (jI 0)), (14, .int (jI 0)), (15, .int (jI 0))]) d_PI_wind_93 (Nat.le_of_ble_eq_true rfl) rfl ?_
            exact l95_PI_wind_xv G d b e y I A hI hA he hy t9 ht hi hW f0 sz v1 v2 v3 v4 0 ((by omega)) ((by omega)) ((by omega)) ((by omega)) ((Or.inr (Or.inr ⟨rfl, by omega, by omega⟩))) 33 0 0 I A hz0 (by omega) (by omega) (fun z => by omega) (fun w a c => by omega) (fun w a c => rfl) (fun _ w a => by unfold pwd; rw [if_neg (by omega), if_neg (by omega)]) (by omega)
          · skip
            exfalso
            omega
        · skip
          refine jt_iconst d_PI_wind_77 ?_
          refine jt_istore (L' := [(0, .ref (b + 468)), (1, .ref (b + 464)), (2, .int (jI e)), (3, .long (jL y)), (5, .long (jL v1)), (7, .long (jL v2)), (9, .long (jL v3)), (11, .long (jL v4)), (13, .int (jI (-1)))]) d_PI_wind_78 (Nat.le_of_ble_eq_true rfl) rfl ?_
          refine jt_iload d_PI_wind_80 rfl ?_
          refine jt_if_eq (t := 89) d_PI_wind_82 rfl (by unfold jRi; omega) (fun c16 => ?_) (fun c16 => ?_)
          · skip
            exfalso
            omega
          · skip
            refine jt_iconst d_PI_wind_85 ?_
            refine jt_goto (t := 90) d_PI_wind_86 rfl ?_
            refine jt_istore (L' := [(0, .ref (b + 468)), (1, .ref (b + 464)), (2, .int (jI e)), (3, .long (jL y)), (5, .long (jL v1)), (7, .long (jL v2)), (9, .long (jL v3)), (11, .long (jL v4)), (13, .int (jI (-1))), (14, .int (jI 1))]) d_PI_wind_90 (Nat.le_of_ble_eq_true rfl) rfl ?_
            refine jt_iconst d_PI_wind_92 ?_
            refine jt_istore (L' := [(0, .ref (b + 468)), (1, .ref (b + 464)), (2, .int (jI e)), (3, .long (jL y)), (5, .long (jL v1)), (7, .long (jL v2)), (9, .long (jL v3)), (11, .long (jL v4)), (13, .int (jI (-1))), (14, .int (jI 1)), (15, .int (jI 0))]) d_PI_wind_93 (Nat.le_of_ble_eq_true rfl) rfl ?_
            exact l95_PI_wind_xv G d b e y I A hI hA he hy t9 ht hi hW f0 sz v1 v2 v3 v4 (-1) ((by omega)) ((by omega)) ((by omega)) ((by omega)) ((Or.inr (Or.inl ⟨rfl, by omega, by omega, by omega⟩))) 33 1 0 I A hz0 (by omega) (by omega) (fun z => by omega) (fun w a c => by omega) (fun w a c => rfl) (fun z => by omega) (by omega)
    · skip
      refine jt_iconst d_PI_wind_57 ?_
      refine jt_istore (L' := [(0, .ref (b + 468)), (1, .ref (b + 464)), (2, .int (jI e)), (3, .long (jL y)), (5, .long (jL v1)), (7, .long (jL v2)), (9, .long (jL v3)), (11, .long (jL v4)), (13, .int (jI 1))]) d_PI_wind_58 (Nat.le_of_ble_eq_true rfl) rfl ?_
      refine jt_goto (t := 80) d_PI_wind_60 rfl ?_
      refine jt_iload d_PI_wind_80 rfl ?_
      refine jt_if_eq (t := 89) d_PI_wind_82 rfl (by unfold jRi; omega) (fun c17 => ?_) (fun c17 => ?_)
      · skip
        exfalso
        omega
      · skip
        refine jt_iconst d_PI_wind_85 ?_
        refine jt_goto (t := 90) d_PI_wind_86 rfl ?_
        refine jt_istore (L' := [(0, .ref (b + 468)), (1, .ref (b + 464)), (2, .int (jI e)), (3, .long (jL y)), (5, .long (jL v1)), (7, .long (jL v2)), (9, .long (jL v3)), (11, .long (jL v4)), (13, .int (jI 1)), (14, .int (jI 1))]) d_PI_wind_90 (Nat.le_of_ble_eq_true rfl) rfl ?_
        refine jt_iconst d_PI_wind_92 ?_
        refine jt_istore (L' := [(0, .ref (b + 468)), (1, .ref (b + 464)), (2, .int (jI e)), (3, .long (jL y)), (5, .long (jL v1)), (7, .long (jL v2)), (9, .long (jL v3)), (11, .long (jL v4)), (13, .int (jI 1)), (14, .int (jI 1)), (15, .int (jI 0))]) d_PI_wind_93 (Nat.le_of_ble_eq_true rfl) rfl ?_
        exact l95_PI_wind_xv G d b e y I A hI hA he hy t9 ht hi hW f0 sz v1 v2 v3 v4 1 ((by omega)) ((by omega)) ((by omega)) ((by omega)) ((Or.inl ⟨rfl, by omega, by omega⟩)) 33 1 0 I A hz0 (by omega) (by omega) (fun z => by omega) (fun w a c => by omega) (fun w a c => rfl) (fun z => by omega) (by omega)
set_option maxRecDepth 100000 in
set_option maxHeartbeats 4000000 in
theorem v_OU_addPoint_x (G : jG) (d b : Nat) (x : Int) (y : Int) (I : Nat → Nat → Int) (A : Nat → Int → Int) (hI : cSI I) (hA : cSA A) (hx : -2147483648 ≤ x ∧ x ≤ 2147483647) (hy : -2147483648 ≤ y ∧ y ≤ 2147483647) (hp : I 464 3 < 98) : cct G Y_OU_addPoint d b [.ref (b + 464), .int (jI x), .int (jI y)] I A (fun (rv : Option Value) (I2 : Nat → Nat → Int) (A2 : Nat → Int → Int) => rv = none ∧ cPx [7427] [466, 467] I A I2 A2 ∧ I2 464 3 = I 464 3 + 1 ∧ A2 466 = ju (A 466) (I 464 3) x ∧ A2 467 = ju (A 467) (I 464 3) y) := by
  refine cct_of (by decide) (Nat.le_of_ble_eq_true rfl) (fun f0 sz => ?_)
  show jt _ 0 [(0, .ref (b + 464)), (1, .int (jI x)), (2, .int (jI y))] [] _ _ _ _
  have hz0 : cPx [7427] [466, 467] I A I A := cPx.refl hI hA
  refine jt_aload_n d_OU_addPoint_0 rfl ?_
  refine cm_get (k := 464) (v := .int (jI (I 464 3))) d_OU_addPoint_1 OU_f37 (by decide) cc_6 rfl ?_
  have rb1 : 0 ≤ I 464 3 ∧ I 464 3 ≤ 98 := hz0.1 464 3
  refine jt_bipush d_OU_addPoint_4 (by omega) ?_
  refine jt_icmp_ge (t := 39) d_OU_addPoint_6 rfl (by unfold jRi; omega) (by unfold jRi; omega) (fun c2 => ?_) (fun c2 => ?_)
  · skip
    exact cm_vret d_OU_addPoint_39 rfl (by exfalso; omega)
  · skip
    refine jt_aload_n d_OU_addPoint_9 rfl ?_
    refine cm_get (k := 464) (v := .ref (b + 466)) d_OU_addPoint_10 OU_f15 (by decide) cc_6 rfl ?_
    refine jt_aload_n d_OU_addPoint_13 rfl ?_
    refine cm_get (k := 464) (v := .int (jI (I 464 3))) d_OU_addPoint_14 OU_f37 (by decide) cc_6 rfl ?_
    refine jt_iload_n d_OU_addPoint_17 rfl ?_
    refine cm_st0 (k := 466) (n := 98) (v := x) d_OU_addPoint_18 (by decide) rfl rfl (by omega) (by omega) (by omega) ?_
    have p3 := cPx.A 466 (ju (A 466) (I 464 3) x) hz0 (Or.inl rfl) (gju (hz0.2.1 466) (show -2147483648 ≤ x ∧ x ≤ 2147483647 by omega))
    refine jt_aload_n d_OU_addPoint_19 rfl ?_
    refine cm_get (k := 464) (v := .ref (b + 467)) d_OU_addPoint_20 OU_f18 (by decide) cc_6 rfl ?_
    refine jt_aload_n d_OU_addPoint_23 rfl ?_
    refine cm_get (k := 464) (v := .int (jI (I 464 3))) d_OU_addPoint_24 OU_f37 (by decide) cc_6 rfl ?_
    refine jt_iload_n d_OU_addPoint_27 rfl ?_
    refine cm_st0 (k := 467) (n := 98) (v := y) d_OU_addPoint_28 (by decide) rfl rfl (by omega) (by omega) (by omega) ?_
    have p4 := cPx.A 467 (ju (A 467) (I 464 3) y) p3 (Or.inl rfl) (gju (p3.2.1 467) (show -2147483648 ≤ y ∧ y ≤ 2147483647 by omega))
    refine jt_aload_n d_OU_addPoint_29 rfl ?_
    refine jt_dup d_OU_addPoint_30 rfl ?_
    refine cm_get (k := 464) (v := .int (jI (I 464 3))) d_OU_addPoint_31 OU_f37 (by decide) cc_6 rfl ?_
    refine jt_iconst d_OU_addPoint_34 ?_
    refine jt_iadd d_OU_addPoint_35 ?_
    refine jt_topi (fun v5 ev5 => ?_)
    refine cm_put (k := 464) (j := 3) (v := v5) d_OU_addPoint_36 (OU_w37 _ rfl) (by decide) cc_6 rfl rfl (Nat.le_of_ble_eq_true rfl) rfl ?_
    have p6 := cPx.I 464 3 v5 p4 rfl (show 0 ≤ v5 ∧ v5 ≤ 98 by omega)
    exact cm_vret d_OU_addPoint_39 rfl (⟨rfl, p6, (show v5 = I 464 3 + 1 by omega), rfl, rfl⟩)
set_option maxRecDepth 100000 in
set_option maxHeartbeats 4000000 in
theorem v_OU_onCurve_x (G : jG) (d b : Nat) (q : Int) (t : Int) (I : Nat → Nat → Int) (A : Nat → Int → Int) (hI : cSI I) (hA : cSA A) (ht : 1 ≤ t ∧ t ≤ 8) (k : Int) (j : Int) (hq : q = 2 * k + j) (k0 : 0 ≤ k) (j0 : 0 ≤ j ∧ j ≤ 1) (N : Int → Int) (hN : pnr N) (M9 : Int) (hM9 : M9 ≤ 74) (hNA : ∀ z, 0 ≤ z → z < M9 → A 465 z = N z) (hk : 2 * k + 6 + j < M9) : cct G Y_OU_onCurve d b [.ref (b + 464), .int (jI q), .int (jI t)] I A (fun (rv : Option Value) (I2 : Nat → Nat → Int) (A2 : Nat → Int → Int) => ∃ y : Int, rv = some (.int (jI y)) ∧ (-2147483648 ≤ y ∧ y ≤ 2147483647) ∧ I2 = I ∧ A2 = A ∧ y = pbd N k j t) := by
  refine cct_of (by decide) (Nat.le_of_ble_eq_true rfl) (fun f0 sz => ?_)
  show jt _ 0 [(0, .ref (b + 464)), (1, .int (jI q)), (2, .int (jI t))] [] _ _ _ _
  have hz0 : cPx [] [] I A I A := cPx.refl hI hA
  refine jt_bipush d_OU_onCurve_0 (by omega) ?_
  refine jt_iload_n d_OU_onCurve_2 rfl ?_
  refine jt_isub d_OU_onCurve_3 ?_
  refine jt_topi (fun v1 ev1 => ?_)
  refine jt_istore_n (L' := [(0, .ref (b + 464)), (1, .int (jI q)), (2, .int (jI t)), (3, .int (jI v1))]) d_OU_onCurve_4 (Nat.le_of_ble_eq_true rfl) rfl ?_
  refine jt_iload_n d_OU_onCurve_5 rfl ?_
  refine jt_iload_n d_OU_onCurve_6 rfl ?_
  refine jt_imul d_OU_onCurve_7 ?_
  refine jt_iload_n d_OU_onCurve_8 rfl ?_
  refine jt_imul d_OU_onCurve_9 ?_
  refine jt_aload_n d_OU_onCurve_10 rfl ?_
  refine cm_get (k := 464) (v := .ref (b + 465)) d_OU_onCurve_11 OU_f11 (by decide) cc_6 rfl ?_
  refine jt_iload_n d_OU_onCurve_14 rfl ?_
  refine cm_ld0 (k := 465) (n := 74) (v := (A 465) q) d_OU_onCurve_15 (by decide) rfl rfl (by omega) (by omega) (by omega) rfl ?_
  refine jt_topi (fun v2 ev2 => ?_)
  have bv2 : -2147483648 ≤ v2 ∧ v2 ≤ 2147483647 := by rw [ev2]; exact hz0.2.1 465 q
  rw [show q = 2 * k + j by omega, hNA (2 * k + j) (by omega) (by omega)] at ev2
  refine jt_imul d_OU_onCurve_16 ?_
  refine jt_iconst d_OU_onCurve_17 ?_
  refine jt_iload_n d_OU_onCurve_18 rfl ?_
  refine jt_imul d_OU_onCurve_19 ?_
  refine jt_iload_n d_OU_onCurve_20 rfl ?_
  refine jt_imul d_OU_onCurve_21 ?_
  refine jt_iload_n d_OU_onCurve_22 rfl ?_
  refine jt_imul d_OU_onCurve_23 ?_
  refine jt_aload_n d_OU_onCurve_24 rfl ?_
  refine cm_get (k := 464) (v := .ref (b + 465)) d_OU_onCurve_25 OU_f11 (by decide) cc_6 rfl ?_
  refine jt_iload_n d_OU_onCurve_28 rfl ?_
  refine jt_iconst d_OU_onCurve_29 ?_
  refine jt_iadd d_OU_onCurve_30 ?_
  refine cm_ld0 (k := 465) (n := 74) (v := (A 465) (q + 2)) d_OU_onCurve_31 (by decide) rfl rfl (by omega) (by omega) (by omega) rfl ?_
  refine jt_topi (fun v3 ev3 => ?_)
  have bv3 : -2147483648 ≤ v3 ∧ v3 ≤ 2147483647 := by rw [ev3]; exact hz0.2.1 465 (q + 2)
  rw [show q + 2 = 2 * k + 2 + j by omega, hNA (2 * k + 2 + j) (by omega) (by omega)] at ev3
  refine jt_imul d_OU_onCurve_32 ?_
  refine jt_iadd d_OU_onCurve_33 ?_
  refine jt_iconst d_OU_onCurve_34 ?_
  refine jt_iload_n d_OU_onCurve_35 rfl ?_
  refine jt_imul d_OU_onCurve_36 ?_
  refine jt_iload_n d_OU_onCurve_37 rfl ?_
  refine jt_imul d_OU_onCurve_38 ?_
  refine jt_iload_n d_OU_onCurve_39 rfl ?_
  refine jt_imul d_OU_onCurve_40 ?_
  refine jt_aload_n d_OU_onCurve_41 rfl ?_
  refine cm_get (k := 464) (v := .ref (b + 465)) d_OU_onCurve_42 OU_f11 (by decide) cc_6 rfl ?_
  refine jt_iload_n d_OU_onCurve_45 rfl ?_
  refine jt_iconst d_OU_onCurve_46 ?_
  refine jt_iadd d_OU_onCurve_47 ?_
  refine cm_ld0 (k := 465) (n := 74) (v := (A 465) (q + 4)) d_OU_onCurve_48 (by decide) rfl rfl (by omega) (by omega) (by omega) rfl ?_
  refine jt_topi (fun v4 ev4 => ?_)
  have bv4 : -2147483648 ≤ v4 ∧ v4 ≤ 2147483647 := by rw [ev4]; exact hz0.2.1 465 (q + 4)
  rw [show q + 4 = 2 * k + 4 + j by omega, hNA (2 * k + 4 + j) (by omega) (by omega)] at ev4
  refine jt_imul d_OU_onCurve_49 ?_
  refine jt_iadd d_OU_onCurve_50 ?_
  refine jt_iload_n d_OU_onCurve_51 rfl ?_
  refine jt_iload_n d_OU_onCurve_52 rfl ?_
  refine jt_imul d_OU_onCurve_53 ?_
  refine jt_iload_n d_OU_onCurve_54 rfl ?_
  refine jt_imul d_OU_onCurve_55 ?_
  refine jt_aload_n d_OU_onCurve_56 rfl ?_
  refine cm_get (k := 464) (v := .ref (b + 465)) d_OU_onCurve_57 OU_f11 (by decide) cc_6 rfl ?_
  refine jt_iload_n d_OU_onCurve_60 rfl ?_
  refine jt_bipush d_OU_onCurve_61 (by omega) ?_
  refine jt_iadd d_OU_onCurve_63 ?_
  refine cm_ld0 (k := 465) (n := 74) (v := (A 465) (q + 6)) d_OU_onCurve_64 (by decide) rfl rfl (by omega) (by omega) (by omega) rfl ?_
  refine jt_topi (fun v5 ev5 => ?_)
  have bv5 : -2147483648 ≤ v5 ∧ v5 ≤ 2147483647 := by rw [ev5]; exact hz0.2.1 465 (q + 6)
  rw [show q + 6 = 2 * k + 6 + j by omega, hNA (2 * k + 6 + j) (by omega) (by omega)] at ev5
  refine jt_imul d_OU_onCurve_65 ?_
  refine jt_iadd d_OU_onCurve_66 ?_
  exact cm_ret d_OU_onCurve_67 rfl rfl (⟨pbd N k j t, by rw [show ((((((v1 * v1) * v1) * v2) + ((((3 * v1) * v1) * t) * v3)) + ((((3 * v1) * t) * t) * v4)) + (((t * t) * t) * v5)) = pbd N k j t from (by unfold pbd; rw [ev1, ev2, ev3, ev4, ev5])], by have h9 := pbd_b (N := N) (k := k) (i := j) (t := t) hN (by omega) (by omega) (by omega) (by omega) (by omega); omega, rfl, rfl, rfl⟩)
set_option maxRecDepth 100000 in
set_option maxHeartbeats 4000000 in
theorem l2_OU_addCurve_xv (G : jG) (d b : Nat) (q : Int) (I : Nat → Nat → Int) (A : Nat → Int → Int) (hI : cSI I) (hA : cSA A) (k : Int) (hq : q = 2 * k) (k0 : 0 ≤ k) (N : Int → Int) (hN : pnr N) (M9 : Int) (hM9 : M9 ≤ 74) (hNA : ∀ z, 0 ≤ z → z < M9 → A 465 z = N z) (hk : 2 * k + 7 < M9) (Ps : List Pc) (h0p : gPt (A 466) (A 467) (I 464 3) (Ps) (pco N (k) 0) (pco N (k) 1)) (hp : I 464 3 ≤ 90) (f0 : jF) (sz : Nat)   : ∀ (n9 : Nat) (t : Int) (J : Nat → Nat → Int) (B : Nat → Int → Int), cPx [7427] [466, 467] I A J B → (1 ≤ t ∧ t ≤ 9) → (J 464 3 = I 464 3 + (t - 1)) → (gPt (B 466) (B 467) (J 464 3) (Ps ++ pbs N k (t - 1).toNat) (pbd N k 0 (t - 1)) (pbd N k 1 (t - 1))) → (∀ z, z < I 464 3 → B 466 z = A 466 z ∧ B 467 z = A 467 z) → 9 - t < (n9 : Int) → jt (jm G Y_OU_addCurve (gR (d + 1)) (cQ b f0 sz (fun (rv : Option Value) (I2 : Nat → Nat → Int) (A2 : Nat → Int → Int) => rv = none ∧ cPx [7427] [466, 467] I A I2 A2 ∧ I2 464 3 = I 464 3 + 8 ∧ gPt (A2 466) (A2 467) (I2 464 3) (Ps ++ pbs N k 8) (pco N (k + 3) 0) (pco N (k + 3) 1) ∧ ∀ z, z < I 464 3 → A2 466 z = A 466 z ∧ A2 467 z = A 467 z))) 2 [(0, .ref (b + 464)), (1, .int (jI q)), (2, .int (jI t))] [] (cmf b f0 J B) sz 0 0 := by
  have r46 : 0 ≤ I 464 3 ∧ I 464 3 ≤ 98 := hI 464 3
  intro n9
  induction n9 with
  | zero =>
    intro t J B hJ t0 hj hgp hsm hmeas
    exfalso
    omega
  | succ n9 ih =>
    intro t J B hJ t0 hj hgp hsm hmeas
    refine jt_iload_n d_OU_addCurve_2 rfl ?_
    refine jt_bipush d_OU_addCurve_3 (by omega) ?_
    refine jt_icmp_gt (t := 32) d_OU_addCurve_5 rfl (by unfold jRi; omega) (by unfold jRi; omega) (fun c101 => ?_) (fun c101 => ?_)
    · skip
      exact cm_vret d_OU_addCurve_32 rfl (⟨rfl, hJ, by omega, by have h9 := hgp; rw [show (t - 1).toNat = 8 by omega, show t - 1 = 8 by omega, pbd_8, pbd_8] at h9; exact h9, hsm⟩)
    · skip
      refine jt_aload_n d_OU_addCurve_8 rfl ?_
      refine jt_aload_n d_OU_addCurve_9 rfl ?_
      refine jt_iload_n d_OU_addCurve_10 rfl ?_
      refine jt_iload_n d_OU_addCurve_11 rfl ?_
      refine cct_callV (Y := Y_OU_onCurve) (ci := 5) (k := 464) (As := [.int (jI q), .int (jI t)]) (rest := [.ref (b + 464)]) d_OU_addCurve_12 OU_c49 yk_OU_onCurve yv_OU_onCurve rfl (Nat.le_of_ble_eq_true rfl) (by decide) cc_6 rfl rfl (Nat.le_of_ble_eq_true rfl) (v_OU_onCurve_x G _ b q t J B hJ.1 hJ.2.1 (by omega) k 0 (by omega) k0 (by omega) N hN M9 hM9 (by rw [hJ.2.2.2 465 rfl trivial]; exact hNA) (by omega)) (fun rvq102 Iq102 Aq102 hq102 => ?_)
      obtain ⟨yq102, rfl, ryq102, hIq102, hAq102, hxq102⟩ := hq102
      rw [hIq102, hAq102]
      show jt _ 15 [(0, .ref (b + 464)), (1, .int (jI q)), (2, .int (jI t))] [.int (jI yq102), .ref (b + 464)] (cmf b f0 J B) _ _ _
      refine jt_aload_n d_OU_addCurve_15 rfl ?_
      refine jt_iload_n d_OU_addCurve_16 rfl ?_
      refine jt_iconst d_OU_addCurve_17 ?_
      refine jt_iadd d_OU_addCurve_18 ?_
      refine jt_iload_n d_OU_addCurve_19 rfl ?_
      refine cct_callV (Y := Y_OU_onCurve) (ci := 5) (k := 464) (As := [.int (jI (q + 1)), .int (jI t)]) (rest := [.int (jI yq102), .ref (b + 464)]) d_OU_addCurve_20 OU_c49 yk_OU_onCurve yv_OU_onCurve rfl (Nat.le_of_ble_eq_true rfl) (by decide) cc_6 rfl rfl (Nat.le_of_ble_eq_true rfl) (v_OU_onCurve_x G _ b (q + 1) t J B hJ.1 hJ.2.1 (by omega) k 1 (by omega) k0 (by omega) N hN M9 hM9 (by rw [hJ.2.2.2 465 rfl trivial]; exact hNA) (by omega)) (fun rvq103 Iq103 Aq103 hq103 => ?_)
      obtain ⟨yq103, rfl, ryq103, hIq103, hAq103, hxq103⟩ := hq103
      rw [hIq103, hAq103]
      show jt _ 23 [(0, .ref (b + 464)), (1, .int (jI q)), (2, .int (jI t))] [.int (jI yq103), .int (jI yq102), .ref (b + 464)] (cmf b f0 J B) _ _ _
      refine cct_callV (Y := Y_OU_addPoint) (ci := 5) (k := 464) (As := [.int (jI yq102), .int (jI yq103)]) (rest := []) d_OU_addCurve_23 OU_c41 yk_OU_addPoint yv_OU_addPoint rfl (Nat.le_of_ble_eq_true rfl) (by decide) cc_6 rfl rfl (Nat.le_of_ble_eq_true rfl) (v_OU_addPoint_x G _ b yq102 yq103 J B hJ.1 hJ.2.1 (by omega) (by omega) (show J 464 3 < 98 by omega)) (fun rvq104 Iq104 Aq104 hq104 => ?_)
      obtain ⟨rfl, hqq104, hxq104⟩ := hq104
      have hpq104 := cPx.trans hJ hqq104 rfl rfl
      show jt _ 26 [(0, .ref (b + 464)), (1, .int (jI q)), (2, .int (jI t))] [] (cmf b f0 Iq104 Aq104) _ _ _
      refine jt_iinc (L' := [(0, .ref (b + 464)), (1, .int (jI q)), (2, .int (jI (t + 1)))]) d_OU_addCurve_26 rfl (Nat.le_of_ble_eq_true rfl) rfl ?_
      refine jt_goto (t := 2) d_OU_addCurve_29 rfl ?_
      exact ih (t + 1) Iq104 Aq104 hpq104 (by omega) (by rw [hxq104.1]; omega) (by have h9 := gPt_s (x := yq102) (y := yq103) hgp; rw [show (t + 1 - 1).toNat = (t - 1).toNat + 1 by omega, pbs_s, ← List.append_assoc, show (((t - 1).toNat : Nat) : Int) = t - 1 by omega, hxq104.1, hxq104.2.1, hxq104.2.2]; unfold pbp; rw [show t - 1 + 1 = t by omega, show t + 1 - 1 = t by omega, ← hxq102, ← hxq103]; exact h9) (fun z a => by rw [hxq104.2.1, hxq104.2.2, ju_ne _ _ (by omega), ju_ne _ _ (by omega)]; exact hsm z a) (by omega)
set_option maxRecDepth 100000 in
set_option maxHeartbeats 4000000 in
theorem v_OU_addCurve_x (G : jG) (d b : Nat) (q : Int) (I : Nat → Nat → Int) (A : Nat → Int → Int) (hI : cSI I) (hA : cSA A) (k : Int) (hq : q = 2 * k) (k0 : 0 ≤ k) (N : Int → Int) (hN : pnr N) (M9 : Int) (hM9 : M9 ≤ 74) (hNA : ∀ z, 0 ≤ z → z < M9 → A 465 z = N z) (hk : 2 * k + 7 < M9) (Ps : List Pc) (h0p : gPt (A 466) (A 467) (I 464 3) (Ps) (pco N (k) 0) (pco N (k) 1)) (hp : I 464 3 ≤ 90) : cct G Y_OU_addCurve (d + 1) b [.ref (b + 464), .int (jI q)] I A (fun (rv : Option Value) (I2 : Nat → Nat → Int) (A2 : Nat → Int → Int) => rv = none ∧ cPx [7427] [466, 467] I A I2 A2 ∧ I2 464 3 = I 464 3 + 8 ∧ gPt (A2 466) (A2 467) (I2 464 3) (Ps ++ pbs N k 8) (pco N (k + 3) 0) (pco N (k + 3) 1) ∧ ∀ z, z < I 464 3 → A2 466 z = A 466 z ∧ A2 467 z = A 467 z) := by
  refine cct_of (by decide) (Nat.le_of_ble_eq_true rfl) (fun f0 sz => ?_)
  show jt _ 0 [(0, .ref (b + 464)), (1, .int (jI q))] [] _ _ _ _
  have r46 : 0 ≤ I 464 3 ∧ I 464 3 ≤ 98 := hI 464 3
  have hz0 : cPx [7427] [466, 467] I A I A := cPx.refl hI hA
  refine jt_iconst d_OU_addCurve_0 ?_
  refine jt_istore_n (L' := [(0, .ref (b + 464)), (1, .int (jI q)), (2, .int (jI 1))]) d_OU_addCurve_1 (Nat.le_of_ble_eq_true rfl) rfl ?_
  exact l2_OU_addCurve_xv G d b q I A hI hA k hq k0 N hN M9 hM9 hNA hk Ps h0p hp f0 sz  9 1 I A hz0 (by omega) (by omega) (by rw [show ((1 : Int) - 1).toNat = 0 from rfl, show pbs N k 0 = [] from rfl, List.append_nil, show (1 : Int) - 1 = 0 by omega, pbd_0, pbd_0]; exact h0p) (fun z a => ⟨rfl, rfl⟩) (by omega)
set_option maxRecDepth 100000 in
set_option maxHeartbeats 4000000 in
theorem l34_OU_trace_xv (G : jG) (d b : Nat) (n : Int) (I : Nat → Nat → Int) (A : Nat → Int → Int) (hI : cSI I) (hA : cSA A) (L : List Int) (hl : n = (L.length : Int)) (hl12 : n ≤ 12) (hlg : cLg A L) (N : Int → Int) (hN : pnr N) (M9 : Int) (hM9 : M9 ≤ 74) (hNA : ∀ z, 0 ≤ z → z < M9 → A 465 z = N z) (hke : 2 * pke L 0 + 2 ≤ M9) (f0 : jF) (sz : Nat)   : ∀ (n9 : Nat) (q : Int) (l : Int) (J : Nat → Nat → Int) (B : Nat → Int → Int), cPx [7427] [466, 467] I A J B → (0 ≤ l ∧ l ≤ (L.length : Int)) → (q = 2 * pke (L.take l.toNat) 0) → (1 ≤ J 464 3 ∧ J 464 3 ≤ 8 * l + 1) → (gPt (B 466) (B 467) (J 464 3) (ple N (L.take l.toNat) 0) (pco N (pke (L.take l.toNat) 0) 0) (pco N (pke (L.take l.toNat) 0) 1)) → (B 466 0 = pco N 0 0 ∧ B 467 0 = pco N 0 1) → 12 - l < (n9 : Int) → jt (jm G Y_OU_trace (gR (d + 2)) (cQ b f0 sz (fun (rv : Option Value) (I2 : Nat → Nat → Int) (A2 : Nat → Int → Int) => rv = none ∧ cPx [7427] [466, 467] I A I2 A2 ∧ I2 464 3 = ((pls N L).length : Int) + 1 ∧ gPc (A2 466) (A2 467) (fun z => A2 466 (z + 1)) (fun z => A2 467 (z + 1)) (pls N L)))) 34 [(0, .ref (b + 464)), (1, .ref (b + 375)), (2, .int (jI n)), (3, .int (jI q)), (4, .int (jI l))] [] (cmf b f0 J B) sz 0 0 := by
  have kp0 := (pke_n L 0).2.1
  intro n9
  induction n9 with
  | zero =>
    intro q l J B hJ l0 hq hj hgp hx0 hmeas
    have q46 : 0 ≤ J 464 3 ∧ J 464 3 ≤ 98 := hJ.1 464 3
    have hkq := pke_le L l.toNat 0
    exfalso
    omega
  | succ n9 ih =>
    intro q l J B hJ l0 hq hj hgp hx0 hmeas
    have q46 : 0 ≤ J 464 3 ∧ J 464 3 ≤ 98 := hJ.1 464 3
    have hkq := pke_le L l.toNat 0
    refine jt_iload d_OU_trace_34 rfl ?_
    refine jt_iload_n d_OU_trace_36 rfl ?_
    refine jt_icmp_ge (t := 100) d_OU_trace_37 rfl (by unfold jRi; omega) (by unfold jRi; omega) (fun c101 => ?_) (fun c101 => ?_)
    · skip
      refine jt_aload_n d_OU_trace_100 rfl ?_
      refine jt_aload_n d_OU_trace_101 rfl ?_
      refine cm_get (k := 464) (v := .ref (b + 466)) d_OU_trace_102 OU_f15 (by decide) cc_6 rfl ?_
      refine jt_iconst d_OU_trace_105 ?_
      refine cm_ld0 (k := 466) (n := 98) (v := (B 466) 0) d_OU_trace_106 (by decide) rfl rfl (by omega) (by omega) (by omega) rfl ?_
      refine jt_topi (fun v102 ev102 => ?_)
      have bv102 : -2147483648 ≤ v102 ∧ v102 ≤ 2147483647 := by rw [ev102]; exact hJ.2.1 466 0
      rw [hx0.1] at ev102
      refine jt_aload_n d_OU_trace_107 rfl ?_
      refine cm_get (k := 464) (v := .ref (b + 467)) d_OU_trace_108 OU_f18 (by decide) cc_6 rfl ?_
      refine jt_iconst d_OU_trace_111 ?_
      refine cm_ld0 (k := 467) (n := 98) (v := (B 467) 0) d_OU_trace_112 (by decide) rfl rfl (by omega) (by omega) (by omega) rfl ?_
      refine jt_topi (fun v103 ev103 => ?_)
      have bv103 : -2147483648 ≤ v103 ∧ v103 ≤ 2147483647 := by rw [ev103]; exact hJ.2.1 467 0
      rw [hx0.2] at ev103
      refine cct_callV (Y := Y_OU_addPoint) (ci := 5) (k := 464) (As := [.int (jI v102), .int (jI v103)]) (rest := []) d_OU_trace_113 OU_c41 yk_OU_addPoint yv_OU_addPoint rfl (Nat.le_of_ble_eq_true rfl) (by decide) cc_6 rfl rfl (Nat.le_of_ble_eq_true rfl) (v_OU_addPoint_x G _ b v102 v103 J B hJ.1 hJ.2.1 (by omega) (by omega) (show J 464 3 < 98 by omega)) (fun rvq104 Iq104 Aq104 hq104 => ?_)
      obtain ⟨rfl, hqq104, hxq104⟩ := hq104
      have hpq104 := cPx.trans hJ hqq104 rfl rfl
      show jt _ 116 [(0, .ref (b + 464)), (1, .ref (b + 375)), (2, .int (jI n)), (3, .int (jI q)), (4, .int (jI l))] [] (cmf b f0 Iq104 Aq104) _ _ _
      exact cm_vret d_OU_trace_116 rfl (by
        have hfull : L.take l.toNat = L := List.take_of_length_le (by omega)
        rw [hfull] at hgp
        have h9 := gPt_s (x := v102) (y := v103) hgp
        have e9 : ple N L 0 ++ [(pco N (pke L 0) 0, pco N (pke L 0) 1, v102, v103)] = pls N L := by rw [ev102, ev103]; rfl
        rw [e9] at h9
        refine ⟨rfl, hpq104, ?_, ?_⟩
        · rw [hxq104.1, h9.1]
        · rw [hxq104.2.1, hxq104.2.2]
          exact h9.2.1)
    · skip
      refine jt_iload d_OU_trace_40 rfl ?_
      refine jt_bipush d_OU_trace_42 (by omega) ?_
      refine jt_icmp_ge (t := 100) d_OU_trace_44 rfl (by unfold jRi; omega) (by unfold jRi; omega) (fun c105 => ?_) (fun c105 => ?_)
      · skip
        refine jt_aload_n d_OU_trace_100 rfl ?_
        refine jt_aload_n d_OU_trace_101 rfl ?_
        refine cm_get (k := 464) (v := .ref (b + 466)) d_OU_trace_102 OU_f15 (by decide) cc_6 rfl ?_
        refine jt_iconst d_OU_trace_105 ?_
        refine cm_ld0 (k := 466) (n := 98) (v := (B 466) 0) d_OU_trace_106 (by decide) rfl rfl (by omega) (by omega) (by omega) rfl ?_
        refine jt_topi (fun v106 ev106 => ?_)
        have bv106 : -2147483648 ≤ v106 ∧ v106 ≤ 2147483647 := by rw [ev106]; exact hJ.2.1 466 0
        rw [hx0.1] at ev106
        refine jt_aload_n d_OU_trace_107 rfl ?_
        refine cm_get (k := 464) (v := .ref (b + 467)) d_OU_trace_108 OU_f18 (by decide) cc_6 rfl ?_
        refine jt_iconst d_OU_trace_111 ?_
        refine cm_ld0 (k := 467) (n := 98) (v := (B 467) 0) d_OU_trace_112 (by decide) rfl rfl (by omega) (by omega) (by omega) rfl ?_
        refine jt_topi (fun v107 ev107 => ?_)
        have bv107 : -2147483648 ≤ v107 ∧ v107 ≤ 2147483647 := by rw [ev107]; exact hJ.2.1 467 0
        rw [hx0.2] at ev107
        refine cct_callV (Y := Y_OU_addPoint) (ci := 5) (k := 464) (As := [.int (jI v106), .int (jI v107)]) (rest := []) d_OU_trace_113 OU_c41 yk_OU_addPoint yv_OU_addPoint rfl (Nat.le_of_ble_eq_true rfl) (by decide) cc_6 rfl rfl (Nat.le_of_ble_eq_true rfl) (v_OU_addPoint_x G _ b v106 v107 J B hJ.1 hJ.2.1 (by omega) (by omega) (show J 464 3 < 98 by omega)) (fun rvq108 Iq108 Aq108 hq108 => ?_)
        obtain ⟨rfl, hqq108, hxq108⟩ := hq108
        have hpq108 := cPx.trans hJ hqq108 rfl rfl
        show jt _ 116 [(0, .ref (b + 464)), (1, .ref (b + 375)), (2, .int (jI n)), (3, .int (jI q)), (4, .int (jI l))] [] (cmf b f0 Iq108 Aq108) _ _ _
        exact cm_vret d_OU_trace_116 rfl (by
        have hfull : L.take l.toNat = L := List.take_of_length_le (by omega)
        rw [hfull] at hgp
        have h9 := gPt_s (x := v106) (y := v107) hgp
        have e9 : ple N L 0 ++ [(pco N (pke L 0) 0, pco N (pke L 0) 1, v106, v107)] = pls N L := by rw [ev106, ev107]; rfl
        rw [e9] at h9
        refine ⟨rfl, hpq108, ?_, ?_⟩
        · rw [hxq108.1, h9.1]
        · rw [hxq108.2.1, hxq108.2.2]
          exact h9.2.1)
      · skip
        obtain ⟨b9, hb9⟩ : ∃ b9, L[l.toNat]? = some b9 := ⟨_, List.getElem?_eq_getElem (by omega)⟩
        have hlg9 := hlg l.toNat b9 hb9 (by omega)
        rw [show ((l.toNat : Nat) : Int) = l by omega] at hlg9
        have hkn := pke_t hb9 0
        have hkl := pke_le L (l.toNat + 1) 0
        have hle := ple_t (N := N) hb9 0
        obtain ⟨k9, hk9⟩ : ∃ k9 : Int, k9 = pke (L.take l.toNat) 0 := ⟨_, rfl⟩
        rw [← hk9] at hkn hle hq hgp
        rw [hkn] at hkl
        have hk0 := (pke_n (L.take l.toNat) 0).2.1
        rw [← hk9] at hk0
        refine jt_aload_n d_OU_trace_47 rfl ?_
        refine jt_iload d_OU_trace_48 rfl ?_
        refine cm_ld2 (k := 375) (n := 12) (v := (B 375) l) d_OU_trace_50 (by decide) rfl rfl (by omega) (by omega) (by omega) rfl ?_
        refine jt_topi (fun v109 ev109 => ?_)
        have bv109 : 0 ≤ v109 ∧ v109 ≤ 1 := by rw [ev109]; exact hJ.2.1 375 l
        rw [hJ.2.2.2 375 rfl trivial, hlg9] at ev109
        refine jt_if_eq (t := 65) d_OU_trace_51 rfl (by unfold jRi; omega) (fun c110 => ?_) (fun c110 => ?_)
        · skip
          have hb0 : b9 = 0 := by omega
          have hnx : pnx k9 b9 = k9 + 1 := if_pos hb0
          rw [hnx] at hkl hkn
          have hpg : plg N k9 b9 = [plp N k9] := if_pos hb0
          rw [hpg] at hle
          refine jt_iinc (L' := [(0, .ref (b + 464)), (1, .ref (b + 375)), (2, .int (jI n)), (3, .int (jI (q + 2))), (4, .int (jI l))]) d_OU_trace_65 rfl (Nat.le_of_ble_eq_true rfl) rfl ?_
          refine jt_aload_n d_OU_trace_68 rfl ?_
          refine jt_aload_n d_OU_trace_69 rfl ?_
          refine cm_get (k := 464) (v := .ref (b + 465)) d_OU_trace_70 OU_f11 (by decide) cc_6 rfl ?_
          refine jt_iload_n d_OU_trace_73 rfl ?_
          refine cm_ld0 (k := 465) (n := 74) (v := (B 465) (q + 2)) d_OU_trace_74 (by decide) rfl rfl (by omega) (by omega) (by omega) rfl ?_
          refine jt_topi (fun v111 ev111 => ?_)
          have bv111 : -2147483648 ≤ v111 ∧ v111 ≤ 2147483647 := by rw [ev111]; exact hJ.2.1 465 (q + 2)
          rw [hJ.2.2.2 465 rfl trivial, hNA (q + 2) (by omega) (by omega)] at ev111
          have nv111 := hN (q + 2) (by omega) (by omega)
          refine jt_sipush d_OU_trace_75 (by omega) ?_
          refine jt_imul d_OU_trace_78 ?_
          refine jt_aload_n d_OU_trace_79 rfl ?_
          refine cm_get (k := 464) (v := .ref (b + 465)) d_OU_trace_80 OU_f11 (by decide) cc_6 rfl ?_
          refine jt_iload_n d_OU_trace_83 rfl ?_
          refine jt_iconst d_OU_trace_84 ?_
          refine jt_iadd d_OU_trace_85 ?_
          refine cm_ld0 (k := 465) (n := 74) (v := (B 465) ((q + 2) + 1)) d_OU_trace_86 (by decide) rfl rfl (by omega) (by omega) (by omega) rfl ?_
          refine jt_topi (fun v112 ev112 => ?_)
          have bv112 : -2147483648 ≤ v112 ∧ v112 ≤ 2147483647 := by rw [ev112]; exact hJ.2.1 465 ((q + 2) + 1)
          rw [hJ.2.2.2 465 rfl trivial, hNA ((q + 2) + 1) (by omega) (by omega)] at ev112
          have nv112 := hN ((q + 2) + 1) (by omega) (by omega)
          refine jt_sipush d_OU_trace_87 (by omega) ?_
          refine jt_imul d_OU_trace_90 ?_
          refine cct_callV (Y := Y_OU_addPoint) (ci := 5) (k := 464) (As := [.int (jI (v111 * 512)), .int (jI (v112 * 512))]) (rest := []) d_OU_trace_91 OU_c41 yk_OU_addPoint yv_OU_addPoint rfl (Nat.le_of_ble_eq_true rfl) (by decide) cc_6 rfl rfl (Nat.le_of_ble_eq_true rfl) (v_OU_addPoint_x G _ b (v111 * 512) (v112 * 512) J B hJ.1 hJ.2.1 (by omega) (by omega) (show J 464 3 < 98 by omega)) (fun rvq113 Iq113 Aq113 hq113 => ?_)
          obtain ⟨rfl, hqq113, hxq113⟩ := hq113
          have hpq113 := cPx.trans hJ hqq113 rfl rfl
          show jt _ 94 [(0, .ref (b + 464)), (1, .ref (b + 375)), (2, .int (jI n)), (3, .int (jI (q + 2))), (4, .int (jI l))] [] (cmf b f0 Iq113 Aq113) _ _ _
          refine jt_iinc (L' := [(0, .ref (b + 464)), (1, .ref (b + 375)), (2, .int (jI n)), (3, .int (jI (q + 2))), (4, .int (jI (l + 1)))]) d_OU_trace_94 rfl (Nat.le_of_ble_eq_true rfl) rfl ?_
          refine jt_goto (t := 34) d_OU_trace_97 rfl ?_
          exact ih (q + 2) (l + 1) Iq113 Aq113 hpq113 (by omega) (by rw [show (l + 1).toNat = l.toNat + 1 by omega, hkn]; omega) (by have h9 := hxq113.1; omega) (by rw [show (l + 1).toNat = l.toNat + 1 by omega, hkn, hle]; have h9 := gPt_s (x := v111 * 512) (y := v112 * 512) hgp; rw [hxq113.1, hxq113.2.1, hxq113.2.2]; unfold plp pco; unfold pco at h9; rw [show 2 * (k9 + 1) + 0 = q + 2 by omega, show 2 * (k9 + 1) + 1 = q + 2 + 1 by omega, ← ev111, ← ev112]; exact h9) (by rw [hxq113.2.1, hxq113.2.2, ju_ne _ _ (by omega), ju_ne _ _ (by omega)]; exact hx0) (by omega)
        · skip
          have hb0 : ¬ b9 = 0 := by omega
          have hnx : pnx k9 b9 = k9 + 3 := if_neg hb0
          rw [hnx] at hkl hkn
          have hpg : plg N k9 b9 = pbs N k9 8 := if_neg hb0
          rw [hpg] at hle
          refine jt_aload_n d_OU_trace_54 rfl ?_
          refine jt_iload_n d_OU_trace_55 rfl ?_
          refine cct_callV (Y := Y_OU_addCurve) (ci := 5) (k := 464) (As := [.int (jI q)]) (rest := []) d_OU_trace_56 OU_c45 yk_OU_addCurve yv_OU_addCurve rfl (Nat.le_of_ble_eq_true rfl) (by decide) cc_6 rfl rfl (Nat.le_of_ble_eq_true rfl) (v_OU_addCurve_x G _ b q J B hJ.1 hJ.2.1 k9 (by omega) (by omega) N hN M9 hM9 (by rw [hJ.2.2.2 465 rfl trivial]; exact hNA) (by omega) _ hgp (by omega)) (fun rvq114 Iq114 Aq114 hq114 => ?_)
          obtain ⟨rfl, hqq114, hxq114⟩ := hq114
          have hpq114 := cPx.trans hJ hqq114 rfl rfl
          show jt _ 59 [(0, .ref (b + 464)), (1, .ref (b + 375)), (2, .int (jI n)), (3, .int (jI q)), (4, .int (jI l))] [] (cmf b f0 Iq114 Aq114) _ _ _
          refine jt_iinc (L' := [(0, .ref (b + 464)), (1, .ref (b + 375)), (2, .int (jI n)), (3, .int (jI (q + 6))), (4, .int (jI l))]) d_OU_trace_59 rfl (Nat.le_of_ble_eq_true rfl) rfl ?_
          refine jt_goto (t := 94) d_OU_trace_62 rfl ?_
          refine jt_iinc (L' := [(0, .ref (b + 464)), (1, .ref (b + 375)), (2, .int (jI n)), (3, .int (jI (q + 6))), (4, .int (jI (l + 1)))]) d_OU_trace_94 rfl (Nat.le_of_ble_eq_true rfl) rfl ?_
          refine jt_goto (t := 34) d_OU_trace_97 rfl ?_
          exact ih (q + 6) (l + 1) Iq114 Aq114 hpq114 (by omega) (by rw [show (l + 1).toNat = l.toNat + 1 by omega, hkn]; omega) (by have h9 := hxq114.1; omega) (by rw [show (l + 1).toNat = l.toNat + 1 by omega, hkn, hle]; exact hxq114.2.1) (by have h9 := hxq114.2.2 0 (by omega); exact ⟨h9.1.trans hx0.1, h9.2.trans hx0.2⟩) (by omega)
set_option maxRecDepth 100000 in
set_option maxHeartbeats 4000000 in
theorem v_OU_trace_x (G : jG) (d b : Nat) (n : Int) (I : Nat → Nat → Int) (A : Nat → Int → Int) (hI : cSI I) (hA : cSA A) (L : List Int) (hl : n = (L.length : Int)) (hl12 : n ≤ 12) (hlg : cLg A L) (N : Int → Int) (hN : pnr N) (M9 : Int) (hM9 : M9 ≤ 74) (hNA : ∀ z, 0 ≤ z → z < M9 → A 465 z = N z) (hke : 2 * pke L 0 + 2 ≤ M9) : cct G Y_OU_trace (d + 2) b [.ref (b + 464), .ref (b + 375), .int (jI n)] I A (fun (rv : Option Value) (I2 : Nat → Nat → Int) (A2 : Nat → Int → Int) => rv = none ∧ cPx [7427] [466, 467] I A I2 A2 ∧ I2 464 3 = ((pls N L).length : Int) + 1 ∧ gPc (A2 466) (A2 467) (fun z => A2 466 (z + 1)) (fun z => A2 467 (z + 1)) (pls N L)) := by
  refine cct_of (by decide) (Nat.le_of_ble_eq_true rfl) (fun f0 sz => ?_)
  show jt _ 0 [(0, .ref (b + 464)), (1, .ref (b + 375)), (2, .int (jI n))] [] _ _ _ _
  have kp0 := (pke_n L 0).2.1
  have hz0 : cPx [7427] [466, 467] I A I A := cPx.refl hI hA
  refine jt_aload_n d_OU_trace_0 rfl ?_
  refine jt_iconst d_OU_trace_1 ?_
  refine cm_put (k := 464) (j := 3) (v := 0) d_OU_trace_2 (OU_w37 _ rfl) (by decide) cc_6 rfl rfl (Nat.le_of_ble_eq_true rfl) rfl ?_
  have p1 := cPx.I 464 3 0 hz0 rfl (show 0 ≤ 0 ∧ 0 ≤ 98 by omega)
  refine jt_iconst d_OU_trace_5 ?_
  refine jt_istore_n (L' := [(0, .ref (b + 464)), (1, .ref (b + 375)), (2, .int (jI n)), (3, .int (jI 0))]) d_OU_trace_6 (Nat.le_of_ble_eq_true rfl) rfl ?_
  refine jt_aload_n d_OU_trace_7 rfl ?_
  refine jt_aload_n d_OU_trace_8 rfl ?_
  refine cm_get (k := 464) (v := .ref (b + 465)) d_OU_trace_9 OU_f11 (by decide) cc_6 rfl ?_
  refine jt_iconst d_OU_trace_12 ?_
  refine cm_ld0 (k := 465) (n := 74) (v := (A 465) 0) d_OU_trace_13 (by decide) rfl rfl (by omega) (by omega) (by omega) rfl ?_
  refine jt_topi (fun v2 ev2 => ?_)
  have bv2 : -2147483648 ≤ v2 ∧ v2 ≤ 2147483647 := by rw [ev2]; exact p1.2.1 465 0
  rw [hNA (0) (by omega) (by omega)] at ev2
  have nv2 := hN (0) (by omega) (by omega)
  refine jt_sipush d_OU_trace_14 (by omega) ?_
  refine jt_imul d_OU_trace_17 ?_
  refine jt_aload_n d_OU_trace_18 rfl ?_
  refine cm_get (k := 464) (v := .ref (b + 465)) d_OU_trace_19 OU_f11 (by decide) cc_6 rfl ?_
  refine jt_iconst d_OU_trace_22 ?_
  refine cm_ld0 (k := 465) (n := 74) (v := (A 465) 1) d_OU_trace_23 (by decide) rfl rfl (by omega) (by omega) (by omega) rfl ?_
  refine jt_topi (fun v3 ev3 => ?_)
  have bv3 : -2147483648 ≤ v3 ∧ v3 ≤ 2147483647 := by rw [ev3]; exact p1.2.1 465 1
  rw [hNA (1) (by omega) (by omega)] at ev3
  have nv3 := hN (1) (by omega) (by omega)
  refine jt_sipush d_OU_trace_24 (by omega) ?_
  refine jt_imul d_OU_trace_27 ?_
  refine cct_callV (Y := Y_OU_addPoint) (ci := 5) (k := 464) (As := [.int (jI (v2 * 512)), .int (jI (v3 * 512))]) (rest := []) d_OU_trace_28 OU_c41 yk_OU_addPoint yv_OU_addPoint rfl (Nat.le_of_ble_eq_true rfl) (by decide) cc_6 rfl rfl (Nat.le_of_ble_eq_true rfl) (v_OU_addPoint_x G _ b (v2 * 512) (v3 * 512) (cu I 464 3 0) A p1.1 p1.2.1 (by omega) (by omega) (show 0 < 98 by omega)) (fun rvq4 Iq4 Aq4 hq4 => ?_)
  obtain ⟨rfl, hqq4, hxq4⟩ := hq4
  have hpq4 := cPx.trans p1 hqq4 rfl rfl
  have s464_3q4 : (cu I 464 3 0) 464 3 = 0 := rfl
  show jt _ 31 [(0, .ref (b + 464)), (1, .ref (b + 375)), (2, .int (jI n)), (3, .int (jI 0))] [] (cmf b f0 Iq4 Aq4) _ _ _
  refine jt_iconst d_OU_trace_31 ?_
  refine jt_istore (L' := [(0, .ref (b + 464)), (1, .ref (b + 375)), (2, .int (jI n)), (3, .int (jI 0)), (4, .int (jI 0))]) d_OU_trace_32 (Nat.le_of_ble_eq_true rfl) rfl ?_
  exact l34_OU_trace_xv G d b n I A hI hA L hl hl12 hlg N hN M9 hM9 hNA hke f0 sz  13 0 0 Iq4 Aq4 hpq4 (by omega) (by rfl) (by have h9 : Iq4 464 3 = 0 + 1 := hxq4.1; omega) (by have h9 := gPt_0 (X := A 466) (Y := A 467) (x := v2 * 512) (y := v3 * 512); rw [show (0 : Int).toNat = 0 from rfl, show L.take 0 = [] from rfl, show ple N [] 0 = [] from rfl, show pke [] 0 = 0 from rfl, hxq4.1, hxq4.2.1, hxq4.2.2]; unfold pco; rw [show (2 : Int) * 0 + 0 = 0 by omega, show (2 : Int) * 0 + 1 = 1 by omega, ← ev2, ← ev3]; exact h9) (by rw [hxq4.2.1, hxq4.2.2]; unfold pco; rw [show (2 : Int) * 0 + 0 = 0 by omega, show (2 : Int) * 0 + 1 = 1 by omega, ← ev2, ← ev3]; exact ⟨ju_self _ _ _, ju_self _ _ _⟩) (by omega)

set_option maxRecDepth 100000 in
set_option maxHeartbeats 1000000 in
theorem l36_GM_finishBetweeny (G : jG) (d m : Nat)  (I : Nat → Int) (A : Nat → Int → Int) (hI : gSI I) (hA : gSA A) (h13 : 1 ≤ I 13) (h9 : 2 ≤ I 9 ∧ I 9 ≤ 30) (c : Int) (hc : A 38 (I 13 - 1) = c * 4096 ∧ -16000 ≤ c ∧ c ≤ 16000) (rbA : ∀ j, 0 ≤ j → j < 13 → gin (A 35 (((298 + I 9) * 13) + j))) (rbB : ∀ j, 0 ≤ j → j < 13 → gin (A 35 (((298 + I 9) * 13) + 13 + j))) (f0 : jF) (sz : Nat) (t : Int) (tc : t = c) (ht : -16000 ≤ t ∧ t ≤ 16000) : ∀ (n9 : Nat) (i : Int) (J : Nat → Int) (B : Nat → Int → Int), gPo [9, 13, 15] [35] I A J B → (0 ≤ i) → (i ≤ 13) → (J 13 = I 13 - 1) → (J 9 = I 9 - 1) → (bwQ t ((298 + I 9) * 13) I A J B i) → 13 - i < (n9 : Int) → jt (jm G Y_GM_finishBetween (gR (d + 1)) (gQ m f0 sz (fun (rv : Option Value) (I2 : Nat → Int) (A2 : Nat → Int → Int) => rv = none ∧ gPo [9, 13, 15] [35] I A I2 A2 ∧ (I2 13 = I 13 - 1 ∧ I2 9 = I 9 - 1) ∧ bwQ c ((298 + I 9) * 13) I A I2 A2 13))) 36 [(0, .ref m), (1, .long (jL t)), (3, .int (jI i))] [] (gmf m f0 J B) sz 0 0 := by
  have q13 : 0 ≤ I 13 ∧ I 13 ≤ 320 := hI 13
  have q15 : 0 ≤ I 15 ∧ I 15 ≤ 1 := hI 15
  intro n9
  induction n9 with
  | zero =>
    intro i J B hJ i0 i1 j13 j9 hw hmeas
    have q15 : 0 ≤ J 15 ∧ J 15 ≤ 1 := hJ.1 15
    exfalso
    omega
  | succ n9 ih =>
    intro i J B hJ i0 i1 j13 j9 hw hmeas
    have q15 : 0 ≤ J 15 ∧ J 15 ≤ 1 := hJ.1 15
    refine jt_iload_n d_GM_finishBetween_36 rfl ?_
    refine jt_bipush d_GM_finishBetween_37 (by omega) ?_
    refine jt_icmp_ge (t := 140) d_GM_finishBetween_39 rfl (by unfold jRi; omega) (by unfold jRi; omega) (fun c101 => ?_) (fun c101 => ?_)
    · skip
      exact gm_vret d_GM_finishBetween_140 rfl (⟨rfl, hJ, ⟨j13, j9⟩, by obtain rfl : i = 13 := (by omega); rw [← tc]; exact hw⟩)
    · skip
      refine jt_aload_n d_GM_finishBetween_42 rfl ?_
      refine gm_gA (k := 35) (a := m + 20) d_GM_finishBetween_43 GM_f118 (by decide) (by decide) rfl ?_
      refine jt_sipush d_GM_finishBetween_46 (by omega) ?_
      refine jt_aload_n d_GM_finishBetween_49 rfl ?_
      refine gm_gI (k := 9) (v := J 9) d_GM_finishBetween_50 GM_f37 (by decide) rfl ?_
      have rb102 : 0 ≤ J 9 ∧ J 9 ≤ 100 := hJ.1 9
      refine jt_iadd d_GM_finishBetween_53 ?_
      refine jt_bipush d_GM_finishBetween_54 (by omega) ?_
      refine jt_imul d_GM_finishBetween_56 ?_
      refine jt_iload_n d_GM_finishBetween_57 rfl ?_
      refine jt_iadd d_GM_finishBetween_58 ?_
      refine gm_ld1 (k := 35) (n := 5200) (v := (B 35) (((299 + (J 9)) * 13) + i)) d_GM_finishBetween_59 rfl (by decide) (by decide) rfl rfl (by omega) (by omega) (by omega) rfl ?_
      refine jt_topl (fun v103 ev103 => ?_)
      have bv103 : (-9223372036854775808) ≤ v103 ∧ v103 ≤ 9223372036854775807 := by rw [ev103]; exact hJ.2.1 35 (((299 + (J 9)) * 13) + i)
      have ea : v103 = A 35 (((298 + I 9) * 13) + i) := by rw [ev103, show (299 + J 9) * 13 + i = ((298 + I 9) * 13) + i by omega]; exact hw.2.2.2 _ (by omega)
      refine jt_lstore (L' := [(0, .ref m), (1, .long (jL t)), (3, .int (jI i)), (4, .long (jL v103))]) d_GM_finishBetween_60 (Nat.le_of_ble_eq_true rfl) rfl ?_
      refine jt_aload_n d_GM_finishBetween_62 rfl ?_
      refine gm_gA (k := 35) (a := m + 20) d_GM_finishBetween_63 GM_f118 (by decide) (by decide) rfl ?_
      refine jt_sipush d_GM_finishBetween_66 (by omega) ?_
      refine jt_aload_n d_GM_finishBetween_69 rfl ?_
      refine gm_gI (k := 9) (v := J 9) d_GM_finishBetween_70 GM_f37 (by decide) rfl ?_
      refine jt_iadd d_GM_finishBetween_73 ?_
      refine jt_bipush d_GM_finishBetween_74 (by omega) ?_
      refine jt_imul d_GM_finishBetween_76 ?_
      refine jt_iload_n d_GM_finishBetween_77 rfl ?_
      refine jt_iadd d_GM_finishBetween_78 ?_
      refine gm_ld1 (k := 35) (n := 5200) (v := (B 35) (((300 + (J 9)) * 13) + i)) d_GM_finishBetween_79 rfl (by decide) (by decide) rfl rfl (by omega) (by omega) (by omega) rfl ?_
      refine jt_topl (fun v104 ev104 => ?_)
      have bv104 : (-9223372036854775808) ≤ v104 ∧ v104 ≤ 9223372036854775807 := by rw [ev104]; exact hJ.2.1 35 (((300 + (J 9)) * 13) + i)
      have eb : v104 = A 35 (((298 + I 9) * 13) + 13 + i) := by rw [ev104, show (300 + J 9) * 13 + i = ((298 + I 9) * 13) + 13 + i by omega]; exact hw.2.2.2 _ (by omega)
      have ga := rbA i i0 (by omega)
      have gb := rbB i i0 (by omega)
      rw [← ea] at ga
      rw [← eb] at gb
      refine jt_lload d_GM_finishBetween_80 rfl ?_
      refine jt_lsub d_GM_finishBetween_82 ?_
      refine jt_topln (fun v105 bv105 ev105 => ?_)
      refine jt_lload_n d_GM_finishBetween_83 rfl ?_
      refine jt_lmul d_GM_finishBetween_84 ?_
      refine jt_topln (fun v106 bv106 ev106 => ?_)
      refine jt_lstore (L' := [(0, .ref m), (1, .long (jL t)), (3, .int (jI i)), (4, .long (jL v103)), (6, .long (jL v106))]) d_GM_finishBetween_85 (Nat.le_of_ble_eq_true rfl) rfl ?_
      refine jt_lload d_GM_finishBetween_87 rfl ?_
      refine jt_ldc2 (z := 16) d_GM_finishBetween_89 GM_k229 ?_
      refine jt_lrem d_GM_finishBetween_92 (by unfold jRl; omega) (by unfold jRl; omega) (by omega) ?_
      have td107 := gtd v106 16 (by omega)
      refine jt_topln (fun v108 bv108 ev108 => ?_)
      refine jt_lconst (z := 0) d_GM_finishBetween_93 (by decide) ?_
      refine jt_lif_eq (t := 103) d_GM_finishBetween_94 d_GM_finishBetween_95 rfl (by unfold jRl; omega) (by unfold jRl; omega) (fun c109 => ?_) (fun c109 => ?_)
      · skip
        refine jt_aload_n d_GM_finishBetween_103 rfl ?_
        refine gm_gA (k := 35) (a := m + 20) d_GM_finishBetween_104 GM_f118 (by decide) (by decide) rfl ?_
        refine jt_sipush d_GM_finishBetween_107 (by omega) ?_
        refine jt_aload_n d_GM_finishBetween_110 rfl ?_
        refine gm_gI (k := 9) (v := J 9) d_GM_finishBetween_111 GM_f37 (by decide) rfl ?_
        refine jt_iadd d_GM_finishBetween_114 ?_
        refine jt_bipush d_GM_finishBetween_115 (by omega) ?_
        refine jt_imul d_GM_finishBetween_117 ?_
        refine jt_iload_n d_GM_finishBetween_118 rfl ?_
        refine jt_iadd d_GM_finishBetween_119 ?_
        refine jt_aload_n d_GM_finishBetween_120 rfl ?_
        refine jt_lload d_GM_finishBetween_121 rfl ?_
        refine jt_lload d_GM_finishBetween_123 rfl ?_
        refine jt_ldc2 (z := 16) d_GM_finishBetween_125 GM_k229 ?_
        refine jt_ldiv d_GM_finishBetween_128 (by unfold jRl; omega) (by unfold jRl; omega) (by omega) ?_
        have td110 := gtd v106 16 (by omega)
        refine jt_topln (fun v111 bv111 ev111 => ?_)
        refine jt_ladd d_GM_finishBetween_129 ?_
        refine jt_topln (fun v112 bv112 ev112 => ?_)
        have bx := bw_x ga gb ht bv106 bv105 ev105 ev106 bv112 bv111 ev111 ev112
        have bm : v106 = (A 35 (((298 + I 9) * 13) + 13 + i) - A 35 (((298 + I 9) * 13) + i)) * t := by rw [bx.1, ea, eb]
        have bv := bw_v bm (show v112 = A 35 (((298 + I 9) * 13) + i) + Int.tdiv v106 16 by rw [← ea]; exact bx.2)
        refine gct_call (Y := Y_GM_kept) (As := [.long (jL v112)]) (rest := [.int (jI (((299 + (J 9)) * 13) + i)), .ref (m + 20)]) d_GM_finishBetween_130 GM_c185 yk_GM_kept yv_GM_kept rfl (Nat.le_of_ble_eq_true rfl) rfl rfl (Nat.le_of_ble_eq_true rfl) (c_GM_kept G _ m v112 J B (by unfold jRl; omega)) (fun rvq113 Iq113 Aq113 hq113 => ?_)
        obtain ⟨rfl, hIq113, hAq113⟩ := hq113
        rw [hIq113, hAq113]
        have gbq113 : 0 ≤ gkr v112 (J 15) ∧ gkr v112 (J 15) ≤ 1 := by unfold gkr; split <;> omega
        have gkq113 := gkp_gin v112
        have p114 := gPo.I 15 (gkr v112 (J 15)) hJ rfl (show 0 ≤ gkr v112 (J 15) ∧ gkr v112 (J 15) ≤ 1 by omega)
        show jt _ 133 [(0, .ref m), (1, .long (jL t)), (3, .int (jI i)), (4, .long (jL v103)), (6, .long (jL v106))] [.long (jL (gkp v112)), .int (jI (((299 + (J 9)) * 13) + i)), .ref (m + 20)] (gmf m f0 (va_up J 15 (gkr v112 (J 15))) B) _ _ _
        refine jt_topl (fun v115 ev115 => ?_)
        refine gm_st1 (k := 35) (n := 5200) (B := va_up B 35 (ju (B 35) (((299 + (J 9)) * 13) + i) v115)) d_GM_finishBetween_133 rfl (by decide) (by decide) rfl rfl (by omega) (by omega) (by omega) rfl ?_
        have p116 := gPo.A 35 (ju (B 35) (((299 + (J 9)) * 13) + i) v115) p114 rfl (gju (p114.2.1 35) (show -9223372036854775808 ≤ v115 ∧ v115 ≤ 9223372036854775807 by omega))
        refine jt_iinc (L' := [(0, .ref m), (1, .long (jL t)), (3, .int (jI (i + 1))), (4, .long (jL v103)), (6, .long (jL v106))]) d_GM_finishBetween_134 rfl (Nat.le_of_ble_eq_true rfl) rfl ?_
        refine jt_goto (t := 36) d_GM_finishBetween_137 rfl ?_
        refine jt_sub (L' := [(0, .ref m), (1, .long (jL t)), (3, .int (jI (i + 1)))]) (fun _ h => List.mem_append_left [(4, Value.long (jL v103)), (6, Value.long (jL v106))] h) ?_
        exact ih (i + 1) (va_up J 15 (gkr v112 (J 15))) (va_up B 35 (ju (B 35) (((299 + (J 9)) * 13) + i) v115)) p116 (by omega) (by omega) (show J 13 = I 13 - 1 by omega) (show J 9 = I 9 - 1 by omega) (bw_s (r := J 15) (x := v112) hw i0 (fun z9 => ⟨rfl, bv.2 (bv.1.mpr z9)⟩) (fun z9 => by exfalso; exact z9 (bv.1.mp (by omega))) rfl (by show ju (B 35) ((299 + J 9) * 13 + i) v115 = _; rw [show (299 + J 9) * 13 + i = ((298 + I 9) * 13) + i by omega, ev115])) (by omega)
      · skip
        refine jt_aload_n d_GM_finishBetween_98 rfl ?_
        refine jt_iconst d_GM_finishBetween_99 ?_
        refine gm_pI (k := 15) (v := 1) (J := va_up J 15 1) d_GM_finishBetween_100 (GM_w55 _ rfl) (by decide) (jnz (by omega)) rfl rfl ?_
        have p117 := gPo.I 15 1 hJ rfl (show 0 ≤ 1 ∧ 1 ≤ 1 by omega)
        refine jt_aload_n d_GM_finishBetween_103 rfl ?_
        refine gm_gA (k := 35) (a := m + 20) d_GM_finishBetween_104 GM_f118 (by decide) (by decide) rfl ?_
        refine jt_sipush d_GM_finishBetween_107 (by omega) ?_
        refine jt_aload_n d_GM_finishBetween_110 rfl ?_
        refine gm_gI (k := 9) (v := J 9) d_GM_finishBetween_111 GM_f37 (by decide) rfl ?_
        refine jt_iadd d_GM_finishBetween_114 ?_
        refine jt_bipush d_GM_finishBetween_115 (by omega) ?_
        refine jt_imul d_GM_finishBetween_117 ?_
        refine jt_iload_n d_GM_finishBetween_118 rfl ?_
        refine jt_iadd d_GM_finishBetween_119 ?_
        refine jt_aload_n d_GM_finishBetween_120 rfl ?_
        refine jt_lload d_GM_finishBetween_121 rfl ?_
        refine jt_lload d_GM_finishBetween_123 rfl ?_
        refine jt_ldc2 (z := 16) d_GM_finishBetween_125 GM_k229 ?_
        refine jt_ldiv d_GM_finishBetween_128 (by unfold jRl; omega) (by unfold jRl; omega) (by omega) ?_
        have td118 := gtd v106 16 (by omega)
        refine jt_topln (fun v119 bv119 ev119 => ?_)
        refine jt_ladd d_GM_finishBetween_129 ?_
        refine jt_topln (fun v120 bv120 ev120 => ?_)
        have bx := bw_x ga gb ht bv106 bv105 ev105 ev106 bv120 bv119 ev119 ev120
        have bm : v106 = (A 35 (((298 + I 9) * 13) + 13 + i) - A 35 (((298 + I 9) * 13) + i)) * t := by rw [bx.1, ea, eb]
        have bv := bw_v bm (show v120 = A 35 (((298 + I 9) * 13) + i) + Int.tdiv v106 16 by rw [← ea]; exact bx.2)
        refine gct_call (Y := Y_GM_kept) (As := [.long (jL v120)]) (rest := [.int (jI (((299 + (J 9)) * 13) + i)), .ref (m + 20)]) d_GM_finishBetween_130 GM_c185 yk_GM_kept yv_GM_kept rfl (Nat.le_of_ble_eq_true rfl) rfl rfl (Nat.le_of_ble_eq_true rfl) (c_GM_kept G _ m v120 (va_up J 15 1) B (by unfold jRl; omega)) (fun rvq121 Iq121 Aq121 hq121 => ?_)
        obtain ⟨rfl, hIq121, hAq121⟩ := hq121
        rw [hIq121, hAq121]
        have gbq121 : 0 ≤ gkr v120 1 ∧ gkr v120 1 ≤ 1 := by unfold gkr; split <;> omega
        have gkq121 := gkp_gin v120
        have p122 := gPo.I 15 (gkr v120 1) p117 rfl (show 0 ≤ gkr v120 1 ∧ gkr v120 1 ≤ 1 by omega)
        show jt _ 133 [(0, .ref m), (1, .long (jL t)), (3, .int (jI i)), (4, .long (jL v103)), (6, .long (jL v106))] [.long (jL (gkp v120)), .int (jI (((299 + (J 9)) * 13) + i)), .ref (m + 20)] (gmf m f0 (va_up (va_up J 15 1) 15 (gkr v120 1)) B) _ _ _
        refine jt_topl (fun v123 ev123 => ?_)
        refine gm_st1 (k := 35) (n := 5200) (B := va_up B 35 (ju (B 35) (((299 + (J 9)) * 13) + i) v123)) d_GM_finishBetween_133 rfl (by decide) (by decide) rfl rfl (by omega) (by omega) (by omega) rfl ?_
        have p124 := gPo.A 35 (ju (B 35) (((299 + (J 9)) * 13) + i) v123) p122 rfl (gju (p122.2.1 35) (show -9223372036854775808 ≤ v123 ∧ v123 ≤ 9223372036854775807 by omega))
        refine jt_iinc (L' := [(0, .ref m), (1, .long (jL t)), (3, .int (jI (i + 1))), (4, .long (jL v103)), (6, .long (jL v106))]) d_GM_finishBetween_134 rfl (Nat.le_of_ble_eq_true rfl) rfl ?_
        refine jt_goto (t := 36) d_GM_finishBetween_137 rfl ?_
        refine jt_sub (L' := [(0, .ref m), (1, .long (jL t)), (3, .int (jI (i + 1)))]) (fun _ h => List.mem_append_left [(4, Value.long (jL v103)), (6, Value.long (jL v106))] h) ?_
        exact ih (i + 1) (va_up (va_up J 15 1) 15 (gkr v120 1)) (va_up B 35 (ju (B 35) (((299 + (J 9)) * 13) + i) v123)) p124 (by omega) (by omega) (show J 13 = I 13 - 1 by omega) (show J 9 = I 9 - 1 by omega) (bw_s (r := 1) (x := v120) hw i0 (fun z9 => by exfalso; have z8 := bv.1.mpr z9; omega) (fun _ => rfl) rfl (by show ju (B 35) ((299 + J 9) * 13 + i) v123 = _; rw [show (299 + J 9) * 13 + i = ((298 + I 9) * 13) + i by omega, ev123])) (by omega)
set_option maxRecDepth 100000 in
set_option maxHeartbeats 1000000 in
theorem y_GM_finishBetween (G : jG) (d m : Nat)  (I : Nat → Int) (A : Nat → Int → Int) (hI : gSI I) (hA : gSA A) (h13 : 1 ≤ I 13) (h9 : 2 ≤ I 9 ∧ I 9 ≤ 30) (c : Int) (hc : A 38 (I 13 - 1) = c * 4096 ∧ -16000 ≤ c ∧ c ≤ 16000) (rbA : ∀ j, 0 ≤ j → j < 13 → gin (A 35 (((298 + I 9) * 13) + j))) (rbB : ∀ j, 0 ≤ j → j < 13 → gin (A 35 (((298 + I 9) * 13) + 13 + j))) : gct G Y_GM_finishBetween (d + 1) m [] I A (fun (rv : Option Value) (I2 : Nat → Int) (A2 : Nat → Int → Int) => rv = none ∧ gPo [9, 13, 15] [35] I A I2 A2 ∧ (I2 13 = I 13 - 1 ∧ I2 9 = I 9 - 1) ∧ bwQ c ((298 + I 9) * 13) I A I2 A2 13) := by
  refine gct_of (by decide) (Nat.le_of_ble_eq_true rfl) (fun f0 sz => ?_)
  show jt _ 0 [(0, .ref m)] [] _ _ _ _
  have q13 : 0 ≤ I 13 ∧ I 13 ≤ 320 := hI 13
  have q15 : 0 ≤ I 15 ∧ I 15 ≤ 1 := hI 15
  have hz0 : gPo [9, 13, 15] [35] I A I A := gPo.refl hI hA
  refine jt_aload_n d_GM_finishBetween_0 rfl ?_
  refine jt_dup d_GM_finishBetween_1 rfl ?_
  refine gm_gI (k := 13) (v := I 13) d_GM_finishBetween_2 GM_f49 (by decide) rfl ?_
  have rb1 : 0 ≤ I 13 ∧ I 13 ≤ 320 := hz0.1 13
  refine jt_iconst d_GM_finishBetween_5 ?_
  refine jt_isub d_GM_finishBetween_6 ?_
  refine jt_topi (fun v2 ev2 => ?_)
  refine gm_pI (k := 13) (v := v2) (J := va_up I 13 v2) d_GM_finishBetween_7 (GM_w49 _ rfl) (by decide) rfl rfl rfl ?_
  have p3 := gPo.I 13 v2 hz0 rfl (show 0 ≤ v2 ∧ v2 ≤ 320 by omega)
  refine jt_aload_n d_GM_finishBetween_10 rfl ?_
  refine jt_dup d_GM_finishBetween_11 rfl ?_
  refine gm_gI (k := 9) (v := I 9) d_GM_finishBetween_12 GM_f37 (by decide) rfl ?_
  have rb4 : 0 ≤ I 9 ∧ I 9 ≤ 100 := p3.1 9
  refine jt_iconst d_GM_finishBetween_15 ?_
  refine jt_isub d_GM_finishBetween_16 ?_
  refine jt_topi (fun v5 ev5 => ?_)
  refine gm_pI (k := 9) (v := v5) (J := va_up (va_up I 13 v2) 9 v5) d_GM_finishBetween_17 (GM_w37 _ rfl) (by decide) rfl rfl rfl ?_
  have p6 := gPo.I 9 v5 p3 rfl (show 0 ≤ v5 ∧ v5 ≤ 100 by omega)
  refine jt_aload_n d_GM_finishBetween_20 rfl ?_
  refine gm_gA (k := 38) (a := m + 23) d_GM_finishBetween_21 GM_f127 (by decide) (by decide) rfl ?_
  refine jt_aload_n d_GM_finishBetween_24 rfl ?_
  refine gm_gI (k := 13) (v := v2) d_GM_finishBetween_25 GM_f49 (by decide) rfl ?_
  refine gm_ld1 (k := 38) (n := 320) (v := (A 38) v2) d_GM_finishBetween_28 rfl (by decide) (by decide) rfl rfl (by omega) (by omega) (by omega) rfl ?_
  refine jt_topl (fun v7 ev7 => ?_)
  have bv7 : (-65536000) ≤ v7 ∧ v7 ≤ 65536000 := by rw [ev7]; exact p6.2.1 38 v2
  refine jt_ldc2 (z := 4096) d_GM_finishBetween_29 GM_k211 ?_
  refine jt_ldiv d_GM_finishBetween_32 (by unfold jRl; omega) (by unfold jRl; omega) (by omega) ?_
  have td8 := gtd v7 4096 (by omega)
  refine jt_topln (fun v9 bv9 ev9 => ?_)
  refine jt_lstore_n (L' := [(0, .ref m), (1, .long (jL v9))]) d_GM_finishBetween_33 (Nat.le_of_ble_eq_true rfl) rfl ?_
  refine jt_iconst d_GM_finishBetween_34 ?_
  refine jt_istore_n (L' := [(0, .ref m), (1, .long (jL v9)), (3, .int (jI 0))]) d_GM_finishBetween_35 (Nat.le_of_ble_eq_true rfl) rfl ?_
  exact l36_GM_finishBetweeny G d m  I A hI hA h13 h9 c hc rbA rbB f0 sz v9 ((by have e9 : v7 = c * 4096 := (by rw [ev7, ev2]; exact hc.1); omega)) ((by have e9 : v7 = c * 4096 := (by rw [ev7, ev2]; exact hc.1); omega)) 14 0 (va_up (va_up I 13 v2) 9 v5) A p6 (by omega) (by omega) (show v2 = I 13 - 1 by omega) (show v5 = I 9 - 1 by omega) (bw_0 _ ((298 + I 9) * 13) I A _ rfl) (by omega)

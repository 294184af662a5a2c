set_option maxRecDepth 100000 in
set_option maxHeartbeats 1000000 in
theorem l77_GM_showIty (G : jG) (d m : Nat)  (I : Nat → Int) (A : Nat → Int → Int) (hT : gT I A) (hI : gSI I) (hA : gSA A) (hw : I 4 < I 1) (z5 : I 5 = 0) (h13 : I 13 = 0) (z15 : I 15 = 0) (h7 : 0 ≤ I 7 ∧ I 7 ≤ 2147483000) (V9 : Int → Int → Int) (hV : gVr V9 A) (rs : ER) (hR : EX (I 1) (A 22) (A 23) V9 (I 4 + 1) True rs) (f0 : jF) (sz : Nat) (q9 : Int) (F9 : Int → Int) (g9 : Prop) (hr9 : rs = .ok q9 F9 g9) (w6 : xV (I 1) (A 22) (A 23) q9 6) (fz : Hd (fZ F9)) (gt9 : Hd g9) (lt9 : I 4 < q9 + 1) : ∀ (n9 : Nat) (i : Int) (J : Nat → Int) (B : Nat → Int → Int), gPo [4, 5, 6, 7, 9, 13, 14, 15] [32, 35, 36, 37, 38] I A J B → (0 ≤ i) → (i ≤ 7) → (J 5 = 0 ∧ J 4 = q9 + 1 ∧ J 7 = I 7) → (B 35 12 = F9 12) → ((∀ k, i < k → k < 8 → B 32 k = A 32 (k - 1)) ∧ ∀ k, 0 ≤ k → k ≤ i → B 32 k = A 32 k) → i < (n9 : Int) → jt (jm G Y_GM_showIt (gR (d + 5)) (gQ m f0 sz (fun (rv : Option Value) (I2 : Nat → Int) (A2 : Nat → Int → Int) => rv = none ∧ gPo [4, 5, 6, 7, 9, 13, 14, 15] [32, 35, 36, 37, 38] I A I2 A2 ∧ (I2 5 = 0 → I 4 < I2 4) ∧ shQ (I 1) (A 22) (A 23) rs I A I2 A2))) 77 [(0, .ref m), (1, .int (jI i))] [] (gmf m f0 J B) sz 0 0 := by
  have r4 : 0 ≤ I 4 ∧ I 4 ≤ 300 := hI 4
  have r5 : -13 ≤ I 5 ∧ I 5 ≤ 0 := hI 5
  have r13 : 0 ≤ I 13 ∧ I 13 ≤ 320 := hI 13
  have t0 := hT.1
  have t1 := hT.2.1
  intro n9
  induction n9 with
  | zero =>
    intro i J B hJ i0 i1 k5 k12 h32 hmeas
    exfalso
    omega
  | succ n9 ih =>
    intro i J B hJ i0 i1 k5 k12 h32 hmeas
    have f1 : J 1 = I 1 := hJ.2.2.1 1 rfl
    refine jt_iload_n d_GM_showIt_77 rfl ?_
    refine jt_if_le (t := 101) d_GM_showIt_78 rfl (by unfold jRi; omega) (fun c101 => ?_) (fun c101 => ?_)
    · skip
      refine jt_aload_n d_GM_showIt_101 rfl ?_
      refine gm_gA (k := 32) (a := m + 17) d_GM_showIt_102 GM_f109 (by decide) (by decide) rfl ?_
      refine jt_iconst d_GM_showIt_105 ?_
      refine jt_aload_n d_GM_showIt_106 rfl ?_
      refine gm_gA (k := 35) (a := m + 20) d_GM_showIt_107 GM_f118 (by decide) (by decide) rfl ?_
      refine jt_bipush d_GM_showIt_110 (by omega) ?_
      refine gm_ld1 (k := 35) (n := 5200) (v := (B 35) 12) d_GM_showIt_112 rfl (by decide) (by decide) rfl rfl (by omega) (by omega) (by omega) rfl ?_
      refine jt_topl (fun v102 ev102 => ?_)
      have bv102 : (-9223372036854775808) ≤ v102 ∧ v102 ≤ 9223372036854775807 := by rw [ev102]; exact hJ.2.1 35 12
      refine gm_st1 (k := 32) (n := 8) (B := va_up B 32 (ju (B 32) 0 v102)) d_GM_showIt_113 rfl (by decide) (by decide) rfl rfl (by omega) (by omega) (by omega) rfl ?_
      have p103 := gPo.A 32 (ju (B 32) 0 v102) hJ rfl (gju (hJ.2.1 32) (show -9223372036854775808 ≤ v102 ∧ v102 ≤ 9223372036854775807 by omega))
      refine jt_aload_n d_GM_showIt_114 rfl ?_
      refine jt_dup d_GM_showIt_115 rfl ?_
      refine gm_gI (k := 7) (v := J 7) d_GM_showIt_116 GM_f31 (by decide) rfl ?_
      have rb104 : -2147483648 ≤ J 7 ∧ J 7 ≤ 2147483647 := p103.1 7
      refine jt_iconst d_GM_showIt_119 ?_
      refine jt_iadd d_GM_showIt_120 ?_
      refine jt_topi (fun v105 ev105 => ?_)
      refine gm_pI (k := 7) (v := v105) (J := va_up J 7 v105) d_GM_showIt_121 (GM_w31 _ rfl) (by decide) rfl rfl rfl ?_
      have p106 := gPo.I 7 v105 p103 rfl (show -2147483648 ≤ v105 ∧ v105 ≤ 2147483647 by omega)
      exact gm_vret d_GM_showIt_124 rfl (⟨rfl, p106, fun _ => show I 4 < J 4 by omega, sh_o hr9 w6 (show J 4 = q9 + 1 by omega) (fun z => absurd gt9 z) (fun _ z => absurd fz z) (fun _ _ => ⟨show J 5 = 0 by omega, show v105 = I 7 + 1 by omega, by show ju (B 32) 0 v102 0 = F9 12; rw [ju_self]; omega, fun k a c => (ju_ne _ _ (by omega)).trans (h32.1 k (by omega) c)⟩)⟩)
    · skip
      refine jt_aload_n d_GM_showIt_81 rfl ?_
      refine gm_gA (k := 32) (a := m + 17) d_GM_showIt_82 GM_f109 (by decide) (by decide) rfl ?_
      refine jt_iload_n d_GM_showIt_85 rfl ?_
      refine jt_aload_n d_GM_showIt_86 rfl ?_
      refine gm_gA (k := 32) (a := m + 17) d_GM_showIt_87 GM_f109 (by decide) (by decide) rfl ?_
      refine jt_iload_n d_GM_showIt_90 rfl ?_
      refine jt_iconst d_GM_showIt_91 ?_
      refine jt_isub d_GM_showIt_92 ?_
      refine gm_ld1 (k := 32) (n := 8) (v := (B 32) (i - 1)) d_GM_showIt_93 rfl (by decide) (by decide) rfl rfl (by omega) (by omega) (by omega) rfl ?_
      refine jt_topl (fun v107 ev107 => ?_)
      have bv107 : (-9223372036854775808) ≤ v107 ∧ v107 ≤ 9223372036854775807 := by rw [ev107]; exact hJ.2.1 32 (i - 1)
      refine gm_st1 (k := 32) (n := 8) (B := va_up B 32 (ju (B 32) i v107)) d_GM_showIt_94 rfl (by decide) (by decide) rfl rfl (by omega) (by omega) (by omega) rfl ?_
      have p108 := gPo.A 32 (ju (B 32) i v107) hJ rfl (gju (hJ.2.1 32) (show -9223372036854775808 ≤ v107 ∧ v107 ≤ 9223372036854775807 by omega))
      refine jt_iinc (L' := [(0, .ref m), (1, .int (jI (i + (-1))))]) d_GM_showIt_95 rfl (Nat.le_of_ble_eq_true rfl) rfl ?_
      refine jt_goto (t := 77) d_GM_showIt_98 rfl ?_
      exact ih (i + (-1)) J (va_up B 32 (ju (B 32) i v107)) p108 (by omega) (by omega) (show J 5 = 0 ∧ J 4 = q9 + 1 ∧ J 7 = I 7 by omega) k12 ⟨fun k a c => by rcases Classical.em (k = i) with e9 | e9; exact (by rw [e9]; exact (ju_self _ _ _).trans (by rw [ev107]; exact h32.2 (i - 1) (by omega) (by omega))); exact (ju_ne _ _ e9).trans (h32.1 k (by omega) c), fun k a c => (ju_ne _ _ (by omega)).trans (h32.2 k a (by omega))⟩ (by omega)
set_option maxRecDepth 100000 in
set_option maxHeartbeats 1000000 in
theorem y_GM_showIt (G : jG) (d m : Nat)  (I : Nat → Int) (A : Nat → Int → Int) (hT : gT I A) (hI : gSI I) (hA : gSA A) (hw : I 4 < I 1) (z5 : I 5 = 0) (h13 : I 13 = 0) (z15 : I 15 = 0) (h7 : 0 ≤ I 7 ∧ I 7 ≤ 2147483000) (V9 : Int → Int → Int) (hV : gVr V9 A) (rs : ER) (hR : EX (I 1) (A 22) (A 23) V9 (I 4 + 1) True rs) : gct G Y_GM_showIt (d + 5) m [] I A (fun (rv : Option Value) (I2 : Nat → Int) (A2 : Nat → Int → Int) => rv = none ∧ gPo [4, 5, 6, 7, 9, 13, 14, 15] [32, 35, 36, 37, 38] I A I2 A2 ∧ (I2 5 = 0 → I 4 < I2 4) ∧ shQ (I 1) (A 22) (A 23) rs I A I2 A2) := by
  refine gct_of (by decide) (Nat.le_of_ble_eq_true rfl) (fun f0 sz => ?_)
  show jt _ 0 [(0, .ref m)] [] _ _ _ _
  have r4 : 0 ≤ I 4 ∧ I 4 ≤ 300 := hI 4
  have r5 : -13 ≤ I 5 ∧ I 5 ≤ 0 := hI 5
  have r13 : 0 ≤ I 13 ∧ I 13 ≤ 320 := hI 13
  have hz0 : gPo [4, 5, 6, 7, 9, 13, 14, 15] [32, 35, 36, 37, 38] I A I A := gPo.refl hI hA
  have t0 := hT.1
  have t1 := hT.2.1
  refine jt_aload_n d_GM_showIt_0 rfl ?_
  refine jt_dup d_GM_showIt_1 rfl ?_
  refine gm_gI (k := 4) (v := I 4) d_GM_showIt_2 GM_f22 (by decide) rfl ?_
  have rb1 : 0 ≤ I 4 ∧ I 4 ≤ 300 := hz0.1 4
  refine jt_iconst d_GM_showIt_5 ?_
  refine jt_iadd d_GM_showIt_6 ?_
  refine jt_topi (fun v2 ev2 => ?_)
  refine gm_pI (k := 4) (v := v2) (J := va_up I 4 v2) d_GM_showIt_7 (GM_w22 _ rfl) (by decide) rfl rfl rfl ?_
  have p3 := gPo.I 4 v2 hz0 rfl (show 0 ≤ v2 ∧ v2 ≤ 300 by omega)
  refine jt_aload_n d_GM_showIt_10 rfl ?_
  refine jt_iconst d_GM_showIt_11 ?_
  refine gct_call (Y := Y_GM_expr) (As := [.int (jI 0)]) (rest := []) d_GM_showIt_12 GM_c250 yk_GM_expr yv_GM_expr rfl (Nat.le_of_ble_eq_true rfl) rfl rfl (Nat.le_of_ble_eq_true rfl) (x_GM_expr G _ m 0 (va_up I 4 v2) A (gT_of p3 hT rfl rfl rfl) p3.1 p3.2.1 (by omega) (by omega) (fun _ => show I 13 = 0 by omega) V9 (by unfold gVr; rw [p3.2.2.2 30 rfl, p3.2.2.2 31 rfl]; exact hV) True rs (fun _ => by show EX (I 1) (A 22) (A 23) V9 v2 True rs; rw [ev2]; exact hR) ⟨fun _ => trivial, fun _ => z15⟩) (fun rvq4 Iq4 Aq4 hq4 => ?_)
  obtain ⟨rfl, hqq4, hxq4⟩ := hq4
  have hpq4 := gPo.trans p3 hqq4 rfl rfl
  have f1q4 : Iq4 1 = I 1 := hpq4.2.2.1 1 rfl
  have s4q4 : (va_up I 4 v2) 4 = v2 := rfl
  have s5q4 : (va_up I 4 v2) 5 = I 5 := rfl
  have s7q4 : (va_up I 4 v2) 7 = I 7 := rfl
  have s13q4 : (va_up I 4 v2) 13 = I 13 := rfl
  have m7q4 : Iq4 7 = I 7 := hqq4.2.2.1 7 rfl
  replace hxq4 : Hd _ := hxq4
  show jt _ 15 [(0, .ref m)] [] (gmf m f0 Iq4 Aq4) _ _ _
  have hex : Hd (exQ rs 0 Iq4 Aq4) := hxq4.2.2.1 (by show I 5 = 0; omega)
  have ef := hxq4.1
  replace ef : Hd _ := ef
  have e6w : ∀ q, Hd (gW Iq4 Aq4 q 6 ↔ xW (I 1) (A 22) (A 23) q 6) := fun q => by show xW (Iq4 1) (Aq4 22) (Aq4 23) q 6 ↔ _; rw [show Iq4 1 = I 1 from hpq4.2.2.1 1 rfl, hpq4.2.2.2 22 rfl, hpq4.2.2.2 23 rfl]
  refine jt_aload_n d_GM_showIt_15 rfl ?_
  refine jt_bipush d_GM_showIt_16 (by omega) ?_
  refine gct_call (Y := Y_GM_need) (As := [.int (jI 6)]) (rest := []) d_GM_showIt_18 GM_c241 yk_GM_need yv_GM_need rfl (Nat.le_of_ble_eq_true rfl) rfl rfl (Nat.le_of_ble_eq_true rfl) (y_GM_need G _ m 6 Iq4 Aq4 (gT_of hpq4 hT rfl rfl rfl) hpq4.1 hpq4.2.1 (by unfold jRi; omega)) (fun rvq5 Iq5 Aq5 hq5 => ?_)
  obtain ⟨rfl, hqq5, hxq5⟩ := hq5
  have hpq5 := gPo.trans hpq4 hqq5 rfl rfl
  have f1q5 : Iq5 1 = I 1 := hpq5.2.2.1 1 rfl
  have m7q5 : Iq5 7 = Iq4 7 := hqq5.2.2.1 7 rfl
  have m13q5 : Iq5 13 = Iq4 13 := hqq5.2.2.1 13 rfl
  replace hxq5 : Hd _ := hxq5
  show jt _ 21 [(0, .ref m)] [] (gmf m f0 Iq5 Aq5) _ _ _
  refine jt_aload_n d_GM_showIt_21 rfl ?_
  refine gm_gI (k := 5) (v := Iq5 5) d_GM_showIt_22 GM_f25 (by decide) rfl ?_
  have rb6 : -13 ≤ Iq5 5 ∧ Iq5 5 ≤ 0 := hpq5.1 5
  refine jt_if_eq (t := 29) d_GM_showIt_25 rfl (by unfold jRi; omega) (fun c7 => ?_) (fun c7 => ?_)
  · skip
    have k6 := hxq5.1 (by omega)
    obtain ⟨q9, F9, g9, hr9, hq9, hg9, hb9, hv9⟩ := hex.1 k6.1
    have w6 : xV (I 1) (A 22) (A 23) q9 6 := by rcases Classical.em (xV (I 1) (A 22) (A 23) q9 6) with y | y; exact y; exact absurd ((hxq5.2.1 k6.1).2 (fun z => y (by rw [← hq9]; exact (e6w _).mp z))).1 (by omega)
    replace hg9 : Hd _ := hg9
    have n15 : Iq5 15 = Iq4 15 := hqq5.2.2.1 15 rfl
    have n35 : Aq5 35 = Aq4 35 := hqq5.2.2.2 35 rfl
    have n7 : Iq5 7 = I 7 := by rw [hqq5.2.2.1 7 rfl, hqq4.2.2.1 7 rfl]; rfl
    have n32 : Aq5 32 = A 32 := by rw [hqq5.2.2.2 32 rfl, hqq4.2.2.2 32 rfl]
    have n1e := (ef k6.1).2.1
    refine jt_aload_n d_GM_showIt_29 rfl ?_
    refine gm_gI (k := 15) (v := Iq5 15) d_GM_showIt_30 GM_f55 (by decide) rfl ?_
    have rb8 : 0 ≤ Iq5 15 ∧ Iq5 15 ≤ 1 := hpq5.1 15
    refine jt_if_eq (t := 51) d_GM_showIt_33 rfl (by unfold jRi; omega) (fun c9 => ?_) (fun c9 => ?_)
    · skip
      refine jt_aload_n d_GM_showIt_51 rfl ?_
      refine jt_iconst d_GM_showIt_52 ?_
      refine gct_call (Y := Y_GM_isNumber) (As := [.int (jI 0)]) (rest := []) d_GM_showIt_53 GM_c260 yk_GM_isNumber yv_GM_isNumber rfl (Nat.le_of_ble_eq_true rfl) rfl rfl (Nat.le_of_ble_eq_true rfl) (c_GM_isNumber G _ m 0 Iq5 Aq5 (by omega) (by omega) (fun j _ _ => hpq5.2.1 35 _)) (fun rvq10 Iq10 Aq10 hq10 => ?_)
      obtain ⟨haq10, hbq10, hIq10, hAq10⟩ := hq10
      rw [hIq10, hAq10]
      by_cases gq10 : Hd (∀ j, 0 ≤ j → j < 12 → Aq5 35 (0 * 13 + j) = 0)
      · skip
        obtain rfl := haq10 gq10
        clear haq10 hbq10 hIq10 hAq10
        show jt _ 56 [(0, .ref m)] [.int (jI 1)] (gmf m f0 Iq5 Aq5) _ _ _
        refine jt_if_ne (t := 74) d_GM_showIt_56 rfl (by unfold jRi; omega) (fun c11 => ?_) (fun c11 => ?_)
        · skip
          have fz : Hd (fZ F9) := fun j a c => by rw [← hv9 (hg9.mp (by omega)) j a (by omega)]; have h9 := gq10 j a c; rw [n35] at h9; exact h9
          have f12 : Aq5 35 12 = F9 12 := by rw [n35]; exact hv9 (hg9.mp (by omega)) 12 (by omega) (by omega)
          have gt9 : Hd g9 := (hg9.mp (by omega))
          refine jt_bipush d_GM_showIt_74 (by omega) ?_
          refine jt_istore_n (L' := [(0, .ref m), (1, .int (jI 7))]) d_GM_showIt_76 (Nat.le_of_ble_eq_true rfl) rfl ?_
          exact l77_GM_showIty G d m  I A hT hI hA hw z5 h13 z15 h7 V9 hV rs hR f0 sz q9 F9 g9 hr9 w6 fz gt9 ((by omega)) 8 7 Iq5 Aq5 hpq5 (by omega) (by omega) (show Iq5 5 = 0 ∧ Iq5 4 = q9 + 1 ∧ Iq5 7 = I 7 by omega) f12 ⟨fun k a c => by omega, fun k _ _ => by rw [n32]⟩ (by omega)
        · skip
          exfalso
          omega
      · skip
        obtain rfl := hbq10 gq10
        clear haq10 hbq10 hIq10 hAq10
        show jt _ 56 [(0, .ref m)] [.int (jI 0)] (gmf m f0 Iq5 Aq5) _ _ _
        refine jt_if_ne (t := 74) d_GM_showIt_56 rfl (by unfold jRi; omega) (fun c12 => ?_) (fun c12 => ?_)
        · skip
          exfalso
          omega
        · skip
          refine jt_aload_n d_GM_showIt_59 rfl ?_
          refine jt_bipush d_GM_showIt_60 (by omega) ?_
          refine jt_aload_n d_GM_showIt_62 rfl ?_
          refine gm_gI (k := 4) (v := Iq5 4) d_GM_showIt_63 GM_f22 (by decide) rfl ?_
          have rb13 : 0 ≤ Iq5 4 ∧ Iq5 4 ≤ 300 := hpq5.1 4
          refine jt_iconst d_GM_showIt_66 ?_
          refine jt_isub d_GM_showIt_67 ?_
          refine gct_call (Y := Y_GM_stop) (As := [.int (jI (-12)), .int (jI ((Iq5 4) - 1))]) (rest := []) d_GM_showIt_68 GM_c164 yk_GM_stop yv_GM_stop rfl (Nat.le_of_ble_eq_true rfl) rfl rfl (Nat.le_of_ble_eq_true rfl) (c_GM_stop G _ m (-12) ((Iq5 4) - 1) Iq5 Aq5) (fun rvq14 Iq14 Aq14 hq14 => ?_)
          obtain ⟨rfl, hIq14, hAq14⟩ := hq14
          rw [hIq14, hAq14]
          have p15 := gPo.I 5 (-12) hpq5 rfl (show -13 ≤ -12 ∧ -12 ≤ 0 by omega)
          have p16 := gPo.I 6 ((Iq5 4) - 1) p15 rfl (show -2147483648 ≤ (Iq5 4) - 1 ∧ (Iq5 4) - 1 ≤ 2147483647 by omega)
          show jt _ 71 [(0, .ref m)] [] (gmf m f0 (va_up (va_up Iq5 5 (-12)) 6 ((Iq5 4) - 1)) Aq5) _ _ _
          refine jt_goto (t := 124) d_GM_showIt_71 rfl ?_
          exact gm_vret d_GM_showIt_124 rfl (⟨rfl, p16, fun z => absurd z (by show ¬ (-12 : Int) = 0; omega), sh_o hr9 w6 (show Iq5 4 = q9 + 1 by omega) (fun z => absurd (hg9.mp (by omega)) z) (fun _ _ => ⟨rfl, show Iq5 4 - 1 = q9 by omega, ⟨show Iq5 7 = I 7 by omega, fun k _ _ => by show Aq5 32 k = _; rw [n32]⟩⟩) (fun _ z => absurd z (show ¬ fZ F9 from fun z => gq10 (show Hd (∀ j, 0 ≤ j → j < 12 → Aq5 35 (0 * 13 + j) = 0) from fun j a c => by rw [n35, hv9 (hg9.mp (by omega)) j a (by omega)]; exact z j a c)))⟩)
    · skip
      refine jt_aload_n d_GM_showIt_36 rfl ?_
      refine jt_bipush d_GM_showIt_37 (by omega) ?_
      refine jt_aload_n d_GM_showIt_39 rfl ?_
      refine gm_gI (k := 4) (v := Iq5 4) d_GM_showIt_40 GM_f22 (by decide) rfl ?_
      have rb17 : 0 ≤ Iq5 4 ∧ Iq5 4 ≤ 300 := hpq5.1 4
      refine jt_iconst d_GM_showIt_43 ?_
      refine jt_isub d_GM_showIt_44 ?_
      refine gct_call (Y := Y_GM_stop) (As := [.int (jI (-9)), .int (jI ((Iq5 4) - 1))]) (rest := []) d_GM_showIt_45 GM_c164 yk_GM_stop yv_GM_stop rfl (Nat.le_of_ble_eq_true rfl) rfl rfl (Nat.le_of_ble_eq_true rfl) (c_GM_stop G _ m (-9) ((Iq5 4) - 1) Iq5 Aq5) (fun rvq18 Iq18 Aq18 hq18 => ?_)
      obtain ⟨rfl, hIq18, hAq18⟩ := hq18
      rw [hIq18, hAq18]
      have p19 := gPo.I 5 (-9) hpq5 rfl (show -13 ≤ -9 ∧ -9 ≤ 0 by omega)
      have p20 := gPo.I 6 ((Iq5 4) - 1) p19 rfl (show -2147483648 ≤ (Iq5 4) - 1 ∧ (Iq5 4) - 1 ≤ 2147483647 by omega)
      show jt _ 48 [(0, .ref m)] [] (gmf m f0 (va_up (va_up Iq5 5 (-9)) 6 ((Iq5 4) - 1)) Aq5) _ _ _
      refine jt_goto (t := 124) d_GM_showIt_48 rfl ?_
      exact gm_vret d_GM_showIt_124 rfl (⟨rfl, p20, fun z => absurd z (by show ¬ (-9 : Int) = 0; omega), sh_o hr9 w6 (show Iq5 4 = q9 + 1 by omega) (fun _ => ⟨rfl, show Iq5 4 - 1 = q9 by omega, ⟨show Iq5 7 = I 7 by omega, fun k _ _ => by show Aq5 32 k = _; rw [n32]⟩⟩) (fun z => absurd (hg9.mpr z) (by omega)) (fun z => absurd (hg9.mpr z) (by omega))⟩)
  · skip
    exact gm_vret d_GM_showIt_28 rfl (by
        refine ⟨rfl, hpq5, fun z => absurd z (by omega), ?_⟩
        have sm9 : nSm I A Iq5 Aq5 := ⟨show Iq5 7 = I 7 by rw [hqq5.2.2.1 7 rfl, hqq4.2.2.1 7 rfl]; rfl, fun k _ _ => by show Aq5 32 k = _; rw [hqq5.2.2.2 32 rfl, hqq4.2.2.2 32 rfl]⟩
        rcases Classical.em (Iq4 5 = 0) with y | y
        · obtain ⟨q9, F9, g9, hr9, hq9, _⟩ := hex.1 y
          have k6 := hxq5.2.1 y
          rcases Classical.em (xV (I 1) (A 22) (A 23) q9 6) with x | x
          · exact absurd (k6.1 ((e6w _).mpr (by rw [hq9]; exact x))).1 (by omega)
          · have h8 := k6.2 (fun z => x (by rw [← hq9]; exact (e6w _).mp z))
            exact sh_6 hr9 x h8.1 (h8.2.1.trans hq9) sm9
        · have h8 := hxq5.2.2 y
          exact sh_e (hex.2 y) (by rw [h8]) (by rw [h8]) sm9)

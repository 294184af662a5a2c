set_option maxRecDepth 100000 in
set_option maxHeartbeats 1000000 in
theorem l17_GM_exprw (G : jG) (d m : Nat) (f : Int) (I : Nat → Int) (A : Nat → Int → Int) (hT : gT I A) (hI : gSI I) (hA : gSA A) (fa : 0 ≤ f) (fb : f < 300) (he : I 5 = 0 → I 13 = 0) (f0 : jF) (sz : Nat)  : ∀ (n9 : Nat) (o : Int) (t : Int) (J : Nat → Int) (B : Nat → Int → Int), gPo [4, 5, 6, 9, 13, 14, 15] [35, 36, 37, 38] I A J B → (0 ≤ o) → (o ≤ 1) → (J 5 = 0 → I 5 = 0 ∧ I 13 = 0 ∧ 0 ≤ J 13 ∧ J 13 ≤ J 4 ∧ I 4 ≤ J 4 ∧ gSt (B 36) (J 13) ∧ gBr (B 36) (J 13) = J 14 ∧ J 9 = gC (B 36) (J 13) + (1 - o) ∧ (o = 0 → I 4 < J 4)) → (J 5 = 0 → 301 - J 4 ≤ t) → (0 ≤ t) → t < (n9 : Int) → jt (jm G Y_GM_expr (gR (d + 4)) (gQ m f0 sz (fun (rv : Option Value) (I2 : Nat → Int) (A2 : Nat → Int → Int) => rv = none ∧ gPo [4, 5, 6, 9, 13, 14, 15] [35, 36, 37, 38] I A I2 A2 ∧ (I2 5 = 0 → I 5 = 0 ∧ I 4 < I2 4 ∧ I2 13 = I 13)))) 17 [(0, .ref m), (1, .int (jI f)), (2, .int (jI (I 13))), (3, .int (jI o))] [] (gmf m f0 J B) sz 0 0 := by
  have r4 : 0 ≤ I 4 ∧ I 4 ≤ 300 := hI 4
  have r13 : 0 ≤ I 13 ∧ I 13 ≤ 320 := hI 13
  have t0 := hT.1
  have t1 := hT.2.1
  intro n9
  induction n9 with
  | zero =>
    intro o t J B hJ o0 o1 hx ht t9 hmeas
    have q4 : 0 ≤ J 4 ∧ J 4 ≤ 300 := hJ.1 4
    have q5 : -13 ≤ J 5 ∧ J 5 ≤ 0 := hJ.1 5
    have q13 : 0 ≤ J 13 ∧ J 13 ≤ 320 := hJ.1 13
    have q14 : 0 ≤ J 14 ∧ J 14 ≤ 8 := hJ.1 14
    exfalso
    omega
  | succ n9 ih =>
    intro o t J B hJ o0 o1 hx ht t9 hmeas
    have f1 : J 1 = I 1 := hJ.2.2.1 1 rfl
    have q4 : 0 ≤ J 4 ∧ J 4 ≤ 300 := hJ.1 4
    have q5 : -13 ≤ J 5 ∧ J 5 ≤ 0 := hJ.1 5
    have q13 : 0 ≤ J 13 ∧ J 13 ≤ 320 := hJ.1 13
    have q14 : 0 ≤ J 14 ∧ J 14 ≤ 8 := hJ.1 14
    refine jt_aload_n d_GM_expr_17 rfl ?_
    refine gm_gI (k := 5) (v := J 5) d_GM_expr_18 GM_f25 (by decide) rfl ?_
    have rb101 : -13 ≤ J 5 ∧ J 5 ≤ 0 := hJ.1 5
    refine jt_if_ne (t := 231) d_GM_expr_21 rfl (by unfold jRi; omega) (fun c102 => ?_) (fun c102 => ?_)
    · skip
      refine jt_aload_n d_GM_expr_231 rfl ?_
      refine jt_iload_n d_GM_expr_232 rfl ?_
      refine gm_pI (k := 13) (v := (I 13)) (J := va_up J 13 (I 13)) d_GM_expr_233 (GM_w49 _ rfl) (by decide) rfl rfl rfl ?_
      have p103 := gPo.I 13 (I 13) hJ rfl (show 0 ≤ I 13 ∧ I 13 ≤ 320 by omega)
      refine jt_aload_n d_GM_expr_236 rfl ?_
      refine gm_gI (k := 5) (v := J 5) d_GM_expr_237 GM_f25 (by decide) rfl ?_
      refine jt_if_eq (t := 244) d_GM_expr_240 rfl (by unfold jRi; omega) (fun c104 => ?_) (fun c104 => ?_)
      · skip
        refine jt_aload_n d_GM_expr_244 rfl ?_
        refine jt_sipush d_GM_expr_245 (by omega) ?_
        refine gct_call (Y := Y_GM_check) (As := [.int (jI 300)]) (rest := []) d_GM_expr_248 GM_c238 yk_GM_check yv_GM_check rfl (Nat.le_of_ble_eq_true rfl) rfl rfl (Nat.le_of_ble_eq_true rfl) (w_GM_check G _ m 300 (va_up J 13 (I 13)) B p103.1 p103.2.1 (by omega) (by omega)) (fun rvq105 Iq105 Aq105 hq105 => ?_)
        obtain ⟨rfl, hqq105⟩ := hq105
        have hpq105 := gPo.trans p103 hqq105 rfl rfl
        have f1q105 : Iq105 1 = I 1 := hpq105.2.2.1 1 rfl
        have m4q105 : Iq105 4 = J 4 := hqq105.2.2.1 4 rfl
        have m5q105 : Iq105 5 = J 5 := hqq105.2.2.1 5 rfl
        have m9q105 : Iq105 9 = J 9 := hqq105.2.2.1 9 rfl
        have m13q105 : Iq105 13 = I 13 := hqq105.2.2.1 13 rfl
        have m14q105 : Iq105 14 = J 14 := hqq105.2.2.1 14 rfl
        have a36q105 : Aq105 36 = B 36 := hqq105.2.2.2 36 rfl
        show jt _ 251 [(0, .ref m), (1, .int (jI f)), (2, .int (jI (I 13))), (3, .int (jI o))] [] (gmf m f0 Iq105 Aq105) _ _ _
        refine jt_aload_n d_GM_expr_251 rfl ?_
        refine jt_iload_n d_GM_expr_252 rfl ?_
        refine jt_sipush d_GM_expr_253 (by omega) ?_
        refine gct_call (Y := Y_GM_copyForm) (As := [.int (jI f), .int (jI 300)]) (rest := []) d_GM_expr_256 GM_c247 yk_GM_copyForm yv_GM_copyForm rfl (Nat.le_of_ble_eq_true rfl) rfl rfl (Nat.le_of_ble_eq_true rfl) (w_GM_copyForm G _ m f 300 Iq105 Aq105 hpq105.1 hpq105.2.1 (by omega) (by omega) (by omega) (by omega) (by omega)) (fun rvq106 Iq106 Aq106 hq106 => ?_)
        obtain ⟨rfl, hqq106⟩ := hq106
        have hpq106 := gPo.trans hpq105 hqq106 rfl rfl
        have f1q106 : Iq106 1 = I 1 := hpq106.2.2.1 1 rfl
        have m4q106 : Iq106 4 = Iq105 4 := hqq106.2.2.1 4 rfl
        have m5q106 : Iq106 5 = Iq105 5 := hqq106.2.2.1 5 rfl
        have m9q106 : Iq106 9 = Iq105 9 := hqq106.2.2.1 9 rfl
        have m13q106 : Iq106 13 = Iq105 13 := hqq106.2.2.1 13 rfl
        have m14q106 : Iq106 14 = Iq105 14 := hqq106.2.2.1 14 rfl
        have a36q106 : Aq106 36 = Aq105 36 := hqq106.2.2.2 36 rfl
        show jt _ 259 [(0, .ref m), (1, .int (jI f)), (2, .int (jI (I 13))), (3, .int (jI o))] [] (gmf m f0 Iq106 Aq106) _ _ _
        exact gm_vret d_GM_expr_259 rfl (⟨rfl, hpq106, fun z => by first | exact ⟨x5, by omega, by omega⟩ | (exfalso; omega)⟩)
      · skip
        exact gm_vret d_GM_expr_243 rfl (⟨rfl, p103, fun z => absurd z (by show ¬ J 5 = 0; omega)⟩)
    · skip
      obtain ⟨x5, x13, x0, x1, x2, xs, xb, xf, xo⟩ := hx (by omega)
      have sb := gSt_b xs x0
      refine jt_iload_n d_GM_expr_24 rfl ?_
      refine jt_if_eq (t := 44) d_GM_expr_25 rfl (by unfold jRi; omega) (fun c107 => ?_) (fun c107 => ?_)
      · skip
        refine jt_aload_n d_GM_expr_44 rfl ?_
        refine jt_iload_n d_GM_expr_45 rfl ?_
        refine gct_call (Y := Y_GM_finishTerm) (As := [.int (jI (I 13))]) (rest := []) d_GM_expr_46 GM_c235 yk_GM_finishTerm yv_GM_finishTerm rfl (Nat.le_of_ble_eq_true rfl) rfl rfl (Nat.le_of_ble_eq_true rfl) (w_GM_finishTerm G _ m (I 13) J B hJ.1 hJ.2.1 (by omega) (show 0 ≤ J 13 by omega) xs (by omega) (by omega)) (fun rvq108 Iq108 Aq108 hq108 => ?_)
        obtain ⟨rfl, hqq108, hxq108⟩ := hq108
        have hpq108 := gPo.trans hJ hqq108 rfl rfl
        have f1q108 : Iq108 1 = I 1 := hpq108.2.2.1 1 rfl
        have m4q108 : Iq108 4 = J 4 := hqq108.2.2.1 4 rfl
        have m5q108 : Iq108 5 = J 5 := hqq108.2.2.1 5 rfl
        have m14q108 : Iq108 14 = J 14 := hqq108.2.2.1 14 rfl
        have a36q108 : Aq108 36 = B 36 := hqq108.2.2.2 36 rfl
        show jt _ 49 [(0, .ref m), (1, .int (jI f)), (2, .int (jI (I 13))), (3, .int (jI o))] [] (gmf m f0 Iq108 Aq108) _ _ _
        refine jt_aload_n d_GM_expr_49 rfl ?_
        refine gm_gI (k := 13) (v := Iq108 13) d_GM_expr_50 GM_f49 (by decide) rfl ?_
        have rb109 : 0 ≤ Iq108 13 ∧ Iq108 13 ≤ 320 := hpq108.1 13
        refine jt_iload_n d_GM_expr_53 rfl ?_
        refine jt_icmp_le (t := 71) d_GM_expr_54 rfl (by unfold jRi; omega) (by unfold jRi; omega) (fun c110 => ?_) (fun c110 => ?_)
        · skip
          refine jt_iconst d_GM_expr_71 ?_
          refine jt_istore (L' := [(0, .ref m), (1, .int (jI f)), (2, .int (jI (I 13))), (3, .int (jI o)), (4, .int (jI (-1)))]) d_GM_expr_72 (Nat.le_of_ble_eq_true rfl) rfl ?_
          refine jt_aload_n d_GM_expr_74 rfl ?_
          refine jt_iconst d_GM_expr_75 ?_
          refine gct_call (Y := Y_GM_word) (As := [.int (jI 0)]) (rest := []) d_GM_expr_76 GM_c201 yk_GM_word yv_GM_word rfl (Nat.le_of_ble_eq_true rfl) rfl rfl (Nat.le_of_ble_eq_true rfl) (c_GM_word G _ m 0 Iq108 Aq108 (gP_of hpq108.1 (gT_of hpq108 hT rfl rfl rfl)) (by unfold jRi; omega)) (fun rvq111 Iq111 Aq111 hq111 => ?_)
          obtain ⟨haq111, hbq111, hIq111, hAq111⟩ := hq111
          rw [hIq111, hAq111]
          by_cases gq111 : (Iq108 4) < Iq108 1 ∧ Aq108 22 (Iq108 4) = 4 ∧ Aq108 23 (Iq108 4) = 0
          · skip
            obtain rfl := haq111 gq111
            have tq111 : Iq108 1 ≤ 300 := (gT_of hpq108 hT rfl rfl rfl).2.1
            clear haq111 hbq111 hIq111 hAq111
            show jt _ 79 [(0, .ref m), (1, .int (jI f)), (2, .int (jI (I 13))), (3, .int (jI o)), (4, .int (jI (-1)))] [.int (jI 1)] (gmf m f0 Iq108 Aq108) _ _ _
            refine jt_if_ne (t := 90) d_GM_expr_79 rfl (by unfold jRi; omega) (fun c112 => ?_) (fun c112 => ?_)
            · skip
              refine jt_aload_n d_GM_expr_90 rfl ?_
              refine jt_aload_n d_GM_expr_91 rfl ?_
              refine jt_iconst d_GM_expr_92 ?_
              refine gct_call (Y := Y_GM_word) (As := [.int (jI 0)]) (rest := [.ref m]) d_GM_expr_93 GM_c201 yk_GM_word yv_GM_word rfl (Nat.le_of_ble_eq_true rfl) rfl rfl (Nat.le_of_ble_eq_true rfl) (c_GM_word G _ m 0 Iq108 Aq108 (gP_of hpq108.1 (gT_of hpq108 hT rfl rfl rfl)) (by unfold jRi; omega)) (fun rvq113 Iq113 Aq113 hq113 => ?_)
              obtain ⟨haq113, hbq113, hIq113, hAq113⟩ := hq113
              rw [hIq113, hAq113]
              by_cases gq113 : (Iq108 4) < Iq108 1 ∧ Aq108 22 (Iq108 4) = 4 ∧ Aq108 23 (Iq108 4) = 0
              · skip
                obtain rfl := haq113 gq113
                have tq113 : Iq108 1 ≤ 300 := (gT_of hpq108 hT rfl rfl rfl).2.1
                clear haq113 hbq113 hIq113 hAq113
                show jt _ 96 [(0, .ref m), (1, .int (jI f)), (2, .int (jI (I 13))), (3, .int (jI o)), (4, .int (jI (-1)))] [.int (jI 1), .ref m] (gmf m f0 Iq108 Aq108) _ _ _
                refine jt_if_eq (t := 103) d_GM_expr_96 rfl (by unfold jRi; omega) (fun c114 => ?_) (fun c114 => ?_)
                · skip
                  exfalso
                  omega
                · skip
                  refine jt_iconst d_GM_expr_99 ?_
                  refine jt_goto (t := 104) d_GM_expr_100 rfl ?_
                  have xb115 : 0 ≤ Iq108 13 ∧ Iq108 13 ≤ 320 := hpq108.1 13
                  have xb116 : 0 ≤ Iq108 9 ∧ Iq108 9 ≤ 100 := hpq108.1 9
                  refine gct_call (Y := Y_GM_push) (As := [.int (jI 1)]) (rest := []) d_GM_expr_104 GM_c208 yk_GM_push yv_GM_push rfl (Nat.le_of_ble_eq_true rfl) rfl rfl (Nat.le_of_ble_eq_true rfl) (c_GM_push G _ m 1 Iq108 Aq108 (show 0 ≤ Iq108 13 by omega) (show Iq108 13 < 320 by omega)) (fun rvq117 Iq117 Aq117 hq117 => ?_)
                  obtain ⟨rfl, hIq117, hAq117⟩ := hq117
                  rw [hIq117, hAq117]
                  have rb118 : 0 ≤ Iq108 9 ∧ Iq108 9 ≤ 100 := hpq108.1 9
                  have p119 := gPo.I 13 ((Iq108 13) + 1) hpq108 rfl (show 0 ≤ (Iq108 13) + 1 ∧ (Iq108 13) + 1 ≤ 320 by omega)
                  have p120 := gPo.A 36 (ju (Aq108 36) (Iq108 13) 1) p119 rfl (gju (p119.2.1 36) (show 0 ≤ 1 ∧ 1 ≤ 6 by omega))
                  have p121 := gPo.A 37 (ju (Aq108 37) (Iq108 13) (Iq108 9)) p120 rfl (gju (p120.2.1 37) (show -2147483648 ≤ Iq108 9 ∧ Iq108 9 ≤ 2147483647 by omega))
                  show jt _ 107 [(0, .ref m), (1, .int (jI f)), (2, .int (jI (I 13))), (3, .int (jI o)), (4, .int (jI (-1)))] [] (gmf m f0 (va_up Iq108 13 ((Iq108 13) + 1)) (va_up (va_up Aq108 36 (ju (Aq108 36) (Iq108 13) 1)) 37 (ju (Aq108 37) (Iq108 13) (Iq108 9)))) _ _ _
                  refine jt_aload_n d_GM_expr_107 rfl ?_
                  refine jt_dup d_GM_expr_108 rfl ?_
                  refine gm_gI (k := 4) (v := Iq108 4) d_GM_expr_109 GM_f22 (by decide) rfl ?_
                  have rb122 : 0 ≤ Iq108 4 ∧ Iq108 4 ≤ 300 := p121.1 4
                  refine jt_iconst d_GM_expr_112 ?_
                  refine jt_iadd d_GM_expr_113 ?_
                  refine jt_topi (fun v123 ev123 => ?_)
                  refine gm_pI (k := 4) (v := v123) (J := va_up (va_up Iq108 13 ((Iq108 13) + 1)) 4 v123) d_GM_expr_114 (GM_w22 _ rfl) (by decide) rfl rfl rfl ?_
                  have p124 := gPo.I 4 v123 p121 rfl (show 0 ≤ v123 ∧ v123 ≤ 300 by omega)
                  refine jt_iconst d_GM_expr_117 ?_
                  refine jt_istore_n (L' := [(0, .ref m), (1, .int (jI f)), (2, .int (jI (I 13))), (3, .int (jI 1)), (4, .int (jI (-1)))]) d_GM_expr_118 (Nat.le_of_ble_eq_true rfl) rfl ?_
                  refine jt_goto (t := 228) d_GM_expr_119 rfl ?_
                  refine jt_goto (t := 17) d_GM_expr_228 rfl ?_
                  refine jt_sub (L' := [(0, .ref m), (1, .int (jI f)), (2, .int (jI (I 13))), (3, .int (jI 1))]) (fun _ h => List.mem_append_left [(4, Value.int (jI (-1)))] h) ?_
                  refine ih 1 (t - 1) (va_up (va_up Iq108 13 ((Iq108 13) + 1)) 4 v123) (va_up (va_up Aq108 36 (ju (Aq108 36) (Iq108 13) 1)) 37 (ju (Aq108 37) (Iq108 13) (Iq108 9))) p124 (by omega) (by omega) (fun z5 => ?_) (fun z5 => ?_) (by omega) (by omega)
                  · have z5 : Iq108 5 = 0 := z5
                    obtain ⟨y1, y2, y3, y4, y5⟩ := hxq108
                    show I 5 = 0 ∧ I 13 = 0 ∧ 0 ≤ (Iq108 13) + 1 ∧ (Iq108 13) + 1 ≤ v123 ∧ I 4 ≤ v123 ∧ gSt (ju (Aq108 36) (Iq108 13) 1) ((Iq108 13) + 1) ∧ gBr (ju (Aq108 36) (Iq108 13) 1) ((Iq108 13) + 1) = Iq108 14 ∧ Iq108 9 = gC (ju (Aq108 36) (Iq108 13) 1) ((Iq108 13) + 1) + (1 - 1) ∧ (1 = 0 → I 4 < v123)
                    show I 5 = 0 ∧ I 13 = 0 ∧ 0 ≤ Iq108 13 + 1 ∧ Iq108 13 + 1 ≤ v123 ∧ I 4 ≤ v123 ∧ gSt (ju (Aq108 36) (Iq108 13) 1) (Iq108 13 + 1) ∧ gBr (ju (Aq108 36) (Iq108 13) 1) (Iq108 13 + 1) = Iq108 14 ∧ Iq108 9 = gC (ju (Aq108 36) (Iq108 13) 1) (Iq108 13 + 1) + (1 - 1) ∧ ((1 : Int) = 0 → I 4 < v123)
                    rw [a36q108]
                    have c1 := gC_s (ju (B 36) (Iq108 13) 1) (Iq108 13) y2
                    have c2 := gB_s (ju (B 36) (Iq108 13) 1) (Iq108 13) y2
                    rw [ju_self, gC_ju _ _ _ _ y2 (Int.le_refl _)] at c1
                    rw [ju_self, gB_ju _ _ _ _ y2 (Int.le_refl _)] at c2
                    exact ⟨x5, x13, by omega, by omega, by omega, gSt_ju (gSt_le xs y1) y2 (fun _ => y5), by omega, by omega, fun z => by omega⟩
                  · have z5 : Iq108 5 = 0 := z5
                    show 301 - v123 ≤ t - 1
                    omega
              · skip
                obtain rfl := hbq113 gq113
                clear haq113 hbq113 hIq113 hAq113
                clear gq113
                show jt _ 96 [(0, .ref m), (1, .int (jI f)), (2, .int (jI (I 13))), (3, .int (jI o)), (4, .int (jI (-1)))] [.int (jI 0), .ref m] (gmf m f0 Iq108 Aq108) _ _ _
                refine jt_if_eq (t := 103) d_GM_expr_96 rfl (by unfold jRi; omega) (fun c125 => ?_) (fun c125 => ?_)
                · skip
                  refine jt_iconst d_GM_expr_103 ?_
                  have xb126 : 0 ≤ Iq108 13 ∧ Iq108 13 ≤ 320 := hpq108.1 13
                  have xb127 : 0 ≤ Iq108 9 ∧ Iq108 9 ≤ 100 := hpq108.1 9
                  refine gct_call (Y := Y_GM_push) (As := [.int (jI 2)]) (rest := []) d_GM_expr_104 GM_c208 yk_GM_push yv_GM_push rfl (Nat.le_of_ble_eq_true rfl) rfl rfl (Nat.le_of_ble_eq_true rfl) (c_GM_push G _ m 2 Iq108 Aq108 (show 0 ≤ Iq108 13 by omega) (show Iq108 13 < 320 by omega)) (fun rvq128 Iq128 Aq128 hq128 => ?_)
                  obtain ⟨rfl, hIq128, hAq128⟩ := hq128
                  rw [hIq128, hAq128]
                  have rb129 : 0 ≤ Iq108 9 ∧ Iq108 9 ≤ 100 := hpq108.1 9
                  have p130 := gPo.I 13 ((Iq108 13) + 1) hpq108 rfl (show 0 ≤ (Iq108 13) + 1 ∧ (Iq108 13) + 1 ≤ 320 by omega)
                  have p131 := gPo.A 36 (ju (Aq108 36) (Iq108 13) 2) p130 rfl (gju (p130.2.1 36) (show 0 ≤ 2 ∧ 2 ≤ 6 by omega))
                  have p132 := gPo.A 37 (ju (Aq108 37) (Iq108 13) (Iq108 9)) p131 rfl (gju (p131.2.1 37) (show -2147483648 ≤ Iq108 9 ∧ Iq108 9 ≤ 2147483647 by omega))
                  show jt _ 107 [(0, .ref m), (1, .int (jI f)), (2, .int (jI (I 13))), (3, .int (jI o)), (4, .int (jI (-1)))] [] (gmf m f0 (va_up Iq108 13 ((Iq108 13) + 1)) (va_up (va_up Aq108 36 (ju (Aq108 36) (Iq108 13) 2)) 37 (ju (Aq108 37) (Iq108 13) (Iq108 9)))) _ _ _
                  refine jt_aload_n d_GM_expr_107 rfl ?_
                  refine jt_dup d_GM_expr_108 rfl ?_
                  refine gm_gI (k := 4) (v := Iq108 4) d_GM_expr_109 GM_f22 (by decide) rfl ?_
                  have rb133 : 0 ≤ Iq108 4 ∧ Iq108 4 ≤ 300 := p132.1 4
                  refine jt_iconst d_GM_expr_112 ?_
                  refine jt_iadd d_GM_expr_113 ?_
                  refine jt_topi (fun v134 ev134 => ?_)
                  refine gm_pI (k := 4) (v := v134) (J := va_up (va_up Iq108 13 ((Iq108 13) + 1)) 4 v134) d_GM_expr_114 (GM_w22 _ rfl) (by decide) rfl rfl rfl ?_
                  have p135 := gPo.I 4 v134 p132 rfl (show 0 ≤ v134 ∧ v134 ≤ 300 by omega)
                  refine jt_iconst d_GM_expr_117 ?_
                  refine jt_istore_n (L' := [(0, .ref m), (1, .int (jI f)), (2, .int (jI (I 13))), (3, .int (jI 1)), (4, .int (jI (-1)))]) d_GM_expr_118 (Nat.le_of_ble_eq_true rfl) rfl ?_
                  refine jt_goto (t := 228) d_GM_expr_119 rfl ?_
                  refine jt_goto (t := 17) d_GM_expr_228 rfl ?_
                  refine jt_sub (L' := [(0, .ref m), (1, .int (jI f)), (2, .int (jI (I 13))), (3, .int (jI 1))]) (fun _ h => List.mem_append_left [(4, Value.int (jI (-1)))] h) ?_
                  refine ih 1 (t - 1) (va_up (va_up Iq108 13 ((Iq108 13) + 1)) 4 v134) (va_up (va_up Aq108 36 (ju (Aq108 36) (Iq108 13) 2)) 37 (ju (Aq108 37) (Iq108 13) (Iq108 9))) p135 (by omega) (by omega) (fun z5 => ?_) (fun z5 => ?_) (by omega) (by omega)
                  · have z5 : Iq108 5 = 0 := z5
                    obtain ⟨y1, y2, y3, y4, y5⟩ := hxq108
                    show I 5 = 0 ∧ I 13 = 0 ∧ 0 ≤ (Iq108 13) + 1 ∧ (Iq108 13) + 1 ≤ v134 ∧ I 4 ≤ v134 ∧ gSt (ju (Aq108 36) (Iq108 13) 2) ((Iq108 13) + 1) ∧ gBr (ju (Aq108 36) (Iq108 13) 2) ((Iq108 13) + 1) = Iq108 14 ∧ Iq108 9 = gC (ju (Aq108 36) (Iq108 13) 2) ((Iq108 13) + 1) + (1 - 1) ∧ (1 = 0 → I 4 < v134)
                    show I 5 = 0 ∧ I 13 = 0 ∧ 0 ≤ Iq108 13 + 1 ∧ Iq108 13 + 1 ≤ v134 ∧ I 4 ≤ v134 ∧ gSt (ju (Aq108 36) (Iq108 13) 2) (Iq108 13 + 1) ∧ gBr (ju (Aq108 36) (Iq108 13) 2) (Iq108 13 + 1) = Iq108 14 ∧ Iq108 9 = gC (ju (Aq108 36) (Iq108 13) 2) (Iq108 13 + 1) + (1 - 1) ∧ ((1 : Int) = 0 → I 4 < v134)
                    rw [a36q108]
                    have c1 := gC_s (ju (B 36) (Iq108 13) 2) (Iq108 13) y2
                    have c2 := gB_s (ju (B 36) (Iq108 13) 2) (Iq108 13) y2
                    rw [ju_self, gC_ju _ _ _ _ y2 (Int.le_refl _)] at c1
                    rw [ju_self, gB_ju _ _ _ _ y2 (Int.le_refl _)] at c2
                    exact ⟨x5, x13, by omega, by omega, by omega, gSt_ju (gSt_le xs y1) y2 (fun _ => y5), by omega, by omega, fun z => by omega⟩
                  · have z5 : Iq108 5 = 0 := z5
                    show 301 - v134 ≤ t - 1
                    omega
                · skip
                  exfalso
                  omega
            · skip
              exfalso
              omega
          · skip
            obtain rfl := hbq111 gq111
            clear haq111 hbq111 hIq111 hAq111
            clear gq111
            show jt _ 79 [(0, .ref m), (1, .int (jI f)), (2, .int (jI (I 13))), (3, .int (jI o)), (4, .int (jI (-1)))] [.int (jI 0)] (gmf m f0 Iq108 Aq108) _ _ _
            refine jt_if_ne (t := 90) d_GM_expr_79 rfl (by unfold jRi; omega) (fun c136 => ?_) (fun c136 => ?_)
            · skip
              exfalso
              omega
            · skip
              refine jt_aload_n d_GM_expr_82 rfl ?_
              refine jt_iconst d_GM_expr_83 ?_
              refine gct_call (Y := Y_GM_word) (As := [.int (jI 1)]) (rest := []) d_GM_expr_84 GM_c201 yk_GM_word yv_GM_word rfl (Nat.le_of_ble_eq_true rfl) rfl rfl (Nat.le_of_ble_eq_true rfl) (c_GM_word G _ m 1 Iq108 Aq108 (gP_of hpq108.1 (gT_of hpq108 hT rfl rfl rfl)) (by unfold jRi; omega)) (fun rvq137 Iq137 Aq137 hq137 => ?_)
              obtain ⟨haq137, hbq137, hIq137, hAq137⟩ := hq137
              rw [hIq137, hAq137]
              by_cases gq137 : (Iq108 4) < Iq108 1 ∧ Aq108 22 (Iq108 4) = 4 ∧ Aq108 23 (Iq108 4) = 1
              · skip
                obtain rfl := haq137 gq137
                have tq137 : Iq108 1 ≤ 300 := (gT_of hpq108 hT rfl rfl rfl).2.1
                clear haq137 hbq137 hIq137 hAq137
                show jt _ 87 [(0, .ref m), (1, .int (jI f)), (2, .int (jI (I 13))), (3, .int (jI o)), (4, .int (jI (-1)))] [.int (jI 1)] (gmf m f0 Iq108 Aq108) _ _ _
                refine jt_if_eq (t := 122) d_GM_expr_87 rfl (by unfold jRi; omega) (fun c138 => ?_) (fun c138 => ?_)
                · skip
                  exfalso
                  omega
                · skip
                  refine jt_aload_n d_GM_expr_90 rfl ?_
                  refine jt_aload_n d_GM_expr_91 rfl ?_
                  refine jt_iconst d_GM_expr_92 ?_
                  refine gct_call (Y := Y_GM_word) (As := [.int (jI 0)]) (rest := [.ref m]) d_GM_expr_93 GM_c201 yk_GM_word yv_GM_word rfl (Nat.le_of_ble_eq_true rfl) rfl rfl (Nat.le_of_ble_eq_true rfl) (c_GM_word G _ m 0 Iq108 Aq108 (gP_of hpq108.1 (gT_of hpq108 hT rfl rfl rfl)) (by unfold jRi; omega)) (fun rvq139 Iq139 Aq139 hq139 => ?_)
                  obtain ⟨haq139, hbq139, hIq139, hAq139⟩ := hq139
                  rw [hIq139, hAq139]
                  by_cases gq139 : (Iq108 4) < Iq108 1 ∧ Aq108 22 (Iq108 4) = 4 ∧ Aq108 23 (Iq108 4) = 0
                  · skip
                    obtain rfl := haq139 gq139
                    have tq139 : Iq108 1 ≤ 300 := (gT_of hpq108 hT rfl rfl rfl).2.1
                    clear haq139 hbq139 hIq139 hAq139
                    show jt _ 96 [(0, .ref m), (1, .int (jI f)), (2, .int (jI (I 13))), (3, .int (jI o)), (4, .int (jI (-1)))] [.int (jI 1), .ref m] (gmf m f0 Iq108 Aq108) _ _ _
                    refine jt_if_eq (t := 103) d_GM_expr_96 rfl (by unfold jRi; omega) (fun c140 => ?_) (fun c140 => ?_)
                    · skip
                      exfalso
                      omega
                    · skip
                      refine jt_iconst d_GM_expr_99 ?_
                      refine jt_goto (t := 104) d_GM_expr_100 rfl ?_
                      have xb141 : 0 ≤ Iq108 13 ∧ Iq108 13 ≤ 320 := hpq108.1 13
                      have xb142 : 0 ≤ Iq108 9 ∧ Iq108 9 ≤ 100 := hpq108.1 9
                      refine gct_call (Y := Y_GM_push) (As := [.int (jI 1)]) (rest := []) d_GM_expr_104 GM_c208 yk_GM_push yv_GM_push rfl (Nat.le_of_ble_eq_true rfl) rfl rfl (Nat.le_of_ble_eq_true rfl) (c_GM_push G _ m 1 Iq108 Aq108 (show 0 ≤ Iq108 13 by omega) (show Iq108 13 < 320 by omega)) (fun rvq143 Iq143 Aq143 hq143 => ?_)
                      obtain ⟨rfl, hIq143, hAq143⟩ := hq143
                      rw [hIq143, hAq143]
                      have rb144 : 0 ≤ Iq108 9 ∧ Iq108 9 ≤ 100 := hpq108.1 9
                      have p145 := gPo.I 13 ((Iq108 13) + 1) hpq108 rfl (show 0 ≤ (Iq108 13) + 1 ∧ (Iq108 13) + 1 ≤ 320 by omega)
                      have p146 := gPo.A 36 (ju (Aq108 36) (Iq108 13) 1) p145 rfl (gju (p145.2.1 36) (show 0 ≤ 1 ∧ 1 ≤ 6 by omega))
                      have p147 := gPo.A 37 (ju (Aq108 37) (Iq108 13) (Iq108 9)) p146 rfl (gju (p146.2.1 37) (show -2147483648 ≤ Iq108 9 ∧ Iq108 9 ≤ 2147483647 by omega))
                      show jt _ 107 [(0, .ref m), (1, .int (jI f)), (2, .int (jI (I 13))), (3, .int (jI o)), (4, .int (jI (-1)))] [] (gmf m f0 (va_up Iq108 13 ((Iq108 13) + 1)) (va_up (va_up Aq108 36 (ju (Aq108 36) (Iq108 13) 1)) 37 (ju (Aq108 37) (Iq108 13) (Iq108 9)))) _ _ _
                      refine jt_aload_n d_GM_expr_107 rfl ?_
                      refine jt_dup d_GM_expr_108 rfl ?_
                      refine gm_gI (k := 4) (v := Iq108 4) d_GM_expr_109 GM_f22 (by decide) rfl ?_
                      have rb148 : 0 ≤ Iq108 4 ∧ Iq108 4 ≤ 300 := p147.1 4
                      refine jt_iconst d_GM_expr_112 ?_
                      refine jt_iadd d_GM_expr_113 ?_
                      refine jt_topi (fun v149 ev149 => ?_)
                      refine gm_pI (k := 4) (v := v149) (J := va_up (va_up Iq108 13 ((Iq108 13) + 1)) 4 v149) d_GM_expr_114 (GM_w22 _ rfl) (by decide) rfl rfl rfl ?_
                      have p150 := gPo.I 4 v149 p147 rfl (show 0 ≤ v149 ∧ v149 ≤ 300 by omega)
                      refine jt_iconst d_GM_expr_117 ?_
                      refine jt_istore_n (L' := [(0, .ref m), (1, .int (jI f)), (2, .int (jI (I 13))), (3, .int (jI 1)), (4, .int (jI (-1)))]) d_GM_expr_118 (Nat.le_of_ble_eq_true rfl) rfl ?_
                      refine jt_goto (t := 228) d_GM_expr_119 rfl ?_
                      refine jt_goto (t := 17) d_GM_expr_228 rfl ?_
                      refine jt_sub (L' := [(0, .ref m), (1, .int (jI f)), (2, .int (jI (I 13))), (3, .int (jI 1))]) (fun _ h => List.mem_append_left [(4, Value.int (jI (-1)))] h) ?_
                      refine ih 1 (t - 1) (va_up (va_up Iq108 13 ((Iq108 13) + 1)) 4 v149) (va_up (va_up Aq108 36 (ju (Aq108 36) (Iq108 13) 1)) 37 (ju (Aq108 37) (Iq108 13) (Iq108 9))) p150 (by omega) (by omega) (fun z5 => ?_) (fun z5 => ?_) (by omega) (by omega)
                      · have z5 : Iq108 5 = 0 := z5
                        obtain ⟨y1, y2, y3, y4, y5⟩ := hxq108
                        show I 5 = 0 ∧ I 13 = 0 ∧ 0 ≤ (Iq108 13) + 1 ∧ (Iq108 13) + 1 ≤ v149 ∧ I 4 ≤ v149 ∧ gSt (ju (Aq108 36) (Iq108 13) 1) ((Iq108 13) + 1) ∧ gBr (ju (Aq108 36) (Iq108 13) 1) ((Iq108 13) + 1) = Iq108 14 ∧ Iq108 9 = gC (ju (Aq108 36) (Iq108 13) 1) ((Iq108 13) + 1) + (1 - 1) ∧ (1 = 0 → I 4 < v149)
                        show I 5 = 0 ∧ I 13 = 0 ∧ 0 ≤ Iq108 13 + 1 ∧ Iq108 13 + 1 ≤ v149 ∧ I 4 ≤ v149 ∧ gSt (ju (Aq108 36) (Iq108 13) 1) (Iq108 13 + 1) ∧ gBr (ju (Aq108 36) (Iq108 13) 1) (Iq108 13 + 1) = Iq108 14 ∧ Iq108 9 = gC (ju (Aq108 36) (Iq108 13) 1) (Iq108 13 + 1) + (1 - 1) ∧ ((1 : Int) = 0 → I 4 < v149)
                        rw [a36q108]
                        have c1 := gC_s (ju (B 36) (Iq108 13) 1) (Iq108 13) y2
                        have c2 := gB_s (ju (B 36) (Iq108 13) 1) (Iq108 13) y2
                        rw [ju_self, gC_ju _ _ _ _ y2 (Int.le_refl _)] at c1
                        rw [ju_self, gB_ju _ _ _ _ y2 (Int.le_refl _)] at c2
                        exact ⟨x5, x13, by omega, by omega, by omega, gSt_ju (gSt_le xs y1) y2 (fun _ => y5), by omega, by omega, fun z => by omega⟩
                      · have z5 : Iq108 5 = 0 := z5
                        show 301 - v149 ≤ t - 1
                        omega
                  · skip
                    obtain rfl := hbq139 gq139
                    clear haq139 hbq139 hIq139 hAq139
                    clear gq139
                    show jt _ 96 [(0, .ref m), (1, .int (jI f)), (2, .int (jI (I 13))), (3, .int (jI o)), (4, .int (jI (-1)))] [.int (jI 0), .ref m] (gmf m f0 Iq108 Aq108) _ _ _
                    refine jt_if_eq (t := 103) d_GM_expr_96 rfl (by unfold jRi; omega) (fun c151 => ?_) (fun c151 => ?_)
                    · skip
                      refine jt_iconst d_GM_expr_103 ?_
                      have xb152 : 0 ≤ Iq108 13 ∧ Iq108 13 ≤ 320 := hpq108.1 13
                      have xb153 : 0 ≤ Iq108 9 ∧ Iq108 9 ≤ 100 := hpq108.1 9
                      refine gct_call (Y := Y_GM_push) (As := [.int (jI 2)]) (rest := []) d_GM_expr_104 GM_c208 yk_GM_push yv_GM_push rfl (Nat.le_of_ble_eq_true rfl) rfl rfl (Nat.le_of_ble_eq_true rfl) (c_GM_push G _ m 2 Iq108 Aq108 (show 0 ≤ Iq108 13 by omega) (show Iq108 13 < 320 by omega)) (fun rvq154 Iq154 Aq154 hq154 => ?_)
                      obtain ⟨rfl, hIq154, hAq154⟩ := hq154
                      rw [hIq154, hAq154]
                      have rb155 : 0 ≤ Iq108 9 ∧ Iq108 9 ≤ 100 := hpq108.1 9
                      have p156 := gPo.I 13 ((Iq108 13) + 1) hpq108 rfl (show 0 ≤ (Iq108 13) + 1 ∧ (Iq108 13) + 1 ≤ 320 by omega)
                      have p157 := gPo.A 36 (ju (Aq108 36) (Iq108 13) 2) p156 rfl (gju (p156.2.1 36) (show 0 ≤ 2 ∧ 2 ≤ 6 by omega))
                      have p158 := gPo.A 37 (ju (Aq108 37) (Iq108 13) (Iq108 9)) p157 rfl (gju (p157.2.1 37) (show -2147483648 ≤ Iq108 9 ∧ Iq108 9 ≤ 2147483647 by omega))
                      show jt _ 107 [(0, .ref m), (1, .int (jI f)), (2, .int (jI (I 13))), (3, .int (jI o)), (4, .int (jI (-1)))] [] (gmf m f0 (va_up Iq108 13 ((Iq108 13) + 1)) (va_up (va_up Aq108 36 (ju (Aq108 36) (Iq108 13) 2)) 37 (ju (Aq108 37) (Iq108 13) (Iq108 9)))) _ _ _
                      refine jt_aload_n d_GM_expr_107 rfl ?_
                      refine jt_dup d_GM_expr_108 rfl ?_
                      refine gm_gI (k := 4) (v := Iq108 4) d_GM_expr_109 GM_f22 (by decide) rfl ?_
                      have rb159 : 0 ≤ Iq108 4 ∧ Iq108 4 ≤ 300 := p158.1 4
                      refine jt_iconst d_GM_expr_112 ?_
                      refine jt_iadd d_GM_expr_113 ?_
                      refine jt_topi (fun v160 ev160 => ?_)
                      refine gm_pI (k := 4) (v := v160) (J := va_up (va_up Iq108 13 ((Iq108 13) + 1)) 4 v160) d_GM_expr_114 (GM_w22 _ rfl) (by decide) rfl rfl rfl ?_
                      have p161 := gPo.I 4 v160 p158 rfl (show 0 ≤ v160 ∧ v160 ≤ 300 by omega)
                      refine jt_iconst d_GM_expr_117 ?_
                      refine jt_istore_n (L' := [(0, .ref m), (1, .int (jI f)), (2, .int (jI (I 13))), (3, .int (jI 1)), (4, .int (jI (-1)))]) d_GM_expr_118 (Nat.le_of_ble_eq_true rfl) rfl ?_
                      refine jt_goto (t := 228) d_GM_expr_119 rfl ?_
                      refine jt_goto (t := 17) d_GM_expr_228 rfl ?_
                      refine jt_sub (L' := [(0, .ref m), (1, .int (jI f)), (2, .int (jI (I 13))), (3, .int (jI 1))]) (fun _ h => List.mem_append_left [(4, Value.int (jI (-1)))] h) ?_
                      refine ih 1 (t - 1) (va_up (va_up Iq108 13 ((Iq108 13) + 1)) 4 v160) (va_up (va_up Aq108 36 (ju (Aq108 36) (Iq108 13) 2)) 37 (ju (Aq108 37) (Iq108 13) (Iq108 9))) p161 (by omega) (by omega) (fun z5 => ?_) (fun z5 => ?_) (by omega) (by omega)
                      · have z5 : Iq108 5 = 0 := z5
                        obtain ⟨y1, y2, y3, y4, y5⟩ := hxq108
                        show I 5 = 0 ∧ I 13 = 0 ∧ 0 ≤ (Iq108 13) + 1 ∧ (Iq108 13) + 1 ≤ v160 ∧ I 4 ≤ v160 ∧ gSt (ju (Aq108 36) (Iq108 13) 2) ((Iq108 13) + 1) ∧ gBr (ju (Aq108 36) (Iq108 13) 2) ((Iq108 13) + 1) = Iq108 14 ∧ Iq108 9 = gC (ju (Aq108 36) (Iq108 13) 2) ((Iq108 13) + 1) + (1 - 1) ∧ (1 = 0 → I 4 < v160)
                        show I 5 = 0 ∧ I 13 = 0 ∧ 0 ≤ Iq108 13 + 1 ∧ Iq108 13 + 1 ≤ v160 ∧ I 4 ≤ v160 ∧ gSt (ju (Aq108 36) (Iq108 13) 2) (Iq108 13 + 1) ∧ gBr (ju (Aq108 36) (Iq108 13) 2) (Iq108 13 + 1) = Iq108 14 ∧ Iq108 9 = gC (ju (Aq108 36) (Iq108 13) 2) (Iq108 13 + 1) + (1 - 1) ∧ ((1 : Int) = 0 → I 4 < v160)
                        rw [a36q108]
                        have c1 := gC_s (ju (B 36) (Iq108 13) 2) (Iq108 13) y2
                        have c2 := gB_s (ju (B 36) (Iq108 13) 2) (Iq108 13) y2
                        rw [ju_self, gC_ju _ _ _ _ y2 (Int.le_refl _)] at c1
                        rw [ju_self, gB_ju _ _ _ _ y2 (Int.le_refl _)] at c2
                        exact ⟨x5, x13, by omega, by omega, by omega, gSt_ju (gSt_le xs y1) y2 (fun _ => y5), by omega, by omega, fun z => by omega⟩
                      · have z5 : Iq108 5 = 0 := z5
                        show 301 - v160 ≤ t - 1
                        omega
                    · skip
                      exfalso
                      omega
              · skip
                obtain rfl := hbq137 gq137
                clear haq137 hbq137 hIq137 hAq137
                clear gq137
                show jt _ 87 [(0, .ref m), (1, .int (jI f)), (2, .int (jI (I 13))), (3, .int (jI o)), (4, .int (jI (-1)))] [.int (jI 0)] (gmf m f0 Iq108 Aq108) _ _ _
                refine jt_if_eq (t := 122) d_GM_expr_87 rfl (by unfold jRi; omega) (fun c162 => ?_) (fun c162 => ?_)
                · skip
                  refine jt_iload d_GM_expr_122 rfl ?_
                  refine jt_if_ge (t := 130) d_GM_expr_124 rfl (by unfold jRi; omega) (fun c163 => ?_) (fun c163 => ?_)
                  · skip
                    exfalso
                    omega
                  · skip
                    refine jt_goto (t := 231) d_GM_expr_127 rfl ?_
                    refine jt_aload_n d_GM_expr_231 rfl ?_
                    refine jt_iload_n d_GM_expr_232 rfl ?_
                    refine gm_pI (k := 13) (v := (I 13)) (J := va_up Iq108 13 (I 13)) d_GM_expr_233 (GM_w49 _ rfl) (by decide) rfl rfl rfl ?_
                    have p164 := gPo.I 13 (I 13) hpq108 rfl (show 0 ≤ I 13 ∧ I 13 ≤ 320 by omega)
                    refine jt_aload_n d_GM_expr_236 rfl ?_
                    refine gm_gI (k := 5) (v := Iq108 5) d_GM_expr_237 GM_f25 (by decide) rfl ?_
                    have rb165 : -13 ≤ Iq108 5 ∧ Iq108 5 ≤ 0 := p164.1 5
                    refine jt_if_eq (t := 244) d_GM_expr_240 rfl (by unfold jRi; omega) (fun c166 => ?_) (fun c166 => ?_)
                    · skip
                      refine jt_aload_n d_GM_expr_244 rfl ?_
                      refine jt_sipush d_GM_expr_245 (by omega) ?_
                      refine gct_call (Y := Y_GM_check) (As := [.int (jI 300)]) (rest := []) d_GM_expr_248 GM_c238 yk_GM_check yv_GM_check rfl (Nat.le_of_ble_eq_true rfl) rfl rfl (Nat.le_of_ble_eq_true rfl) (w_GM_check G _ m 300 (va_up Iq108 13 (I 13)) Aq108 p164.1 p164.2.1 (by omega) (by omega)) (fun rvq167 Iq167 Aq167 hq167 => ?_)
                      obtain ⟨rfl, hqq167⟩ := hq167
                      have hpq167 := gPo.trans p164 hqq167 rfl rfl
                      have f1q167 : Iq167 1 = I 1 := hpq167.2.2.1 1 rfl
                      have m4q167 : Iq167 4 = Iq108 4 := hqq167.2.2.1 4 rfl
                      have m5q167 : Iq167 5 = Iq108 5 := hqq167.2.2.1 5 rfl
                      have m9q167 : Iq167 9 = Iq108 9 := hqq167.2.2.1 9 rfl
                      have m13q167 : Iq167 13 = I 13 := hqq167.2.2.1 13 rfl
                      have m14q167 : Iq167 14 = Iq108 14 := hqq167.2.2.1 14 rfl
                      have a36q167 : Aq167 36 = Aq108 36 := hqq167.2.2.2 36 rfl
                      show jt _ 251 [(0, .ref m), (1, .int (jI f)), (2, .int (jI (I 13))), (3, .int (jI o)), (4, .int (jI (-1)))] [] (gmf m f0 Iq167 Aq167) _ _ _
                      refine jt_aload_n d_GM_expr_251 rfl ?_
                      refine jt_iload_n d_GM_expr_252 rfl ?_
                      refine jt_sipush d_GM_expr_253 (by omega) ?_
                      refine gct_call (Y := Y_GM_copyForm) (As := [.int (jI f), .int (jI 300)]) (rest := []) d_GM_expr_256 GM_c247 yk_GM_copyForm yv_GM_copyForm rfl (Nat.le_of_ble_eq_true rfl) rfl rfl (Nat.le_of_ble_eq_true rfl) (w_GM_copyForm G _ m f 300 Iq167 Aq167 hpq167.1 hpq167.2.1 (by omega) (by omega) (by omega) (by omega) (by omega)) (fun rvq168 Iq168 Aq168 hq168 => ?_)
                      obtain ⟨rfl, hqq168⟩ := hq168
                      have hpq168 := gPo.trans hpq167 hqq168 rfl rfl
                      have f1q168 : Iq168 1 = I 1 := hpq168.2.2.1 1 rfl
                      have m4q168 : Iq168 4 = Iq167 4 := hqq168.2.2.1 4 rfl
                      have m5q168 : Iq168 5 = Iq167 5 := hqq168.2.2.1 5 rfl
                      have m9q168 : Iq168 9 = Iq167 9 := hqq168.2.2.1 9 rfl
                      have m13q168 : Iq168 13 = Iq167 13 := hqq168.2.2.1 13 rfl
                      have m14q168 : Iq168 14 = Iq167 14 := hqq168.2.2.1 14 rfl
                      have a36q168 : Aq168 36 = Aq167 36 := hqq168.2.2.2 36 rfl
                      show jt _ 259 [(0, .ref m), (1, .int (jI f)), (2, .int (jI (I 13))), (3, .int (jI o)), (4, .int (jI (-1)))] [] (gmf m f0 Iq168 Aq168) _ _ _
                      exact gm_vret d_GM_expr_259 rfl (⟨rfl, hpq168, fun z => by first | exact ⟨x5, by omega, by omega⟩ | (exfalso; omega)⟩)
                    · skip
                      exact gm_vret d_GM_expr_243 rfl (⟨rfl, p164, fun z => absurd z (by show ¬ Iq108 5 = 0; omega)⟩)
                · skip
                  exfalso
                  omega
        · skip
          refine jt_aload_n d_GM_expr_57 rfl ?_
          refine gm_gA (k := 36) (a := m + 21) d_GM_expr_58 GM_f121 (by decide) (by decide) rfl ?_
          refine jt_aload_n d_GM_expr_61 rfl ?_
          refine gm_gI (k := 13) (v := Iq108 13) d_GM_expr_62 GM_f49 (by decide) rfl ?_
          refine jt_iconst d_GM_expr_65 ?_
          refine jt_isub d_GM_expr_66 ?_
          refine gm_ld0 (k := 36) (n := 320) (v := (Aq108 36) ((Iq108 13) - 1)) d_GM_expr_67 rfl (by decide) (by decide) rfl rfl (by omega) (by omega) (by omega) rfl ?_
          refine jt_topi (fun v169 ev169 => ?_)
          have bv169 : 0 ≤ v169 ∧ v169 ≤ 6 := by rw [ev169]; exact hpq108.2.1 36 ((Iq108 13) - 1)
          rw [a36q108] at ev169
          refine jt_goto (t := 72) d_GM_expr_68 rfl ?_
          refine jt_istore (L' := [(0, .ref m), (1, .int (jI f)), (2, .int (jI (I 13))), (3, .int (jI o)), (4, .int (jI v169))]) d_GM_expr_72 (Nat.le_of_ble_eq_true rfl) rfl ?_
          refine jt_aload_n d_GM_expr_74 rfl ?_
          refine jt_iconst d_GM_expr_75 ?_
          refine gct_call (Y := Y_GM_word) (As := [.int (jI 0)]) (rest := []) d_GM_expr_76 GM_c201 yk_GM_word yv_GM_word rfl (Nat.le_of_ble_eq_true rfl) rfl rfl (Nat.le_of_ble_eq_true rfl) (c_GM_word G _ m 0 Iq108 Aq108 (gP_of hpq108.1 (gT_of hpq108 hT rfl rfl rfl)) (by unfold jRi; omega)) (fun rvq170 Iq170 Aq170 hq170 => ?_)
          obtain ⟨haq170, hbq170, hIq170, hAq170⟩ := hq170
          rw [hIq170, hAq170]
          by_cases gq170 : (Iq108 4) < Iq108 1 ∧ Aq108 22 (Iq108 4) = 4 ∧ Aq108 23 (Iq108 4) = 0
          · skip
            obtain rfl := haq170 gq170
            have tq170 : Iq108 1 ≤ 300 := (gT_of hpq108 hT rfl rfl rfl).2.1
            clear haq170 hbq170 hIq170 hAq170
            show jt _ 79 [(0, .ref m), (1, .int (jI f)), (2, .int (jI (I 13))), (3, .int (jI o)), (4, .int (jI v169))] [.int (jI 1)] (gmf m f0 Iq108 Aq108) _ _ _
            refine jt_if_ne (t := 90) d_GM_expr_79 rfl (by unfold jRi; omega) (fun c171 => ?_) (fun c171 => ?_)
            · skip
              refine jt_aload_n d_GM_expr_90 rfl ?_
              refine jt_aload_n d_GM_expr_91 rfl ?_
              refine jt_iconst d_GM_expr_92 ?_
              refine gct_call (Y := Y_GM_word) (As := [.int (jI 0)]) (rest := [.ref m]) d_GM_expr_93 GM_c201 yk_GM_word yv_GM_word rfl (Nat.le_of_ble_eq_true rfl) rfl rfl (Nat.le_of_ble_eq_true rfl) (c_GM_word G _ m 0 Iq108 Aq108 (gP_of hpq108.1 (gT_of hpq108 hT rfl rfl rfl)) (by unfold jRi; omega)) (fun rvq172 Iq172 Aq172 hq172 => ?_)
              obtain ⟨haq172, hbq172, hIq172, hAq172⟩ := hq172
              rw [hIq172, hAq172]
              by_cases gq172 : (Iq108 4) < Iq108 1 ∧ Aq108 22 (Iq108 4) = 4 ∧ Aq108 23 (Iq108 4) = 0
              · skip
                obtain rfl := haq172 gq172
                have tq172 : Iq108 1 ≤ 300 := (gT_of hpq108 hT rfl rfl rfl).2.1
                clear haq172 hbq172 hIq172 hAq172
                show jt _ 96 [(0, .ref m), (1, .int (jI f)), (2, .int (jI (I 13))), (3, .int (jI o)), (4, .int (jI v169))] [.int (jI 1), .ref m] (gmf m f0 Iq108 Aq108) _ _ _
                refine jt_if_eq (t := 103) d_GM_expr_96 rfl (by unfold jRi; omega) (fun c173 => ?_) (fun c173 => ?_)
                · skip
                  exfalso
                  omega
                · skip
                  refine jt_iconst d_GM_expr_99 ?_
                  refine jt_goto (t := 104) d_GM_expr_100 rfl ?_
                  have xb174 : 0 ≤ Iq108 13 ∧ Iq108 13 ≤ 320 := hpq108.1 13
                  have xb175 : 0 ≤ Iq108 9 ∧ Iq108 9 ≤ 100 := hpq108.1 9
                  refine gct_call (Y := Y_GM_push) (As := [.int (jI 1)]) (rest := []) d_GM_expr_104 GM_c208 yk_GM_push yv_GM_push rfl (Nat.le_of_ble_eq_true rfl) rfl rfl (Nat.le_of_ble_eq_true rfl) (c_GM_push G _ m 1 Iq108 Aq108 (show 0 ≤ Iq108 13 by omega) (show Iq108 13 < 320 by omega)) (fun rvq176 Iq176 Aq176 hq176 => ?_)
                  obtain ⟨rfl, hIq176, hAq176⟩ := hq176
                  rw [hIq176, hAq176]
                  have rb177 : 0 ≤ Iq108 9 ∧ Iq108 9 ≤ 100 := hpq108.1 9
                  have p178 := gPo.I 13 ((Iq108 13) + 1) hpq108 rfl (show 0 ≤ (Iq108 13) + 1 ∧ (Iq108 13) + 1 ≤ 320 by omega)
                  have p179 := gPo.A 36 (ju (Aq108 36) (Iq108 13) 1) p178 rfl (gju (p178.2.1 36) (show 0 ≤ 1 ∧ 1 ≤ 6 by omega))
                  have p180 := gPo.A 37 (ju (Aq108 37) (Iq108 13) (Iq108 9)) p179 rfl (gju (p179.2.1 37) (show -2147483648 ≤ Iq108 9 ∧ Iq108 9 ≤ 2147483647 by omega))
                  show jt _ 107 [(0, .ref m), (1, .int (jI f)), (2, .int (jI (I 13))), (3, .int (jI o)), (4, .int (jI v169))] [] (gmf m f0 (va_up Iq108 13 ((Iq108 13) + 1)) (va_up (va_up Aq108 36 (ju (Aq108 36) (Iq108 13) 1)) 37 (ju (Aq108 37) (Iq108 13) (Iq108 9)))) _ _ _
                  refine jt_aload_n d_GM_expr_107 rfl ?_
                  refine jt_dup d_GM_expr_108 rfl ?_
                  refine gm_gI (k := 4) (v := Iq108 4) d_GM_expr_109 GM_f22 (by decide) rfl ?_
                  have rb181 : 0 ≤ Iq108 4 ∧ Iq108 4 ≤ 300 := p180.1 4
                  refine jt_iconst d_GM_expr_112 ?_
                  refine jt_iadd d_GM_expr_113 ?_
                  refine jt_topi (fun v182 ev182 => ?_)
                  refine gm_pI (k := 4) (v := v182) (J := va_up (va_up Iq108 13 ((Iq108 13) + 1)) 4 v182) d_GM_expr_114 (GM_w22 _ rfl) (by decide) rfl rfl rfl ?_
                  have p183 := gPo.I 4 v182 p180 rfl (show 0 ≤ v182 ∧ v182 ≤ 300 by omega)
                  refine jt_iconst d_GM_expr_117 ?_
                  refine jt_istore_n (L' := [(0, .ref m), (1, .int (jI f)), (2, .int (jI (I 13))), (3, .int (jI 1)), (4, .int (jI v169))]) d_GM_expr_118 (Nat.le_of_ble_eq_true rfl) rfl ?_
                  refine jt_goto (t := 228) d_GM_expr_119 rfl ?_
                  refine jt_goto (t := 17) d_GM_expr_228 rfl ?_
                  refine jt_sub (L' := [(0, .ref m), (1, .int (jI f)), (2, .int (jI (I 13))), (3, .int (jI 1))]) (fun _ h => List.mem_append_left [(4, Value.int (jI v169))] h) ?_
                  refine ih 1 (t - 1) (va_up (va_up Iq108 13 ((Iq108 13) + 1)) 4 v182) (va_up (va_up Aq108 36 (ju (Aq108 36) (Iq108 13) 1)) 37 (ju (Aq108 37) (Iq108 13) (Iq108 9))) p183 (by omega) (by omega) (fun z5 => ?_) (fun z5 => ?_) (by omega) (by omega)
                  · have z5 : Iq108 5 = 0 := z5
                    obtain ⟨y1, y2, y3, y4, y5⟩ := hxq108
                    show I 5 = 0 ∧ I 13 = 0 ∧ 0 ≤ (Iq108 13) + 1 ∧ (Iq108 13) + 1 ≤ v182 ∧ I 4 ≤ v182 ∧ gSt (ju (Aq108 36) (Iq108 13) 1) ((Iq108 13) + 1) ∧ gBr (ju (Aq108 36) (Iq108 13) 1) ((Iq108 13) + 1) = Iq108 14 ∧ Iq108 9 = gC (ju (Aq108 36) (Iq108 13) 1) ((Iq108 13) + 1) + (1 - 1) ∧ (1 = 0 → I 4 < v182)
                    show I 5 = 0 ∧ I 13 = 0 ∧ 0 ≤ Iq108 13 + 1 ∧ Iq108 13 + 1 ≤ v182 ∧ I 4 ≤ v182 ∧ gSt (ju (Aq108 36) (Iq108 13) 1) (Iq108 13 + 1) ∧ gBr (ju (Aq108 36) (Iq108 13) 1) (Iq108 13 + 1) = Iq108 14 ∧ Iq108 9 = gC (ju (Aq108 36) (Iq108 13) 1) (Iq108 13 + 1) + (1 - 1) ∧ ((1 : Int) = 0 → I 4 < v182)
                    rw [a36q108]
                    have c1 := gC_s (ju (B 36) (Iq108 13) 1) (Iq108 13) y2
                    have c2 := gB_s (ju (B 36) (Iq108 13) 1) (Iq108 13) y2
                    rw [ju_self, gC_ju _ _ _ _ y2 (Int.le_refl _)] at c1
                    rw [ju_self, gB_ju _ _ _ _ y2 (Int.le_refl _)] at c2
                    exact ⟨x5, x13, by omega, by omega, by omega, gSt_ju (gSt_le xs y1) y2 (fun _ => y5), by omega, by omega, fun z => by omega⟩
                  · have z5 : Iq108 5 = 0 := z5
                    show 301 - v182 ≤ t - 1
                    omega
              · skip
                obtain rfl := hbq172 gq172
                clear haq172 hbq172 hIq172 hAq172
                clear gq172
                show jt _ 96 [(0, .ref m), (1, .int (jI f)), (2, .int (jI (I 13))), (3, .int (jI o)), (4, .int (jI v169))] [.int (jI 0), .ref m] (gmf m f0 Iq108 Aq108) _ _ _
                refine jt_if_eq (t := 103) d_GM_expr_96 rfl (by unfold jRi; omega) (fun c184 => ?_) (fun c184 => ?_)
                · skip
                  refine jt_iconst d_GM_expr_103 ?_
                  have xb185 : 0 ≤ Iq108 13 ∧ Iq108 13 ≤ 320 := hpq108.1 13
                  have xb186 : 0 ≤ Iq108 9 ∧ Iq108 9 ≤ 100 := hpq108.1 9
                  refine gct_call (Y := Y_GM_push) (As := [.int (jI 2)]) (rest := []) d_GM_expr_104 GM_c208 yk_GM_push yv_GM_push rfl (Nat.le_of_ble_eq_true rfl) rfl rfl (Nat.le_of_ble_eq_true rfl) (c_GM_push G _ m 2 Iq108 Aq108 (show 0 ≤ Iq108 13 by omega) (show Iq108 13 < 320 by omega)) (fun rvq187 Iq187 Aq187 hq187 => ?_)
                  obtain ⟨rfl, hIq187, hAq187⟩ := hq187
                  rw [hIq187, hAq187]
                  have rb188 : 0 ≤ Iq108 9 ∧ Iq108 9 ≤ 100 := hpq108.1 9
                  have p189 := gPo.I 13 ((Iq108 13) + 1) hpq108 rfl (show 0 ≤ (Iq108 13) + 1 ∧ (Iq108 13) + 1 ≤ 320 by omega)
                  have p190 := gPo.A 36 (ju (Aq108 36) (Iq108 13) 2) p189 rfl (gju (p189.2.1 36) (show 0 ≤ 2 ∧ 2 ≤ 6 by omega))
                  have p191 := gPo.A 37 (ju (Aq108 37) (Iq108 13) (Iq108 9)) p190 rfl (gju (p190.2.1 37) (show -2147483648 ≤ Iq108 9 ∧ Iq108 9 ≤ 2147483647 by omega))
                  show jt _ 107 [(0, .ref m), (1, .int (jI f)), (2, .int (jI (I 13))), (3, .int (jI o)), (4, .int (jI v169))] [] (gmf m f0 (va_up Iq108 13 ((Iq108 13) + 1)) (va_up (va_up Aq108 36 (ju (Aq108 36) (Iq108 13) 2)) 37 (ju (Aq108 37) (Iq108 13) (Iq108 9)))) _ _ _
                  refine jt_aload_n d_GM_expr_107 rfl ?_
                  refine jt_dup d_GM_expr_108 rfl ?_
                  refine gm_gI (k := 4) (v := Iq108 4) d_GM_expr_109 GM_f22 (by decide) rfl ?_
                  have rb192 : 0 ≤ Iq108 4 ∧ Iq108 4 ≤ 300 := p191.1 4
                  refine jt_iconst d_GM_expr_112 ?_
                  refine jt_iadd d_GM_expr_113 ?_
                  refine jt_topi (fun v193 ev193 => ?_)
                  refine gm_pI (k := 4) (v := v193) (J := va_up (va_up Iq108 13 ((Iq108 13) + 1)) 4 v193) d_GM_expr_114 (GM_w22 _ rfl) (by decide) rfl rfl rfl ?_
                  have p194 := gPo.I 4 v193 p191 rfl (show 0 ≤ v193 ∧ v193 ≤ 300 by omega)
                  refine jt_iconst d_GM_expr_117 ?_
                  refine jt_istore_n (L' := [(0, .ref m), (1, .int (jI f)), (2, .int (jI (I 13))), (3, .int (jI 1)), (4, .int (jI v169))]) d_GM_expr_118 (Nat.le_of_ble_eq_true rfl) rfl ?_
                  refine jt_goto (t := 228) d_GM_expr_119 rfl ?_
                  refine jt_goto (t := 17) d_GM_expr_228 rfl ?_
                  refine jt_sub (L' := [(0, .ref m), (1, .int (jI f)), (2, .int (jI (I 13))), (3, .int (jI 1))]) (fun _ h => List.mem_append_left [(4, Value.int (jI v169))] h) ?_
                  refine ih 1 (t - 1) (va_up (va_up Iq108 13 ((Iq108 13) + 1)) 4 v193) (va_up (va_up Aq108 36 (ju (Aq108 36) (Iq108 13) 2)) 37 (ju (Aq108 37) (Iq108 13) (Iq108 9))) p194 (by omega) (by omega) (fun z5 => ?_) (fun z5 => ?_) (by omega) (by omega)
                  · have z5 : Iq108 5 = 0 := z5
                    obtain ⟨y1, y2, y3, y4, y5⟩ := hxq108
                    show I 5 = 0 ∧ I 13 = 0 ∧ 0 ≤ (Iq108 13) + 1 ∧ (Iq108 13) + 1 ≤ v193 ∧ I 4 ≤ v193 ∧ gSt (ju (Aq108 36) (Iq108 13) 2) ((Iq108 13) + 1) ∧ gBr (ju (Aq108 36) (Iq108 13) 2) ((Iq108 13) + 1) = Iq108 14 ∧ Iq108 9 = gC (ju (Aq108 36) (Iq108 13) 2) ((Iq108 13) + 1) + (1 - 1) ∧ (1 = 0 → I 4 < v193)
                    show I 5 = 0 ∧ I 13 = 0 ∧ 0 ≤ Iq108 13 + 1 ∧ Iq108 13 + 1 ≤ v193 ∧ I 4 ≤ v193 ∧ gSt (ju (Aq108 36) (Iq108 13) 2) (Iq108 13 + 1) ∧ gBr (ju (Aq108 36) (Iq108 13) 2) (Iq108 13 + 1) = Iq108 14 ∧ Iq108 9 = gC (ju (Aq108 36) (Iq108 13) 2) (Iq108 13 + 1) + (1 - 1) ∧ ((1 : Int) = 0 → I 4 < v193)
                    rw [a36q108]
                    have c1 := gC_s (ju (B 36) (Iq108 13) 2) (Iq108 13) y2
                    have c2 := gB_s (ju (B 36) (Iq108 13) 2) (Iq108 13) y2
                    rw [ju_self, gC_ju _ _ _ _ y2 (Int.le_refl _)] at c1
                    rw [ju_self, gB_ju _ _ _ _ y2 (Int.le_refl _)] at c2
                    exact ⟨x5, x13, by omega, by omega, by omega, gSt_ju (gSt_le xs y1) y2 (fun _ => y5), by omega, by omega, fun z => by omega⟩
                  · have z5 : Iq108 5 = 0 := z5
                    show 301 - v193 ≤ t - 1
                    omega
                · skip
                  exfalso
                  omega
            · skip
              exfalso
              omega
          · skip
            obtain rfl := hbq170 gq170
            clear haq170 hbq170 hIq170 hAq170
            clear gq170
            show jt _ 79 [(0, .ref m), (1, .int (jI f)), (2, .int (jI (I 13))), (3, .int (jI o)), (4, .int (jI v169))] [.int (jI 0)] (gmf m f0 Iq108 Aq108) _ _ _
            refine jt_if_ne (t := 90) d_GM_expr_79 rfl (by unfold jRi; omega) (fun c195 => ?_) (fun c195 => ?_)
            · skip
              exfalso
              omega
            · skip
              refine jt_aload_n d_GM_expr_82 rfl ?_
              refine jt_iconst d_GM_expr_83 ?_
              refine gct_call (Y := Y_GM_word) (As := [.int (jI 1)]) (rest := []) d_GM_expr_84 GM_c201 yk_GM_word yv_GM_word rfl (Nat.le_of_ble_eq_true rfl) rfl rfl (Nat.le_of_ble_eq_true rfl) (c_GM_word G _ m 1 Iq108 Aq108 (gP_of hpq108.1 (gT_of hpq108 hT rfl rfl rfl)) (by unfold jRi; omega)) (fun rvq196 Iq196 Aq196 hq196 => ?_)
              obtain ⟨haq196, hbq196, hIq196, hAq196⟩ := hq196
              rw [hIq196, hAq196]
              by_cases gq196 : (Iq108 4) < Iq108 1 ∧ Aq108 22 (Iq108 4) = 4 ∧ Aq108 23 (Iq108 4) = 1
              · skip
                obtain rfl := haq196 gq196
                have tq196 : Iq108 1 ≤ 300 := (gT_of hpq108 hT rfl rfl rfl).2.1
                clear haq196 hbq196 hIq196 hAq196
                show jt _ 87 [(0, .ref m), (1, .int (jI f)), (2, .int (jI (I 13))), (3, .int (jI o)), (4, .int (jI v169))] [.int (jI 1)] (gmf m f0 Iq108 Aq108) _ _ _
                refine jt_if_eq (t := 122) d_GM_expr_87 rfl (by unfold jRi; omega) (fun c197 => ?_) (fun c197 => ?_)
                · skip
                  exfalso
                  omega
                · skip
                  refine jt_aload_n d_GM_expr_90 rfl ?_
                  refine jt_aload_n d_GM_expr_91 rfl ?_
                  refine jt_iconst d_GM_expr_92 ?_
                  refine gct_call (Y := Y_GM_word) (As := [.int (jI 0)]) (rest := [.ref m]) d_GM_expr_93 GM_c201 yk_GM_word yv_GM_word rfl (Nat.le_of_ble_eq_true rfl) rfl rfl (Nat.le_of_ble_eq_true rfl) (c_GM_word G _ m 0 Iq108 Aq108 (gP_of hpq108.1 (gT_of hpq108 hT rfl rfl rfl)) (by unfold jRi; omega)) (fun rvq198 Iq198 Aq198 hq198 => ?_)
                  obtain ⟨haq198, hbq198, hIq198, hAq198⟩ := hq198
                  rw [hIq198, hAq198]
                  by_cases gq198 : (Iq108 4) < Iq108 1 ∧ Aq108 22 (Iq108 4) = 4 ∧ Aq108 23 (Iq108 4) = 0
                  · skip
                    obtain rfl := haq198 gq198
                    have tq198 : Iq108 1 ≤ 300 := (gT_of hpq108 hT rfl rfl rfl).2.1
                    clear haq198 hbq198 hIq198 hAq198
                    show jt _ 96 [(0, .ref m), (1, .int (jI f)), (2, .int (jI (I 13))), (3, .int (jI o)), (4, .int (jI v169))] [.int (jI 1), .ref m] (gmf m f0 Iq108 Aq108) _ _ _
                    refine jt_if_eq (t := 103) d_GM_expr_96 rfl (by unfold jRi; omega) (fun c199 => ?_) (fun c199 => ?_)
                    · skip
                      exfalso
                      omega
                    · skip
                      refine jt_iconst d_GM_expr_99 ?_
                      refine jt_goto (t := 104) d_GM_expr_100 rfl ?_
                      have xb200 : 0 ≤ Iq108 13 ∧ Iq108 13 ≤ 320 := hpq108.1 13
                      have xb201 : 0 ≤ Iq108 9 ∧ Iq108 9 ≤ 100 := hpq108.1 9
                      refine gct_call (Y := Y_GM_push) (As := [.int (jI 1)]) (rest := []) d_GM_expr_104 GM_c208 yk_GM_push yv_GM_push rfl (Nat.le_of_ble_eq_true rfl) rfl rfl (Nat.le_of_ble_eq_true rfl) (c_GM_push G _ m 1 Iq108 Aq108 (show 0 ≤ Iq108 13 by omega) (show Iq108 13 < 320 by omega)) (fun rvq202 Iq202 Aq202 hq202 => ?_)
                      obtain ⟨rfl, hIq202, hAq202⟩ := hq202
                      rw [hIq202, hAq202]
                      have rb203 : 0 ≤ Iq108 9 ∧ Iq108 9 ≤ 100 := hpq108.1 9
                      have p204 := gPo.I 13 ((Iq108 13) + 1) hpq108 rfl (show 0 ≤ (Iq108 13) + 1 ∧ (Iq108 13) + 1 ≤ 320 by omega)
                      have p205 := gPo.A 36 (ju (Aq108 36) (Iq108 13) 1) p204 rfl (gju (p204.2.1 36) (show 0 ≤ 1 ∧ 1 ≤ 6 by omega))
                      have p206 := gPo.A 37 (ju (Aq108 37) (Iq108 13) (Iq108 9)) p205 rfl (gju (p205.2.1 37) (show -2147483648 ≤ Iq108 9 ∧ Iq108 9 ≤ 2147483647 by omega))
                      show jt _ 107 [(0, .ref m), (1, .int (jI f)), (2, .int (jI (I 13))), (3, .int (jI o)), (4, .int (jI v169))] [] (gmf m f0 (va_up Iq108 13 ((Iq108 13) + 1)) (va_up (va_up Aq108 36 (ju (Aq108 36) (Iq108 13) 1)) 37 (ju (Aq108 37) (Iq108 13) (Iq108 9)))) _ _ _
                      refine jt_aload_n d_GM_expr_107 rfl ?_
                      refine jt_dup d_GM_expr_108 rfl ?_
                      refine gm_gI (k := 4) (v := Iq108 4) d_GM_expr_109 GM_f22 (by decide) rfl ?_
                      have rb207 : 0 ≤ Iq108 4 ∧ Iq108 4 ≤ 300 := p206.1 4
                      refine jt_iconst d_GM_expr_112 ?_
                      refine jt_iadd d_GM_expr_113 ?_
                      refine jt_topi (fun v208 ev208 => ?_)
                      refine gm_pI (k := 4) (v := v208) (J := va_up (va_up Iq108 13 ((Iq108 13) + 1)) 4 v208) d_GM_expr_114 (GM_w22 _ rfl) (by decide) rfl rfl rfl ?_
                      have p209 := gPo.I 4 v208 p206 rfl (show 0 ≤ v208 ∧ v208 ≤ 300 by omega)
                      refine jt_iconst d_GM_expr_117 ?_
                      refine jt_istore_n (L' := [(0, .ref m), (1, .int (jI f)), (2, .int (jI (I 13))), (3, .int (jI 1)), (4, .int (jI v169))]) d_GM_expr_118 (Nat.le_of_ble_eq_true rfl) rfl ?_
                      refine jt_goto (t := 228) d_GM_expr_119 rfl ?_
                      refine jt_goto (t := 17) d_GM_expr_228 rfl ?_
                      refine jt_sub (L' := [(0, .ref m), (1, .int (jI f)), (2, .int (jI (I 13))), (3, .int (jI 1))]) (fun _ h => List.mem_append_left [(4, Value.int (jI v169))] h) ?_
                      refine ih 1 (t - 1) (va_up (va_up Iq108 13 ((Iq108 13) + 1)) 4 v208) (va_up (va_up Aq108 36 (ju (Aq108 36) (Iq108 13) 1)) 37 (ju (Aq108 37) (Iq108 13) (Iq108 9))) p209 (by omega) (by omega) (fun z5 => ?_) (fun z5 => ?_) (by omega) (by omega)
                      · have z5 : Iq108 5 = 0 := z5
                        obtain ⟨y1, y2, y3, y4, y5⟩ := hxq108
                        show I 5 = 0 ∧ I 13 = 0 ∧ 0 ≤ (Iq108 13) + 1 ∧ (Iq108 13) + 1 ≤ v208 ∧ I 4 ≤ v208 ∧ gSt (ju (Aq108 36) (Iq108 13) 1) ((Iq108 13) + 1) ∧ gBr (ju (Aq108 36) (Iq108 13) 1) ((Iq108 13) + 1) = Iq108 14 ∧ Iq108 9 = gC (ju (Aq108 36) (Iq108 13) 1) ((Iq108 13) + 1) + (1 - 1) ∧ (1 = 0 → I 4 < v208)
                        show I 5 = 0 ∧ I 13 = 0 ∧ 0 ≤ Iq108 13 + 1 ∧ Iq108 13 + 1 ≤ v208 ∧ I 4 ≤ v208 ∧ gSt (ju (Aq108 36) (Iq108 13) 1) (Iq108 13 + 1) ∧ gBr (ju (Aq108 36) (Iq108 13) 1) (Iq108 13 + 1) = Iq108 14 ∧ Iq108 9 = gC (ju (Aq108 36) (Iq108 13) 1) (Iq108 13 + 1) + (1 - 1) ∧ ((1 : Int) = 0 → I 4 < v208)
                        rw [a36q108]
                        have c1 := gC_s (ju (B 36) (Iq108 13) 1) (Iq108 13) y2
                        have c2 := gB_s (ju (B 36) (Iq108 13) 1) (Iq108 13) y2
                        rw [ju_self, gC_ju _ _ _ _ y2 (Int.le_refl _)] at c1
                        rw [ju_self, gB_ju _ _ _ _ y2 (Int.le_refl _)] at c2
                        exact ⟨x5, x13, by omega, by omega, by omega, gSt_ju (gSt_le xs y1) y2 (fun _ => y5), by omega, by omega, fun z => by omega⟩
                      · have z5 : Iq108 5 = 0 := z5
                        show 301 - v208 ≤ t - 1
                        omega
                  · skip
                    obtain rfl := hbq198 gq198
                    clear haq198 hbq198 hIq198 hAq198
                    clear gq198
                    show jt _ 96 [(0, .ref m), (1, .int (jI f)), (2, .int (jI (I 13))), (3, .int (jI o)), (4, .int (jI v169))] [.int (jI 0), .ref m] (gmf m f0 Iq108 Aq108) _ _ _
                    refine jt_if_eq (t := 103) d_GM_expr_96 rfl (by unfold jRi; omega) (fun c210 => ?_) (fun c210 => ?_)
                    · skip
                      refine jt_iconst d_GM_expr_103 ?_
                      have xb211 : 0 ≤ Iq108 13 ∧ Iq108 13 ≤ 320 := hpq108.1 13
                      have xb212 : 0 ≤ Iq108 9 ∧ Iq108 9 ≤ 100 := hpq108.1 9
                      refine gct_call (Y := Y_GM_push) (As := [.int (jI 2)]) (rest := []) d_GM_expr_104 GM_c208 yk_GM_push yv_GM_push rfl (Nat.le_of_ble_eq_true rfl) rfl rfl (Nat.le_of_ble_eq_true rfl) (c_GM_push G _ m 2 Iq108 Aq108 (show 0 ≤ Iq108 13 by omega) (show Iq108 13 < 320 by omega)) (fun rvq213 Iq213 Aq213 hq213 => ?_)
                      obtain ⟨rfl, hIq213, hAq213⟩ := hq213
                      rw [hIq213, hAq213]
                      have rb214 : 0 ≤ Iq108 9 ∧ Iq108 9 ≤ 100 := hpq108.1 9
                      have p215 := gPo.I 13 ((Iq108 13) + 1) hpq108 rfl (show 0 ≤ (Iq108 13) + 1 ∧ (Iq108 13) + 1 ≤ 320 by omega)
                      have p216 := gPo.A 36 (ju (Aq108 36) (Iq108 13) 2) p215 rfl (gju (p215.2.1 36) (show 0 ≤ 2 ∧ 2 ≤ 6 by omega))
                      have p217 := gPo.A 37 (ju (Aq108 37) (Iq108 13) (Iq108 9)) p216 rfl (gju (p216.2.1 37) (show -2147483648 ≤ Iq108 9 ∧ Iq108 9 ≤ 2147483647 by omega))
                      show jt _ 107 [(0, .ref m), (1, .int (jI f)), (2, .int (jI (I 13))), (3, .int (jI o)), (4, .int (jI v169))] [] (gmf m f0 (va_up Iq108 13 ((Iq108 13) + 1)) (va_up (va_up Aq108 36 (ju (Aq108 36) (Iq108 13) 2)) 37 (ju (Aq108 37) (Iq108 13) (Iq108 9)))) _ _ _
                      refine jt_aload_n d_GM_expr_107 rfl ?_
                      refine jt_dup d_GM_expr_108 rfl ?_
                      refine gm_gI (k := 4) (v := Iq108 4) d_GM_expr_109 GM_f22 (by decide) rfl ?_
                      have rb218 : 0 ≤ Iq108 4 ∧ Iq108 4 ≤ 300 := p217.1 4
                      refine jt_iconst d_GM_expr_112 ?_
                      refine jt_iadd d_GM_expr_113 ?_
                      refine jt_topi (fun v219 ev219 => ?_)
                      refine gm_pI (k := 4) (v := v219) (J := va_up (va_up Iq108 13 ((Iq108 13) + 1)) 4 v219) d_GM_expr_114 (GM_w22 _ rfl) (by decide) rfl rfl rfl ?_
                      have p220 := gPo.I 4 v219 p217 rfl (show 0 ≤ v219 ∧ v219 ≤ 300 by omega)
                      refine jt_iconst d_GM_expr_117 ?_
                      refine jt_istore_n (L' := [(0, .ref m), (1, .int (jI f)), (2, .int (jI (I 13))), (3, .int (jI 1)), (4, .int (jI v169))]) d_GM_expr_118 (Nat.le_of_ble_eq_true rfl) rfl ?_
                      refine jt_goto (t := 228) d_GM_expr_119 rfl ?_
                      refine jt_goto (t := 17) d_GM_expr_228 rfl ?_
                      refine jt_sub (L' := [(0, .ref m), (1, .int (jI f)), (2, .int (jI (I 13))), (3, .int (jI 1))]) (fun _ h => List.mem_append_left [(4, Value.int (jI v169))] h) ?_
                      refine ih 1 (t - 1) (va_up (va_up Iq108 13 ((Iq108 13) + 1)) 4 v219) (va_up (va_up Aq108 36 (ju (Aq108 36) (Iq108 13) 2)) 37 (ju (Aq108 37) (Iq108 13) (Iq108 9))) p220 (by omega) (by omega) (fun z5 => ?_) (fun z5 => ?_) (by omega) (by omega)
                      · have z5 : Iq108 5 = 0 := z5
                        obtain ⟨y1, y2, y3, y4, y5⟩ := hxq108
                        show I 5 = 0 ∧ I 13 = 0 ∧ 0 ≤ (Iq108 13) + 1 ∧ (Iq108 13) + 1 ≤ v219 ∧ I 4 ≤ v219 ∧ gSt (ju (Aq108 36) (Iq108 13) 2) ((Iq108 13) + 1) ∧ gBr (ju (Aq108 36) (Iq108 13) 2) ((Iq108 13) + 1) = Iq108 14 ∧ Iq108 9 = gC (ju (Aq108 36) (Iq108 13) 2) ((Iq108 13) + 1) + (1 - 1) ∧ (1 = 0 → I 4 < v219)
                        show I 5 = 0 ∧ I 13 = 0 ∧ 0 ≤ Iq108 13 + 1 ∧ Iq108 13 + 1 ≤ v219 ∧ I 4 ≤ v219 ∧ gSt (ju (Aq108 36) (Iq108 13) 2) (Iq108 13 + 1) ∧ gBr (ju (Aq108 36) (Iq108 13) 2) (Iq108 13 + 1) = Iq108 14 ∧ Iq108 9 = gC (ju (Aq108 36) (Iq108 13) 2) (Iq108 13 + 1) + (1 - 1) ∧ ((1 : Int) = 0 → I 4 < v219)
                        rw [a36q108]
                        have c1 := gC_s (ju (B 36) (Iq108 13) 2) (Iq108 13) y2
                        have c2 := gB_s (ju (B 36) (Iq108 13) 2) (Iq108 13) y2
                        rw [ju_self, gC_ju _ _ _ _ y2 (Int.le_refl _)] at c1
                        rw [ju_self, gB_ju _ _ _ _ y2 (Int.le_refl _)] at c2
                        exact ⟨x5, x13, by omega, by omega, by omega, gSt_ju (gSt_le xs y1) y2 (fun _ => y5), by omega, by omega, fun z => by omega⟩
                      · have z5 : Iq108 5 = 0 := z5
                        show 301 - v219 ≤ t - 1
                        omega
                    · skip
                      exfalso
                      omega
              · skip
                obtain rfl := hbq196 gq196
                clear haq196 hbq196 hIq196 hAq196
                clear gq196
                show jt _ 87 [(0, .ref m), (1, .int (jI f)), (2, .int (jI (I 13))), (3, .int (jI o)), (4, .int (jI v169))] [.int (jI 0)] (gmf m f0 Iq108 Aq108) _ _ _
                refine jt_if_eq (t := 122) d_GM_expr_87 rfl (by unfold jRi; omega) (fun c221 => ?_) (fun c221 => ?_)
                · skip
                  refine jt_iload d_GM_expr_122 rfl ?_
                  refine jt_if_ge (t := 130) d_GM_expr_124 rfl (by unfold jRi; omega) (fun c222 => ?_) (fun c222 => ?_)
                  · skip
                    refine jt_iload d_GM_expr_130 rfl ?_
                    refine jt_iconst d_GM_expr_132 ?_
                    refine jt_icmp_ne (t := 171) d_GM_expr_133 rfl (by unfold jRi; omega) (by unfold jRi; omega) (fun c223 => ?_) (fun c223 => ?_)
                    · skip
                      have u3 := gC_s (B 36) (Iq108 13 - 1) (by omega)
                      have u4 := gB_s (B 36) (Iq108 13 - 1) (by omega)
                      rw [show Iq108 13 - 1 + 1 = Iq108 13 by omega] at u3 u4
                      have u5 := gSt_b (gSt_le xs (show Iq108 13 - 1 ≤ J 13 by omega)) (by omega)
                      refine jt_aload_n d_GM_expr_171 rfl ?_
                      refine jt_iconst d_GM_expr_172 ?_
                      refine gct_call (Y := Y_GM_need) (As := [.int (jI 4)]) (rest := []) d_GM_expr_173 GM_c241 yk_GM_need yv_GM_need rfl (Nat.le_of_ble_eq_true rfl) rfl rfl (Nat.le_of_ble_eq_true rfl) (w_GM_need G _ m 4 Iq108 Aq108 (gT_of hpq108 hT rfl rfl rfl) hpq108.1 hpq108.2.1 (by unfold jRi; omega)) (fun rvq224 Iq224 Aq224 hq224 => ?_)
                      obtain ⟨rfl, hqq224, hxq224⟩ := hq224
                      have hpq224 := gPo.trans hpq108 hqq224 rfl rfl
                      have f1q224 : Iq224 1 = I 1 := hpq224.2.2.1 1 rfl
                      have m9q224 : Iq224 9 = Iq108 9 := hqq224.2.2.1 9 rfl
                      have m13q224 : Iq224 13 = Iq108 13 := hqq224.2.2.1 13 rfl
                      have m14q224 : Iq224 14 = Iq108 14 := hqq224.2.2.1 14 rfl
                      have a36q224 : Aq224 36 = Aq108 36 := hqq224.2.2.2 36 rfl
                      show jt _ 176 [(0, .ref m), (1, .int (jI f)), (2, .int (jI (I 13))), (3, .int (jI o)), (4, .int (jI v169))] [] (gmf m f0 Iq224 Aq224) _ _ _
                      refine jt_aload_n d_GM_expr_176 rfl ?_
                      refine gm_gI (k := 5) (v := Iq224 5) d_GM_expr_177 GM_f25 (by decide) rfl ?_
                      have rb225 : -13 ≤ Iq224 5 ∧ Iq224 5 ≤ 0 := hpq224.1 5
                      refine jt_if_eq (t := 184) d_GM_expr_180 rfl (by unfold jRi; omega) (fun c226 => ?_) (fun c226 => ?_)
                      · skip
                        refine jt_aload_n d_GM_expr_184 rfl ?_
                        refine jt_dup d_GM_expr_185 rfl ?_
                        refine gm_gI (k := 14) (v := Iq224 14) d_GM_expr_186 GM_f52 (by decide) rfl ?_
                        have rb227 : 0 ≤ Iq224 14 ∧ Iq224 14 ≤ 8 := hpq224.1 14
                        refine jt_iconst d_GM_expr_189 ?_
                        refine jt_isub d_GM_expr_190 ?_
                        refine jt_topi (fun v228 ev228 => ?_)
                        refine gm_pI (k := 14) (v := v228) (J := va_up Iq224 14 v228) d_GM_expr_191 (GM_w52 _ rfl) (by decide) rfl rfl rfl ?_
                        have p229 := gPo.I 14 v228 hpq224 rfl (show 0 ≤ v228 ∧ v228 ≤ 8 by omega)
                        refine jt_aload_n d_GM_expr_194 rfl ?_
                        refine jt_sipush d_GM_expr_195 (by omega) ?_
                        refine jt_aload_n d_GM_expr_198 rfl ?_
                        refine gm_gI (k := 9) (v := Iq224 9) d_GM_expr_199 GM_f37 (by decide) rfl ?_
                        have rb230 : 0 ≤ Iq224 9 ∧ Iq224 9 ≤ 100 := p229.1 9
                        refine jt_iadd d_GM_expr_202 ?_
                        refine gct_call (Y := Y_GM_check) (As := [.int (jI (299 + (Iq224 9)))]) (rest := []) d_GM_expr_203 GM_c238 yk_GM_check yv_GM_check rfl (Nat.le_of_ble_eq_true rfl) rfl rfl (Nat.le_of_ble_eq_true rfl) (w_GM_check G _ m (299 + (Iq224 9)) (va_up Iq224 14 v228) Aq224 p229.1 p229.2.1 (by omega) (by omega)) (fun rvq231 Iq231 Aq231 hq231 => ?_)
                        obtain ⟨rfl, hqq231⟩ := hq231
                        have hpq231 := gPo.trans p229 hqq231 rfl rfl
                        have f1q231 : Iq231 1 = I 1 := hpq231.2.2.1 1 rfl
                        have m4q231 : Iq231 4 = Iq224 4 := hqq231.2.2.1 4 rfl
                        have m5q231 : Iq231 5 = Iq224 5 := hqq231.2.2.1 5 rfl
                        have m9q231 : Iq231 9 = Iq224 9 := hqq231.2.2.1 9 rfl
                        have m13q231 : Iq231 13 = Iq224 13 := hqq231.2.2.1 13 rfl
                        have m14q231 : Iq231 14 = v228 := hqq231.2.2.1 14 rfl
                        have a36q231 : Aq231 36 = Aq224 36 := hqq231.2.2.2 36 rfl
                        show jt _ 206 [(0, .ref m), (1, .int (jI f)), (2, .int (jI (I 13))), (3, .int (jI o)), (4, .int (jI v169))] [] (gmf m f0 Iq231 Aq231) _ _ _
                        refine jt_iload d_GM_expr_206 rfl ?_
                        refine jt_if_ne (t := 224) d_GM_expr_208 rfl (by unfold jRi; omega) (fun c232 => ?_) (fun c232 => ?_)
                        · skip
                          refine jt_aload_n d_GM_expr_224 rfl ?_
                          refine gct_call (Y := Y_GM_finishBetween) (As := []) (rest := []) d_GM_expr_225 GM_c244 yk_GM_finishBetween yv_GM_finishBetween rfl (Nat.le_of_ble_eq_true rfl) rfl rfl (Nat.le_of_ble_eq_true rfl) (w_GM_finishBetween G _ m  Iq231 Aq231 hpq231.1 hpq231.2.1 (show 1 ≤ Iq231 13 by omega) (show 2 ≤ Iq231 9 ∧ Iq231 9 ≤ 30 by omega)) (fun rvq233 Iq233 Aq233 hq233 => ?_)
                          obtain ⟨rfl, hqq233, hxq233⟩ := hq233
                          have hpq233 := gPo.trans hpq231 hqq233 rfl rfl
                          have f1q233 : Iq233 1 = I 1 := hpq233.2.2.1 1 rfl
                          have m4q233 : Iq233 4 = Iq231 4 := hqq233.2.2.1 4 rfl
                          have m5q233 : Iq233 5 = Iq231 5 := hqq233.2.2.1 5 rfl
                          have m14q233 : Iq233 14 = Iq231 14 := hqq233.2.2.1 14 rfl
                          have a36q233 : Aq233 36 = Aq231 36 := hqq233.2.2.2 36 rfl
                          show jt _ 228 [(0, .ref m), (1, .int (jI f)), (2, .int (jI (I 13))), (3, .int (jI o)), (4, .int (jI v169))] [] (gmf m f0 Iq233 Aq233) _ _ _
                          refine jt_goto (t := 17) d_GM_expr_228 rfl ?_
                          refine jt_sub (L' := [(0, .ref m), (1, .int (jI f)), (2, .int (jI (I 13))), (3, .int (jI o))]) (fun _ h => List.mem_append_left [(4, Value.int (jI v169))] h) ?_
                          refine ih o (t - 1) Iq233 Aq233 hpq233 (by omega) (by omega) (fun z5 => ?_) (fun z5 => ?_) (by omega) (by omega)
                          · have z5 : Iq233 5 = 0 := z5
                            obtain ⟨y1, y2, y3, y4, y5⟩ := hxq108
                            have k1 := hxq224 (by omega)
                            have k2 := hxq233
                            have k36 : Aq233 36 = B 36 := by rw [a36q233, a36q231, a36q224, a36q108]
                            show I 5 = 0 ∧ I 13 = 0 ∧ 0 ≤ Iq233 13 ∧ Iq233 13 ≤ Iq233 4 ∧ I 4 ≤ Iq233 4 ∧ gSt (Aq233 36) (Iq233 13) ∧ gBr (Aq233 36) (Iq233 13) = Iq233 14 ∧ Iq233 9 = gC (Aq233 36) (Iq233 13) + (1 - o) ∧ (o = 0 → I 4 < Iq233 4)
                            rw [k36]
                            have kt : Iq233 13 = Iq108 13 - 1 := by omega
                            rw [kt]
                            have c3 := gC_s (B 36) (Iq108 13 - 1) (by omega)
                            have c4 := gB_s (B 36) (Iq108 13 - 1) (by omega)
                            rw [show Iq108 13 - 1 + 1 = Iq108 13 by omega] at c3 c4
                            have k5 : B 36 (Iq108 13 - 1) = 6 := by omega
                            exact ⟨x5, x13, by omega, by omega, by omega, gSt_le xs (by omega), by omega, by omega, fun z => by omega⟩
                          · have z5 : Iq233 5 = 0 := z5
                            show 301 - Iq233 4 ≤ t - 1
                            have k1 := hxq224 (by omega)
                            omega
                        · skip
                          refine jt_aload_n d_GM_expr_211 rfl ?_
                          refine jt_dup d_GM_expr_212 rfl ?_
                          refine gm_gI (k := 13) (v := Iq231 13) d_GM_expr_213 GM_f49 (by decide) rfl ?_
                          have rb234 : 0 ≤ Iq231 13 ∧ Iq231 13 ≤ 320 := hpq231.1 13
                          refine jt_iconst d_GM_expr_216 ?_
                          refine jt_isub d_GM_expr_217 ?_
                          refine jt_topi (fun v235 ev235 => ?_)
                          refine gm_pI (k := 13) (v := v235) (J := va_up Iq231 13 v235) d_GM_expr_218 (GM_w49 _ rfl) (by decide) rfl rfl rfl ?_
                          have p236 := gPo.I 13 v235 hpq231 rfl (show 0 ≤ v235 ∧ v235 ≤ 320 by omega)
                          refine jt_goto (t := 228) d_GM_expr_221 rfl ?_
                          refine jt_goto (t := 17) d_GM_expr_228 rfl ?_
                          refine jt_sub (L' := [(0, .ref m), (1, .int (jI f)), (2, .int (jI (I 13))), (3, .int (jI o))]) (fun _ h => List.mem_append_left [(4, Value.int (jI v169))] h) ?_
                          refine ih o (t - 1) (va_up Iq231 13 v235) Aq231 p236 (by omega) (by omega) (fun z5 => ?_) (fun z5 => ?_) (by omega) (by omega)
                          · have z5 : Iq231 5 = 0 := z5
                            obtain ⟨y1, y2, y3, y4, y5⟩ := hxq108
                            have k1 := hxq224 (by omega)
                            have k36 : Aq231 36 = B 36 := by rw [a36q231, a36q224, a36q108]
                            show I 5 = 0 ∧ I 13 = 0 ∧ 0 ≤ v235 ∧ v235 ≤ Iq231 4 ∧ I 4 ≤ Iq231 4 ∧ gSt (Aq231 36) (v235) ∧ gBr (Aq231 36) (v235) = Iq231 14 ∧ Iq231 9 = gC (Aq231 36) (v235) + (1 - o) ∧ (o = 0 → I 4 < Iq231 4)
                            show I 5 = 0 ∧ I 13 = 0 ∧ 0 ≤ v235 ∧ v235 ≤ Iq231 4 ∧ I 4 ≤ Iq231 4 ∧ gSt (Aq231 36) (v235) ∧ gBr (Aq231 36) (v235) = Iq231 14 ∧ Iq231 9 = gC (Aq231 36) (v235) + (1 - o) ∧ (o = 0 → I 4 < Iq231 4)
                            rw [k36]
                            have kt : v235 = Iq108 13 - 1 := by omega
                            rw [kt]
                            have c3 := gC_s (B 36) (Iq108 13 - 1) (by omega)
                            have c4 := gB_s (B 36) (Iq108 13 - 1) (by omega)
                            rw [show Iq108 13 - 1 + 1 = Iq108 13 by omega] at c3 c4
                            have k5 : B 36 (Iq108 13 - 1) = 0 := by omega
                            exact ⟨x5, x13, by omega, by omega, by omega, gSt_le xs (by omega), by omega, by omega, fun z => by omega⟩
                          · have z5 : Iq231 5 = 0 := z5
                            show 301 - Iq231 4 ≤ t - 1
                            have k1 := hxq224 (by omega)
                            omega
                      · skip
                        exact gm_vret d_GM_expr_183 rfl (⟨rfl, hpq224, fun z => absurd z (by omega)⟩)
                    · skip
                      refine jt_aload_n d_GM_expr_136 rfl ?_
                      refine jt_sipush d_GM_expr_137 (by omega) ?_
                      refine jt_aload_n d_GM_expr_140 rfl ?_
                      refine gm_gI (k := 9) (v := Iq108 9) d_GM_expr_141 GM_f37 (by decide) rfl ?_
                      have rb237 : 0 ≤ Iq108 9 ∧ Iq108 9 ≤ 100 := hpq108.1 9
                      refine jt_iadd d_GM_expr_144 ?_
                      refine gct_call (Y := Y_GM_check) (As := [.int (jI (299 + (Iq108 9)))]) (rest := []) d_GM_expr_145 GM_c238 yk_GM_check yv_GM_check rfl (Nat.le_of_ble_eq_true rfl) rfl rfl (Nat.le_of_ble_eq_true rfl) (w_GM_check G _ m (299 + (Iq108 9)) Iq108 Aq108 hpq108.1 hpq108.2.1 (by omega) (by omega)) (fun rvq238 Iq238 Aq238 hq238 => ?_)
                      obtain ⟨rfl, hqq238⟩ := hq238
                      have hpq238 := gPo.trans hpq108 hqq238 rfl rfl
                      have f1q238 : Iq238 1 = I 1 := hpq238.2.2.1 1 rfl
                      have m4q238 : Iq238 4 = Iq108 4 := hqq238.2.2.1 4 rfl
                      have m5q238 : Iq238 5 = Iq108 5 := hqq238.2.2.1 5 rfl
                      have m9q238 : Iq238 9 = Iq108 9 := hqq238.2.2.1 9 rfl
                      have m13q238 : Iq238 13 = Iq108 13 := hqq238.2.2.1 13 rfl
                      have m14q238 : Iq238 14 = Iq108 14 := hqq238.2.2.1 14 rfl
                      have a36q238 : Aq238 36 = Aq108 36 := hqq238.2.2.2 36 rfl
                      show jt _ 148 [(0, .ref m), (1, .int (jI f)), (2, .int (jI (I 13))), (3, .int (jI o)), (4, .int (jI v169))] [] (gmf m f0 Iq238 Aq238) _ _ _
                      refine jt_aload_n d_GM_expr_148 rfl ?_
                      refine jt_iconst d_GM_expr_149 ?_
                      refine gct_call (Y := Y_GM_need) (As := [.int (jI 5)]) (rest := []) d_GM_expr_150 GM_c241 yk_GM_need yv_GM_need rfl (Nat.le_of_ble_eq_true rfl) rfl rfl (Nat.le_of_ble_eq_true rfl) (w_GM_need G _ m 5 Iq238 Aq238 (gT_of hpq238 hT rfl rfl rfl) hpq238.1 hpq238.2.1 (by unfold jRi; omega)) (fun rvq239 Iq239 Aq239 hq239 => ?_)
                      obtain ⟨rfl, hqq239, hxq239⟩ := hq239
                      have hpq239 := gPo.trans hpq238 hqq239 rfl rfl
                      have f1q239 : Iq239 1 = I 1 := hpq239.2.2.1 1 rfl
                      have m9q239 : Iq239 9 = Iq238 9 := hqq239.2.2.1 9 rfl
                      have m13q239 : Iq239 13 = Iq238 13 := hqq239.2.2.1 13 rfl
                      have m14q239 : Iq239 14 = Iq238 14 := hqq239.2.2.1 14 rfl
                      have a36q239 : Aq239 36 = Aq238 36 := hqq239.2.2.2 36 rfl
                      show jt _ 153 [(0, .ref m), (1, .int (jI f)), (2, .int (jI (I 13))), (3, .int (jI o)), (4, .int (jI v169))] [] (gmf m f0 Iq239 Aq239) _ _ _
                      refine jt_aload_n d_GM_expr_153 rfl ?_
                      refine gm_gA (k := 36) (a := m + 21) d_GM_expr_154 GM_f121 (by decide) (by decide) rfl ?_
                      refine jt_aload_n d_GM_expr_157 rfl ?_
                      refine gm_gI (k := 13) (v := Iq239 13) d_GM_expr_158 GM_f49 (by decide) rfl ?_
                      have rb240 : 0 ≤ Iq239 13 ∧ Iq239 13 ≤ 320 := hpq239.1 13
                      refine jt_iconst d_GM_expr_161 ?_
                      refine jt_isub d_GM_expr_162 ?_
                      refine jt_bipush d_GM_expr_163 (by omega) ?_
                      refine gm_st0 (k := 36) (n := 320) (B := va_up Aq239 36 (ju (Aq239 36) ((Iq239 13) - 1) 6)) d_GM_expr_165 rfl (by decide) (by decide) rfl rfl (by omega) (by omega) (by omega) rfl ?_
                      have p241 := gPo.A 36 (ju (Aq239 36) ((Iq239 13) - 1) 6) hpq239 rfl (gju (hpq239.2.1 36) (show 0 ≤ 6 ∧ 6 ≤ 6 by omega))
                      refine jt_iconst d_GM_expr_166 ?_
                      refine jt_istore_n (L' := [(0, .ref m), (1, .int (jI f)), (2, .int (jI (I 13))), (3, .int (jI 1)), (4, .int (jI v169))]) d_GM_expr_167 (Nat.le_of_ble_eq_true rfl) rfl ?_
                      refine jt_goto (t := 228) d_GM_expr_168 rfl ?_
                      refine jt_goto (t := 17) d_GM_expr_228 rfl ?_
                      refine jt_sub (L' := [(0, .ref m), (1, .int (jI f)), (2, .int (jI (I 13))), (3, .int (jI 1))]) (fun _ h => List.mem_append_left [(4, Value.int (jI v169))] h) ?_
                      refine ih 1 (t - 1) Iq239 (va_up Aq239 36 (ju (Aq239 36) ((Iq239 13) - 1) 6)) p241 (by omega) (by omega) (fun z5 => ?_) (fun z5 => ?_) (by omega) (by omega)
                      · have z5 : Iq239 5 = 0 := z5
                        obtain ⟨y1, y2, y3, y4, y5⟩ := hxq108
                        have k1 := hxq239 z5
                        show I 5 = 0 ∧ I 13 = 0 ∧ 0 ≤ Iq239 13 ∧ Iq239 13 ≤ Iq239 4 ∧ I 4 ≤ Iq239 4 ∧ gSt (ju (Aq239 36) ((Iq239 13) - 1) 6) (Iq239 13) ∧ gBr (ju (Aq239 36) ((Iq239 13) - 1) 6) (Iq239 13) = Iq239 14 ∧ Iq239 9 = gC (ju (Aq239 36) ((Iq239 13) - 1) 6) (Iq239 13) + (1 - 1) ∧ (1 = 0 → I 4 < Iq239 4)
                        show I 5 = 0 ∧ I 13 = 0 ∧ 0 ≤ Iq239 13 ∧ Iq239 13 ≤ Iq239 4 ∧ I 4 ≤ Iq239 4 ∧ gSt (ju (Aq239 36) (Iq239 13 - 1) 6) (Iq239 13) ∧ gBr (ju (Aq239 36) (Iq239 13 - 1) 6) (Iq239 13) = Iq239 14 ∧ Iq239 9 = gC (ju (Aq239 36) (Iq239 13 - 1) 6) (Iq239 13) + (1 - 1) ∧ ((1 : Int) = 0 → I 4 < Iq239 4)
                        have k36 : Aq239 36 = B 36 := by rw [a36q239, a36q238, a36q108]
                        have k13 : Iq239 13 = Iq108 13 := by omega
                        rw [k36, k13]
                        have c1 := gC_s (ju (B 36) (Iq108 13 - 1) 6) (Iq108 13 - 1) (by omega)
                        have c2 := gB_s (ju (B 36) (Iq108 13 - 1) 6) (Iq108 13 - 1) (by omega)
                        rw [ju_self, gC_ju _ _ _ _ (by omega) (Int.le_refl _), show Iq108 13 - 1 + 1 = Iq108 13 by omega] at c1
                        rw [ju_self, gB_ju _ _ _ _ (by omega) (Int.le_refl _), show Iq108 13 - 1 + 1 = Iq108 13 by omega] at c2
                        have c3 := gC_s (B 36) (Iq108 13 - 1) (by omega)
                        have c4 := gB_s (B 36) (Iq108 13 - 1) (by omega)
                        rw [show Iq108 13 - 1 + 1 = Iq108 13 by omega] at c3 c4
                        have k5 : B 36 (Iq108 13 - 1) = 5 := by omega
                        exact ⟨x5, x13, by omega, by omega, by omega, gSt_6 (gSt_le xs y1) (by omega), by omega, by omega, fun z => by omega⟩
                      · have z5 : Iq239 5 = 0 := z5
                        show 301 - Iq239 4 ≤ t - 1
                        have k1 := hxq239 z5
                        omega
                  · skip
                    refine jt_goto (t := 231) d_GM_expr_127 rfl ?_
                    refine jt_aload_n d_GM_expr_231 rfl ?_
                    refine jt_iload_n d_GM_expr_232 rfl ?_
                    refine gm_pI (k := 13) (v := (I 13)) (J := va_up Iq108 13 (I 13)) d_GM_expr_233 (GM_w49 _ rfl) (by decide) rfl rfl rfl ?_
                    have p242 := gPo.I 13 (I 13) hpq108 rfl (show 0 ≤ I 13 ∧ I 13 ≤ 320 by omega)
                    refine jt_aload_n d_GM_expr_236 rfl ?_
                    refine gm_gI (k := 5) (v := Iq108 5) d_GM_expr_237 GM_f25 (by decide) rfl ?_
                    have rb243 : -13 ≤ Iq108 5 ∧ Iq108 5 ≤ 0 := p242.1 5
                    refine jt_if_eq (t := 244) d_GM_expr_240 rfl (by unfold jRi; omega) (fun c244 => ?_) (fun c244 => ?_)
                    · skip
                      refine jt_aload_n d_GM_expr_244 rfl ?_
                      refine jt_sipush d_GM_expr_245 (by omega) ?_
                      refine gct_call (Y := Y_GM_check) (As := [.int (jI 300)]) (rest := []) d_GM_expr_248 GM_c238 yk_GM_check yv_GM_check rfl (Nat.le_of_ble_eq_true rfl) rfl rfl (Nat.le_of_ble_eq_true rfl) (w_GM_check G _ m 300 (va_up Iq108 13 (I 13)) Aq108 p242.1 p242.2.1 (by omega) (by omega)) (fun rvq245 Iq245 Aq245 hq245 => ?_)
                      obtain ⟨rfl, hqq245⟩ := hq245
                      have hpq245 := gPo.trans p242 hqq245 rfl rfl
                      have f1q245 : Iq245 1 = I 1 := hpq245.2.2.1 1 rfl
                      have m4q245 : Iq245 4 = Iq108 4 := hqq245.2.2.1 4 rfl
                      have m5q245 : Iq245 5 = Iq108 5 := hqq245.2.2.1 5 rfl
                      have m9q245 : Iq245 9 = Iq108 9 := hqq245.2.2.1 9 rfl
                      have m13q245 : Iq245 13 = I 13 := hqq245.2.2.1 13 rfl
                      have m14q245 : Iq245 14 = Iq108 14 := hqq245.2.2.1 14 rfl
                      have a36q245 : Aq245 36 = Aq108 36 := hqq245.2.2.2 36 rfl
                      show jt _ 251 [(0, .ref m), (1, .int (jI f)), (2, .int (jI (I 13))), (3, .int (jI o)), (4, .int (jI v169))] [] (gmf m f0 Iq245 Aq245) _ _ _
                      refine jt_aload_n d_GM_expr_251 rfl ?_
                      refine jt_iload_n d_GM_expr_252 rfl ?_
                      refine jt_sipush d_GM_expr_253 (by omega) ?_
                      refine gct_call (Y := Y_GM_copyForm) (As := [.int (jI f), .int (jI 300)]) (rest := []) d_GM_expr_256 GM_c247 yk_GM_copyForm yv_GM_copyForm rfl (Nat.le_of_ble_eq_true rfl) rfl rfl (Nat.le_of_ble_eq_true rfl) (w_GM_copyForm G _ m f 300 Iq245 Aq245 hpq245.1 hpq245.2.1 (by omega) (by omega) (by omega) (by omega) (by omega)) (fun rvq246 Iq246 Aq246 hq246 => ?_)
                      obtain ⟨rfl, hqq246⟩ := hq246
                      have hpq246 := gPo.trans hpq245 hqq246 rfl rfl
                      have f1q246 : Iq246 1 = I 1 := hpq246.2.2.1 1 rfl
                      have m4q246 : Iq246 4 = Iq245 4 := hqq246.2.2.1 4 rfl
                      have m5q246 : Iq246 5 = Iq245 5 := hqq246.2.2.1 5 rfl
                      have m9q246 : Iq246 9 = Iq245 9 := hqq246.2.2.1 9 rfl
                      have m13q246 : Iq246 13 = Iq245 13 := hqq246.2.2.1 13 rfl
                      have m14q246 : Iq246 14 = Iq245 14 := hqq246.2.2.1 14 rfl
                      have a36q246 : Aq246 36 = Aq245 36 := hqq246.2.2.2 36 rfl
                      show jt _ 259 [(0, .ref m), (1, .int (jI f)), (2, .int (jI (I 13))), (3, .int (jI o)), (4, .int (jI v169))] [] (gmf m f0 Iq246 Aq246) _ _ _
                      exact gm_vret d_GM_expr_259 rfl (⟨rfl, hpq246, fun z => by first | exact ⟨x5, by omega, by omega⟩ | (exfalso; omega)⟩)
                    · skip
                      exact gm_vret d_GM_expr_243 rfl (⟨rfl, p242, fun z => absurd z (by show ¬ Iq108 5 = 0; omega)⟩)
                · skip
                  exfalso
                  omega
      · skip
        refine jt_aload_n d_GM_expr_28 rfl ?_
        refine gct_call (Y := Y_GM_begin) (As := []) (rest := []) d_GM_expr_29 GM_c231 yk_GM_begin yv_GM_begin rfl (Nat.le_of_ble_eq_true rfl) rfl rfl (Nat.le_of_ble_eq_true rfl) (w_GM_begin G _ m  J B (gT_of hJ hT rfl rfl rfl) hJ.1 hJ.2.1 (by omega) (by omega) (by omega)) (fun rvq247 Iq247 Aq247 hq247 => ?_)
        obtain ⟨yq247, rfl, ryq247, hqq247, hxq247⟩ := hq247
        have hpq247 := gPo.trans hJ hqq247 rfl rfl
        have f1q247 : Iq247 1 = I 1 := hpq247.2.2.1 1 rfl
        show jt _ 32 [(0, .ref m), (1, .int (jI f)), (2, .int (jI (I 13))), (3, .int (jI o))] [.int (jI yq247)] (gmf m f0 Iq247 Aq247) _ _ _
        refine jt_if_ne (t := 39) d_GM_expr_32 rfl (by unfold jRi; omega) (fun c248 => ?_) (fun c248 => ?_)
        · skip
          refine jt_iconst d_GM_expr_39 ?_
          refine jt_istore_n (L' := [(0, .ref m), (1, .int (jI f)), (2, .int (jI (I 13))), (3, .int (jI 0))]) d_GM_expr_40 (Nat.le_of_ble_eq_true rfl) rfl ?_
          refine jt_goto (t := 17) d_GM_expr_41 rfl ?_
          refine ih 0 (t - 1) Iq247 Aq247 hpq247 (by omega) (by omega) (fun z5 => ?_) (fun z5 => ?_) (by omega) (by omega)
          · have z5 : Iq247 5 = 0 := z5
            have k1 := hxq247 z5
            have k2 := k1.2.1 (by omega)
            have k3 := k1.1
            show I 5 = 0 ∧ I 13 = 0 ∧ 0 ≤ Iq247 13 ∧ Iq247 13 ≤ Iq247 4 ∧ I 4 ≤ Iq247 4 ∧ gSt (Aq247 36) (Iq247 13) ∧ gBr (Aq247 36) (Iq247 13) = Iq247 14 ∧ Iq247 9 = gC (Aq247 36) (Iq247 13) + (1 - 0) ∧ (0 = 0 → I 4 < Iq247 4)
            rw [k2.1, k2.2.1]
            exact ⟨x5, x13, x0, by omega, by omega, xs, by omega, by omega, fun _ => by omega⟩
          · have z5 : Iq247 5 = 0 := z5
            show 301 - Iq247 4 ≤ t - 1
            have k1 := (hxq247 z5).1
            omega
        · skip
          refine jt_iconst d_GM_expr_35 ?_
          refine jt_goto (t := 40) d_GM_expr_36 rfl ?_
          refine jt_istore_n (L' := [(0, .ref m), (1, .int (jI f)), (2, .int (jI (I 13))), (3, .int (jI 1))]) d_GM_expr_40 (Nat.le_of_ble_eq_true rfl) rfl ?_
          refine jt_goto (t := 17) d_GM_expr_41 rfl ?_
          refine ih 1 (t - 1) Iq247 Aq247 hpq247 (by omega) (by omega) (fun z5 => ?_) (fun z5 => ?_) (by omega) (by omega)
          · have z5 : Iq247 5 = 0 := z5
            have k1 := hxq247 z5
            have k3 := k1.1
            have k0 := k1.2.2 (by omega)
            clear k1 hxq247
            obtain ⟨k4, k5, u, k6, k7⟩ := k0
            show I 5 = 0 ∧ I 13 = 0 ∧ 0 ≤ Iq247 13 ∧ Iq247 13 ≤ Iq247 4 ∧ I 4 ≤ Iq247 4 ∧ gSt (Aq247 36) (Iq247 13) ∧ gBr (Aq247 36) (Iq247 13) = Iq247 14 ∧ Iq247 9 = gC (Aq247 36) (Iq247 13) + (1 - 1) ∧ (1 = 0 → I 4 < Iq247 4)
            rw [k5, k6]
            have c1 := gC_s (ju (B 36) (J 13) u) (J 13) x0
            have c2 := gB_s (ju (B 36) (J 13) u) (J 13) x0
            rw [ju_self, gC_ju _ _ _ _ x0 (Int.le_refl _)] at c1
            rw [ju_self, gB_ju _ _ _ _ x0 (Int.le_refl _)] at c2
            exact ⟨x5, x13, by omega, by omega, by omega, gSt_ju xs x0 (fun z => by omega), by omega, by omega, fun z => by omega⟩
          · have z5 : Iq247 5 = 0 := z5
            show 301 - Iq247 4 ≤ t - 1
            have k1 := (hxq247 z5).1
            omega
set_option maxRecDepth 100000 in
set_option maxHeartbeats 1000000 in
theorem w_GM_expr (G : jG) (d m : Nat) (f : Int) (I : Nat → Int) (A : Nat → Int → Int) (hT : gT I A) (hI : gSI I) (hA : gSA A) (fa : 0 ≤ f) (fb : f < 300) (he : I 5 = 0 → I 13 = 0) : gct G Y_GM_expr (d + 4) m [.int (jI f)] I A (fun (rv : Option Value) (I2 : Nat → Int) (A2 : Nat → Int → Int) => rv = none ∧ gPo [4, 5, 6, 9, 13, 14, 15] [35, 36, 37, 38] I A I2 A2 ∧ (I2 5 = 0 → I 5 = 0 ∧ I 4 < I2 4 ∧ I2 13 = I 13)) := by
  refine gct_of (by decide) (Nat.le_of_ble_eq_true rfl) (fun f0 sz => ?_)
  show jt _ 0 [(0, .ref m), (1, .int (jI f))] [] _ _ _ _
  have r4 : 0 ≤ I 4 ∧ I 4 ≤ 300 := hI 4
  have r13 : 0 ≤ I 13 ∧ I 13 ≤ 320 := hI 13
  have hz0 : gPo [4, 5, 6, 9, 13, 14, 15] [35, 36, 37, 38] I A I A := gPo.refl hI hA
  have t0 := hT.1
  have t1 := hT.2.1
  refine jt_aload_n d_GM_expr_0 rfl ?_
  refine gm_gI (k := 13) (v := I 13) d_GM_expr_1 GM_f49 (by decide) rfl ?_
  have rb1 : 0 ≤ I 13 ∧ I 13 ≤ 320 := hz0.1 13
  refine jt_istore_n (L' := [(0, .ref m), (1, .int (jI f)), (2, .int (jI (I 13)))]) d_GM_expr_4 (Nat.le_of_ble_eq_true rfl) rfl ?_
  refine jt_iconst d_GM_expr_5 ?_
  refine jt_istore_n (L' := [(0, .ref m), (1, .int (jI f)), (2, .int (jI (I 13))), (3, .int (jI 1))]) d_GM_expr_6 (Nat.le_of_ble_eq_true rfl) rfl ?_
  refine jt_aload_n d_GM_expr_7 rfl ?_
  refine jt_iconst d_GM_expr_8 ?_
  refine gm_pI (k := 14) (v := 0) (J := va_up I 14 0) d_GM_expr_9 (GM_w52 _ rfl) (by decide) rfl rfl rfl ?_
  have p2 := gPo.I 14 0 hz0 rfl (show 0 ≤ 0 ∧ 0 ≤ 8 by omega)
  refine jt_aload_n d_GM_expr_12 rfl ?_
  refine jt_iconst d_GM_expr_13 ?_
  refine gm_pI (k := 9) (v := 0) (J := va_up (va_up I 14 0) 9 0) d_GM_expr_14 (GM_w37 _ rfl) (by decide) rfl rfl rfl ?_
  have p3 := gPo.I 9 0 p2 rfl (show 0 ≤ 0 ∧ 0 ≤ 100 by omega)
  exact l17_GM_exprw G d m f I A hT hI hA fa fb he f0 sz  302 1 301 (va_up (va_up I 14 0) 9 0) A p3 (by omega) (by omega) (fun z => ⟨z, he z, by have := he z; show 0 ≤ I 13; omega, by have := he z; show I 13 ≤ I 4; omega, Int.le_refl _, fun t a b c => by have := he z; have b : t < I 13 := b; omega, by have := he z; show gBr (A 36) (I 13) = 0; rw [this]; rfl, by have := he z; show 0 = gC (A 36) (I 13) + (1 - 1); rw [this]; rfl, fun z2 => by omega⟩) (fun z => by show 301 - I 4 ≤ 301; omega) (by omega) (by omega)

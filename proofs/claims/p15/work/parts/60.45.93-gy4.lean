set_option maxRecDepth 100000 in
set_option maxHeartbeats 8000000 in
theorem l17_GM_expry (G : jG) (d m : Nat) (f : Int) (I : Nat → Int) (A : Nat → Int → Int) (hT : gT I A) (hI : gSI I) (hA : gSA A) (fa : 0 ≤ f) (fb : f < 300) (he : I 5 = 0 → I 13 = 0) (hz5 : I 5 = 0) (V9 : Int → Int → Int) (hV : gVr V9 A) (g0 : Prop) (r : ER) (hR : I 5 = 0 → RE (I 1) (A 22) (A 23) V9 (.op (I 4) [] g0) r) (hg0 : I 15 = 0 ↔ g0) (f0 : jF) (sz : Nat)  : ∀ (n9 : Nat) (o : Int) (t : Int) (J : Nat → Int) (B : Nat → Int → Int), gPo [4, 5, 6, 9, 13, 14, 15] [35, 36, 37, 38] I A J B → (0 ≤ o) → (o ≤ 1) → (J 5 = 0 → I 5 = 0 ∧ I 13 = 0 ∧ 0 ≤ J 13 ∧ J 13 ≤ J 4 ∧ I 4 ≤ J 4 ∧ gSt (B 36) (J 13) ∧ gBr (B 36) (J 13) = J 14 ∧ J 9 = gC (B 36) (J 13) + (1 - o) ∧ (o = 0 → I 4 < J 4)) → (J 5 = 0 → 301 - J 4 ≤ t) → (0 ≤ t) → (eQ (I 1) (A 22) (A 23) V9 r o J B) → (∀ z, z < 3900 → B 35 z = A 35 z) → t < (n9 : Int) → jt (jm G Y_GM_expr (gR (d + 4)) (gQ m f0 sz (fun (rv : Option Value) (I2 : Nat → Int) (A2 : Nat → Int → Int) => rv = none ∧ gPo [4, 5, 6, 9, 13, 14, 15] [35, 36, 37, 38] I A I2 A2 ∧ (I2 5 = 0 → I 5 = 0 ∧ I 4 < I2 4 ∧ I2 13 = I 13) ∧ exQ r f I2 A2 ∧ (∀ z, z < 3900 → ¬ (f * 13 ≤ z ∧ z < f * 13 + 13) → A2 35 z = A 35 z)))) 17 [(0, .ref m), (1, .int (jI f)), (2, .int (jI (I 13))), (3, .int (jI o))] [] (gmf m f0 J B) sz 0 0 := by
  have r4 : 0 ≤ I 4 ∧ I 4 ≤ 300 := hI 4
  have r13 : 0 ≤ I 13 ∧ I 13 ≤ 320 := hI 13
  have t0 := hT.1
  have t1 := hT.2.1
  intro n9
  induction n9 with
  | zero =>
    intro o t J B hJ o0 o1 hx ht t9 hq hlo hmeas
    have q4 : 0 ≤ J 4 ∧ J 4 ≤ 300 := hJ.1 4
    have q5 : -13 ≤ J 5 ∧ J 5 ≤ 0 := hJ.1 5
    have q13 : 0 ≤ J 13 ∧ J 13 ≤ 320 := hJ.1 13
    have q14 : 0 ≤ J 14 ∧ J 14 ≤ 8 := hJ.1 14
    exfalso
    omega
  | succ n9 ih =>
    intro o t J B hJ o0 o1 hx ht t9 hq hlo hmeas
    have f1 : J 1 = I 1 := hJ.2.2.1 1 rfl
    have q4 : 0 ≤ J 4 ∧ J 4 ≤ 300 := hJ.1 4
    have q5 : -13 ≤ J 5 ∧ J 5 ≤ 0 := hJ.1 5
    have q13 : 0 ≤ J 13 ∧ J 13 ≤ 320 := hJ.1 13
    have q14 : 0 ≤ J 14 ∧ J 14 ≤ 8 := hJ.1 14
    refine jt_aload_n d_GM_expr_17 rfl ?_
    refine gm_gI (k := 5) (v := J 5) d_GM_expr_18 GM_f25 (by decide) rfl ?_
    have rb101 : -13 ≤ J 5 ∧ J 5 ≤ 0 := hJ.1 5
    refine jt_if_ne (t := 231) d_GM_expr_21 rfl (by unfold jRi; omega) (fun c102 => ?_) (fun c102 => ?_)
    · skip
      refine jt_aload_n d_GM_expr_231 rfl ?_
      refine jt_iload_n d_GM_expr_232 rfl ?_
      refine gm_pI (k := 13) (v := (I 13)) (J := va_up J 13 (I 13)) d_GM_expr_233 (GM_w49 _ rfl) (by decide) rfl rfl rfl ?_
      have p103 := gPo.I 13 (I 13) hJ rfl (show 0 ≤ I 13 ∧ I 13 ≤ 320 by omega)
      refine jt_aload_n d_GM_expr_236 rfl ?_
      refine gm_gI (k := 5) (v := J 5) d_GM_expr_237 GM_f25 (by decide) rfl ?_
      refine jt_if_eq (t := 244) d_GM_expr_240 rfl (by unfold jRi; omega) (fun c104 => ?_) (fun c104 => ?_)
      · skip
        refine jt_aload_n d_GM_expr_244 rfl ?_
        refine jt_sipush d_GM_expr_245 (by omega) ?_
        refine gct_call (Y := Y_GM_check) (As := [.int (jI 300)]) (rest := []) d_GM_expr_248 GM_c238 yk_GM_check yv_GM_check rfl (Nat.le_of_ble_eq_true rfl) rfl rfl (Nat.le_of_ble_eq_true rfl) (y_GM_check G _ m 300 (va_up J 13 (I 13)) B p103.1 p103.2.1 (by omega) (by omega)) (fun rvq105 Iq105 Aq105 hq105 => ?_)
        obtain ⟨rfl, hqq105, hxq105⟩ := hq105
        have hpq105 := gPo.trans p103 hqq105 rfl rfl
        have f1q105 : Iq105 1 = I 1 := hpq105.2.2.1 1 rfl
        have s4q105 : (va_up J 13 (I 13)) 4 = J 4 := rfl
        have s5q105 : (va_up J 13 (I 13)) 5 = J 5 := rfl
        have s9q105 : (va_up J 13 (I 13)) 9 = J 9 := rfl
        have s13q105 : (va_up J 13 (I 13)) 13 = I 13 := rfl
        have s14q105 : (va_up J 13 (I 13)) 14 = J 14 := rfl
        have m4q105 : Iq105 4 = J 4 := hqq105.2.2.1 4 rfl
        have m5q105 : Iq105 5 = J 5 := hqq105.2.2.1 5 rfl
        have m9q105 : Iq105 9 = J 9 := hqq105.2.2.1 9 rfl
        have m13q105 : Iq105 13 = I 13 := hqq105.2.2.1 13 rfl
        have m14q105 : Iq105 14 = J 14 := hqq105.2.2.1 14 rfl
        have a36q105 : Aq105 36 = B 36 := hqq105.2.2.2 36 rfl
        replace hxq105 : Hd _ := hxq105
        show jt _ 251 [(0, .ref m), (1, .int (jI f)), (2, .int (jI (I 13))), (3, .int (jI o))] [] (gmf m f0 Iq105 Aq105) _ _ _
        refine jt_aload_n d_GM_expr_251 rfl ?_
        refine jt_iload_n d_GM_expr_252 rfl ?_
        refine jt_sipush d_GM_expr_253 (by omega) ?_
        refine gct_call (Y := Y_GM_copyForm) (As := [.int (jI f), .int (jI 300)]) (rest := []) d_GM_expr_256 GM_c247 yk_GM_copyForm yv_GM_copyForm rfl (Nat.le_of_ble_eq_true rfl) rfl rfl (Nat.le_of_ble_eq_true rfl) (y_GM_copyForm G _ m f 300 Iq105 Aq105 hpq105.1 hpq105.2.1 (by omega) (by omega) (by omega) (by omega) (by omega)) (fun rvq106 Iq106 Aq106 hq106 => ?_)
        obtain ⟨rfl, hqq106, hxq106⟩ := hq106
        have hpq106 := gPo.trans hpq105 hqq106 rfl rfl
        have f1q106 : Iq106 1 = I 1 := hpq106.2.2.1 1 rfl
        have m4q106 : Iq106 4 = Iq105 4 := hqq106.2.2.1 4 rfl
        have m5q106 : Iq106 5 = Iq105 5 := hqq106.2.2.1 5 rfl
        have m9q106 : Iq106 9 = Iq105 9 := hqq106.2.2.1 9 rfl
        have m13q106 : Iq106 13 = Iq105 13 := hqq106.2.2.1 13 rfl
        have m14q106 : Iq106 14 = Iq105 14 := hqq106.2.2.1 14 rfl
        have a36q106 : Aq106 36 = Aq105 36 := hqq106.2.2.2 36 rfl
        show jt _ 259 [(0, .ref m), (1, .int (jI f)), (2, .int (jI (I 13))), (3, .int (jI o))] [] (gmf m f0 Iq106 Aq106) _ _ _
        exact gm_vret d_GM_expr_259 rfl (by exfalso; omega)
      · skip
        exact gm_vret d_GM_expr_243 rfl (⟨rfl, p103, (fun z => absurd z (by show ¬ J 5 = 0; omega)), ⟨fun z => absurd z (by show ¬ J 5 = 0; omega), fun _ => hq.2 (by omega)⟩, fun z hz _ => hlo z hz⟩)
    · skip
      obtain ⟨x5, x13, x0, x1, x2, xs, xb, xf, xo⟩ := hx (by omega)
      have sb := gSt_b xs x0
      refine jt_iload_n d_GM_expr_24 rfl ?_
      refine jt_if_eq (t := 44) d_GM_expr_25 rfl (by unfold jRi; omega) (fun c107 => ?_) (fun c107 => ?_)
      · skip
        refine jt_aload_n d_GM_expr_44 rfl ?_
        refine jt_iload_n d_GM_expr_45 rfl ?_
        refine gct_call (Y := Y_GM_finishTerm) (As := [.int (jI (I 13))]) (rest := []) d_GM_expr_46 GM_c235 yk_GM_finishTerm yv_GM_finishTerm rfl (Nat.le_of_ble_eq_true rfl) rfl rfl (Nat.le_of_ble_eq_true rfl) (y_GM_finishTerm G _ m (I 13) J B hJ.1 hJ.2.1 (by omega) (show 0 ≤ J 13 by omega) xs (by omega) (by omega) V9 r (by rw [show J 1 = I 1 from f1, hJ.2.2.2 22 rfl, hJ.2.2.2 23 rfl]; exact (hq.1 (by omega)).2 (by omega))) (fun rvq108 Iq108 Aq108 hq108 => ?_)
        obtain ⟨rfl, hqq108, hxq108⟩ := hq108
        have hpq108 := gPo.trans hJ hqq108 rfl rfl
        have f1q108 : Iq108 1 = I 1 := hpq108.2.2.1 1 rfl
        have m4q108 : Iq108 4 = J 4 := hqq108.2.2.1 4 rfl
        have m5q108 : Iq108 5 = J 5 := hqq108.2.2.1 5 rfl
        have m14q108 : Iq108 14 = J 14 := hqq108.2.2.1 14 rfl
        have a36q108 : Aq108 36 = B 36 := hqq108.2.2.2 36 rfl
        show jt _ 49 [(0, .ref m), (1, .int (jI f)), (2, .int (jI (I 13))), (3, .int (jI o))] [] (gmf m f0 Iq108 Aq108) _ _ _
        have hft := hxq108.1
        have hlq := hxq108.2.1
        have hsd : sdQ (I 1) (A 22) (A 23) V9 r (J 4) Iq108 Aq108 := by have h9 := hxq108.2.2; rw [show J 1 = I 1 from f1, hJ.2.2.2 22 rfl, hJ.2.2.2 23 rfl] at h9; exact h9
        have k36 : Aq108 36 = B 36 := a36q108
        have q9n : 1 ≤ Iq108 9 := by obtain ⟨F8, S8, g8, n8, R8, m13, m9, m8⟩ := hsd; omega
        refine jt_aload_n d_GM_expr_49 rfl ?_
        refine gm_gI (k := 13) (v := Iq108 13) d_GM_expr_50 GM_f49 (by decide) rfl ?_
        have rb109 : 0 ≤ Iq108 13 ∧ Iq108 13 ≤ 320 := hpq108.1 13
        refine jt_iload_n d_GM_expr_53 rfl ?_
        refine jt_icmp_le (t := 71) d_GM_expr_54 rfl (by unfold jRi; omega) (by unfold jRi; omega) (fun c110 => ?_) (fun c110 => ?_)
        · skip
          refine jt_iconst d_GM_expr_71 ?_
          refine jt_istore (L' := [(0, .ref m), (1, .int (jI f)), (2, .int (jI (I 13))), (3, .int (jI o)), (4, .int (jI (-1)))]) d_GM_expr_72 (Nat.le_of_ble_eq_true rfl) rfl ?_
          refine jt_aload_n d_GM_expr_74 rfl ?_
          refine jt_iconst d_GM_expr_75 ?_
          refine gct_call (Y := Y_GM_word) (As := [.int (jI 0)]) (rest := []) d_GM_expr_76 GM_c201 yk_GM_word yv_GM_word rfl (Nat.le_of_ble_eq_true rfl) rfl rfl (Nat.le_of_ble_eq_true rfl) (c_GM_word G _ m 0 Iq108 Aq108 (gP_of hpq108.1 (gT_of hpq108 hT rfl rfl rfl)) (by unfold jRi; omega)) (fun rvq111 Iq111 Aq111 hq111 => ?_)
          obtain ⟨haq111, hbq111, hIq111, hAq111⟩ := hq111
          rw [hIq111, hAq111]
          by_cases gq111 : xV (Iq108 1) (Aq108 22) (Aq108 23) (Iq108 4) 0
          · skip
            obtain rfl := haq111 gq111
            clear haq111 hbq111 hIq111 hAq111
            have tq111 : Iq108 1 ≤ 300 := (gT_of hpq108 hT rfl rfl rfl).2.1
            have kq111 : (Iq108 4) < (Iq108 1) ∧ Aq108 22 (Iq108 4) = 4 ∧ Aq108 23 (Iq108 4) = 0 := gq111
            show jt _ 79 [(0, .ref m), (1, .int (jI f)), (2, .int (jI (I 13))), (3, .int (jI o)), (4, .int (jI (-1)))] [.int (jI 1)] (gmf m f0 Iq108 Aq108) _ _ _
            refine jt_if_ne (t := 90) d_GM_expr_79 rfl (by unfold jRi; omega) (fun c112 => ?_) (fun c112 => ?_)
            · skip
              refine jt_aload_n d_GM_expr_90 rfl ?_
              refine jt_aload_n d_GM_expr_91 rfl ?_
              refine jt_iconst d_GM_expr_92 ?_
              refine gct_call (Y := Y_GM_word) (As := [.int (jI 0)]) (rest := [.ref m]) d_GM_expr_93 GM_c201 yk_GM_word yv_GM_word rfl (Nat.le_of_ble_eq_true rfl) rfl rfl (Nat.le_of_ble_eq_true rfl) (c_GM_word G _ m 0 Iq108 Aq108 (gP_of hpq108.1 (gT_of hpq108 hT rfl rfl rfl)) (by unfold jRi; omega)) (fun rvq113 Iq113 Aq113 hq113 => ?_)
              obtain ⟨haq113, hbq113, hIq113, hAq113⟩ := hq113
              rw [hIq113, hAq113]
              by_cases gq113 : xV (Iq108 1) (Aq108 22) (Aq108 23) (Iq108 4) 0
              · skip
                obtain rfl := haq113 gq113
                clear haq113 hbq113 hIq113 hAq113
                have tq113 : Iq108 1 ≤ 300 := (gT_of hpq108 hT rfl rfl rfl).2.1
                have kq113 : (Iq108 4) < (Iq108 1) ∧ Aq108 22 (Iq108 4) = 4 ∧ Aq108 23 (Iq108 4) = 0 := gq113
                show jt _ 96 [(0, .ref m), (1, .int (jI f)), (2, .int (jI (I 13))), (3, .int (jI o)), (4, .int (jI (-1)))] [.int (jI 1), .ref m] (gmf m f0 Iq108 Aq108) _ _ _
                refine jt_if_eq (t := 103) d_GM_expr_96 rfl (by unfold jRi; omega) (fun c114 => ?_) (fun c114 => ?_)
                · skip
                  exfalso
                  omega
                · skip
                  refine jt_iconst d_GM_expr_99 ?_
                  refine jt_goto (t := 104) d_GM_expr_100 rfl ?_
                  have w0 : xV (I 1) (A 22) (A 23) (J 4) 0 := (by have h9 := gq111; unfold xV at h9; rw [show Iq108 4 = J 4 from m4q108, hpq108.2.2.1 1 rfl, hpq108.2.2.2 22 rfl, hpq108.2.2.2 23 rfl] at h9; exact h9)
                  have w0 : xV (I 1) (A 22) (A 23) (J 4) 0 := (by have h9 := gq113; unfold xV at h9; rw [show Iq108 4 = J 4 from m4q108, hpq108.2.2.1 1 rfl, hpq108.2.2.2 22 rfl, hpq108.2.2.2 23 rfl] at h9; exact h9)
                  have xb115 : 0 ≤ Iq108 13 ∧ Iq108 13 ≤ 320 := hpq108.1 13
                  have xb116 : 0 ≤ Iq108 9 ∧ Iq108 9 ≤ 100 := hpq108.1 9
                  refine gct_call (Y := Y_GM_push) (As := [.int (jI 1)]) (rest := []) d_GM_expr_104 GM_c208 yk_GM_push yv_GM_push rfl (Nat.le_of_ble_eq_true rfl) rfl rfl (Nat.le_of_ble_eq_true rfl) (c_GM_push G _ m 1 Iq108 Aq108 (show 0 ≤ Iq108 13 by omega) (show Iq108 13 < 320 by omega)) (fun rvq117 Iq117 Aq117 hq117 => ?_)
                  obtain ⟨rfl, hIq117, hAq117⟩ := hq117
                  rw [hIq117, hAq117]
                  have rb118 : 0 ≤ Iq108 9 ∧ Iq108 9 ≤ 100 := hpq108.1 9
                  have p119 := gPo.I 13 ((Iq108 13) + 1) hpq108 rfl (show 0 ≤ (Iq108 13) + 1 ∧ (Iq108 13) + 1 ≤ 320 by omega)
                  have p120 := gPo.A 36 (ju (Aq108 36) (Iq108 13) 1) p119 rfl (gju (p119.2.1 36) (show 0 ≤ 1 ∧ 1 ≤ 6 by omega))
                  have p121 := gPo.A 37 (ju (Aq108 37) (Iq108 13) (Iq108 9)) p120 rfl (gju (p120.2.1 37) (show -2147483648 ≤ Iq108 9 ∧ Iq108 9 ≤ 2147483647 by omega))
                  show jt _ 107 [(0, .ref m), (1, .int (jI f)), (2, .int (jI (I 13))), (3, .int (jI o)), (4, .int (jI (-1)))] [] (gmf m f0 (va_up Iq108 13 ((Iq108 13) + 1)) (va_up (va_up Aq108 36 (ju (Aq108 36) (Iq108 13) 1)) 37 (ju (Aq108 37) (Iq108 13) (Iq108 9)))) _ _ _
                  refine jt_aload_n d_GM_expr_107 rfl ?_
                  refine jt_dup d_GM_expr_108 rfl ?_
                  refine gm_gI (k := 4) (v := Iq108 4) d_GM_expr_109 GM_f22 (by decide) rfl ?_
                  have rb122 : 0 ≤ Iq108 4 ∧ Iq108 4 ≤ 300 := p121.1 4
                  refine jt_iconst d_GM_expr_112 ?_
                  refine jt_iadd d_GM_expr_113 ?_
                  refine jt_topi (fun v123 ev123 => ?_)
                  refine gm_pI (k := 4) (v := v123) (J := va_up (va_up Iq108 13 ((Iq108 13) + 1)) 4 v123) d_GM_expr_114 (GM_w22 _ rfl) (by decide) rfl rfl rfl ?_
                  have p124 := gPo.I 4 v123 p121 rfl (show 0 ≤ v123 ∧ v123 ≤ 300 by omega)
                  refine jt_iconst d_GM_expr_117 ?_
                  refine jt_istore_n (L' := [(0, .ref m), (1, .int (jI f)), (2, .int (jI (I 13))), (3, .int (jI 1)), (4, .int (jI (-1)))]) d_GM_expr_118 (Nat.le_of_ble_eq_true rfl) rfl ?_
                  refine jt_goto (t := 228) d_GM_expr_119 rfl ?_
                  refine jt_goto (t := 17) d_GM_expr_228 rfl ?_
                  refine jt_sub (L' := [(0, .ref m), (1, .int (jI f)), (2, .int (jI (I 13))), (3, .int (jI 1))]) (fun _ h => List.mem_append_left [(4, Value.int (jI (-1)))] h) ?_
                  refine ih 1 (t - 1) (va_up (va_up Iq108 13 ((Iq108 13) + 1)) 4 v123) (va_up (va_up Aq108 36 (ju (Aq108 36) (Iq108 13) 1)) 37 (ju (Aq108 37) (Iq108 13) (Iq108 9))) p124 (by omega) (by omega) (fun z5 => ?_) (fun z5 => ?_) (by omega) ?_ (fun z hz => (hxq108.2.1 z hz).trans (hlo z hz)) (by omega)
                  · have z5 : Iq108 5 = 0 := z5
                    obtain ⟨y1, y2, y3, y4, y5⟩ := hft
                    show I 5 = 0 ∧ I 13 = 0 ∧ 0 ≤ (Iq108 13) + 1 ∧ (Iq108 13) + 1 ≤ v123 ∧ I 4 ≤ v123 ∧ gSt (ju (Aq108 36) (Iq108 13) 1) ((Iq108 13) + 1) ∧ gBr (ju (Aq108 36) (Iq108 13) 1) ((Iq108 13) + 1) = Iq108 14 ∧ Iq108 9 = gC (ju (Aq108 36) (Iq108 13) 1) ((Iq108 13) + 1) + (1 - 1) ∧ (1 = 0 → I 4 < v123)
                    show I 5 = 0 ∧ I 13 = 0 ∧ 0 ≤ Iq108 13 + 1 ∧ Iq108 13 + 1 ≤ v123 ∧ I 4 ≤ v123 ∧ gSt (ju (Aq108 36) (Iq108 13) 1) (Iq108 13 + 1) ∧ gBr (ju (Aq108 36) (Iq108 13) 1) (Iq108 13 + 1) = Iq108 14 ∧ Iq108 9 = gC (ju (Aq108 36) (Iq108 13) 1) (Iq108 13 + 1) + (1 - 1) ∧ ((1 : Int) = 0 → I 4 < v123)
                    rw [a36q108]
                    have c1 := gC_s (ju (B 36) (Iq108 13) 1) (Iq108 13) y2
                    have c2 := gB_s (ju (B 36) (Iq108 13) 1) (Iq108 13) y2
                    rw [ju_self, gC_ju _ _ _ _ y2 (Int.le_refl _)] at c1
                    rw [ju_self, gB_ju _ _ _ _ y2 (Int.le_refl _)] at c2
                    exact ⟨x5, x13, by omega, by omega, by omega, gSt_ju (gSt_le xs y1) y2 (fun _ => y5), by omega, by omega, fun z => by omega⟩
                  · have z5 : Iq108 5 = 0 := z5
                    show 301 - v123 ≤ t - 1
                    omega
                  · skip
                    refine ⟨fun _ => ⟨fun _ => ?_, fun z => absurd z (by omega)⟩, fun z => absurd (show Iq108 5 = 0 by omega) z⟩
                    show opQ (I 1) (A 22) (A 23) V9 r v123 _ _
                    rw [show v123 = J 4 + 1 by omega]
                    exact opQ_add hsd w0 rfl rfl rfl rfl rfl rfl rfl
              · skip
                obtain rfl := hbq113 gq113
                clear haq113 hbq113 hIq113 hAq113
                show jt _ 96 [(0, .ref m), (1, .int (jI f)), (2, .int (jI (I 13))), (3, .int (jI o)), (4, .int (jI (-1)))] [.int (jI 0), .ref m] (gmf m f0 Iq108 Aq108) _ _ _
                refine jt_if_eq (t := 103) d_GM_expr_96 rfl (by unfold jRi; omega) (fun c125 => ?_) (fun c125 => ?_)
                · skip
                  refine jt_iconst d_GM_expr_103 ?_
                  exact absurd gq111 gq113
                · skip
                  exfalso
                  omega
            · skip
              exfalso
              omega
          · skip
            obtain rfl := hbq111 gq111
            clear haq111 hbq111 hIq111 hAq111
            show jt _ 79 [(0, .ref m), (1, .int (jI f)), (2, .int (jI (I 13))), (3, .int (jI o)), (4, .int (jI (-1)))] [.int (jI 0)] (gmf m f0 Iq108 Aq108) _ _ _
            refine jt_if_ne (t := 90) d_GM_expr_79 rfl (by unfold jRi; omega) (fun c126 => ?_) (fun c126 => ?_)
            · skip
              exfalso
              omega
            · skip
              refine jt_aload_n d_GM_expr_82 rfl ?_
              refine jt_iconst d_GM_expr_83 ?_
              refine gct_call (Y := Y_GM_word) (As := [.int (jI 1)]) (rest := []) d_GM_expr_84 GM_c201 yk_GM_word yv_GM_word rfl (Nat.le_of_ble_eq_true rfl) rfl rfl (Nat.le_of_ble_eq_true rfl) (c_GM_word G _ m 1 Iq108 Aq108 (gP_of hpq108.1 (gT_of hpq108 hT rfl rfl rfl)) (by unfold jRi; omega)) (fun rvq127 Iq127 Aq127 hq127 => ?_)
              obtain ⟨haq127, hbq127, hIq127, hAq127⟩ := hq127
              rw [hIq127, hAq127]
              by_cases gq127 : xV (Iq108 1) (Aq108 22) (Aq108 23) (Iq108 4) 1
              · skip
                obtain rfl := haq127 gq127
                clear haq127 hbq127 hIq127 hAq127
                have tq127 : Iq108 1 ≤ 300 := (gT_of hpq108 hT rfl rfl rfl).2.1
                have kq127 : (Iq108 4) < (Iq108 1) ∧ Aq108 22 (Iq108 4) = 4 ∧ Aq108 23 (Iq108 4) = 1 := gq127
                show jt _ 87 [(0, .ref m), (1, .int (jI f)), (2, .int (jI (I 13))), (3, .int (jI o)), (4, .int (jI (-1)))] [.int (jI 1)] (gmf m f0 Iq108 Aq108) _ _ _
                refine jt_if_eq (t := 122) d_GM_expr_87 rfl (by unfold jRi; omega) (fun c128 => ?_) (fun c128 => ?_)
                · skip
                  exfalso
                  omega
                · skip
                  refine jt_aload_n d_GM_expr_90 rfl ?_
                  refine jt_aload_n d_GM_expr_91 rfl ?_
                  refine jt_iconst d_GM_expr_92 ?_
                  refine gct_call (Y := Y_GM_word) (As := [.int (jI 0)]) (rest := [.ref m]) d_GM_expr_93 GM_c201 yk_GM_word yv_GM_word rfl (Nat.le_of_ble_eq_true rfl) rfl rfl (Nat.le_of_ble_eq_true rfl) (c_GM_word G _ m 0 Iq108 Aq108 (gP_of hpq108.1 (gT_of hpq108 hT rfl rfl rfl)) (by unfold jRi; omega)) (fun rvq129 Iq129 Aq129 hq129 => ?_)
                  obtain ⟨haq129, hbq129, hIq129, hAq129⟩ := hq129
                  rw [hIq129, hAq129]
                  by_cases gq129 : xV (Iq108 1) (Aq108 22) (Aq108 23) (Iq108 4) 0
                  · skip
                    obtain rfl := haq129 gq129
                    clear haq129 hbq129 hIq129 hAq129
                    have tq129 : Iq108 1 ≤ 300 := (gT_of hpq108 hT rfl rfl rfl).2.1
                    have kq129 : (Iq108 4) < (Iq108 1) ∧ Aq108 22 (Iq108 4) = 4 ∧ Aq108 23 (Iq108 4) = 0 := gq129
                    show jt _ 96 [(0, .ref m), (1, .int (jI f)), (2, .int (jI (I 13))), (3, .int (jI o)), (4, .int (jI (-1)))] [.int (jI 1), .ref m] (gmf m f0 Iq108 Aq108) _ _ _
                    refine jt_if_eq (t := 103) d_GM_expr_96 rfl (by unfold jRi; omega) (fun c130 => ?_) (fun c130 => ?_)
                    · skip
                      exfalso
                      omega
                    · skip
                      refine jt_iconst d_GM_expr_99 ?_
                      refine jt_goto (t := 104) d_GM_expr_100 rfl ?_
                      exact absurd gq129 gq111
                  · skip
                    obtain rfl := hbq129 gq129
                    clear haq129 hbq129 hIq129 hAq129
                    show jt _ 96 [(0, .ref m), (1, .int (jI f)), (2, .int (jI (I 13))), (3, .int (jI o)), (4, .int (jI (-1)))] [.int (jI 0), .ref m] (gmf m f0 Iq108 Aq108) _ _ _
                    refine jt_if_eq (t := 103) d_GM_expr_96 rfl (by unfold jRi; omega) (fun c131 => ?_) (fun c131 => ?_)
                    · skip
                      refine jt_iconst d_GM_expr_103 ?_
                      have nn0 : ¬ xV (I 1) (A 22) (A 23) (J 4) 0 := (by have h9 := gq111; unfold xV at h9; rw [show Iq108 4 = J 4 from m4q108, hpq108.2.2.1 1 rfl, hpq108.2.2.2 22 rfl, hpq108.2.2.2 23 rfl] at h9; exact h9)
                      have w1 : xV (I 1) (A 22) (A 23) (J 4) 1 := (by have h9 := gq127; unfold xV at h9; rw [show Iq108 4 = J 4 from m4q108, hpq108.2.2.1 1 rfl, hpq108.2.2.2 22 rfl, hpq108.2.2.2 23 rfl] at h9; exact h9)
                      have nn0 : ¬ xV (I 1) (A 22) (A 23) (J 4) 0 := (by have h9 := gq129; unfold xV at h9; rw [show Iq108 4 = J 4 from m4q108, hpq108.2.2.1 1 rfl, hpq108.2.2.2 22 rfl, hpq108.2.2.2 23 rfl] at h9; exact h9)
                      have xb132 : 0 ≤ Iq108 13 ∧ Iq108 13 ≤ 320 := hpq108.1 13
                      have xb133 : 0 ≤ Iq108 9 ∧ Iq108 9 ≤ 100 := hpq108.1 9
                      refine gct_call (Y := Y_GM_push) (As := [.int (jI 2)]) (rest := []) d_GM_expr_104 GM_c208 yk_GM_push yv_GM_push rfl (Nat.le_of_ble_eq_true rfl) rfl rfl (Nat.le_of_ble_eq_true rfl) (c_GM_push G _ m 2 Iq108 Aq108 (show 0 ≤ Iq108 13 by omega) (show Iq108 13 < 320 by omega)) (fun rvq134 Iq134 Aq134 hq134 => ?_)
                      obtain ⟨rfl, hIq134, hAq134⟩ := hq134
                      rw [hIq134, hAq134]
                      have rb135 : 0 ≤ Iq108 9 ∧ Iq108 9 ≤ 100 := hpq108.1 9
                      have p136 := gPo.I 13 ((Iq108 13) + 1) hpq108 rfl (show 0 ≤ (Iq108 13) + 1 ∧ (Iq108 13) + 1 ≤ 320 by omega)
                      have p137 := gPo.A 36 (ju (Aq108 36) (Iq108 13) 2) p136 rfl (gju (p136.2.1 36) (show 0 ≤ 2 ∧ 2 ≤ 6 by omega))
                      have p138 := gPo.A 37 (ju (Aq108 37) (Iq108 13) (Iq108 9)) p137 rfl (gju (p137.2.1 37) (show -2147483648 ≤ Iq108 9 ∧ Iq108 9 ≤ 2147483647 by omega))
                      show jt _ 107 [(0, .ref m), (1, .int (jI f)), (2, .int (jI (I 13))), (3, .int (jI o)), (4, .int (jI (-1)))] [] (gmf m f0 (va_up Iq108 13 ((Iq108 13) + 1)) (va_up (va_up Aq108 36 (ju (Aq108 36) (Iq108 13) 2)) 37 (ju (Aq108 37) (Iq108 13) (Iq108 9)))) _ _ _
                      refine jt_aload_n d_GM_expr_107 rfl ?_
                      refine jt_dup d_GM_expr_108 rfl ?_
                      refine gm_gI (k := 4) (v := Iq108 4) d_GM_expr_109 GM_f22 (by decide) rfl ?_
                      have rb139 : 0 ≤ Iq108 4 ∧ Iq108 4 ≤ 300 := p138.1 4
                      refine jt_iconst d_GM_expr_112 ?_
                      refine jt_iadd d_GM_expr_113 ?_
                      refine jt_topi (fun v140 ev140 => ?_)
                      refine gm_pI (k := 4) (v := v140) (J := va_up (va_up Iq108 13 ((Iq108 13) + 1)) 4 v140) d_GM_expr_114 (GM_w22 _ rfl) (by decide) rfl rfl rfl ?_
                      have p141 := gPo.I 4 v140 p138 rfl (show 0 ≤ v140 ∧ v140 ≤ 300 by omega)
                      refine jt_iconst d_GM_expr_117 ?_
                      refine jt_istore_n (L' := [(0, .ref m), (1, .int (jI f)), (2, .int (jI (I 13))), (3, .int (jI 1)), (4, .int (jI (-1)))]) d_GM_expr_118 (Nat.le_of_ble_eq_true rfl) rfl ?_
                      refine jt_goto (t := 228) d_GM_expr_119 rfl ?_
                      refine jt_goto (t := 17) d_GM_expr_228 rfl ?_
                      refine jt_sub (L' := [(0, .ref m), (1, .int (jI f)), (2, .int (jI (I 13))), (3, .int (jI 1))]) (fun _ h => List.mem_append_left [(4, Value.int (jI (-1)))] h) ?_
                      refine ih 1 (t - 1) (va_up (va_up Iq108 13 ((Iq108 13) + 1)) 4 v140) (va_up (va_up Aq108 36 (ju (Aq108 36) (Iq108 13) 2)) 37 (ju (Aq108 37) (Iq108 13) (Iq108 9))) p141 (by omega) (by omega) (fun z5 => ?_) (fun z5 => ?_) (by omega) ?_ (fun z hz => (hxq108.2.1 z hz).trans (hlo z hz)) (by omega)
                      · have z5 : Iq108 5 = 0 := z5
                        obtain ⟨y1, y2, y3, y4, y5⟩ := hft
                        show I 5 = 0 ∧ I 13 = 0 ∧ 0 ≤ (Iq108 13) + 1 ∧ (Iq108 13) + 1 ≤ v140 ∧ I 4 ≤ v140 ∧ gSt (ju (Aq108 36) (Iq108 13) 2) ((Iq108 13) + 1) ∧ gBr (ju (Aq108 36) (Iq108 13) 2) ((Iq108 13) + 1) = Iq108 14 ∧ Iq108 9 = gC (ju (Aq108 36) (Iq108 13) 2) ((Iq108 13) + 1) + (1 - 1) ∧ (1 = 0 → I 4 < v140)
                        show I 5 = 0 ∧ I 13 = 0 ∧ 0 ≤ Iq108 13 + 1 ∧ Iq108 13 + 1 ≤ v140 ∧ I 4 ≤ v140 ∧ gSt (ju (Aq108 36) (Iq108 13) 2) (Iq108 13 + 1) ∧ gBr (ju (Aq108 36) (Iq108 13) 2) (Iq108 13 + 1) = Iq108 14 ∧ Iq108 9 = gC (ju (Aq108 36) (Iq108 13) 2) (Iq108 13 + 1) + (1 - 1) ∧ ((1 : Int) = 0 → I 4 < v140)
                        rw [a36q108]
                        have c1 := gC_s (ju (B 36) (Iq108 13) 2) (Iq108 13) y2
                        have c2 := gB_s (ju (B 36) (Iq108 13) 2) (Iq108 13) y2
                        rw [ju_self, gC_ju _ _ _ _ y2 (Int.le_refl _)] at c1
                        rw [ju_self, gB_ju _ _ _ _ y2 (Int.le_refl _)] at c2
                        exact ⟨x5, x13, by omega, by omega, by omega, gSt_ju (gSt_le xs y1) y2 (fun _ => y5), by omega, by omega, fun z => by omega⟩
                      · have z5 : Iq108 5 = 0 := z5
                        show 301 - v140 ≤ t - 1
                        omega
                      · skip
                        refine ⟨fun _ => ⟨fun _ => ?_, fun z => absurd z (by omega)⟩, fun z => absurd (show Iq108 5 = 0 by omega) z⟩
                        show opQ (I 1) (A 22) (A 23) V9 r v140 _ _
                        rw [show v140 = J 4 + 1 by omega]
                        exact opQ_sub hsd w1 rfl rfl rfl rfl rfl rfl rfl
                    · skip
                      exfalso
                      omega
              · skip
                obtain rfl := hbq127 gq127
                clear haq127 hbq127 hIq127 hAq127
                show jt _ 87 [(0, .ref m), (1, .int (jI f)), (2, .int (jI (I 13))), (3, .int (jI o)), (4, .int (jI (-1)))] [.int (jI 0)] (gmf m f0 Iq108 Aq108) _ _ _
                refine jt_if_eq (t := 122) d_GM_expr_87 rfl (by unfold jRi; omega) (fun c142 => ?_) (fun c142 => ?_)
                · skip
                  have nn0 : ¬ xV (I 1) (A 22) (A 23) (J 4) 0 := (by have h9 := gq111; unfold xV at h9; rw [show Iq108 4 = J 4 from m4q108, hpq108.2.2.1 1 rfl, hpq108.2.2.2 22 rfl, hpq108.2.2.2 23 rfl] at h9; exact h9)
                  have nn1 : ¬ xV (I 1) (A 22) (A 23) (J 4) 1 := (by have h9 := gq127; unfold xV at h9; rw [show Iq108 4 = J 4 from m4q108, hpq108.2.2.1 1 rfl, hpq108.2.2.2 22 rfl, hpq108.2.2.2 23 rfl] at h9; exact h9)
                  refine jt_iload d_GM_expr_122 rfl ?_
                  refine jt_if_ge (t := 130) d_GM_expr_124 rfl (by unfold jRi; omega) (fun c143 => ?_) (fun c143 => ?_)
                  · skip
                    exfalso
                    omega
                  · skip
                    refine jt_goto (t := 231) d_GM_expr_127 rfl ?_
                    refine jt_aload_n d_GM_expr_231 rfl ?_
                    refine jt_iload_n d_GM_expr_232 rfl ?_
                    refine gm_pI (k := 13) (v := (I 13)) (J := va_up Iq108 13 (I 13)) d_GM_expr_233 (GM_w49 _ rfl) (by decide) rfl rfl rfl ?_
                    have p144 := gPo.I 13 (I 13) hpq108 rfl (show 0 ≤ I 13 ∧ I 13 ≤ 320 by omega)
                    refine jt_aload_n d_GM_expr_236 rfl ?_
                    refine gm_gI (k := 5) (v := Iq108 5) d_GM_expr_237 GM_f25 (by decide) rfl ?_
                    have rb145 : -13 ≤ Iq108 5 ∧ Iq108 5 ≤ 0 := p144.1 5
                    refine jt_if_eq (t := 244) d_GM_expr_240 rfl (by unfold jRi; omega) (fun c146 => ?_) (fun c146 => ?_)
                    · skip
                      refine jt_aload_n d_GM_expr_244 rfl ?_
                      refine jt_sipush d_GM_expr_245 (by omega) ?_
                      refine gct_call (Y := Y_GM_check) (As := [.int (jI 300)]) (rest := []) d_GM_expr_248 GM_c238 yk_GM_check yv_GM_check rfl (Nat.le_of_ble_eq_true rfl) rfl rfl (Nat.le_of_ble_eq_true rfl) (y_GM_check G _ m 300 (va_up Iq108 13 (I 13)) Aq108 p144.1 p144.2.1 (by omega) (by omega)) (fun rvq147 Iq147 Aq147 hq147 => ?_)
                      obtain ⟨rfl, hqq147, hxq147⟩ := hq147
                      have hpq147 := gPo.trans p144 hqq147 rfl rfl
                      have f1q147 : Iq147 1 = I 1 := hpq147.2.2.1 1 rfl
                      have s4q147 : (va_up Iq108 13 (I 13)) 4 = Iq108 4 := rfl
                      have s5q147 : (va_up Iq108 13 (I 13)) 5 = Iq108 5 := rfl
                      have s9q147 : (va_up Iq108 13 (I 13)) 9 = Iq108 9 := rfl
                      have s13q147 : (va_up Iq108 13 (I 13)) 13 = I 13 := rfl
                      have s14q147 : (va_up Iq108 13 (I 13)) 14 = Iq108 14 := rfl
                      have m4q147 : Iq147 4 = Iq108 4 := hqq147.2.2.1 4 rfl
                      have m5q147 : Iq147 5 = Iq108 5 := hqq147.2.2.1 5 rfl
                      have m9q147 : Iq147 9 = Iq108 9 := hqq147.2.2.1 9 rfl
                      have m13q147 : Iq147 13 = I 13 := hqq147.2.2.1 13 rfl
                      have m14q147 : Iq147 14 = Iq108 14 := hqq147.2.2.1 14 rfl
                      have a36q147 : Aq147 36 = Aq108 36 := hqq147.2.2.2 36 rfl
                      replace hxq147 : Hd _ := hxq147
                      show jt _ 251 [(0, .ref m), (1, .int (jI f)), (2, .int (jI (I 13))), (3, .int (jI o)), (4, .int (jI (-1)))] [] (gmf m f0 Iq147 Aq147) _ _ _
                      refine jt_aload_n d_GM_expr_251 rfl ?_
                      refine jt_iload_n d_GM_expr_252 rfl ?_
                      refine jt_sipush d_GM_expr_253 (by omega) ?_
                      refine gct_call (Y := Y_GM_copyForm) (As := [.int (jI f), .int (jI 300)]) (rest := []) d_GM_expr_256 GM_c247 yk_GM_copyForm yv_GM_copyForm rfl (Nat.le_of_ble_eq_true rfl) rfl rfl (Nat.le_of_ble_eq_true rfl) (y_GM_copyForm G _ m f 300 Iq147 Aq147 hpq147.1 hpq147.2.1 (by omega) (by omega) (by omega) (by omega) (by omega)) (fun rvq148 Iq148 Aq148 hq148 => ?_)
                      obtain ⟨rfl, hqq148, hxq148⟩ := hq148
                      have hpq148 := gPo.trans hpq147 hqq148 rfl rfl
                      have f1q148 : Iq148 1 = I 1 := hpq148.2.2.1 1 rfl
                      have m4q148 : Iq148 4 = Iq147 4 := hqq148.2.2.1 4 rfl
                      have m5q148 : Iq148 5 = Iq147 5 := hqq148.2.2.1 5 rfl
                      have m9q148 : Iq148 9 = Iq147 9 := hqq148.2.2.1 9 rfl
                      have m13q148 : Iq148 13 = Iq147 13 := hqq148.2.2.1 13 rfl
                      have m14q148 : Iq148 14 = Iq147 14 := hqq148.2.2.1 14 rfl
                      have a36q148 : Aq148 36 = Aq147 36 := hqq148.2.2.2 36 rfl
                      show jt _ 259 [(0, .ref m), (1, .int (jI f)), (2, .int (jI (I 13))), (3, .int (jI o)), (4, .int (jI (-1)))] [] (gmf m f0 Iq148 Aq148) _ _ _
                      exact gm_vret d_GM_expr_259 rfl (by
        obtain ⟨i9, F9, g9, hr9, hfo⟩ := fin_of hsd nn0 nn1 (by omega)
        have hkk := hfo Iq147 Aq147 (hqq147.2.2.2 36 rfl) (hqq147.2.2.2 38 rfl) (by rw [i9]; exact hxq147.1) (by rw [i9]; exact hxq147.2)
        refine ⟨rfl, hpq148, (fun z => ⟨x5, show I 4 < Iq148 4 by omega, show Iq148 13 = I 13 by omega⟩), ⟨fun _ => ⟨J 4, F9, g9, hr9, show Iq148 4 = J 4 by omega, ?_, fun j j0 j1 => ?_, fun z j j0 j1 => ?_⟩, fun z => absurd (show Iq148 5 = 0 by omega) z⟩, fun z hz hf9 => ?_⟩
        · rw [hqq148.2.2.1 15 rfl]; exact hkk.1
        · rw [hxq148, if_pos (by omega), show f * 13 + j - f * 13 + 300 * 13 = ((300 : Nat) : Int) * 13 + j by omega]; exact hkk.2.1 j j0 j1
        · rw [hxq148, if_pos (by omega), show f * 13 + j - f * 13 + 300 * 13 = ((300 : Nat) : Int) * 13 + j by omega]; exact hkk.2.2 z j j0 j1
        · rw [hxq148, if_neg hf9, hxq147.1 z, if_neg (by omega), hlq z hz]; exact hlo z hz)
                    · skip
                      exact gm_vret d_GM_expr_243 rfl (⟨rfl, p144, (fun z => absurd z (by show ¬ Iq108 5 = 0; omega)), ⟨fun z => absurd z (by show ¬ Iq108 5 = 0; omega), fun _ => by exfalso; omega⟩, fun z hz _ => by exfalso; omega⟩)
                · skip
                  exfalso
                  omega
        · skip
          refine jt_aload_n d_GM_expr_57 rfl ?_
          refine gm_gA (k := 36) (a := m + 21) d_GM_expr_58 GM_f121 (by decide) (by decide) rfl ?_
          refine jt_aload_n d_GM_expr_61 rfl ?_
          refine gm_gI (k := 13) (v := Iq108 13) d_GM_expr_62 GM_f49 (by decide) rfl ?_
          refine jt_iconst d_GM_expr_65 ?_
          refine jt_isub d_GM_expr_66 ?_
          refine gm_ld0 (k := 36) (n := 320) (v := (Aq108 36) ((Iq108 13) - 1)) d_GM_expr_67 rfl (by decide) (by decide) rfl rfl (by omega) (by omega) (by omega) rfl ?_
          refine jt_topi (fun v149 ev149 => ?_)
          have bv149 : 0 ≤ v149 ∧ v149 ≤ 6 := by rw [ev149]; exact hpq108.2.1 36 ((Iq108 13) - 1)
          rw [a36q108] at ev149
          refine jt_goto (t := 72) d_GM_expr_68 rfl ?_
          refine jt_istore (L' := [(0, .ref m), (1, .int (jI f)), (2, .int (jI (I 13))), (3, .int (jI o)), (4, .int (jI v149))]) d_GM_expr_72 (Nat.le_of_ble_eq_true rfl) rfl ?_
          refine jt_aload_n d_GM_expr_74 rfl ?_
          refine jt_iconst d_GM_expr_75 ?_
          refine gct_call (Y := Y_GM_word) (As := [.int (jI 0)]) (rest := []) d_GM_expr_76 GM_c201 yk_GM_word yv_GM_word rfl (Nat.le_of_ble_eq_true rfl) rfl rfl (Nat.le_of_ble_eq_true rfl) (c_GM_word G _ m 0 Iq108 Aq108 (gP_of hpq108.1 (gT_of hpq108 hT rfl rfl rfl)) (by unfold jRi; omega)) (fun rvq150 Iq150 Aq150 hq150 => ?_)
          obtain ⟨haq150, hbq150, hIq150, hAq150⟩ := hq150
          rw [hIq150, hAq150]
          by_cases gq150 : xV (Iq108 1) (Aq108 22) (Aq108 23) (Iq108 4) 0
          · skip
            obtain rfl := haq150 gq150
            clear haq150 hbq150 hIq150 hAq150
            have tq150 : Iq108 1 ≤ 300 := (gT_of hpq108 hT rfl rfl rfl).2.1
            have kq150 : (Iq108 4) < (Iq108 1) ∧ Aq108 22 (Iq108 4) = 4 ∧ Aq108 23 (Iq108 4) = 0 := gq150
            show jt _ 79 [(0, .ref m), (1, .int (jI f)), (2, .int (jI (I 13))), (3, .int (jI o)), (4, .int (jI v149))] [.int (jI 1)] (gmf m f0 Iq108 Aq108) _ _ _
            refine jt_if_ne (t := 90) d_GM_expr_79 rfl (by unfold jRi; omega) (fun c151 => ?_) (fun c151 => ?_)
            · skip
              refine jt_aload_n d_GM_expr_90 rfl ?_
              refine jt_aload_n d_GM_expr_91 rfl ?_
              refine jt_iconst d_GM_expr_92 ?_
              refine gct_call (Y := Y_GM_word) (As := [.int (jI 0)]) (rest := [.ref m]) d_GM_expr_93 GM_c201 yk_GM_word yv_GM_word rfl (Nat.le_of_ble_eq_true rfl) rfl rfl (Nat.le_of_ble_eq_true rfl) (c_GM_word G _ m 0 Iq108 Aq108 (gP_of hpq108.1 (gT_of hpq108 hT rfl rfl rfl)) (by unfold jRi; omega)) (fun rvq152 Iq152 Aq152 hq152 => ?_)
              obtain ⟨haq152, hbq152, hIq152, hAq152⟩ := hq152
              rw [hIq152, hAq152]
              by_cases gq152 : xV (Iq108 1) (Aq108 22) (Aq108 23) (Iq108 4) 0
              · skip
                obtain rfl := haq152 gq152
                clear haq152 hbq152 hIq152 hAq152
                have tq152 : Iq108 1 ≤ 300 := (gT_of hpq108 hT rfl rfl rfl).2.1
                have kq152 : (Iq108 4) < (Iq108 1) ∧ Aq108 22 (Iq108 4) = 4 ∧ Aq108 23 (Iq108 4) = 0 := gq152
                show jt _ 96 [(0, .ref m), (1, .int (jI f)), (2, .int (jI (I 13))), (3, .int (jI o)), (4, .int (jI v149))] [.int (jI 1), .ref m] (gmf m f0 Iq108 Aq108) _ _ _
                refine jt_if_eq (t := 103) d_GM_expr_96 rfl (by unfold jRi; omega) (fun c153 => ?_) (fun c153 => ?_)
                · skip
                  exfalso
                  omega
                · skip
                  refine jt_iconst d_GM_expr_99 ?_
                  refine jt_goto (t := 104) d_GM_expr_100 rfl ?_
                  have w0 : xV (I 1) (A 22) (A 23) (J 4) 0 := (by have h9 := gq150; unfold xV at h9; rw [show Iq108 4 = J 4 from m4q108, hpq108.2.2.1 1 rfl, hpq108.2.2.2 22 rfl, hpq108.2.2.2 23 rfl] at h9; exact h9)
                  have w0 : xV (I 1) (A 22) (A 23) (J 4) 0 := (by have h9 := gq152; unfold xV at h9; rw [show Iq108 4 = J 4 from m4q108, hpq108.2.2.1 1 rfl, hpq108.2.2.2 22 rfl, hpq108.2.2.2 23 rfl] at h9; exact h9)
                  have xb154 : 0 ≤ Iq108 13 ∧ Iq108 13 ≤ 320 := hpq108.1 13
                  have xb155 : 0 ≤ Iq108 9 ∧ Iq108 9 ≤ 100 := hpq108.1 9
                  refine gct_call (Y := Y_GM_push) (As := [.int (jI 1)]) (rest := []) d_GM_expr_104 GM_c208 yk_GM_push yv_GM_push rfl (Nat.le_of_ble_eq_true rfl) rfl rfl (Nat.le_of_ble_eq_true rfl) (c_GM_push G _ m 1 Iq108 Aq108 (show 0 ≤ Iq108 13 by omega) (show Iq108 13 < 320 by omega)) (fun rvq156 Iq156 Aq156 hq156 => ?_)
                  obtain ⟨rfl, hIq156, hAq156⟩ := hq156
                  rw [hIq156, hAq156]
                  have rb157 : 0 ≤ Iq108 9 ∧ Iq108 9 ≤ 100 := hpq108.1 9
                  have p158 := gPo.I 13 ((Iq108 13) + 1) hpq108 rfl (show 0 ≤ (Iq108 13) + 1 ∧ (Iq108 13) + 1 ≤ 320 by omega)
                  have p159 := gPo.A 36 (ju (Aq108 36) (Iq108 13) 1) p158 rfl (gju (p158.2.1 36) (show 0 ≤ 1 ∧ 1 ≤ 6 by omega))
                  have p160 := gPo.A 37 (ju (Aq108 37) (Iq108 13) (Iq108 9)) p159 rfl (gju (p159.2.1 37) (show -2147483648 ≤ Iq108 9 ∧ Iq108 9 ≤ 2147483647 by omega))
                  show jt _ 107 [(0, .ref m), (1, .int (jI f)), (2, .int (jI (I 13))), (3, .int (jI o)), (4, .int (jI v149))] [] (gmf m f0 (va_up Iq108 13 ((Iq108 13) + 1)) (va_up (va_up Aq108 36 (ju (Aq108 36) (Iq108 13) 1)) 37 (ju (Aq108 37) (Iq108 13) (Iq108 9)))) _ _ _
                  refine jt_aload_n d_GM_expr_107 rfl ?_
                  refine jt_dup d_GM_expr_108 rfl ?_
                  refine gm_gI (k := 4) (v := Iq108 4) d_GM_expr_109 GM_f22 (by decide) rfl ?_
                  have rb161 : 0 ≤ Iq108 4 ∧ Iq108 4 ≤ 300 := p160.1 4
                  refine jt_iconst d_GM_expr_112 ?_
                  refine jt_iadd d_GM_expr_113 ?_
                  refine jt_topi (fun v162 ev162 => ?_)
                  refine gm_pI (k := 4) (v := v162) (J := va_up (va_up Iq108 13 ((Iq108 13) + 1)) 4 v162) d_GM_expr_114 (GM_w22 _ rfl) (by decide) rfl rfl rfl ?_
                  have p163 := gPo.I 4 v162 p160 rfl (show 0 ≤ v162 ∧ v162 ≤ 300 by omega)
                  refine jt_iconst d_GM_expr_117 ?_
                  refine jt_istore_n (L' := [(0, .ref m), (1, .int (jI f)), (2, .int (jI (I 13))), (3, .int (jI 1)), (4, .int (jI v149))]) d_GM_expr_118 (Nat.le_of_ble_eq_true rfl) rfl ?_
                  refine jt_goto (t := 228) d_GM_expr_119 rfl ?_
                  refine jt_goto (t := 17) d_GM_expr_228 rfl ?_
                  refine jt_sub (L' := [(0, .ref m), (1, .int (jI f)), (2, .int (jI (I 13))), (3, .int (jI 1))]) (fun _ h => List.mem_append_left [(4, Value.int (jI v149))] h) ?_
                  refine ih 1 (t - 1) (va_up (va_up Iq108 13 ((Iq108 13) + 1)) 4 v162) (va_up (va_up Aq108 36 (ju (Aq108 36) (Iq108 13) 1)) 37 (ju (Aq108 37) (Iq108 13) (Iq108 9))) p163 (by omega) (by omega) (fun z5 => ?_) (fun z5 => ?_) (by omega) ?_ (fun z hz => (hxq108.2.1 z hz).trans (hlo z hz)) (by omega)
                  · have z5 : Iq108 5 = 0 := z5
                    obtain ⟨y1, y2, y3, y4, y5⟩ := hft
                    show I 5 = 0 ∧ I 13 = 0 ∧ 0 ≤ (Iq108 13) + 1 ∧ (Iq108 13) + 1 ≤ v162 ∧ I 4 ≤ v162 ∧ gSt (ju (Aq108 36) (Iq108 13) 1) ((Iq108 13) + 1) ∧ gBr (ju (Aq108 36) (Iq108 13) 1) ((Iq108 13) + 1) = Iq108 14 ∧ Iq108 9 = gC (ju (Aq108 36) (Iq108 13) 1) ((Iq108 13) + 1) + (1 - 1) ∧ (1 = 0 → I 4 < v162)
                    show I 5 = 0 ∧ I 13 = 0 ∧ 0 ≤ Iq108 13 + 1 ∧ Iq108 13 + 1 ≤ v162 ∧ I 4 ≤ v162 ∧ gSt (ju (Aq108 36) (Iq108 13) 1) (Iq108 13 + 1) ∧ gBr (ju (Aq108 36) (Iq108 13) 1) (Iq108 13 + 1) = Iq108 14 ∧ Iq108 9 = gC (ju (Aq108 36) (Iq108 13) 1) (Iq108 13 + 1) + (1 - 1) ∧ ((1 : Int) = 0 → I 4 < v162)
                    rw [a36q108]
                    have c1 := gC_s (ju (B 36) (Iq108 13) 1) (Iq108 13) y2
                    have c2 := gB_s (ju (B 36) (Iq108 13) 1) (Iq108 13) y2
                    rw [ju_self, gC_ju _ _ _ _ y2 (Int.le_refl _)] at c1
                    rw [ju_self, gB_ju _ _ _ _ y2 (Int.le_refl _)] at c2
                    exact ⟨x5, x13, by omega, by omega, by omega, gSt_ju (gSt_le xs y1) y2 (fun _ => y5), by omega, by omega, fun z => by omega⟩
                  · have z5 : Iq108 5 = 0 := z5
                    show 301 - v162 ≤ t - 1
                    omega
                  · skip
                    refine ⟨fun _ => ⟨fun _ => ?_, fun z => absurd z (by omega)⟩, fun z => absurd (show Iq108 5 = 0 by omega) z⟩
                    show opQ (I 1) (A 22) (A 23) V9 r v162 _ _
                    rw [show v162 = J 4 + 1 by omega]
                    exact opQ_add hsd w0 rfl rfl rfl rfl rfl rfl rfl
              · skip
                obtain rfl := hbq152 gq152
                clear haq152 hbq152 hIq152 hAq152
                show jt _ 96 [(0, .ref m), (1, .int (jI f)), (2, .int (jI (I 13))), (3, .int (jI o)), (4, .int (jI v149))] [.int (jI 0), .ref m] (gmf m f0 Iq108 Aq108) _ _ _
                refine jt_if_eq (t := 103) d_GM_expr_96 rfl (by unfold jRi; omega) (fun c164 => ?_) (fun c164 => ?_)
                · skip
                  refine jt_iconst d_GM_expr_103 ?_
                  exact absurd gq150 gq152
                · skip
                  exfalso
                  omega
            · skip
              exfalso
              omega
          · skip
            obtain rfl := hbq150 gq150
            clear haq150 hbq150 hIq150 hAq150
            show jt _ 79 [(0, .ref m), (1, .int (jI f)), (2, .int (jI (I 13))), (3, .int (jI o)), (4, .int (jI v149))] [.int (jI 0)] (gmf m f0 Iq108 Aq108) _ _ _
            refine jt_if_ne (t := 90) d_GM_expr_79 rfl (by unfold jRi; omega) (fun c165 => ?_) (fun c165 => ?_)
            · skip
              exfalso
              omega
            · skip
              refine jt_aload_n d_GM_expr_82 rfl ?_
              refine jt_iconst d_GM_expr_83 ?_
              refine gct_call (Y := Y_GM_word) (As := [.int (jI 1)]) (rest := []) d_GM_expr_84 GM_c201 yk_GM_word yv_GM_word rfl (Nat.le_of_ble_eq_true rfl) rfl rfl (Nat.le_of_ble_eq_true rfl) (c_GM_word G _ m 1 Iq108 Aq108 (gP_of hpq108.1 (gT_of hpq108 hT rfl rfl rfl)) (by unfold jRi; omega)) (fun rvq166 Iq166 Aq166 hq166 => ?_)
              obtain ⟨haq166, hbq166, hIq166, hAq166⟩ := hq166
              rw [hIq166, hAq166]
              by_cases gq166 : xV (Iq108 1) (Aq108 22) (Aq108 23) (Iq108 4) 1
              · skip
                obtain rfl := haq166 gq166
                clear haq166 hbq166 hIq166 hAq166
                have tq166 : Iq108 1 ≤ 300 := (gT_of hpq108 hT rfl rfl rfl).2.1
                have kq166 : (Iq108 4) < (Iq108 1) ∧ Aq108 22 (Iq108 4) = 4 ∧ Aq108 23 (Iq108 4) = 1 := gq166
                show jt _ 87 [(0, .ref m), (1, .int (jI f)), (2, .int (jI (I 13))), (3, .int (jI o)), (4, .int (jI v149))] [.int (jI 1)] (gmf m f0 Iq108 Aq108) _ _ _
                refine jt_if_eq (t := 122) d_GM_expr_87 rfl (by unfold jRi; omega) (fun c167 => ?_) (fun c167 => ?_)
                · skip
                  exfalso
                  omega
                · skip
                  refine jt_aload_n d_GM_expr_90 rfl ?_
                  refine jt_aload_n d_GM_expr_91 rfl ?_
                  refine jt_iconst d_GM_expr_92 ?_
                  refine gct_call (Y := Y_GM_word) (As := [.int (jI 0)]) (rest := [.ref m]) d_GM_expr_93 GM_c201 yk_GM_word yv_GM_word rfl (Nat.le_of_ble_eq_true rfl) rfl rfl (Nat.le_of_ble_eq_true rfl) (c_GM_word G _ m 0 Iq108 Aq108 (gP_of hpq108.1 (gT_of hpq108 hT rfl rfl rfl)) (by unfold jRi; omega)) (fun rvq168 Iq168 Aq168 hq168 => ?_)
                  obtain ⟨haq168, hbq168, hIq168, hAq168⟩ := hq168
                  rw [hIq168, hAq168]
                  by_cases gq168 : xV (Iq108 1) (Aq108 22) (Aq108 23) (Iq108 4) 0
                  · skip
                    obtain rfl := haq168 gq168
                    clear haq168 hbq168 hIq168 hAq168
                    have tq168 : Iq108 1 ≤ 300 := (gT_of hpq108 hT rfl rfl rfl).2.1
                    have kq168 : (Iq108 4) < (Iq108 1) ∧ Aq108 22 (Iq108 4) = 4 ∧ Aq108 23 (Iq108 4) = 0 := gq168
                    show jt _ 96 [(0, .ref m), (1, .int (jI f)), (2, .int (jI (I 13))), (3, .int (jI o)), (4, .int (jI v149))] [.int (jI 1), .ref m] (gmf m f0 Iq108 Aq108) _ _ _
                    refine jt_if_eq (t := 103) d_GM_expr_96 rfl (by unfold jRi; omega) (fun c169 => ?_) (fun c169 => ?_)
                    · skip
                      exfalso
                      omega
                    · skip
                      refine jt_iconst d_GM_expr_99 ?_
                      refine jt_goto (t := 104) d_GM_expr_100 rfl ?_
                      exact absurd gq168 gq150
                  · skip
                    obtain rfl := hbq168 gq168
                    clear haq168 hbq168 hIq168 hAq168
                    show jt _ 96 [(0, .ref m), (1, .int (jI f)), (2, .int (jI (I 13))), (3, .int (jI o)), (4, .int (jI v149))] [.int (jI 0), .ref m] (gmf m f0 Iq108 Aq108) _ _ _
                    refine jt_if_eq (t := 103) d_GM_expr_96 rfl (by unfold jRi; omega) (fun c170 => ?_) (fun c170 => ?_)
                    · skip
                      refine jt_iconst d_GM_expr_103 ?_
                      have nn0 : ¬ xV (I 1) (A 22) (A 23) (J 4) 0 := (by have h9 := gq150; unfold xV at h9; rw [show Iq108 4 = J 4 from m4q108, hpq108.2.2.1 1 rfl, hpq108.2.2.2 22 rfl, hpq108.2.2.2 23 rfl] at h9; exact h9)
                      have w1 : xV (I 1) (A 22) (A 23) (J 4) 1 := (by have h9 := gq166; unfold xV at h9; rw [show Iq108 4 = J 4 from m4q108, hpq108.2.2.1 1 rfl, hpq108.2.2.2 22 rfl, hpq108.2.2.2 23 rfl] at h9; exact h9)
                      have nn0 : ¬ xV (I 1) (A 22) (A 23) (J 4) 0 := (by have h9 := gq168; unfold xV at h9; rw [show Iq108 4 = J 4 from m4q108, hpq108.2.2.1 1 rfl, hpq108.2.2.2 22 rfl, hpq108.2.2.2 23 rfl] at h9; exact h9)
                      have xb171 : 0 ≤ Iq108 13 ∧ Iq108 13 ≤ 320 := hpq108.1 13
                      have xb172 : 0 ≤ Iq108 9 ∧ Iq108 9 ≤ 100 := hpq108.1 9
                      refine gct_call (Y := Y_GM_push) (As := [.int (jI 2)]) (rest := []) d_GM_expr_104 GM_c208 yk_GM_push yv_GM_push rfl (Nat.le_of_ble_eq_true rfl) rfl rfl (Nat.le_of_ble_eq_true rfl) (c_GM_push G _ m 2 Iq108 Aq108 (show 0 ≤ Iq108 13 by omega) (show Iq108 13 < 320 by omega)) (fun rvq173 Iq173 Aq173 hq173 => ?_)
                      obtain ⟨rfl, hIq173, hAq173⟩ := hq173
                      rw [hIq173, hAq173]
                      have rb174 : 0 ≤ Iq108 9 ∧ Iq108 9 ≤ 100 := hpq108.1 9
                      have p175 := gPo.I 13 ((Iq108 13) + 1) hpq108 rfl (show 0 ≤ (Iq108 13) + 1 ∧ (Iq108 13) + 1 ≤ 320 by omega)
                      have p176 := gPo.A 36 (ju (Aq108 36) (Iq108 13) 2) p175 rfl (gju (p175.2.1 36) (show 0 ≤ 2 ∧ 2 ≤ 6 by omega))
                      have p177 := gPo.A 37 (ju (Aq108 37) (Iq108 13) (Iq108 9)) p176 rfl (gju (p176.2.1 37) (show -2147483648 ≤ Iq108 9 ∧ Iq108 9 ≤ 2147483647 by omega))
                      show jt _ 107 [(0, .ref m), (1, .int (jI f)), (2, .int (jI (I 13))), (3, .int (jI o)), (4, .int (jI v149))] [] (gmf m f0 (va_up Iq108 13 ((Iq108 13) + 1)) (va_up (va_up Aq108 36 (ju (Aq108 36) (Iq108 13) 2)) 37 (ju (Aq108 37) (Iq108 13) (Iq108 9)))) _ _ _
                      refine jt_aload_n d_GM_expr_107 rfl ?_
                      refine jt_dup d_GM_expr_108 rfl ?_
                      refine gm_gI (k := 4) (v := Iq108 4) d_GM_expr_109 GM_f22 (by decide) rfl ?_
                      have rb178 : 0 ≤ Iq108 4 ∧ Iq108 4 ≤ 300 := p177.1 4
                      refine jt_iconst d_GM_expr_112 ?_
                      refine jt_iadd d_GM_expr_113 ?_
                      refine jt_topi (fun v179 ev179 => ?_)
                      refine gm_pI (k := 4) (v := v179) (J := va_up (va_up Iq108 13 ((Iq108 13) + 1)) 4 v179) d_GM_expr_114 (GM_w22 _ rfl) (by decide) rfl rfl rfl ?_
                      have p180 := gPo.I 4 v179 p177 rfl (show 0 ≤ v179 ∧ v179 ≤ 300 by omega)
                      refine jt_iconst d_GM_expr_117 ?_
                      refine jt_istore_n (L' := [(0, .ref m), (1, .int (jI f)), (2, .int (jI (I 13))), (3, .int (jI 1)), (4, .int (jI v149))]) d_GM_expr_118 (Nat.le_of_ble_eq_true rfl) rfl ?_
                      refine jt_goto (t := 228) d_GM_expr_119 rfl ?_
                      refine jt_goto (t := 17) d_GM_expr_228 rfl ?_
                      refine jt_sub (L' := [(0, .ref m), (1, .int (jI f)), (2, .int (jI (I 13))), (3, .int (jI 1))]) (fun _ h => List.mem_append_left [(4, Value.int (jI v149))] h) ?_
                      refine ih 1 (t - 1) (va_up (va_up Iq108 13 ((Iq108 13) + 1)) 4 v179) (va_up (va_up Aq108 36 (ju (Aq108 36) (Iq108 13) 2)) 37 (ju (Aq108 37) (Iq108 13) (Iq108 9))) p180 (by omega) (by omega) (fun z5 => ?_) (fun z5 => ?_) (by omega) ?_ (fun z hz => (hxq108.2.1 z hz).trans (hlo z hz)) (by omega)
                      · have z5 : Iq108 5 = 0 := z5
                        obtain ⟨y1, y2, y3, y4, y5⟩ := hft
                        show I 5 = 0 ∧ I 13 = 0 ∧ 0 ≤ (Iq108 13) + 1 ∧ (Iq108 13) + 1 ≤ v179 ∧ I 4 ≤ v179 ∧ gSt (ju (Aq108 36) (Iq108 13) 2) ((Iq108 13) + 1) ∧ gBr (ju (Aq108 36) (Iq108 13) 2) ((Iq108 13) + 1) = Iq108 14 ∧ Iq108 9 = gC (ju (Aq108 36) (Iq108 13) 2) ((Iq108 13) + 1) + (1 - 1) ∧ (1 = 0 → I 4 < v179)
                        show I 5 = 0 ∧ I 13 = 0 ∧ 0 ≤ Iq108 13 + 1 ∧ Iq108 13 + 1 ≤ v179 ∧ I 4 ≤ v179 ∧ gSt (ju (Aq108 36) (Iq108 13) 2) (Iq108 13 + 1) ∧ gBr (ju (Aq108 36) (Iq108 13) 2) (Iq108 13 + 1) = Iq108 14 ∧ Iq108 9 = gC (ju (Aq108 36) (Iq108 13) 2) (Iq108 13 + 1) + (1 - 1) ∧ ((1 : Int) = 0 → I 4 < v179)
                        rw [a36q108]
                        have c1 := gC_s (ju (B 36) (Iq108 13) 2) (Iq108 13) y2
                        have c2 := gB_s (ju (B 36) (Iq108 13) 2) (Iq108 13) y2
                        rw [ju_self, gC_ju _ _ _ _ y2 (Int.le_refl _)] at c1
                        rw [ju_self, gB_ju _ _ _ _ y2 (Int.le_refl _)] at c2
                        exact ⟨x5, x13, by omega, by omega, by omega, gSt_ju (gSt_le xs y1) y2 (fun _ => y5), by omega, by omega, fun z => by omega⟩
                      · have z5 : Iq108 5 = 0 := z5
                        show 301 - v179 ≤ t - 1
                        omega
                      · skip
                        refine ⟨fun _ => ⟨fun _ => ?_, fun z => absurd z (by omega)⟩, fun z => absurd (show Iq108 5 = 0 by omega) z⟩
                        show opQ (I 1) (A 22) (A 23) V9 r v179 _ _
                        rw [show v179 = J 4 + 1 by omega]
                        exact opQ_sub hsd w1 rfl rfl rfl rfl rfl rfl rfl
                    · skip
                      exfalso
                      omega
              · skip
                obtain rfl := hbq166 gq166
                clear haq166 hbq166 hIq166 hAq166
                show jt _ 87 [(0, .ref m), (1, .int (jI f)), (2, .int (jI (I 13))), (3, .int (jI o)), (4, .int (jI v149))] [.int (jI 0)] (gmf m f0 Iq108 Aq108) _ _ _
                refine jt_if_eq (t := 122) d_GM_expr_87 rfl (by unfold jRi; omega) (fun c181 => ?_) (fun c181 => ?_)
                · skip
                  have nn0 : ¬ xV (I 1) (A 22) (A 23) (J 4) 0 := (by have h9 := gq150; unfold xV at h9; rw [show Iq108 4 = J 4 from m4q108, hpq108.2.2.1 1 rfl, hpq108.2.2.2 22 rfl, hpq108.2.2.2 23 rfl] at h9; exact h9)
                  have nn1 : ¬ xV (I 1) (A 22) (A 23) (J 4) 1 := (by have h9 := gq166; unfold xV at h9; rw [show Iq108 4 = J 4 from m4q108, hpq108.2.2.1 1 rfl, hpq108.2.2.2 22 rfl, hpq108.2.2.2 23 rfl] at h9; exact h9)
                  refine jt_iload d_GM_expr_122 rfl ?_
                  refine jt_if_ge (t := 130) d_GM_expr_124 rfl (by unfold jRi; omega) (fun c182 => ?_) (fun c182 => ?_)
                  · skip
                    refine jt_iload d_GM_expr_130 rfl ?_
                    refine jt_iconst d_GM_expr_132 ?_
                    refine jt_icmp_ne (t := 171) d_GM_expr_133 rfl (by unfold jRi; omega) (by unfold jRi; omega) (fun c183 => ?_) (fun c183 => ?_)
                    · skip
                      have u3 := gC_s (B 36) (Iq108 13 - 1) (by omega)
                      have u4 := gB_s (B 36) (Iq108 13 - 1) (by omega)
                      rw [show Iq108 13 - 1 + 1 = Iq108 13 by omega] at u3 u4
                      have u5 := gSt_b (gSt_le xs (show Iq108 13 - 1 ≤ J 13 by omega)) (by omega)
                      refine jt_aload_n d_GM_expr_171 rfl ?_
                      refine jt_iconst d_GM_expr_172 ?_
                      refine gct_call (Y := Y_GM_need) (As := [.int (jI 4)]) (rest := []) d_GM_expr_173 GM_c241 yk_GM_need yv_GM_need rfl (Nat.le_of_ble_eq_true rfl) rfl rfl (Nat.le_of_ble_eq_true rfl) (y_GM_need G _ m 4 Iq108 Aq108 (gT_of hpq108 hT rfl rfl rfl) hpq108.1 hpq108.2.1 (by unfold jRi; omega)) (fun rvq184 Iq184 Aq184 hq184 => ?_)
                      obtain ⟨rfl, hqq184, hxq184⟩ := hq184
                      have hpq184 := gPo.trans hpq108 hqq184 rfl rfl
                      have f1q184 : Iq184 1 = I 1 := hpq184.2.2.1 1 rfl
                      have m9q184 : Iq184 9 = Iq108 9 := hqq184.2.2.1 9 rfl
                      have m13q184 : Iq184 13 = Iq108 13 := hqq184.2.2.1 13 rfl
                      have m14q184 : Iq184 14 = Iq108 14 := hqq184.2.2.1 14 rfl
                      have a36q184 : Aq184 36 = Aq108 36 := hqq184.2.2.2 36 rfl
                      show jt _ 176 [(0, .ref m), (1, .int (jI f)), (2, .int (jI (I 13))), (3, .int (jI o)), (4, .int (jI v149))] [] (gmf m f0 Iq184 Aq184) _ _ _
                      have hnq : needQ 4 Iq108 Aq108 Iq184 := hxq184.2.1 (show Iq108 5 = 0 by omega)
                      have e4 : Hd (gW Iq108 Aq108 (Iq108 4) 4 ↔ xW (I 1) (A 22) (A 23) (J 4) 4) := by show gW Iq108 Aq108 (Iq108 4) 4 ↔ xW (I 1) (A 22) (A 23) (J 4) 4; rw [show Iq108 4 = J 4 from m4q108]; show xW (Iq108 1) (Aq108 22) (Aq108 23) (J 4) 4 ↔ _; rw [hpq108.2.2.1 1 rfl, hpq108.2.2.2 22 rfl, hpq108.2.2.2 23 rfl]
                      refine jt_aload_n d_GM_expr_176 rfl ?_
                      refine gm_gI (k := 5) (v := Iq184 5) d_GM_expr_177 GM_f25 (by decide) rfl ?_
                      have rb185 : -13 ≤ Iq184 5 ∧ Iq184 5 ≤ 0 := hpq184.1 5
                      refine jt_if_eq (t := 184) d_GM_expr_180 rfl (by unfold jRi; omega) (fun c186 => ?_) (fun c186 => ?_)
                      · skip
                        have w4 : xV (I 1) (A 22) (A 23) (J 4) 4 := by rcases Classical.em (xV (I 1) (A 22) (A 23) (J 4) 4) with z | z; exact z; exact absurd (hnq.2 (fun z2 => z (e4.mp z2))).1 (by omega)
                        have n4 := hnq.1 (e4.mpr w4)
                        refine jt_aload_n d_GM_expr_184 rfl ?_
                        refine jt_dup d_GM_expr_185 rfl ?_
                        refine gm_gI (k := 14) (v := Iq184 14) d_GM_expr_186 GM_f52 (by decide) rfl ?_
                        have rb187 : 0 ≤ Iq184 14 ∧ Iq184 14 ≤ 8 := hpq184.1 14
                        refine jt_iconst d_GM_expr_189 ?_
                        refine jt_isub d_GM_expr_190 ?_
                        refine jt_topi (fun v188 ev188 => ?_)
                        refine gm_pI (k := 14) (v := v188) (J := va_up Iq184 14 v188) d_GM_expr_191 (GM_w52 _ rfl) (by decide) rfl rfl rfl ?_
                        have p189 := gPo.I 14 v188 hpq184 rfl (show 0 ≤ v188 ∧ v188 ≤ 8 by omega)
                        refine jt_aload_n d_GM_expr_194 rfl ?_
                        refine jt_sipush d_GM_expr_195 (by omega) ?_
                        refine jt_aload_n d_GM_expr_198 rfl ?_
                        refine gm_gI (k := 9) (v := Iq184 9) d_GM_expr_199 GM_f37 (by decide) rfl ?_
                        have rb190 : 0 ≤ Iq184 9 ∧ Iq184 9 ≤ 100 := p189.1 9
                        refine jt_iadd d_GM_expr_202 ?_
                        refine gct_call (Y := Y_GM_check) (As := [.int (jI (299 + (Iq184 9)))]) (rest := []) d_GM_expr_203 GM_c238 yk_GM_check yv_GM_check rfl (Nat.le_of_ble_eq_true rfl) rfl rfl (Nat.le_of_ble_eq_true rfl) (y_GM_check G _ m (299 + (Iq184 9)) (va_up Iq184 14 v188) Aq184 p189.1 p189.2.1 (by omega) (by omega)) (fun rvq191 Iq191 Aq191 hq191 => ?_)
                        obtain ⟨rfl, hqq191, hxq191⟩ := hq191
                        have hpq191 := gPo.trans p189 hqq191 rfl rfl
                        have f1q191 : Iq191 1 = I 1 := hpq191.2.2.1 1 rfl
                        have s4q191 : (va_up Iq184 14 v188) 4 = Iq184 4 := rfl
                        have s5q191 : (va_up Iq184 14 v188) 5 = Iq184 5 := rfl
                        have s9q191 : (va_up Iq184 14 v188) 9 = Iq184 9 := rfl
                        have s13q191 : (va_up Iq184 14 v188) 13 = Iq184 13 := rfl
                        have s14q191 : (va_up Iq184 14 v188) 14 = v188 := rfl
                        have m4q191 : Iq191 4 = Iq184 4 := hqq191.2.2.1 4 rfl
                        have m5q191 : Iq191 5 = Iq184 5 := hqq191.2.2.1 5 rfl
                        have m9q191 : Iq191 9 = Iq184 9 := hqq191.2.2.1 9 rfl
                        have m13q191 : Iq191 13 = Iq184 13 := hqq191.2.2.1 13 rfl
                        have m14q191 : Iq191 14 = v188 := hqq191.2.2.1 14 rfl
                        have a36q191 : Aq191 36 = Aq184 36 := hqq191.2.2.2 36 rfl
                        replace hxq191 : Hd _ := hxq191
                        show jt _ 206 [(0, .ref m), (1, .int (jI f)), (2, .int (jI (I 13))), (3, .int (jI o)), (4, .int (jI v149))] [] (gmf m f0 Iq191 Aq191) _ _ _
                        have k36c : Aq191 36 = Aq108 36 := by rw [hqq191.2.2.2 36 rfl]; exact hqq184.2.2.2 36 rfl
                        have k38c : Aq191 38 = Aq108 38 := by rw [hqq191.2.2.2 38 rfl]; exact hqq184.2.2.2 38 rfl
                        have k9c : Iq184 9 = Iq108 9 := by omega
                        have hck : (∀ z, Aq191 35 z = if (299 + Iq108 9) * 13 ≤ z ∧ z < (299 + Iq108 9) * 13 + 13 then gkp (Aq108 35 z) else Aq108 35 z) ∧ (Iq191 15 = 0 ↔ (Iq108 15 = 0 ∧ ∀ j, 0 ≤ j → j < 13 → gin (Aq108 35 ((299 + Iq108 9) * 13 + j)))) := by have h9 := hxq191; rw [hqq184.2.2.2 35 rfl, k9c] at h9; have h8 : va_up Iq184 14 v188 15 = Iq108 15 := hqq184.2.2.1 15 rfl; rw [h8] at h9; exact h9
                        refine jt_iload d_GM_expr_206 rfl ?_
                        refine jt_if_ne (t := 224) d_GM_expr_208 rfl (by unfold jRi; omega) (fun c192 => ?_) (fun c192 => ?_)
                        · skip
                          refine jt_aload_n d_GM_expr_224 rfl ?_
                          obtain ⟨c9, hc9, hb9⟩ := (tdQ_bte hsd nn0 nn1 (by omega) (by rw [k36]; omega)).2 w4
                          obtain ⟨hr1, hr2, hfb⟩ := hb9 Iq191 Aq191 k36c k38c (by omega) hck.1 hck.2
                          refine gct_call (Y := Y_GM_finishBetween) (As := []) (rest := []) d_GM_expr_225 GM_c244 yk_GM_finishBetween yv_GM_finishBetween rfl (Nat.le_of_ble_eq_true rfl) rfl rfl (Nat.le_of_ble_eq_true rfl) (y_GM_finishBetween G _ m Iq191 Aq191 hpq191.1 hpq191.2.1 (show 1 ≤ Iq191 13 by omega) (show 2 ≤ Iq191 9 ∧ Iq191 9 ≤ 30 by omega) c9 (by rw [k38c, show Iq191 13 = Iq108 13 by omega]; exact hc9) (by rw [show Iq191 9 = Iq108 9 by omega]; exact hr1) (by rw [show Iq191 9 = Iq108 9 by omega]; exact hr2)) (fun rvq193 Iq193 Aq193 hq193 => ?_)
                          obtain ⟨rfl, hqq193, hxq193⟩ := hq193
                          have hpq193 := gPo.trans hpq191 hqq193 rfl rfl
                          have f1q193 : Iq193 1 = I 1 := hpq193.2.2.1 1 rfl
                          have m4q193 : Iq193 4 = Iq191 4 := hqq193.2.2.1 4 rfl
                          have m5q193 : Iq193 5 = Iq191 5 := hqq193.2.2.1 5 rfl
                          have m14q193 : Iq193 14 = Iq191 14 := hqq193.2.2.1 14 rfl
                          have a36q193 : Aq193 36 = Aq191 36 := hqq193.2.2.2 36 rfl
                          show jt _ 228 [(0, .ref m), (1, .int (jI f)), (2, .int (jI (I 13))), (3, .int (jI o)), (4, .int (jI v149))] [] (gmf m f0 Iq193 Aq193) _ _ _
                          refine jt_goto (t := 17) d_GM_expr_228 rfl ?_
                          refine jt_sub (L' := [(0, .ref m), (1, .int (jI f)), (2, .int (jI (I 13))), (3, .int (jI o))]) (fun _ h => List.mem_append_left [(4, Value.int (jI v149))] h) ?_
                          refine ih o (t - 1) Iq193 Aq193 hpq193 (by omega) (by omega) (fun z5 => ?_) (fun z5 => ?_) (by omega) ?_ (fun z hz => by rw [hxq193.2.2.2.2 z (by omega), hck.1 z, if_neg (by omega), hlq z hz]; exact hlo z hz) (by omega)
                          · have z5 : Iq193 5 = 0 := z5
                            obtain ⟨y1, y2, y3, y4, y5⟩ := hft
                            have k1 := hxq184.1 (by omega)
                            have k2 := hxq193.1
                            have kk36 : Aq193 36 = B 36 := by rw [a36q193, a36q191, a36q184, a36q108]
                            show I 5 = 0 ∧ I 13 = 0 ∧ 0 ≤ Iq193 13 ∧ Iq193 13 ≤ Iq193 4 ∧ I 4 ≤ Iq193 4 ∧ gSt (Aq193 36) (Iq193 13) ∧ gBr (Aq193 36) (Iq193 13) = Iq193 14 ∧ Iq193 9 = gC (Aq193 36) (Iq193 13) + (1 - o) ∧ (o = 0 → I 4 < Iq193 4)
                            rw [kk36]
                            have kt : Iq193 13 = Iq108 13 - 1 := by omega
                            rw [kt]
                            have c3 := gC_s (B 36) (Iq108 13 - 1) (by omega)
                            have c4 := gB_s (B 36) (Iq108 13 - 1) (by omega)
                            rw [show Iq108 13 - 1 + 1 = Iq108 13 by omega] at c3 c4
                            have k5 : B 36 (Iq108 13 - 1) = 6 := by omega
                            exact ⟨x5, x13, by omega, by omega, by omega, gSt_le xs (by omega), by omega, by omega, fun z => by omega⟩
                          · have z5 : Iq193 5 = 0 := z5
                            show 301 - Iq193 4 ≤ t - 1
                            have k1 := hxq184.1 (by omega)
                            omega
                          · skip
                            refine ⟨fun _ => ⟨fun z => absurd z (by omega), fun _ => ?_⟩, fun z => absurd (show Iq193 5 = 0 by omega) z⟩
                            show tdQ (I 1) (A 22) (A 23) V9 r (Iq193 4) _ _
                            rw [show Iq193 4 = J 4 + 1 by omega]
                            exact hfb _ _ (show Iq193 13 = Iq108 13 - 1 by omega) (show Iq193 9 = Iq108 9 - 1 by omega) (show Iq193 14 = Iq108 14 - 1 by omega) (by rw [hqq193.2.2.2 36 rfl]; exact k36c) (by rw [hqq193.2.2.2 38 rfl]; exact k38c) (by have h9 := hxq193.2; rw [show Iq191 9 = Iq108 9 by omega] at h9; exact h9)
                        · skip
                          refine jt_aload_n d_GM_expr_211 rfl ?_
                          refine jt_dup d_GM_expr_212 rfl ?_
                          refine gm_gI (k := 13) (v := Iq191 13) d_GM_expr_213 GM_f49 (by decide) rfl ?_
                          have rb194 : 0 ≤ Iq191 13 ∧ Iq191 13 ≤ 320 := hpq191.1 13
                          refine jt_iconst d_GM_expr_216 ?_
                          refine jt_isub d_GM_expr_217 ?_
                          refine jt_topi (fun v195 ev195 => ?_)
                          refine gm_pI (k := 13) (v := v195) (J := va_up Iq191 13 v195) d_GM_expr_218 (GM_w49 _ rfl) (by decide) rfl rfl rfl ?_
                          have p196 := gPo.I 13 v195 hpq191 rfl (show 0 ≤ v195 ∧ v195 ≤ 320 by omega)
                          refine jt_goto (t := 228) d_GM_expr_221 rfl ?_
                          refine jt_goto (t := 17) d_GM_expr_228 rfl ?_
                          refine jt_sub (L' := [(0, .ref m), (1, .int (jI f)), (2, .int (jI (I 13))), (3, .int (jI o))]) (fun _ h => List.mem_append_left [(4, Value.int (jI v149))] h) ?_
                          refine ih o (t - 1) (va_up Iq191 13 v195) Aq191 p196 (by omega) (by omega) (fun z5 => ?_) (fun z5 => ?_) (by omega) ?_ (fun z hz => by show Aq191 35 z = A 35 z; rw [hck.1 z, if_neg (by omega), hlq z hz]; exact hlo z hz) (by omega)
                          · have z5 : Iq191 5 = 0 := z5
                            obtain ⟨y1, y2, y3, y4, y5⟩ := hft
                            have k1 := hxq184.1 (by omega)
                            have kk36 : Aq191 36 = B 36 := by rw [a36q191, a36q184, a36q108]
                            show I 5 = 0 ∧ I 13 = 0 ∧ 0 ≤ v195 ∧ v195 ≤ Iq191 4 ∧ I 4 ≤ Iq191 4 ∧ gSt (Aq191 36) (v195) ∧ gBr (Aq191 36) (v195) = Iq191 14 ∧ Iq191 9 = gC (Aq191 36) (v195) + (1 - o) ∧ (o = 0 → I 4 < Iq191 4)
                            show I 5 = 0 ∧ I 13 = 0 ∧ 0 ≤ v195 ∧ v195 ≤ Iq191 4 ∧ I 4 ≤ Iq191 4 ∧ gSt (Aq191 36) (v195) ∧ gBr (Aq191 36) (v195) = Iq191 14 ∧ Iq191 9 = gC (Aq191 36) (v195) + (1 - o) ∧ (o = 0 → I 4 < Iq191 4)
                            rw [kk36]
                            have kt : v195 = Iq108 13 - 1 := by omega
                            rw [kt]
                            have c3 := gC_s (B 36) (Iq108 13 - 1) (by omega)
                            have c4 := gB_s (B 36) (Iq108 13 - 1) (by omega)
                            rw [show Iq108 13 - 1 + 1 = Iq108 13 by omega] at c3 c4
                            have k5 : B 36 (Iq108 13 - 1) = 0 := by omega
                            exact ⟨x5, x13, by omega, by omega, by omega, gSt_le xs (by omega), by omega, by omega, fun z => by omega⟩
                          · have z5 : Iq191 5 = 0 := z5
                            show 301 - Iq191 4 ≤ t - 1
                            have k1 := hxq184.1 (by omega)
                            omega
                          · skip
                            refine ⟨fun _ => ⟨fun z => absurd z (by omega), fun _ => ?_⟩, fun z => absurd (show Iq191 5 = 0 by omega) z⟩
                            show tdQ (I 1) (A 22) (A 23) V9 r (Iq191 4) _ _
                            rw [show Iq191 4 = J 4 + 1 by omega]
                            exact (tdQ_cls hsd nn0 nn1 (by omega) (by rw [k36]; omega)).2 w4 _ _ (show v195 = Iq108 13 - 1 by omega) (show Iq191 9 = Iq108 9 by omega) (show Iq191 14 = Iq108 14 - 1 by omega) (show Aq191 36 = _ from k36c) (show Aq191 38 = _ from k38c) hck.1 (show Iq191 15 = 0 ↔ _ from hck.2)
                      · skip
                        exact gm_vret d_GM_expr_183 rfl (⟨rfl, hpq184, (fun z => absurd z (by omega)), ⟨fun z => absurd z (by omega), fun _ => by have w4 : ¬ xV (I 1) (A 22) (A 23) (J 4) 4 := (fun z => by have := (hnq.1 (e4.mpr z)).1; omega); have h9 := hnq.2 (fun z => w4 (e4.mp z)); rw [h9.1, h9.2.1, show Iq108 4 = J 4 from m4q108]; rcases (show B 36 (Iq108 13 - 1) = 0 ∨ B 36 (Iq108 13 - 1) = 6 by omega) with z0 | z0; exact (tdQ_cls hsd nn0 nn1 (by omega) (by rw [k36]; exact z0)).1 w4; exact (tdQ_bte hsd nn0 nn1 (by omega) (by rw [k36]; exact z0)).1 w4⟩, fun z hz _ => by rw [hqq184.2.2.2 35 rfl, hlq z hz]; exact hlo z hz⟩)
                    · skip
                      refine jt_aload_n d_GM_expr_136 rfl ?_
                      refine jt_sipush d_GM_expr_137 (by omega) ?_
                      refine jt_aload_n d_GM_expr_140 rfl ?_
                      refine gm_gI (k := 9) (v := Iq108 9) d_GM_expr_141 GM_f37 (by decide) rfl ?_
                      have rb197 : 0 ≤ Iq108 9 ∧ Iq108 9 ≤ 100 := hpq108.1 9
                      refine jt_iadd d_GM_expr_144 ?_
                      refine gct_call (Y := Y_GM_check) (As := [.int (jI (299 + (Iq108 9)))]) (rest := []) d_GM_expr_145 GM_c238 yk_GM_check yv_GM_check rfl (Nat.le_of_ble_eq_true rfl) rfl rfl (Nat.le_of_ble_eq_true rfl) (y_GM_check G _ m (299 + (Iq108 9)) Iq108 Aq108 hpq108.1 hpq108.2.1 (by omega) (by omega)) (fun rvq198 Iq198 Aq198 hq198 => ?_)
                      obtain ⟨rfl, hqq198, hxq198⟩ := hq198
                      have hpq198 := gPo.trans hpq108 hqq198 rfl rfl
                      have f1q198 : Iq198 1 = I 1 := hpq198.2.2.1 1 rfl
                      have m4q198 : Iq198 4 = Iq108 4 := hqq198.2.2.1 4 rfl
                      have m5q198 : Iq198 5 = Iq108 5 := hqq198.2.2.1 5 rfl
                      have m9q198 : Iq198 9 = Iq108 9 := hqq198.2.2.1 9 rfl
                      have m13q198 : Iq198 13 = Iq108 13 := hqq198.2.2.1 13 rfl
                      have m14q198 : Iq198 14 = Iq108 14 := hqq198.2.2.1 14 rfl
                      have a36q198 : Aq198 36 = Aq108 36 := hqq198.2.2.2 36 rfl
                      replace hxq198 : Hd _ := hxq198
                      show jt _ 148 [(0, .ref m), (1, .int (jI f)), (2, .int (jI (I 13))), (3, .int (jI o)), (4, .int (jI v149))] [] (gmf m f0 Iq198 Aq198) _ _ _
                      refine jt_aload_n d_GM_expr_148 rfl ?_
                      refine jt_iconst d_GM_expr_149 ?_
                      refine gct_call (Y := Y_GM_need) (As := [.int (jI 5)]) (rest := []) d_GM_expr_150 GM_c241 yk_GM_need yv_GM_need rfl (Nat.le_of_ble_eq_true rfl) rfl rfl (Nat.le_of_ble_eq_true rfl) (y_GM_need G _ m 5 Iq198 Aq198 (gT_of hpq198 hT rfl rfl rfl) hpq198.1 hpq198.2.1 (by unfold jRi; omega)) (fun rvq199 Iq199 Aq199 hq199 => ?_)
                      obtain ⟨rfl, hqq199, hxq199⟩ := hq199
                      have hpq199 := gPo.trans hpq198 hqq199 rfl rfl
                      have f1q199 : Iq199 1 = I 1 := hpq199.2.2.1 1 rfl
                      have m9q199 : Iq199 9 = Iq198 9 := hqq199.2.2.1 9 rfl
                      have m13q199 : Iq199 13 = Iq198 13 := hqq199.2.2.1 13 rfl
                      have m14q199 : Iq199 14 = Iq198 14 := hqq199.2.2.1 14 rfl
                      have a36q199 : Aq199 36 = Aq198 36 := hqq199.2.2.2 36 rfl
                      show jt _ 153 [(0, .ref m), (1, .int (jI f)), (2, .int (jI (I 13))), (3, .int (jI o)), (4, .int (jI v149))] [] (gmf m f0 Iq199 Aq199) _ _ _
                      have kt1 : Iq198 1 = I 1 := hpq198.2.2.1 1 rfl
                      have kt22 : Aq198 22 = A 22 := hpq198.2.2.2 22 rfl
                      have kt23 : Aq198 23 = A 23 := hpq198.2.2.2 23 rfl
                      refine jt_aload_n d_GM_expr_153 rfl ?_
                      refine gm_gA (k := 36) (a := m + 21) d_GM_expr_154 GM_f121 (by decide) (by decide) rfl ?_
                      refine jt_aload_n d_GM_expr_157 rfl ?_
                      refine gm_gI (k := 13) (v := Iq199 13) d_GM_expr_158 GM_f49 (by decide) rfl ?_
                      have rb200 : 0 ≤ Iq199 13 ∧ Iq199 13 ≤ 320 := hpq199.1 13
                      refine jt_iconst d_GM_expr_161 ?_
                      refine jt_isub d_GM_expr_162 ?_
                      refine jt_bipush d_GM_expr_163 (by omega) ?_
                      refine gm_st0 (k := 36) (n := 320) (B := va_up Aq199 36 (ju (Aq199 36) ((Iq199 13) - 1) 6)) d_GM_expr_165 rfl (by decide) (by decide) rfl rfl (by omega) (by omega) (by omega) rfl ?_
                      have p201 := gPo.A 36 (ju (Aq199 36) ((Iq199 13) - 1) 6) hpq199 rfl (gju (hpq199.2.1 36) (show 0 ≤ 6 ∧ 6 ≤ 6 by omega))
                      refine jt_iconst d_GM_expr_166 ?_
                      refine jt_istore_n (L' := [(0, .ref m), (1, .int (jI f)), (2, .int (jI (I 13))), (3, .int (jI 1)), (4, .int (jI v149))]) d_GM_expr_167 (Nat.le_of_ble_eq_true rfl) rfl ?_
                      refine jt_goto (t := 228) d_GM_expr_168 rfl ?_
                      refine jt_goto (t := 17) d_GM_expr_228 rfl ?_
                      refine jt_sub (L' := [(0, .ref m), (1, .int (jI f)), (2, .int (jI (I 13))), (3, .int (jI 1))]) (fun _ h => List.mem_append_left [(4, Value.int (jI v149))] h) ?_
                      refine ih 1 (t - 1) Iq199 (va_up Aq199 36 (ju (Aq199 36) ((Iq199 13) - 1) 6)) p201 (by omega) (by omega) (fun z5 => ?_) (fun z5 => ?_) (by omega) ?_ (fun z hz => by show Aq199 35 z = A 35 z; rw [hqq199.2.2.2 35 rfl, hxq198.1 z, if_neg (by omega), hlq z hz]; exact hlo z hz) (by omega)
                      · have z5 : Iq199 5 = 0 := z5
                        obtain ⟨y1, y2, y3, y4, y5⟩ := hft
                        have k1 := hxq199.1 z5
                        show I 5 = 0 ∧ I 13 = 0 ∧ 0 ≤ Iq199 13 ∧ Iq199 13 ≤ Iq199 4 ∧ I 4 ≤ Iq199 4 ∧ gSt (ju (Aq199 36) ((Iq199 13) - 1) 6) (Iq199 13) ∧ gBr (ju (Aq199 36) ((Iq199 13) - 1) 6) (Iq199 13) = Iq199 14 ∧ Iq199 9 = gC (ju (Aq199 36) ((Iq199 13) - 1) 6) (Iq199 13) + (1 - 1) ∧ (1 = 0 → I 4 < Iq199 4)
                        show I 5 = 0 ∧ I 13 = 0 ∧ 0 ≤ Iq199 13 ∧ Iq199 13 ≤ Iq199 4 ∧ I 4 ≤ Iq199 4 ∧ gSt (ju (Aq199 36) (Iq199 13 - 1) 6) (Iq199 13) ∧ gBr (ju (Aq199 36) (Iq199 13 - 1) 6) (Iq199 13) = Iq199 14 ∧ Iq199 9 = gC (ju (Aq199 36) (Iq199 13 - 1) 6) (Iq199 13) + (1 - 1) ∧ ((1 : Int) = 0 → I 4 < Iq199 4)
                        have k36 : Aq199 36 = B 36 := by rw [a36q199, a36q198, a36q108]
                        have k13 : Iq199 13 = Iq108 13 := by omega
                        rw [k36, k13]
                        have c1 := gC_s (ju (B 36) (Iq108 13 - 1) 6) (Iq108 13 - 1) (by omega)
                        have c2 := gB_s (ju (B 36) (Iq108 13 - 1) 6) (Iq108 13 - 1) (by omega)
                        rw [ju_self, gC_ju _ _ _ _ (by omega) (Int.le_refl _), show Iq108 13 - 1 + 1 = Iq108 13 by omega] at c1
                        rw [ju_self, gB_ju _ _ _ _ (by omega) (Int.le_refl _), show Iq108 13 - 1 + 1 = Iq108 13 by omega] at c2
                        have c3 := gC_s (B 36) (Iq108 13 - 1) (by omega)
                        have c4 := gB_s (B 36) (Iq108 13 - 1) (by omega)
                        rw [show Iq108 13 - 1 + 1 = Iq108 13 by omega] at c3 c4
                        have k5 : B 36 (Iq108 13 - 1) = 5 := by omega
                        exact ⟨x5, x13, by omega, by omega, by omega, gSt_6 (gSt_le xs y1) (by omega), by omega, by omega, fun z => by omega⟩
                      · have z5 : Iq199 5 = 0 := z5
                        show 301 - Iq199 4 ≤ t - 1
                        have k1 := hxq199.1 z5
                        omega
                      · skip
                        have hc := opQ_com hsd nn0 nn1 (by omega) (by rw [k36]; omega)
                        have hnq : needQ 5 Iq198 Aq198 Iq199 := hxq199.2.1 (show Iq198 5 = 0 by omega)
                        have e5 : Hd (gW Iq198 Aq198 (Iq198 4) 5 ↔ xW (I 1) (A 22) (A 23) (J 4) 5) := by show gW Iq198 Aq198 (Iq198 4) 5 ↔ xW (I 1) (A 22) (A 23) (J 4) 5; rw [show Iq198 4 = J 4 by omega]; show xW (Iq198 1) (Aq198 22) (Aq198 23) (J 4) 5 ↔ _; rw [kt1, kt22, kt23]
                        by_cases w5 : xV (I 1) (A 22) (A 23) (J 4) 5
                        · have h9 := hnq.1 (e5.mpr w5)
                          refine ⟨fun _ => ⟨fun _ => ?_, fun z => absurd z (by omega)⟩, fun z => absurd h9.1 z⟩
                          show opQ (I 1) (A 22) (A 23) V9 r (Iq199 4) _ _
                          rw [show Iq199 4 = J 4 + 1 by omega]
                          exact hc.2 w5 _ _ (show Iq199 13 = Iq108 13 by omega) (show Iq199 9 = Iq108 9 by omega) (show Iq199 14 = Iq108 14 by omega) (by show ju (Aq199 36) (Iq199 13 - 1) 6 = _; rw [a36q199, a36q198, show Iq199 13 = Iq108 13 by omega]) (by show Aq199 38 = _; rw [hqq199.2.2.2 38 rfl, hqq198.2.2.2 38 rfl]) (by show ∀ z, Aq199 35 z = _; rw [hqq199.2.2.2 35 rfl]; exact hxq198.1) (by show Iq199 15 = 0 ↔ _; rw [hqq199.2.2.1 15 rfl]; exact hxq198.2)
                        · have h9 := hnq.2 (fun z => w5 (e5.mp z))
                          refine ⟨fun z => absurd z (by show ¬ Iq199 5 = 0; omega), fun _ => ?_⟩
                          show r = .err (Iq199 5) (Iq199 6)
                          rw [h9.1, h9.2.1, show Iq198 4 = J 4 by omega]
                          exact hc.1 w5
                  · skip
                    refine jt_goto (t := 231) d_GM_expr_127 rfl ?_
                    refine jt_aload_n d_GM_expr_231 rfl ?_
                    refine jt_iload_n d_GM_expr_232 rfl ?_
                    refine gm_pI (k := 13) (v := (I 13)) (J := va_up Iq108 13 (I 13)) d_GM_expr_233 (GM_w49 _ rfl) (by decide) rfl rfl rfl ?_
                    have p202 := gPo.I 13 (I 13) hpq108 rfl (show 0 ≤ I 13 ∧ I 13 ≤ 320 by omega)
                    refine jt_aload_n d_GM_expr_236 rfl ?_
                    refine gm_gI (k := 5) (v := Iq108 5) d_GM_expr_237 GM_f25 (by decide) rfl ?_
                    have rb203 : -13 ≤ Iq108 5 ∧ Iq108 5 ≤ 0 := p202.1 5
                    refine jt_if_eq (t := 244) d_GM_expr_240 rfl (by unfold jRi; omega) (fun c204 => ?_) (fun c204 => ?_)
                    · skip
                      refine jt_aload_n d_GM_expr_244 rfl ?_
                      refine jt_sipush d_GM_expr_245 (by omega) ?_
                      refine gct_call (Y := Y_GM_check) (As := [.int (jI 300)]) (rest := []) d_GM_expr_248 GM_c238 yk_GM_check yv_GM_check rfl (Nat.le_of_ble_eq_true rfl) rfl rfl (Nat.le_of_ble_eq_true rfl) (y_GM_check G _ m 300 (va_up Iq108 13 (I 13)) Aq108 p202.1 p202.2.1 (by omega) (by omega)) (fun rvq205 Iq205 Aq205 hq205 => ?_)
                      obtain ⟨rfl, hqq205, hxq205⟩ := hq205
                      have hpq205 := gPo.trans p202 hqq205 rfl rfl
                      have f1q205 : Iq205 1 = I 1 := hpq205.2.2.1 1 rfl
                      have s4q205 : (va_up Iq108 13 (I 13)) 4 = Iq108 4 := rfl
                      have s5q205 : (va_up Iq108 13 (I 13)) 5 = Iq108 5 := rfl
                      have s9q205 : (va_up Iq108 13 (I 13)) 9 = Iq108 9 := rfl
                      have s13q205 : (va_up Iq108 13 (I 13)) 13 = I 13 := rfl
                      have s14q205 : (va_up Iq108 13 (I 13)) 14 = Iq108 14 := rfl
                      have m4q205 : Iq205 4 = Iq108 4 := hqq205.2.2.1 4 rfl
                      have m5q205 : Iq205 5 = Iq108 5 := hqq205.2.2.1 5 rfl
                      have m9q205 : Iq205 9 = Iq108 9 := hqq205.2.2.1 9 rfl
                      have m13q205 : Iq205 13 = I 13 := hqq205.2.2.1 13 rfl
                      have m14q205 : Iq205 14 = Iq108 14 := hqq205.2.2.1 14 rfl
                      have a36q205 : Aq205 36 = Aq108 36 := hqq205.2.2.2 36 rfl
                      replace hxq205 : Hd _ := hxq205
                      show jt _ 251 [(0, .ref m), (1, .int (jI f)), (2, .int (jI (I 13))), (3, .int (jI o)), (4, .int (jI v149))] [] (gmf m f0 Iq205 Aq205) _ _ _
                      refine jt_aload_n d_GM_expr_251 rfl ?_
                      refine jt_iload_n d_GM_expr_252 rfl ?_
                      refine jt_sipush d_GM_expr_253 (by omega) ?_
                      refine gct_call (Y := Y_GM_copyForm) (As := [.int (jI f), .int (jI 300)]) (rest := []) d_GM_expr_256 GM_c247 yk_GM_copyForm yv_GM_copyForm rfl (Nat.le_of_ble_eq_true rfl) rfl rfl (Nat.le_of_ble_eq_true rfl) (y_GM_copyForm G _ m f 300 Iq205 Aq205 hpq205.1 hpq205.2.1 (by omega) (by omega) (by omega) (by omega) (by omega)) (fun rvq206 Iq206 Aq206 hq206 => ?_)
                      obtain ⟨rfl, hqq206, hxq206⟩ := hq206
                      have hpq206 := gPo.trans hpq205 hqq206 rfl rfl
                      have f1q206 : Iq206 1 = I 1 := hpq206.2.2.1 1 rfl
                      have m4q206 : Iq206 4 = Iq205 4 := hqq206.2.2.1 4 rfl
                      have m5q206 : Iq206 5 = Iq205 5 := hqq206.2.2.1 5 rfl
                      have m9q206 : Iq206 9 = Iq205 9 := hqq206.2.2.1 9 rfl
                      have m13q206 : Iq206 13 = Iq205 13 := hqq206.2.2.1 13 rfl
                      have m14q206 : Iq206 14 = Iq205 14 := hqq206.2.2.1 14 rfl
                      have a36q206 : Aq206 36 = Aq205 36 := hqq206.2.2.2 36 rfl
                      show jt _ 259 [(0, .ref m), (1, .int (jI f)), (2, .int (jI (I 13))), (3, .int (jI o)), (4, .int (jI v149))] [] (gmf m f0 Iq206 Aq206) _ _ _
                      exact gm_vret d_GM_expr_259 rfl (by
        obtain ⟨i9, F9, g9, hr9, hfo⟩ := fin_of hsd nn0 nn1 (by omega)
        have hkk := hfo Iq205 Aq205 (hqq205.2.2.2 36 rfl) (hqq205.2.2.2 38 rfl) (by rw [i9]; exact hxq205.1) (by rw [i9]; exact hxq205.2)
        refine ⟨rfl, hpq206, (fun z => ⟨x5, show I 4 < Iq206 4 by omega, show Iq206 13 = I 13 by omega⟩), ⟨fun _ => ⟨J 4, F9, g9, hr9, show Iq206 4 = J 4 by omega, ?_, fun j j0 j1 => ?_, fun z j j0 j1 => ?_⟩, fun z => absurd (show Iq206 5 = 0 by omega) z⟩, fun z hz hf9 => ?_⟩
        · rw [hqq206.2.2.1 15 rfl]; exact hkk.1
        · rw [hxq206, if_pos (by omega), show f * 13 + j - f * 13 + 300 * 13 = ((300 : Nat) : Int) * 13 + j by omega]; exact hkk.2.1 j j0 j1
        · rw [hxq206, if_pos (by omega), show f * 13 + j - f * 13 + 300 * 13 = ((300 : Nat) : Int) * 13 + j by omega]; exact hkk.2.2 z j j0 j1
        · rw [hxq206, if_neg hf9, hxq205.1 z, if_neg (by omega), hlq z hz]; exact hlo z hz)
                    · skip
                      exact gm_vret d_GM_expr_243 rfl (⟨rfl, p202, (fun z => absurd z (by show ¬ Iq108 5 = 0; omega)), ⟨fun z => absurd z (by show ¬ Iq108 5 = 0; omega), fun _ => by exfalso; omega⟩, fun z hz _ => by exfalso; omega⟩)
                · skip
                  exfalso
                  omega
      · skip
        obtain ⟨S9, g9, hR9, hm9⟩ := (hq.1 (by omega)).1 (by omega)
        refine jt_aload_n d_GM_expr_28 rfl ?_
        refine gct_call (Y := Y_GM_begin) (As := []) (rest := []) d_GM_expr_29 GM_c231 yk_GM_begin yv_GM_begin rfl (Nat.le_of_ble_eq_true rfl) rfl rfl (Nat.le_of_ble_eq_true rfl) (y_GM_begin G _ m J B (gT_of hJ hT rfl rfl rfl) hJ.1 hJ.2.1 (by omega) (by omega) (by omega) V9 (by unfold gVr; rw [hJ.2.2.2 30 rfl, hJ.2.2.2 31 rfl]; exact hV) S9 g9 r (by rw [show J 1 = I 1 from f1, hJ.2.2.2 22 rfl, hJ.2.2.2 23 rfl]; exact hR9) hm9) (fun rvq207 Iq207 Aq207 hq207 => ?_)
        obtain ⟨yq207, rfl, ryq207, hqq207, hxq207⟩ := hq207
        have hpq207 := gPo.trans hJ hqq207 rfl rfl
        have f1q207 : Iq207 1 = I 1 := hpq207.2.2.1 1 rfl
        show jt _ 32 [(0, .ref m), (1, .int (jI f)), (2, .int (jI (I 13))), (3, .int (jI o))] [.int (jI yq207)] (gmf m f0 Iq207 Aq207) _ _ _
        refine jt_if_ne (t := 39) d_GM_expr_32 rfl (by unfold jRi; omega) (fun c208 => ?_) (fun c208 => ?_)
        · skip
          refine jt_iconst d_GM_expr_39 ?_
          refine jt_istore_n (L' := [(0, .ref m), (1, .int (jI f)), (2, .int (jI (I 13))), (3, .int (jI 0))]) d_GM_expr_40 (Nat.le_of_ble_eq_true rfl) rfl ?_
          refine jt_goto (t := 17) d_GM_expr_41 rfl ?_
          refine ih 0 (t - 1) Iq207 Aq207 hpq207 (by omega) (by omega) (fun z5 => ?_) (fun z5 => ?_) (by omega) ?_ (fun z hz => (hxq207.2.1 z hz).trans (hlo z hz)) (by omega)
          · have z5 : Iq207 5 = 0 := z5
            have k1 := hxq207.1 z5
            have k2 := k1.2.1 (by omega)
            have k3 := k1.1
            show I 5 = 0 ∧ I 13 = 0 ∧ 0 ≤ Iq207 13 ∧ Iq207 13 ≤ Iq207 4 ∧ I 4 ≤ Iq207 4 ∧ gSt (Aq207 36) (Iq207 13) ∧ gBr (Aq207 36) (Iq207 13) = Iq207 14 ∧ Iq207 9 = gC (Aq207 36) (Iq207 13) + (1 - 0) ∧ (0 = 0 → I 4 < Iq207 4)
            rw [k2.1, k2.2.1]
            exact ⟨x5, x13, x0, by omega, by omega, xs, by omega, by omega, fun _ => by omega⟩
          · have z5 : Iq207 5 = 0 := z5
            show 301 - Iq207 4 ≤ t - 1
            have k1 := (hxq207.1 z5).1
            omega
          · skip
            have h8 := hxq207.2.2
            rw [show J 1 = I 1 from f1, hJ.2.2.2 22 rfl, hJ.2.2.2 23 rfl] at h8
            exact eQ_bg h8 (by omega)
        · skip
          refine jt_iconst d_GM_expr_35 ?_
          refine jt_goto (t := 40) d_GM_expr_36 rfl ?_
          refine jt_istore_n (L' := [(0, .ref m), (1, .int (jI f)), (2, .int (jI (I 13))), (3, .int (jI 1))]) d_GM_expr_40 (Nat.le_of_ble_eq_true rfl) rfl ?_
          refine jt_goto (t := 17) d_GM_expr_41 rfl ?_
          refine ih 1 (t - 1) Iq207 Aq207 hpq207 (by omega) (by omega) (fun z5 => ?_) (fun z5 => ?_) (by omega) ?_ (fun z hz => (hxq207.2.1 z hz).trans (hlo z hz)) (by omega)
          · have z5 : Iq207 5 = 0 := z5
            have k1 := hxq207.1 z5
            have k3 := k1.1
            have k0 := k1.2.2 (by omega)
            clear k1 hxq207
            obtain ⟨k4, k5, u, k6, k7⟩ := k0
            show I 5 = 0 ∧ I 13 = 0 ∧ 0 ≤ Iq207 13 ∧ Iq207 13 ≤ Iq207 4 ∧ I 4 ≤ Iq207 4 ∧ gSt (Aq207 36) (Iq207 13) ∧ gBr (Aq207 36) (Iq207 13) = Iq207 14 ∧ Iq207 9 = gC (Aq207 36) (Iq207 13) + (1 - 1) ∧ (1 = 0 → I 4 < Iq207 4)
            rw [k5, k6]
            have c1 := gC_s (ju (B 36) (J 13) u) (J 13) x0
            have c2 := gB_s (ju (B 36) (J 13) u) (J 13) x0
            rw [ju_self, gC_ju _ _ _ _ x0 (Int.le_refl _)] at c1
            rw [ju_self, gB_ju _ _ _ _ x0 (Int.le_refl _)] at c2
            exact ⟨x5, x13, by omega, by omega, by omega, gSt_ju xs x0 (fun z => by omega), by omega, by omega, fun z => by omega⟩
          · have z5 : Iq207 5 = 0 := z5
            show 301 - Iq207 4 ≤ t - 1
            have k1 := (hxq207.1 z5).1
            omega
          · skip
            have h8 := hxq207.2.2
            rw [show J 1 = I 1 from f1, hJ.2.2.2 22 rfl, hJ.2.2.2 23 rfl] at h8
            exact eQ_bg h8 (by omega)
set_option maxRecDepth 100000 in
set_option maxHeartbeats 8000000 in
theorem y_GM_expr (G : jG) (d m : Nat) (f : Int) (I : Nat → Int) (A : Nat → Int → Int) (hT : gT I A) (hI : gSI I) (hA : gSA A) (fa : 0 ≤ f) (fb : f < 300) (he : I 5 = 0 → I 13 = 0) (hz5 : I 5 = 0) (V9 : Int → Int → Int) (hV : gVr V9 A) (g0 : Prop) (r : ER) (hR : I 5 = 0 → RE (I 1) (A 22) (A 23) V9 (.op (I 4) [] g0) r) (hg0 : I 15 = 0 ↔ g0) : gct G Y_GM_expr (d + 4) m [.int (jI f)] I A (fun (rv : Option Value) (I2 : Nat → Int) (A2 : Nat → Int → Int) => rv = none ∧ gPo [4, 5, 6, 9, 13, 14, 15] [35, 36, 37, 38] I A I2 A2 ∧ (I2 5 = 0 → I 5 = 0 ∧ I 4 < I2 4 ∧ I2 13 = I 13) ∧ exQ r f I2 A2 ∧ (∀ z, z < 3900 → ¬ (f * 13 ≤ z ∧ z < f * 13 + 13) → A2 35 z = A 35 z)) := by
  refine gct_of (by decide) (Nat.le_of_ble_eq_true rfl) (fun f0 sz => ?_)
  show jt _ 0 [(0, .ref m), (1, .int (jI f))] [] _ _ _ _
  have r4 : 0 ≤ I 4 ∧ I 4 ≤ 300 := hI 4
  have r13 : 0 ≤ I 13 ∧ I 13 ≤ 320 := hI 13
  have hz0 : gPo [4, 5, 6, 9, 13, 14, 15] [35, 36, 37, 38] I A I A := gPo.refl hI hA
  have t0 := hT.1
  have t1 := hT.2.1
  refine jt_aload_n d_GM_expr_0 rfl ?_
  refine gm_gI (k := 13) (v := I 13) d_GM_expr_1 GM_f49 (by decide) rfl ?_
  have rb1 : 0 ≤ I 13 ∧ I 13 ≤ 320 := hz0.1 13
  refine jt_istore_n (L' := [(0, .ref m), (1, .int (jI f)), (2, .int (jI (I 13)))]) d_GM_expr_4 (Nat.le_of_ble_eq_true rfl) rfl ?_
  refine jt_iconst d_GM_expr_5 ?_
  refine jt_istore_n (L' := [(0, .ref m), (1, .int (jI f)), (2, .int (jI (I 13))), (3, .int (jI 1))]) d_GM_expr_6 (Nat.le_of_ble_eq_true rfl) rfl ?_
  refine jt_aload_n d_GM_expr_7 rfl ?_
  refine jt_iconst d_GM_expr_8 ?_
  refine gm_pI (k := 14) (v := 0) (J := va_up I 14 0) d_GM_expr_9 (GM_w52 _ rfl) (by decide) rfl rfl rfl ?_
  have p2 := gPo.I 14 0 hz0 rfl (show 0 ≤ 0 ∧ 0 ≤ 8 by omega)
  refine jt_aload_n d_GM_expr_12 rfl ?_
  refine jt_iconst d_GM_expr_13 ?_
  refine gm_pI (k := 9) (v := 0) (J := va_up (va_up I 14 0) 9 0) d_GM_expr_14 (GM_w37 _ rfl) (by decide) rfl rfl rfl ?_
  have p3 := gPo.I 9 0 p2 rfl (show 0 ≤ 0 ∧ 0 ≤ 100 by omega)
  exact l17_GM_expry G d m f I A hT hI hA fa fb he hz5 V9 hV g0 r hR hg0 f0 sz  302 1 301 (va_up (va_up I 14 0) 9 0) A p3 (by omega) (by omega) (fun z => ⟨z, he z, by have := he z; show 0 ≤ I 13; omega, by have := he z; show I 13 ≤ I 4; omega, Int.le_refl _, fun t a b c => by have := he z; have b : t < I 13 := b; omega, by have := he z; show gBr (A 36) (I 13) = 0; rw [this]; rfl, by have := he z; show 0 = gC (A 36) (I 13) + (1 - 1); rw [this]; rfl, fun z2 => by omega⟩) (fun z => by show 301 - I 4 ≤ 301; omega) (by omega) ⟨fun z => ⟨fun _ => ⟨[], g0, hR z, he z, rfl, rfl, hg0, trivial⟩, fun z2 => absurd z2 (by omega)⟩, fun z => absurd hz5 z⟩ (fun _ _ => rfl) (by omega)

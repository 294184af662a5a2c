set_option maxRecDepth 100000 in
set_option maxHeartbeats 1000000 in
theorem w_GM_begin (G : jG) (d m : Nat)  (I : Nat → Int) (A : Nat → Int → Int) (hT : gT I A) (hI : gSI I) (hA : gSA A) (he : I 5 = 0) (h13 : I 13 < 320) (h9 : I 9 < 95) : gct G Y_GM_begin (d + 3) m [] I A (fun (rv : Option Value) (I2 : Nat → Int) (A2 : Nat → Int → Int) => ∃ y : Int, rv = some (.int (jI y)) ∧ (0 ≤ y ∧ y ≤ 1) ∧ gPo [4, 5, 6, 9, 13, 14] [35, 36, 37, 38] I A I2 A2 ∧ (I2 5 = 0 → I 4 < I2 4 ∧ (y = 1 → I2 13 = I 13 ∧ A2 36 = A 36 ∧ I2 9 = I 9 + 1 ∧ I2 14 = I 14) ∧ (y = 0 → I2 9 = I 9 ∧ I2 13 = I 13 + 1 ∧ ∃ w : Int, A2 36 = ju (A 36) (I 13) w ∧ ((w = 0 ∨ w = 5) ∧ I2 14 = I 14 + 1 ∨ (w = 3 ∨ w = 4) ∧ I2 14 = I 14)))) := by
  refine gct_of (by decide) (Nat.le_of_ble_eq_true rfl) (fun f0 sz => ?_)
  show jt _ 0 [(0, .ref m)] [] _ _ _ _
  have r5 : -13 ≤ I 5 ∧ I 5 ≤ 0 := hI 5
  have r4 : 0 ≤ I 4 ∧ I 4 ≤ 300 := hI 4
  have r9 : 0 ≤ I 9 ∧ I 9 ≤ 100 := hI 9
  have r13 : 0 ≤ I 13 ∧ I 13 ≤ 320 := hI 13
  have r14 : 0 ≤ I 14 ∧ I 14 ≤ 8 := hI 14
  have hz0 : gPo [4, 5, 6, 9, 13, 14] [35, 36, 37, 38] I A I A := gPo.refl hI hA
  have t0 := hT.1
  have t1 := hT.2.1
  refine jt_aload_n d_GM_begin_0 rfl ?_
  refine gm_gI (k := 5) (v := I 5) d_GM_begin_1 GM_f25 (by decide) rfl ?_
  have rb1 : -13 ≤ I 5 ∧ I 5 ≤ 0 := hz0.1 5
  refine jt_if_eq (t := 9) d_GM_begin_4 rfl (by unfold jRi; omega) (fun c2 => ?_) (fun c2 => ?_)
  · skip
    refine jt_aload_n d_GM_begin_9 rfl ?_
    refine jt_iconst d_GM_begin_10 ?_
    refine gct_call (Y := Y_GM_word) (As := [.int (jI 1)]) (rest := []) d_GM_begin_11 GM_c201 yk_GM_word yv_GM_word rfl (Nat.le_of_ble_eq_true rfl) rfl rfl (Nat.le_of_ble_eq_true rfl) (c_GM_word G _ m 1 I A (gP_of hz0.1 (gT_of hz0 hT rfl rfl rfl)) (by unfold jRi; omega)) (fun rvq3 Iq3 Aq3 hq3 => ?_)
    obtain ⟨haq3, hbq3, hIq3, hAq3⟩ := hq3
    rw [hIq3, hAq3]
    by_cases gq3 : (I 4) < I 1 ∧ A 22 (I 4) = 4 ∧ A 23 (I 4) = 1
    · skip
      obtain rfl := haq3 gq3
      have tq3 : I 1 ≤ 300 := (gT_of hz0 hT rfl rfl rfl).2.1
      clear haq3 hbq3 hIq3 hAq3
      show jt _ 14 [(0, .ref m)] [.int (jI 1)] (gmf m f0 I A) _ _ _
      refine jt_if_eq (t := 34) d_GM_begin_14 rfl (by unfold jRi; omega) (fun c4 => ?_) (fun c4 => ?_)
      · skip
        exfalso
        omega
      · skip
        refine jt_aload_n d_GM_begin_17 rfl ?_
        refine jt_iconst d_GM_begin_18 ?_
        have xb5 : 0 ≤ I 13 ∧ I 13 ≤ 320 := hz0.1 13
        have xb6 : 0 ≤ I 9 ∧ I 9 ≤ 100 := hz0.1 9
        refine gct_call (Y := Y_GM_push) (As := [.int (jI 3)]) (rest := []) d_GM_begin_19 GM_c208 yk_GM_push yv_GM_push rfl (Nat.le_of_ble_eq_true rfl) rfl rfl (Nat.le_of_ble_eq_true rfl) (c_GM_push G _ m 3 I A (show 0 ≤ I 13 by omega) (show I 13 < 320 by omega)) (fun rvq7 Iq7 Aq7 hq7 => ?_)
        obtain ⟨rfl, hIq7, hAq7⟩ := hq7
        rw [hIq7, hAq7]
        have rb8 : 0 ≤ I 9 ∧ I 9 ≤ 100 := hz0.1 9
        have p9 := gPo.I 13 ((I 13) + 1) hz0 rfl (show 0 ≤ (I 13) + 1 ∧ (I 13) + 1 ≤ 320 by omega)
        have p10 := gPo.A 36 (ju (A 36) (I 13) 3) p9 rfl (gju (p9.2.1 36) (show 0 ≤ 3 ∧ 3 ≤ 6 by omega))
        have p11 := gPo.A 37 (ju (A 37) (I 13) (I 9)) p10 rfl (gju (p10.2.1 37) (show -2147483648 ≤ I 9 ∧ I 9 ≤ 2147483647 by omega))
        show jt _ 22 [(0, .ref m)] [] (gmf m f0 (va_up I 13 ((I 13) + 1)) (va_up (va_up A 36 (ju (A 36) (I 13) 3)) 37 (ju (A 37) (I 13) (I 9)))) _ _ _
        refine jt_aload_n d_GM_begin_22 rfl ?_
        refine jt_dup d_GM_begin_23 rfl ?_
        refine gm_gI (k := 4) (v := I 4) d_GM_begin_24 GM_f22 (by decide) rfl ?_
        have rb12 : 0 ≤ I 4 ∧ I 4 ≤ 300 := p11.1 4
        refine jt_iconst d_GM_begin_27 ?_
        refine jt_iadd d_GM_begin_28 ?_
        refine jt_topi (fun v13 ev13 => ?_)
        refine gm_pI (k := 4) (v := v13) (J := va_up (va_up I 13 ((I 13) + 1)) 4 v13) d_GM_begin_29 (GM_w22 _ rfl) (by decide) rfl rfl rfl ?_
        have p14 := gPo.I 4 v13 p11 rfl (show 0 ≤ v13 ∧ v13 ≤ 300 by omega)
        refine jt_iconst d_GM_begin_32 ?_
        exact gm_ret d_GM_begin_33 rfl (jnz (by omega)) (⟨0, rfl, by omega, p14, fun z => ⟨(show I 4 < v13 by omega), fun z2 => absurd z2 (by omega), fun _ => ⟨show I 9 = I 9 by omega, show (I 13) + 1 = I 13 + 1 by omega, 3, rfl, show ((3 : Int) = 0 ∨ (3 : Int) = 5) ∧ I 14 = I 14 + 1 ∨ ((3 : Int) = 3 ∨ (3 : Int) = 4) ∧ I 14 = I 14 by omega⟩⟩⟩)
    · skip
      obtain rfl := hbq3 gq3
      clear haq3 hbq3 hIq3 hAq3
      clear gq3
      show jt _ 14 [(0, .ref m)] [.int (jI 0)] (gmf m f0 I A) _ _ _
      refine jt_if_eq (t := 34) d_GM_begin_14 rfl (by unfold jRi; omega) (fun c15 => ?_) (fun c15 => ?_)
      · skip
        refine jt_aload_n d_GM_begin_34 rfl ?_
        refine gm_gI (k := 4) (v := I 4) d_GM_begin_35 GM_f22 (by decide) rfl ?_
        have rb16 : 0 ≤ I 4 ∧ I 4 ≤ 300 := hz0.1 4
        refine jt_aload_n d_GM_begin_38 rfl ?_
        refine gm_gI (k := 1) (v := I 1) d_GM_begin_39 GM_f13 (by decide) rfl ?_
        have rb17 : -2147483648 ≤ I 1 ∧ I 1 ≤ 2147483647 := hz0.1 1
        refine jt_icmp_ge (t := 219) d_GM_begin_42 rfl (by unfold jRi; omega) (by unfold jRi; omega) (fun c18 => ?_) (fun c18 => ?_)
        · skip
          refine jt_aload_n d_GM_begin_219 rfl ?_
          refine gm_gI (k := 4) (v := I 4) d_GM_begin_220 GM_f22 (by decide) rfl ?_
          refine jt_aload_n d_GM_begin_223 rfl ?_
          refine gm_gI (k := 1) (v := I 1) d_GM_begin_224 GM_f13 (by decide) rfl ?_
          refine jt_icmp_ge (t := 286) d_GM_begin_227 rfl (by unfold jRi; omega) (by unfold jRi; omega) (fun c19 => ?_) (fun c19 => ?_)
          · skip
            refine jt_aload_n d_GM_begin_286 rfl ?_
            refine jt_iconst d_GM_begin_287 ?_
            refine gct_call (Y := Y_GM_word) (As := [.int (jI 3)]) (rest := []) d_GM_begin_288 GM_c201 yk_GM_word yv_GM_word rfl (Nat.le_of_ble_eq_true rfl) rfl rfl (Nat.le_of_ble_eq_true rfl) (c_GM_word G _ m 3 I A (gP_of hz0.1 (gT_of hz0 hT rfl rfl rfl)) (by unfold jRi; omega)) (fun rvq20 Iq20 Aq20 hq20 => ?_)
            obtain ⟨haq20, hbq20, hIq20, hAq20⟩ := hq20
            rw [hIq20, hAq20]
            by_cases gq20 : (I 4) < I 1 ∧ A 22 (I 4) = 4 ∧ A 23 (I 4) = 3
            · skip
              obtain rfl := haq20 gq20
              have tq20 : I 1 ≤ 300 := (gT_of hz0 hT rfl rfl rfl).2.1
              clear haq20 hbq20 hIq20 hAq20
              show jt _ 291 [(0, .ref m)] [.int (jI 1)] (gmf m f0 I A) _ _ _
              refine jt_if_ne (t := 300) d_GM_begin_291 rfl (by unfold jRi; omega) (fun c21 => ?_) (fun c21 => ?_)
              · skip
                refine jt_aload_n d_GM_begin_300 rfl ?_
                refine gct_call (Y := Y_GM_openBracket) (As := []) (rest := []) d_GM_begin_301 GM_c213 yk_GM_openBracket yv_GM_openBracket rfl (Nat.le_of_ble_eq_true rfl) rfl rfl (Nat.le_of_ble_eq_true rfl) (w_GM_openBracket G _ m  I A (gT_of hz0 hT rfl rfl rfl) hz0.1 hz0.2.1 ) (fun rvq22 Iq22 Aq22 hq22 => ?_)
                obtain ⟨rfl, hqq22, hxq22⟩ := hq22
                have hpq22 := gPo.trans hz0 hqq22 rfl rfl
                have f1q22 : Iq22 1 = I 1 := hpq22.2.2.1 1 rfl
                have m9q22 : Iq22 9 = I 9 := hqq22.2.2.1 9 rfl
                have m13q22 : Iq22 13 = I 13 := hqq22.2.2.1 13 rfl
                have a36q22 : Aq22 36 = A 36 := hqq22.2.2.2 36 rfl
                show jt _ 304 [(0, .ref m)] [] (gmf m f0 Iq22 Aq22) _ _ _
                refine jt_aload_n d_GM_begin_304 rfl ?_
                refine jt_iconst d_GM_begin_305 ?_
                have xb23 : 0 ≤ Iq22 13 ∧ Iq22 13 ≤ 320 := hpq22.1 13
                have xb24 : 0 ≤ Iq22 9 ∧ Iq22 9 ≤ 100 := hpq22.1 9
                refine gct_call (Y := Y_GM_push) (As := [.int (jI 0)]) (rest := []) d_GM_begin_306 GM_c208 yk_GM_push yv_GM_push rfl (Nat.le_of_ble_eq_true rfl) rfl rfl (Nat.le_of_ble_eq_true rfl) (c_GM_push G _ m 0 Iq22 Aq22 (show 0 ≤ Iq22 13 by omega) (show Iq22 13 < 320 by omega)) (fun rvq25 Iq25 Aq25 hq25 => ?_)
                obtain ⟨rfl, hIq25, hAq25⟩ := hq25
                rw [hIq25, hAq25]
                have rb26 : 0 ≤ Iq22 9 ∧ Iq22 9 ≤ 100 := hpq22.1 9
                have p27 := gPo.I 13 ((Iq22 13) + 1) hpq22 rfl (show 0 ≤ (Iq22 13) + 1 ∧ (Iq22 13) + 1 ≤ 320 by omega)
                have p28 := gPo.A 36 (ju (Aq22 36) (Iq22 13) 0) p27 rfl (gju (p27.2.1 36) (show 0 ≤ 0 ∧ 0 ≤ 6 by omega))
                have p29 := gPo.A 37 (ju (Aq22 37) (Iq22 13) (Iq22 9)) p28 rfl (gju (p28.2.1 37) (show -2147483648 ≤ Iq22 9 ∧ Iq22 9 ≤ 2147483647 by omega))
                show jt _ 309 [(0, .ref m)] [] (gmf m f0 (va_up Iq22 13 ((Iq22 13) + 1)) (va_up (va_up Aq22 36 (ju (Aq22 36) (Iq22 13) 0)) 37 (ju (Aq22 37) (Iq22 13) (Iq22 9)))) _ _ _
                refine jt_iconst d_GM_begin_309 ?_
                exact gm_ret d_GM_begin_310 rfl (jnz (by omega)) (⟨0, rfl, by omega, p29, fun z => by have z3 := hxq22 z; exact ⟨(show I 4 < Iq22 4 by omega), fun z2 => absurd z2 (by omega), fun _ => ⟨show Iq22 9 = I 9 by omega, show (Iq22 13) + 1 = I 13 + 1 by omega, 0, (by show ju (Aq22 36) (Iq22 13) 0 = ju (A 36) (I 13) 0; rw [a36q22, m13q22]), show ((0 : Int) = 0 ∨ (0 : Int) = 5) ∧ Iq22 14 = I 14 + 1 ∨ ((0 : Int) = 3 ∨ (0 : Int) = 4) ∧ Iq22 14 = I 14 by omega⟩⟩⟩)
              · skip
                exfalso
                omega
            · skip
              obtain rfl := hbq20 gq20
              clear haq20 hbq20 hIq20 hAq20
              clear gq20
              show jt _ 291 [(0, .ref m)] [.int (jI 0)] (gmf m f0 I A) _ _ _
              refine jt_if_ne (t := 300) d_GM_begin_291 rfl (by unfold jRi; omega) (fun c30 => ?_) (fun c30 => ?_)
              · skip
                exfalso
                omega
              · skip
                refine jt_aload_n d_GM_begin_294 rfl ?_
                refine gct_call (Y := Y_GM_syntax) (As := []) (rest := []) d_GM_begin_295 GM_c205 yk_GM_syntax yv_GM_syntax rfl (Nat.le_of_ble_eq_true rfl) rfl rfl (Nat.le_of_ble_eq_true rfl) (w_GM_syntax G _ m  I A hz0.1 hz0.2.1 ) (fun rvq31 Iq31 Aq31 hq31 => ?_)
                obtain ⟨rfl, hqq31, hxq31⟩ := hq31
                have hpq31 := gPo.trans hz0 hqq31 rfl rfl
                have f1q31 : Iq31 1 = I 1 := hpq31.2.2.1 1 rfl
                have m4q31 : Iq31 4 = I 4 := hqq31.2.2.1 4 rfl
                have m9q31 : Iq31 9 = I 9 := hqq31.2.2.1 9 rfl
                have m13q31 : Iq31 13 = I 13 := hqq31.2.2.1 13 rfl
                have m14q31 : Iq31 14 = I 14 := hqq31.2.2.1 14 rfl
                have a36q31 : Aq31 36 = A 36 := hqq31.2.2.2 36 rfl
                show jt _ 298 [(0, .ref m)] [] (gmf m f0 Iq31 Aq31) _ _ _
                refine jt_iconst d_GM_begin_298 ?_
                exact gm_ret d_GM_begin_299 rfl (jnz (by omega)) (⟨0, rfl, by omega, hpq31, fun z => absurd z hxq31⟩)
          · skip
            refine jt_aload_n d_GM_begin_230 rfl ?_
            refine gm_gA (k := 22) (a := m + 7) d_GM_begin_231 GM_f78 (by decide) (by decide) rfl ?_
            refine jt_aload_n d_GM_begin_234 rfl ?_
            refine gm_gI (k := 4) (v := I 4) d_GM_begin_235 GM_f22 (by decide) rfl ?_
            refine gm_ld0 (k := 22) (n := 700) (v := (A 22) (I 4)) d_GM_begin_238 rfl (by decide) (by decide) rfl rfl (by omega) (by omega) (by omega) rfl ?_
            refine jt_topi (fun v32 ev32 => ?_)
            have bv32 : (-2147483648) ≤ v32 ∧ v32 ≤ 2147483647 := by rw [ev32]; exact hz0.2.1 22 (I 4)
            refine jt_iconst d_GM_begin_239 ?_
            refine jt_icmp_ne (t := 286) d_GM_begin_240 rfl (by unfold jRi; omega) (by unfold jRi; omega) (fun c33 => ?_) (fun c33 => ?_)
            · skip
              refine jt_aload_n d_GM_begin_286 rfl ?_
              refine jt_iconst d_GM_begin_287 ?_
              refine gct_call (Y := Y_GM_word) (As := [.int (jI 3)]) (rest := []) d_GM_begin_288 GM_c201 yk_GM_word yv_GM_word rfl (Nat.le_of_ble_eq_true rfl) rfl rfl (Nat.le_of_ble_eq_true rfl) (c_GM_word G _ m 3 I A (gP_of hz0.1 (gT_of hz0 hT rfl rfl rfl)) (by unfold jRi; omega)) (fun rvq34 Iq34 Aq34 hq34 => ?_)
              obtain ⟨haq34, hbq34, hIq34, hAq34⟩ := hq34
              rw [hIq34, hAq34]
              by_cases gq34 : (I 4) < I 1 ∧ A 22 (I 4) = 4 ∧ A 23 (I 4) = 3
              · skip
                obtain rfl := haq34 gq34
                have tq34 : I 1 ≤ 300 := (gT_of hz0 hT rfl rfl rfl).2.1
                clear haq34 hbq34 hIq34 hAq34
                show jt _ 291 [(0, .ref m)] [.int (jI 1)] (gmf m f0 I A) _ _ _
                refine jt_if_ne (t := 300) d_GM_begin_291 rfl (by unfold jRi; omega) (fun c35 => ?_) (fun c35 => ?_)
                · skip
                  refine jt_aload_n d_GM_begin_300 rfl ?_
                  refine gct_call (Y := Y_GM_openBracket) (As := []) (rest := []) d_GM_begin_301 GM_c213 yk_GM_openBracket yv_GM_openBracket rfl (Nat.le_of_ble_eq_true rfl) rfl rfl (Nat.le_of_ble_eq_true rfl) (w_GM_openBracket G _ m  I A (gT_of hz0 hT rfl rfl rfl) hz0.1 hz0.2.1 ) (fun rvq36 Iq36 Aq36 hq36 => ?_)
                  obtain ⟨rfl, hqq36, hxq36⟩ := hq36
                  have hpq36 := gPo.trans hz0 hqq36 rfl rfl
                  have f1q36 : Iq36 1 = I 1 := hpq36.2.2.1 1 rfl
                  have m9q36 : Iq36 9 = I 9 := hqq36.2.2.1 9 rfl
                  have m13q36 : Iq36 13 = I 13 := hqq36.2.2.1 13 rfl
                  have a36q36 : Aq36 36 = A 36 := hqq36.2.2.2 36 rfl
                  show jt _ 304 [(0, .ref m)] [] (gmf m f0 Iq36 Aq36) _ _ _
                  refine jt_aload_n d_GM_begin_304 rfl ?_
                  refine jt_iconst d_GM_begin_305 ?_
                  have xb37 : 0 ≤ Iq36 13 ∧ Iq36 13 ≤ 320 := hpq36.1 13
                  have xb38 : 0 ≤ Iq36 9 ∧ Iq36 9 ≤ 100 := hpq36.1 9
                  refine gct_call (Y := Y_GM_push) (As := [.int (jI 0)]) (rest := []) d_GM_begin_306 GM_c208 yk_GM_push yv_GM_push rfl (Nat.le_of_ble_eq_true rfl) rfl rfl (Nat.le_of_ble_eq_true rfl) (c_GM_push G _ m 0 Iq36 Aq36 (show 0 ≤ Iq36 13 by omega) (show Iq36 13 < 320 by omega)) (fun rvq39 Iq39 Aq39 hq39 => ?_)
                  obtain ⟨rfl, hIq39, hAq39⟩ := hq39
                  rw [hIq39, hAq39]
                  have rb40 : 0 ≤ Iq36 9 ∧ Iq36 9 ≤ 100 := hpq36.1 9
                  have p41 := gPo.I 13 ((Iq36 13) + 1) hpq36 rfl (show 0 ≤ (Iq36 13) + 1 ∧ (Iq36 13) + 1 ≤ 320 by omega)
                  have p42 := gPo.A 36 (ju (Aq36 36) (Iq36 13) 0) p41 rfl (gju (p41.2.1 36) (show 0 ≤ 0 ∧ 0 ≤ 6 by omega))
                  have p43 := gPo.A 37 (ju (Aq36 37) (Iq36 13) (Iq36 9)) p42 rfl (gju (p42.2.1 37) (show -2147483648 ≤ Iq36 9 ∧ Iq36 9 ≤ 2147483647 by omega))
                  show jt _ 309 [(0, .ref m)] [] (gmf m f0 (va_up Iq36 13 ((Iq36 13) + 1)) (va_up (va_up Aq36 36 (ju (Aq36 36) (Iq36 13) 0)) 37 (ju (Aq36 37) (Iq36 13) (Iq36 9)))) _ _ _
                  refine jt_iconst d_GM_begin_309 ?_
                  exact gm_ret d_GM_begin_310 rfl (jnz (by omega)) (⟨0, rfl, by omega, p43, fun z => by have z3 := hxq36 z; exact ⟨(show I 4 < Iq36 4 by omega), fun z2 => absurd z2 (by omega), fun _ => ⟨show Iq36 9 = I 9 by omega, show (Iq36 13) + 1 = I 13 + 1 by omega, 0, (by show ju (Aq36 36) (Iq36 13) 0 = ju (A 36) (I 13) 0; rw [a36q36, m13q36]), show ((0 : Int) = 0 ∨ (0 : Int) = 5) ∧ Iq36 14 = I 14 + 1 ∨ ((0 : Int) = 3 ∨ (0 : Int) = 4) ∧ Iq36 14 = I 14 by omega⟩⟩⟩)
                · skip
                  exfalso
                  omega
              · skip
                obtain rfl := hbq34 gq34
                clear haq34 hbq34 hIq34 hAq34
                clear gq34
                show jt _ 291 [(0, .ref m)] [.int (jI 0)] (gmf m f0 I A) _ _ _
                refine jt_if_ne (t := 300) d_GM_begin_291 rfl (by unfold jRi; omega) (fun c44 => ?_) (fun c44 => ?_)
                · skip
                  exfalso
                  omega
                · skip
                  refine jt_aload_n d_GM_begin_294 rfl ?_
                  refine gct_call (Y := Y_GM_syntax) (As := []) (rest := []) d_GM_begin_295 GM_c205 yk_GM_syntax yv_GM_syntax rfl (Nat.le_of_ble_eq_true rfl) rfl rfl (Nat.le_of_ble_eq_true rfl) (w_GM_syntax G _ m  I A hz0.1 hz0.2.1 ) (fun rvq45 Iq45 Aq45 hq45 => ?_)
                  obtain ⟨rfl, hqq45, hxq45⟩ := hq45
                  have hpq45 := gPo.trans hz0 hqq45 rfl rfl
                  have f1q45 : Iq45 1 = I 1 := hpq45.2.2.1 1 rfl
                  have m4q45 : Iq45 4 = I 4 := hqq45.2.2.1 4 rfl
                  have m9q45 : Iq45 9 = I 9 := hqq45.2.2.1 9 rfl
                  have m13q45 : Iq45 13 = I 13 := hqq45.2.2.1 13 rfl
                  have m14q45 : Iq45 14 = I 14 := hqq45.2.2.1 14 rfl
                  have a36q45 : Aq45 36 = A 36 := hqq45.2.2.2 36 rfl
                  show jt _ 298 [(0, .ref m)] [] (gmf m f0 Iq45 Aq45) _ _ _
                  refine jt_iconst d_GM_begin_298 ?_
                  exact gm_ret d_GM_begin_299 rfl (jnz (by omega)) (⟨0, rfl, by omega, hpq45, fun z => absurd z hxq45⟩)
            · skip
              have k46 : 0 ≤ A 23 (I 4) ∧ A 23 (I 4) ≤ 11 := by have q9 : gtok (A 22 (I 4)) (A 23 (I 4)) := (gT_of hz0 hT rfl rfl rfl).2.2 (I 4) (by omega) (by omega); unfold gtok at q9; omega
              refine jt_aload_n d_GM_begin_243 rfl ?_
              refine jt_sipush d_GM_begin_244 (by omega) ?_
              refine jt_aload_n d_GM_begin_247 rfl ?_
              refine gm_gI (k := 9) (v := I 9) d_GM_begin_248 GM_f37 (by decide) rfl ?_
              have rb47 : 0 ≤ I 9 ∧ I 9 ≤ 100 := hz0.1 9
              refine jt_iadd d_GM_begin_251 ?_
              refine jt_aload_n d_GM_begin_252 rfl ?_
              refine gm_gA (k := 23) (a := m + 8) d_GM_begin_253 GM_f81 (by decide) (by decide) rfl ?_
              refine jt_aload_n d_GM_begin_256 rfl ?_
              refine gm_gI (k := 4) (v := I 4) d_GM_begin_257 GM_f22 (by decide) rfl ?_
              refine gm_ld0 (k := 23) (n := 700) (v := (A 23) (I 4)) d_GM_begin_260 rfl (by decide) (by decide) rfl rfl (by omega) (by omega) (by omega) rfl ?_
              refine jt_topi (fun v48 ev48 => ?_)
              have bv48 : (-2147483648) ≤ v48 ∧ v48 ≤ 2147483647 := by rw [ev48]; exact hz0.2.1 23 (I 4)
              refine gct_call (Y := Y_GM_loadVariable) (As := [.int (jI (300 + (I 9))), .int (jI v48)]) (rest := []) d_GM_begin_261 GM_c216 yk_GM_loadVariable yv_GM_loadVariable rfl (Nat.le_of_ble_eq_true rfl) rfl rfl (Nat.le_of_ble_eq_true rfl) (w_GM_loadVariable G _ m (300 + (I 9)) v48 I A hz0.1 hz0.2.1 (by omega) (by omega) (by omega) (by omega)) (fun rvq49 Iq49 Aq49 hq49 => ?_)
              obtain ⟨rfl, hqq49⟩ := hq49
              have hpq49 := gPo.trans hz0 hqq49 rfl rfl
              have f1q49 : Iq49 1 = I 1 := hpq49.2.2.1 1 rfl
              have m4q49 : Iq49 4 = I 4 := hqq49.2.2.1 4 rfl
              have m9q49 : Iq49 9 = I 9 := hqq49.2.2.1 9 rfl
              have m13q49 : Iq49 13 = I 13 := hqq49.2.2.1 13 rfl
              have m14q49 : Iq49 14 = I 14 := hqq49.2.2.1 14 rfl
              have a36q49 : Aq49 36 = A 36 := hqq49.2.2.2 36 rfl
              show jt _ 264 [(0, .ref m)] [] (gmf m f0 Iq49 Aq49) _ _ _
              refine jt_aload_n d_GM_begin_264 rfl ?_
              refine jt_dup d_GM_begin_265 rfl ?_
              refine gm_gI (k := 9) (v := Iq49 9) d_GM_begin_266 GM_f37 (by decide) rfl ?_
              have rb50 : 0 ≤ Iq49 9 ∧ Iq49 9 ≤ 100 := hpq49.1 9
              refine jt_iconst d_GM_begin_269 ?_
              refine jt_iadd d_GM_begin_270 ?_
              refine jt_topi (fun v51 ev51 => ?_)
              refine gm_pI (k := 9) (v := v51) (J := va_up Iq49 9 v51) d_GM_begin_271 (GM_w37 _ rfl) (by decide) rfl rfl rfl ?_
              have p52 := gPo.I 9 v51 hpq49 rfl (show 0 ≤ v51 ∧ v51 ≤ 100 by omega)
              refine jt_aload_n d_GM_begin_274 rfl ?_
              refine jt_dup d_GM_begin_275 rfl ?_
              refine gm_gI (k := 4) (v := Iq49 4) d_GM_begin_276 GM_f22 (by decide) rfl ?_
              have rb53 : 0 ≤ Iq49 4 ∧ Iq49 4 ≤ 300 := p52.1 4
              refine jt_iconst d_GM_begin_279 ?_
              refine jt_iadd d_GM_begin_280 ?_
              refine jt_topi (fun v54 ev54 => ?_)
              refine gm_pI (k := 4) (v := v54) (J := va_up (va_up Iq49 9 v51) 4 v54) d_GM_begin_281 (GM_w22 _ rfl) (by decide) rfl rfl rfl ?_
              have p55 := gPo.I 4 v54 p52 rfl (show 0 ≤ v54 ∧ v54 ≤ 300 by omega)
              refine jt_iconst d_GM_begin_284 ?_
              exact gm_ret d_GM_begin_285 rfl (jnz (by omega)) (⟨1, rfl, by omega, p55, fun z => ⟨(show I 4 < v54 by omega), fun _ => ⟨show Iq49 13 = I 13 by omega, a36q49, show v51 = I 9 + 1 by omega, show Iq49 14 = I 14 by omega⟩, fun z2 => absurd z2 (by omega)⟩⟩)
        · skip
          refine jt_aload_n d_GM_begin_45 rfl ?_
          refine gm_gA (k := 22) (a := m + 7) d_GM_begin_46 GM_f78 (by decide) (by decide) rfl ?_
          refine jt_aload_n d_GM_begin_49 rfl ?_
          refine gm_gI (k := 4) (v := I 4) d_GM_begin_50 GM_f22 (by decide) rfl ?_
          refine gm_ld0 (k := 22) (n := 700) (v := (A 22) (I 4)) d_GM_begin_53 rfl (by decide) (by decide) rfl rfl (by omega) (by omega) (by omega) rfl ?_
          refine jt_topi (fun v56 ev56 => ?_)
          have bv56 : (-2147483648) ≤ v56 ∧ v56 ≤ 2147483647 := by rw [ev56]; exact hz0.2.1 22 (I 4)
          refine jt_if_ne (t := 219) d_GM_begin_54 rfl (by unfold jRi; omega) (fun c57 => ?_) (fun c57 => ?_)
          · skip
            refine jt_aload_n d_GM_begin_219 rfl ?_
            refine gm_gI (k := 4) (v := I 4) d_GM_begin_220 GM_f22 (by decide) rfl ?_
            refine jt_aload_n d_GM_begin_223 rfl ?_
            refine gm_gI (k := 1) (v := I 1) d_GM_begin_224 GM_f13 (by decide) rfl ?_
            refine jt_icmp_ge (t := 286) d_GM_begin_227 rfl (by unfold jRi; omega) (by unfold jRi; omega) (fun c58 => ?_) (fun c58 => ?_)
            · skip
              refine jt_aload_n d_GM_begin_286 rfl ?_
              refine jt_iconst d_GM_begin_287 ?_
              refine gct_call (Y := Y_GM_word) (As := [.int (jI 3)]) (rest := []) d_GM_begin_288 GM_c201 yk_GM_word yv_GM_word rfl (Nat.le_of_ble_eq_true rfl) rfl rfl (Nat.le_of_ble_eq_true rfl) (c_GM_word G _ m 3 I A (gP_of hz0.1 (gT_of hz0 hT rfl rfl rfl)) (by unfold jRi; omega)) (fun rvq59 Iq59 Aq59 hq59 => ?_)
              obtain ⟨haq59, hbq59, hIq59, hAq59⟩ := hq59
              rw [hIq59, hAq59]
              by_cases gq59 : (I 4) < I 1 ∧ A 22 (I 4) = 4 ∧ A 23 (I 4) = 3
              · skip
                obtain rfl := haq59 gq59
                have tq59 : I 1 ≤ 300 := (gT_of hz0 hT rfl rfl rfl).2.1
                clear haq59 hbq59 hIq59 hAq59
                show jt _ 291 [(0, .ref m)] [.int (jI 1)] (gmf m f0 I A) _ _ _
                refine jt_if_ne (t := 300) d_GM_begin_291 rfl (by unfold jRi; omega) (fun c60 => ?_) (fun c60 => ?_)
                · skip
                  refine jt_aload_n d_GM_begin_300 rfl ?_
                  refine gct_call (Y := Y_GM_openBracket) (As := []) (rest := []) d_GM_begin_301 GM_c213 yk_GM_openBracket yv_GM_openBracket rfl (Nat.le_of_ble_eq_true rfl) rfl rfl (Nat.le_of_ble_eq_true rfl) (w_GM_openBracket G _ m  I A (gT_of hz0 hT rfl rfl rfl) hz0.1 hz0.2.1 ) (fun rvq61 Iq61 Aq61 hq61 => ?_)
                  obtain ⟨rfl, hqq61, hxq61⟩ := hq61
                  have hpq61 := gPo.trans hz0 hqq61 rfl rfl
                  have f1q61 : Iq61 1 = I 1 := hpq61.2.2.1 1 rfl
                  have m9q61 : Iq61 9 = I 9 := hqq61.2.2.1 9 rfl
                  have m13q61 : Iq61 13 = I 13 := hqq61.2.2.1 13 rfl
                  have a36q61 : Aq61 36 = A 36 := hqq61.2.2.2 36 rfl
                  show jt _ 304 [(0, .ref m)] [] (gmf m f0 Iq61 Aq61) _ _ _
                  refine jt_aload_n d_GM_begin_304 rfl ?_
                  refine jt_iconst d_GM_begin_305 ?_
                  have xb62 : 0 ≤ Iq61 13 ∧ Iq61 13 ≤ 320 := hpq61.1 13
                  have xb63 : 0 ≤ Iq61 9 ∧ Iq61 9 ≤ 100 := hpq61.1 9
                  refine gct_call (Y := Y_GM_push) (As := [.int (jI 0)]) (rest := []) d_GM_begin_306 GM_c208 yk_GM_push yv_GM_push rfl (Nat.le_of_ble_eq_true rfl) rfl rfl (Nat.le_of_ble_eq_true rfl) (c_GM_push G _ m 0 Iq61 Aq61 (show 0 ≤ Iq61 13 by omega) (show Iq61 13 < 320 by omega)) (fun rvq64 Iq64 Aq64 hq64 => ?_)
                  obtain ⟨rfl, hIq64, hAq64⟩ := hq64
                  rw [hIq64, hAq64]
                  have rb65 : 0 ≤ Iq61 9 ∧ Iq61 9 ≤ 100 := hpq61.1 9
                  have p66 := gPo.I 13 ((Iq61 13) + 1) hpq61 rfl (show 0 ≤ (Iq61 13) + 1 ∧ (Iq61 13) + 1 ≤ 320 by omega)
                  have p67 := gPo.A 36 (ju (Aq61 36) (Iq61 13) 0) p66 rfl (gju (p66.2.1 36) (show 0 ≤ 0 ∧ 0 ≤ 6 by omega))
                  have p68 := gPo.A 37 (ju (Aq61 37) (Iq61 13) (Iq61 9)) p67 rfl (gju (p67.2.1 37) (show -2147483648 ≤ Iq61 9 ∧ Iq61 9 ≤ 2147483647 by omega))
                  show jt _ 309 [(0, .ref m)] [] (gmf m f0 (va_up Iq61 13 ((Iq61 13) + 1)) (va_up (va_up Aq61 36 (ju (Aq61 36) (Iq61 13) 0)) 37 (ju (Aq61 37) (Iq61 13) (Iq61 9)))) _ _ _
                  refine jt_iconst d_GM_begin_309 ?_
                  exact gm_ret d_GM_begin_310 rfl (jnz (by omega)) (⟨0, rfl, by omega, p68, fun z => by have z3 := hxq61 z; exact ⟨(show I 4 < Iq61 4 by omega), fun z2 => absurd z2 (by omega), fun _ => ⟨show Iq61 9 = I 9 by omega, show (Iq61 13) + 1 = I 13 + 1 by omega, 0, (by show ju (Aq61 36) (Iq61 13) 0 = ju (A 36) (I 13) 0; rw [a36q61, m13q61]), show ((0 : Int) = 0 ∨ (0 : Int) = 5) ∧ Iq61 14 = I 14 + 1 ∨ ((0 : Int) = 3 ∨ (0 : Int) = 4) ∧ Iq61 14 = I 14 by omega⟩⟩⟩)
                · skip
                  exfalso
                  omega
              · skip
                obtain rfl := hbq59 gq59
                clear haq59 hbq59 hIq59 hAq59
                clear gq59
                show jt _ 291 [(0, .ref m)] [.int (jI 0)] (gmf m f0 I A) _ _ _
                refine jt_if_ne (t := 300) d_GM_begin_291 rfl (by unfold jRi; omega) (fun c69 => ?_) (fun c69 => ?_)
                · skip
                  exfalso
                  omega
                · skip
                  refine jt_aload_n d_GM_begin_294 rfl ?_
                  refine gct_call (Y := Y_GM_syntax) (As := []) (rest := []) d_GM_begin_295 GM_c205 yk_GM_syntax yv_GM_syntax rfl (Nat.le_of_ble_eq_true rfl) rfl rfl (Nat.le_of_ble_eq_true rfl) (w_GM_syntax G _ m  I A hz0.1 hz0.2.1 ) (fun rvq70 Iq70 Aq70 hq70 => ?_)
                  obtain ⟨rfl, hqq70, hxq70⟩ := hq70
                  have hpq70 := gPo.trans hz0 hqq70 rfl rfl
                  have f1q70 : Iq70 1 = I 1 := hpq70.2.2.1 1 rfl
                  have m4q70 : Iq70 4 = I 4 := hqq70.2.2.1 4 rfl
                  have m9q70 : Iq70 9 = I 9 := hqq70.2.2.1 9 rfl
                  have m13q70 : Iq70 13 = I 13 := hqq70.2.2.1 13 rfl
                  have m14q70 : Iq70 14 = I 14 := hqq70.2.2.1 14 rfl
                  have a36q70 : Aq70 36 = A 36 := hqq70.2.2.2 36 rfl
                  show jt _ 298 [(0, .ref m)] [] (gmf m f0 Iq70 Aq70) _ _ _
                  refine jt_iconst d_GM_begin_298 ?_
                  exact gm_ret d_GM_begin_299 rfl (jnz (by omega)) (⟨0, rfl, by omega, hpq70, fun z => absurd z hxq70⟩)
            · skip
              refine jt_aload_n d_GM_begin_230 rfl ?_
              refine gm_gA (k := 22) (a := m + 7) d_GM_begin_231 GM_f78 (by decide) (by decide) rfl ?_
              refine jt_aload_n d_GM_begin_234 rfl ?_
              refine gm_gI (k := 4) (v := I 4) d_GM_begin_235 GM_f22 (by decide) rfl ?_
              refine gm_ld0 (k := 22) (n := 700) (v := (A 22) (I 4)) d_GM_begin_238 rfl (by decide) (by decide) rfl rfl (by omega) (by omega) (by omega) rfl ?_
              refine jt_topi (fun v71 ev71 => ?_)
              have bv71 : (-2147483648) ≤ v71 ∧ v71 ≤ 2147483647 := by rw [ev71]; exact hz0.2.1 22 (I 4)
              refine jt_iconst d_GM_begin_239 ?_
              refine jt_icmp_ne (t := 286) d_GM_begin_240 rfl (by unfold jRi; omega) (by unfold jRi; omega) (fun c72 => ?_) (fun c72 => ?_)
              · skip
                refine jt_aload_n d_GM_begin_286 rfl ?_
                refine jt_iconst d_GM_begin_287 ?_
                refine gct_call (Y := Y_GM_word) (As := [.int (jI 3)]) (rest := []) d_GM_begin_288 GM_c201 yk_GM_word yv_GM_word rfl (Nat.le_of_ble_eq_true rfl) rfl rfl (Nat.le_of_ble_eq_true rfl) (c_GM_word G _ m 3 I A (gP_of hz0.1 (gT_of hz0 hT rfl rfl rfl)) (by unfold jRi; omega)) (fun rvq73 Iq73 Aq73 hq73 => ?_)
                obtain ⟨haq73, hbq73, hIq73, hAq73⟩ := hq73
                rw [hIq73, hAq73]
                by_cases gq73 : (I 4) < I 1 ∧ A 22 (I 4) = 4 ∧ A 23 (I 4) = 3
                · skip
                  obtain rfl := haq73 gq73
                  have tq73 : I 1 ≤ 300 := (gT_of hz0 hT rfl rfl rfl).2.1
                  clear haq73 hbq73 hIq73 hAq73
                  show jt _ 291 [(0, .ref m)] [.int (jI 1)] (gmf m f0 I A) _ _ _
                  refine jt_if_ne (t := 300) d_GM_begin_291 rfl (by unfold jRi; omega) (fun c74 => ?_) (fun c74 => ?_)
                  · skip
                    refine jt_aload_n d_GM_begin_300 rfl ?_
                    refine gct_call (Y := Y_GM_openBracket) (As := []) (rest := []) d_GM_begin_301 GM_c213 yk_GM_openBracket yv_GM_openBracket rfl (Nat.le_of_ble_eq_true rfl) rfl rfl (Nat.le_of_ble_eq_true rfl) (w_GM_openBracket G _ m  I A (gT_of hz0 hT rfl rfl rfl) hz0.1 hz0.2.1 ) (fun rvq75 Iq75 Aq75 hq75 => ?_)
                    obtain ⟨rfl, hqq75, hxq75⟩ := hq75
                    have hpq75 := gPo.trans hz0 hqq75 rfl rfl
                    have f1q75 : Iq75 1 = I 1 := hpq75.2.2.1 1 rfl
                    have m9q75 : Iq75 9 = I 9 := hqq75.2.2.1 9 rfl
                    have m13q75 : Iq75 13 = I 13 := hqq75.2.2.1 13 rfl
                    have a36q75 : Aq75 36 = A 36 := hqq75.2.2.2 36 rfl
                    show jt _ 304 [(0, .ref m)] [] (gmf m f0 Iq75 Aq75) _ _ _
                    refine jt_aload_n d_GM_begin_304 rfl ?_
                    refine jt_iconst d_GM_begin_305 ?_
                    have xb76 : 0 ≤ Iq75 13 ∧ Iq75 13 ≤ 320 := hpq75.1 13
                    have xb77 : 0 ≤ Iq75 9 ∧ Iq75 9 ≤ 100 := hpq75.1 9
                    refine gct_call (Y := Y_GM_push) (As := [.int (jI 0)]) (rest := []) d_GM_begin_306 GM_c208 yk_GM_push yv_GM_push rfl (Nat.le_of_ble_eq_true rfl) rfl rfl (Nat.le_of_ble_eq_true rfl) (c_GM_push G _ m 0 Iq75 Aq75 (show 0 ≤ Iq75 13 by omega) (show Iq75 13 < 320 by omega)) (fun rvq78 Iq78 Aq78 hq78 => ?_)
                    obtain ⟨rfl, hIq78, hAq78⟩ := hq78
                    rw [hIq78, hAq78]
                    have rb79 : 0 ≤ Iq75 9 ∧ Iq75 9 ≤ 100 := hpq75.1 9
                    have p80 := gPo.I 13 ((Iq75 13) + 1) hpq75 rfl (show 0 ≤ (Iq75 13) + 1 ∧ (Iq75 13) + 1 ≤ 320 by omega)
                    have p81 := gPo.A 36 (ju (Aq75 36) (Iq75 13) 0) p80 rfl (gju (p80.2.1 36) (show 0 ≤ 0 ∧ 0 ≤ 6 by omega))
                    have p82 := gPo.A 37 (ju (Aq75 37) (Iq75 13) (Iq75 9)) p81 rfl (gju (p81.2.1 37) (show -2147483648 ≤ Iq75 9 ∧ Iq75 9 ≤ 2147483647 by omega))
                    show jt _ 309 [(0, .ref m)] [] (gmf m f0 (va_up Iq75 13 ((Iq75 13) + 1)) (va_up (va_up Aq75 36 (ju (Aq75 36) (Iq75 13) 0)) 37 (ju (Aq75 37) (Iq75 13) (Iq75 9)))) _ _ _
                    refine jt_iconst d_GM_begin_309 ?_
                    exact gm_ret d_GM_begin_310 rfl (jnz (by omega)) (⟨0, rfl, by omega, p82, fun z => by have z3 := hxq75 z; exact ⟨(show I 4 < Iq75 4 by omega), fun z2 => absurd z2 (by omega), fun _ => ⟨show Iq75 9 = I 9 by omega, show (Iq75 13) + 1 = I 13 + 1 by omega, 0, (by show ju (Aq75 36) (Iq75 13) 0 = ju (A 36) (I 13) 0; rw [a36q75, m13q75]), show ((0 : Int) = 0 ∨ (0 : Int) = 5) ∧ Iq75 14 = I 14 + 1 ∨ ((0 : Int) = 3 ∨ (0 : Int) = 4) ∧ Iq75 14 = I 14 by omega⟩⟩⟩)
                  · skip
                    exfalso
                    omega
                · skip
                  obtain rfl := hbq73 gq73
                  clear haq73 hbq73 hIq73 hAq73
                  clear gq73
                  show jt _ 291 [(0, .ref m)] [.int (jI 0)] (gmf m f0 I A) _ _ _
                  refine jt_if_ne (t := 300) d_GM_begin_291 rfl (by unfold jRi; omega) (fun c83 => ?_) (fun c83 => ?_)
                  · skip
                    exfalso
                    omega
                  · skip
                    refine jt_aload_n d_GM_begin_294 rfl ?_
                    refine gct_call (Y := Y_GM_syntax) (As := []) (rest := []) d_GM_begin_295 GM_c205 yk_GM_syntax yv_GM_syntax rfl (Nat.le_of_ble_eq_true rfl) rfl rfl (Nat.le_of_ble_eq_true rfl) (w_GM_syntax G _ m  I A hz0.1 hz0.2.1 ) (fun rvq84 Iq84 Aq84 hq84 => ?_)
                    obtain ⟨rfl, hqq84, hxq84⟩ := hq84
                    have hpq84 := gPo.trans hz0 hqq84 rfl rfl
                    have f1q84 : Iq84 1 = I 1 := hpq84.2.2.1 1 rfl
                    have m4q84 : Iq84 4 = I 4 := hqq84.2.2.1 4 rfl
                    have m9q84 : Iq84 9 = I 9 := hqq84.2.2.1 9 rfl
                    have m13q84 : Iq84 13 = I 13 := hqq84.2.2.1 13 rfl
                    have m14q84 : Iq84 14 = I 14 := hqq84.2.2.1 14 rfl
                    have a36q84 : Aq84 36 = A 36 := hqq84.2.2.2 36 rfl
                    show jt _ 298 [(0, .ref m)] [] (gmf m f0 Iq84 Aq84) _ _ _
                    refine jt_iconst d_GM_begin_298 ?_
                    exact gm_ret d_GM_begin_299 rfl (jnz (by omega)) (⟨0, rfl, by omega, hpq84, fun z => absurd z hxq84⟩)
              · skip
                have k85 : 0 ≤ A 23 (I 4) ∧ A 23 (I 4) ≤ 11 := by have q9 : gtok (A 22 (I 4)) (A 23 (I 4)) := (gT_of hz0 hT rfl rfl rfl).2.2 (I 4) (by omega) (by omega); unfold gtok at q9; omega
                refine jt_aload_n d_GM_begin_243 rfl ?_
                refine jt_sipush d_GM_begin_244 (by omega) ?_
                refine jt_aload_n d_GM_begin_247 rfl ?_
                refine gm_gI (k := 9) (v := I 9) d_GM_begin_248 GM_f37 (by decide) rfl ?_
                have rb86 : 0 ≤ I 9 ∧ I 9 ≤ 100 := hz0.1 9
                refine jt_iadd d_GM_begin_251 ?_
                refine jt_aload_n d_GM_begin_252 rfl ?_
                refine gm_gA (k := 23) (a := m + 8) d_GM_begin_253 GM_f81 (by decide) (by decide) rfl ?_
                refine jt_aload_n d_GM_begin_256 rfl ?_
                refine gm_gI (k := 4) (v := I 4) d_GM_begin_257 GM_f22 (by decide) rfl ?_
                refine gm_ld0 (k := 23) (n := 700) (v := (A 23) (I 4)) d_GM_begin_260 rfl (by decide) (by decide) rfl rfl (by omega) (by omega) (by omega) rfl ?_
                refine jt_topi (fun v87 ev87 => ?_)
                have bv87 : (-2147483648) ≤ v87 ∧ v87 ≤ 2147483647 := by rw [ev87]; exact hz0.2.1 23 (I 4)
                refine gct_call (Y := Y_GM_loadVariable) (As := [.int (jI (300 + (I 9))), .int (jI v87)]) (rest := []) d_GM_begin_261 GM_c216 yk_GM_loadVariable yv_GM_loadVariable rfl (Nat.le_of_ble_eq_true rfl) rfl rfl (Nat.le_of_ble_eq_true rfl) (w_GM_loadVariable G _ m (300 + (I 9)) v87 I A hz0.1 hz0.2.1 (by omega) (by omega) (by omega) (by omega)) (fun rvq88 Iq88 Aq88 hq88 => ?_)
                obtain ⟨rfl, hqq88⟩ := hq88
                have hpq88 := gPo.trans hz0 hqq88 rfl rfl
                have f1q88 : Iq88 1 = I 1 := hpq88.2.2.1 1 rfl
                have m4q88 : Iq88 4 = I 4 := hqq88.2.2.1 4 rfl
                have m9q88 : Iq88 9 = I 9 := hqq88.2.2.1 9 rfl
                have m13q88 : Iq88 13 = I 13 := hqq88.2.2.1 13 rfl
                have m14q88 : Iq88 14 = I 14 := hqq88.2.2.1 14 rfl
                have a36q88 : Aq88 36 = A 36 := hqq88.2.2.2 36 rfl
                show jt _ 264 [(0, .ref m)] [] (gmf m f0 Iq88 Aq88) _ _ _
                refine jt_aload_n d_GM_begin_264 rfl ?_
                refine jt_dup d_GM_begin_265 rfl ?_
                refine gm_gI (k := 9) (v := Iq88 9) d_GM_begin_266 GM_f37 (by decide) rfl ?_
                have rb89 : 0 ≤ Iq88 9 ∧ Iq88 9 ≤ 100 := hpq88.1 9
                refine jt_iconst d_GM_begin_269 ?_
                refine jt_iadd d_GM_begin_270 ?_
                refine jt_topi (fun v90 ev90 => ?_)
                refine gm_pI (k := 9) (v := v90) (J := va_up Iq88 9 v90) d_GM_begin_271 (GM_w37 _ rfl) (by decide) rfl rfl rfl ?_
                have p91 := gPo.I 9 v90 hpq88 rfl (show 0 ≤ v90 ∧ v90 ≤ 100 by omega)
                refine jt_aload_n d_GM_begin_274 rfl ?_
                refine jt_dup d_GM_begin_275 rfl ?_
                refine gm_gI (k := 4) (v := Iq88 4) d_GM_begin_276 GM_f22 (by decide) rfl ?_
                have rb92 : 0 ≤ Iq88 4 ∧ Iq88 4 ≤ 300 := p91.1 4
                refine jt_iconst d_GM_begin_279 ?_
                refine jt_iadd d_GM_begin_280 ?_
                refine jt_topi (fun v93 ev93 => ?_)
                refine gm_pI (k := 4) (v := v93) (J := va_up (va_up Iq88 9 v90) 4 v93) d_GM_begin_281 (GM_w22 _ rfl) (by decide) rfl rfl rfl ?_
                have p94 := gPo.I 4 v93 p91 rfl (show 0 ≤ v93 ∧ v93 ≤ 300 by omega)
                refine jt_iconst d_GM_begin_284 ?_
                exact gm_ret d_GM_begin_285 rfl (jnz (by omega)) (⟨1, rfl, by omega, p94, fun z => ⟨(show I 4 < v93 by omega), fun _ => ⟨show Iq88 13 = I 13 by omega, a36q88, show v90 = I 9 + 1 by omega, show Iq88 14 = I 14 by omega⟩, fun z2 => absurd z2 (by omega)⟩⟩)
          · skip
            have k95 : -16000 ≤ A 23 (I 4) ∧ A 23 (I 4) ≤ 16000 := by have q9 : gtok (A 22 (I 4)) (A 23 (I 4)) := (gT_of hz0 hT rfl rfl rfl).2.2 (I 4) (by omega) (by omega); unfold gtok at q9; omega
            refine jt_aload_n d_GM_begin_57 rfl ?_
            refine gm_gA (k := 23) (a := m + 8) d_GM_begin_58 GM_f81 (by decide) (by decide) rfl ?_
            refine jt_aload_n d_GM_begin_61 rfl ?_
            refine gm_gI (k := 4) (v := I 4) d_GM_begin_62 GM_f22 (by decide) rfl ?_
            refine gm_ld0 (k := 23) (n := 700) (v := (A 23) (I 4)) d_GM_begin_65 rfl (by decide) (by decide) rfl rfl (by omega) (by omega) (by omega) rfl ?_
            refine jt_topi (fun v96 ev96 => ?_)
            have bv96 : (-2147483648) ≤ v96 ∧ v96 ≤ 2147483647 := by rw [ev96]; exact hz0.2.1 23 (I 4)
            refine jt_i2l d_GM_begin_66 (by unfold jRi; omega) ?_
            refine jt_ldc2 (z := 4096) d_GM_begin_67 GM_k211 ?_
            refine jt_lmul d_GM_begin_70 ?_
            refine jt_topln (fun v97 bv97 ev97 => ?_)
            refine jt_lstore_n (L' := [(0, .ref m), (1, .long (jL v97))]) d_GM_begin_71 (Nat.le_of_ble_eq_true rfl) rfl ?_
            refine jt_aload_n d_GM_begin_72 rfl ?_
            refine jt_dup d_GM_begin_73 rfl ?_
            refine gm_gI (k := 4) (v := I 4) d_GM_begin_74 GM_f22 (by decide) rfl ?_
            refine jt_iconst d_GM_begin_77 ?_
            refine jt_iadd d_GM_begin_78 ?_
            refine jt_topi (fun v98 ev98 => ?_)
            refine gm_pI (k := 4) (v := v98) (J := va_up I 4 v98) d_GM_begin_79 (GM_w22 _ rfl) (by decide) rfl rfl rfl ?_
            have p99 := gPo.I 4 v98 hz0 rfl (show 0 ≤ v98 ∧ v98 ≤ 300 by omega)
            refine jt_aload_n d_GM_begin_82 rfl ?_
            refine jt_bipush d_GM_begin_83 (by omega) ?_
            refine gct_call (Y := Y_GM_word) (As := [.int (jI 13)]) (rest := []) d_GM_begin_85 GM_c201 yk_GM_word yv_GM_word rfl (Nat.le_of_ble_eq_true rfl) rfl rfl (Nat.le_of_ble_eq_true rfl) (c_GM_word G _ m 13 (va_up I 4 v98) A (gP_of p99.1 (gT_of p99 hT rfl rfl rfl)) (by unfold jRi; omega)) (fun rvq100 Iq100 Aq100 hq100 => ?_)
            obtain ⟨haq100, hbq100, hIq100, hAq100⟩ := hq100
            rw [hIq100, hAq100]
            by_cases gq100 : v98 < I 1 ∧ A 22 v98 = 4 ∧ A 23 v98 = 13
            · skip
              obtain rfl := haq100 gq100
              have tq100 : I 1 ≤ 300 := (gT_of p99 hT rfl rfl rfl).2.1
              clear haq100 hbq100 hIq100 hAq100
              show jt _ 88 [(0, .ref m), (1, .long (jL v97))] [.int (jI 1)] (gmf m f0 (va_up I 4 v98) A) _ _ _
              refine jt_if_eq (t := 124) d_GM_begin_88 rfl (by unfold jRi; omega) (fun c101 => ?_) (fun c101 => ?_)
              · skip
                exfalso
                omega
              · skip
                refine jt_aload_n d_GM_begin_91 rfl ?_
                refine jt_dup d_GM_begin_92 rfl ?_
                refine gm_gI (k := 4) (v := v98) d_GM_begin_93 GM_f22 (by decide) rfl ?_
                refine jt_iconst d_GM_begin_96 ?_
                refine jt_iadd d_GM_begin_97 ?_
                refine jt_topi (fun v102 ev102 => ?_)
                refine gm_pI (k := 4) (v := v102) (J := va_up (va_up I 4 v98) 4 v102) d_GM_begin_98 (GM_w22 _ rfl) (by decide) rfl rfl rfl ?_
                have p103 := gPo.I 4 v102 p99 rfl (show 0 ≤ v102 ∧ v102 ≤ 300 by omega)
                refine jt_aload_n d_GM_begin_101 rfl ?_
                refine jt_iconst d_GM_begin_102 ?_
                have xb104 : 0 ≤ I 13 ∧ I 13 ≤ 320 := p103.1 13
                have xb105 : 0 ≤ I 9 ∧ I 9 ≤ 100 := p103.1 9
                refine gct_call (Y := Y_GM_push) (As := [.int (jI 5)]) (rest := []) d_GM_begin_103 GM_c208 yk_GM_push yv_GM_push rfl (Nat.le_of_ble_eq_true rfl) rfl rfl (Nat.le_of_ble_eq_true rfl) (c_GM_push G _ m 5 (va_up (va_up I 4 v98) 4 v102) A (show 0 ≤ I 13 by omega) (show I 13 < 320 by omega)) (fun rvq106 Iq106 Aq106 hq106 => ?_)
                obtain ⟨rfl, hIq106, hAq106⟩ := hq106
                rw [hIq106, hAq106]
                have rb107 : 0 ≤ I 9 ∧ I 9 ≤ 100 := p103.1 9
                have p108 := gPo.I 13 ((I 13) + 1) p103 rfl (show 0 ≤ (I 13) + 1 ∧ (I 13) + 1 ≤ 320 by omega)
                have p109 := gPo.A 36 (ju (A 36) (I 13) 5) p108 rfl (gju (p108.2.1 36) (show 0 ≤ 5 ∧ 5 ≤ 6 by omega))
                have p110 := gPo.A 37 (ju (A 37) (I 13) (I 9)) p109 rfl (gju (p109.2.1 37) (show -2147483648 ≤ I 9 ∧ I 9 ≤ 2147483647 by omega))
                show jt _ 106 [(0, .ref m), (1, .long (jL v97))] [] (gmf m f0 (va_up (va_up (va_up I 4 v98) 4 v102) 13 ((I 13) + 1)) (va_up (va_up A 36 (ju (A 36) (I 13) 5)) 37 (ju (A 37) (I 13) (I 9)))) _ _ _
                refine jt_aload_n d_GM_begin_106 rfl ?_
                refine gm_gA (k := 38) (a := m + 23) d_GM_begin_107 GM_f127 (by decide) (by decide) rfl ?_
                refine jt_aload_n d_GM_begin_110 rfl ?_
                refine gm_gI (k := 13) (v := (I 13) + 1) d_GM_begin_111 GM_f49 (by decide) rfl ?_
                refine jt_iconst d_GM_begin_114 ?_
                refine jt_isub d_GM_begin_115 ?_
                refine jt_lload_n d_GM_begin_116 rfl ?_
                refine gm_st1 (k := 38) (n := 320) (B := va_up (va_up (va_up A 36 (ju (A 36) (I 13) 5)) 37 (ju (A 37) (I 13) (I 9))) 38 (ju (A 38) (((I 13) + 1) - 1) v97)) d_GM_begin_117 rfl (by decide) (by decide) rfl rfl (by omega) (by omega) (by omega) rfl ?_
                have p111 := gPo.A 38 (ju (A 38) (((I 13) + 1) - 1) v97) p110 rfl (gju (p110.2.1 38) (show -65536000 ≤ v97 ∧ v97 ≤ 65536000 by omega))
                refine jt_aload_n d_GM_begin_118 rfl ?_
                refine gct_call (Y := Y_GM_openBracket) (As := []) (rest := []) d_GM_begin_119 GM_c213 yk_GM_openBracket yv_GM_openBracket rfl (Nat.le_of_ble_eq_true rfl) rfl rfl (Nat.le_of_ble_eq_true rfl) (w_GM_openBracket G _ m  (va_up (va_up (va_up I 4 v98) 4 v102) 13 ((I 13) + 1)) (va_up (va_up (va_up A 36 (ju (A 36) (I 13) 5)) 37 (ju (A 37) (I 13) (I 9))) 38 (ju (A 38) (((I 13) + 1) - 1) v97)) (gT_of p111 hT rfl rfl rfl) p111.1 p111.2.1 ) (fun rvq112 Iq112 Aq112 hq112 => ?_)
                obtain ⟨rfl, hqq112, hxq112⟩ := hq112
                have hpq112 := gPo.trans p111 hqq112 rfl rfl
                have f1q112 : Iq112 1 = I 1 := hpq112.2.2.1 1 rfl
                have s4q112 : (va_up (va_up (va_up I 4 v98) 4 v102) 13 ((I 13) + 1)) 4 = v102 := rfl
                have s5q112 : (va_up (va_up (va_up I 4 v98) 4 v102) 13 ((I 13) + 1)) 5 = I 5 := rfl
                have s9q112 : (va_up (va_up (va_up I 4 v98) 4 v102) 13 ((I 13) + 1)) 9 = I 9 := rfl
                have s13q112 : (va_up (va_up (va_up I 4 v98) 4 v102) 13 ((I 13) + 1)) 13 = (I 13) + 1 := rfl
                have s14q112 : (va_up (va_up (va_up I 4 v98) 4 v102) 13 ((I 13) + 1)) 14 = I 14 := rfl
                have m9q112 : Iq112 9 = I 9 := hqq112.2.2.1 9 rfl
                have m13q112 : Iq112 13 = (I 13) + 1 := hqq112.2.2.1 13 rfl
                have a36q112 : Aq112 36 = ju (A 36) (I 13) 5 := hqq112.2.2.2 36 rfl
                show jt _ 122 [(0, .ref m), (1, .long (jL v97))] [] (gmf m f0 Iq112 Aq112) _ _ _
                refine jt_iconst d_GM_begin_122 ?_
                exact gm_ret d_GM_begin_123 rfl (jnz (by omega)) (⟨0, rfl, by omega, hpq112, fun z => by have z3 := hxq112 z; exact ⟨(show I 4 < Iq112 4 by omega), fun z2 => absurd z2 (by omega), fun _ => ⟨show Iq112 9 = I 9 by omega, show Iq112 13 = I 13 + 1 by omega, 5, a36q112, show ((5 : Int) = 0 ∨ (5 : Int) = 5) ∧ Iq112 14 = I 14 + 1 ∨ ((5 : Int) = 3 ∨ (5 : Int) = 4) ∧ Iq112 14 = I 14 by omega⟩⟩⟩)
            · skip
              obtain rfl := hbq100 gq100
              clear haq100 hbq100 hIq100 hAq100
              clear gq100
              show jt _ 88 [(0, .ref m), (1, .long (jL v97))] [.int (jI 0)] (gmf m f0 (va_up I 4 v98) A) _ _ _
              refine jt_if_eq (t := 124) d_GM_begin_88 rfl (by unfold jRi; omega) (fun c113 => ?_) (fun c113 => ?_)
              · skip
                refine jt_aload_n d_GM_begin_124 rfl ?_
                refine gm_gI (k := 4) (v := v98) d_GM_begin_125 GM_f22 (by decide) rfl ?_
                refine jt_aload_n d_GM_begin_128 rfl ?_
                refine gm_gI (k := 1) (v := I 1) d_GM_begin_129 GM_f13 (by decide) rfl ?_
                refine jt_icmp_ge (t := 148) d_GM_begin_132 rfl (by unfold jRi; omega) (by unfold jRi; omega) (fun c114 => ?_) (fun c114 => ?_)
                · skip
                  refine jt_aload_n d_GM_begin_148 rfl ?_
                  refine jt_iconst d_GM_begin_149 ?_
                  refine gct_call (Y := Y_GM_word) (As := [.int (jI 3)]) (rest := []) d_GM_begin_150 GM_c201 yk_GM_word yv_GM_word rfl (Nat.le_of_ble_eq_true rfl) rfl rfl (Nat.le_of_ble_eq_true rfl) (c_GM_word G _ m 3 (va_up I 4 v98) A (gP_of p99.1 (gT_of p99 hT rfl rfl rfl)) (by unfold jRi; omega)) (fun rvq115 Iq115 Aq115 hq115 => ?_)
                  obtain ⟨haq115, hbq115, hIq115, hAq115⟩ := hq115
                  rw [hIq115, hAq115]
                  by_cases gq115 : v98 < I 1 ∧ A 22 v98 = 4 ∧ A 23 v98 = 3
                  · skip
                    obtain rfl := haq115 gq115
                    have tq115 : I 1 ≤ 300 := (gT_of p99 hT rfl rfl rfl).2.1
                    clear haq115 hbq115 hIq115 hAq115
                    show jt _ 153 [(0, .ref m), (1, .long (jL v97))] [.int (jI 1)] (gmf m f0 (va_up I 4 v98) A) _ _ _
                    refine jt_if_eq (t := 175) d_GM_begin_153 rfl (by unfold jRi; omega) (fun c116 => ?_) (fun c116 => ?_)
                    · skip
                      exfalso
                      omega
                    · skip
                      refine jt_aload_n d_GM_begin_156 rfl ?_
                      refine jt_iconst d_GM_begin_157 ?_
                      have xb117 : 0 ≤ I 13 ∧ I 13 ≤ 320 := p99.1 13
                      have xb118 : 0 ≤ I 9 ∧ I 9 ≤ 100 := p99.1 9
                      refine gct_call (Y := Y_GM_push) (As := [.int (jI 4)]) (rest := []) d_GM_begin_158 GM_c208 yk_GM_push yv_GM_push rfl (Nat.le_of_ble_eq_true rfl) rfl rfl (Nat.le_of_ble_eq_true rfl) (c_GM_push G _ m 4 (va_up I 4 v98) A (show 0 ≤ I 13 by omega) (show I 13 < 320 by omega)) (fun rvq119 Iq119 Aq119 hq119 => ?_)
                      obtain ⟨rfl, hIq119, hAq119⟩ := hq119
                      rw [hIq119, hAq119]
                      have rb120 : 0 ≤ I 9 ∧ I 9 ≤ 100 := p99.1 9
                      have p121 := gPo.I 13 ((I 13) + 1) p99 rfl (show 0 ≤ (I 13) + 1 ∧ (I 13) + 1 ≤ 320 by omega)
                      have p122 := gPo.A 36 (ju (A 36) (I 13) 4) p121 rfl (gju (p121.2.1 36) (show 0 ≤ 4 ∧ 4 ≤ 6 by omega))
                      have p123 := gPo.A 37 (ju (A 37) (I 13) (I 9)) p122 rfl (gju (p122.2.1 37) (show -2147483648 ≤ I 9 ∧ I 9 ≤ 2147483647 by omega))
                      show jt _ 161 [(0, .ref m), (1, .long (jL v97))] [] (gmf m f0 (va_up (va_up I 4 v98) 13 ((I 13) + 1)) (va_up (va_up A 36 (ju (A 36) (I 13) 4)) 37 (ju (A 37) (I 13) (I 9)))) _ _ _
                      refine jt_aload_n d_GM_begin_161 rfl ?_
                      refine gm_gA (k := 38) (a := m + 23) d_GM_begin_162 GM_f127 (by decide) (by decide) rfl ?_
                      refine jt_aload_n d_GM_begin_165 rfl ?_
                      refine gm_gI (k := 13) (v := (I 13) + 1) d_GM_begin_166 GM_f49 (by decide) rfl ?_
                      refine jt_iconst d_GM_begin_169 ?_
                      refine jt_isub d_GM_begin_170 ?_
                      refine jt_lload_n d_GM_begin_171 rfl ?_
                      refine gm_st1 (k := 38) (n := 320) (B := va_up (va_up (va_up A 36 (ju (A 36) (I 13) 4)) 37 (ju (A 37) (I 13) (I 9))) 38 (ju (A 38) (((I 13) + 1) - 1) v97)) d_GM_begin_172 rfl (by decide) (by decide) rfl rfl (by omega) (by omega) (by omega) rfl ?_
                      have p124 := gPo.A 38 (ju (A 38) (((I 13) + 1) - 1) v97) p123 rfl (gju (p123.2.1 38) (show -65536000 ≤ v97 ∧ v97 ≤ 65536000 by omega))
                      refine jt_iconst d_GM_begin_173 ?_
                      exact gm_ret d_GM_begin_174 rfl (jnz (by omega)) (⟨0, rfl, by omega, p124, fun z => ⟨(show I 4 < v98 by omega), fun z2 => absurd z2 (by omega), fun _ => ⟨show I 9 = I 9 by omega, show (I 13) + 1 = I 13 + 1 by omega, 4, rfl, show ((4 : Int) = 0 ∨ (4 : Int) = 5) ∧ I 14 = I 14 + 1 ∨ ((4 : Int) = 3 ∨ (4 : Int) = 4) ∧ I 14 = I 14 by omega⟩⟩⟩)
                  · skip
                    obtain rfl := hbq115 gq115
                    clear haq115 hbq115 hIq115 hAq115
                    clear gq115
                    show jt _ 153 [(0, .ref m), (1, .long (jL v97))] [.int (jI 0)] (gmf m f0 (va_up I 4 v98) A) _ _ _
                    refine jt_if_eq (t := 175) d_GM_begin_153 rfl (by unfold jRi; omega) (fun c125 => ?_) (fun c125 => ?_)
                    · skip
                      refine jt_aload_n d_GM_begin_175 rfl ?_
                      refine jt_sipush d_GM_begin_176 (by omega) ?_
                      refine jt_aload_n d_GM_begin_179 rfl ?_
                      refine gm_gI (k := 9) (v := I 9) d_GM_begin_180 GM_f37 (by decide) rfl ?_
                      have rb126 : 0 ≤ I 9 ∧ I 9 ≤ 100 := p99.1 9
                      refine jt_iadd d_GM_begin_183 ?_
                      refine gct_call (Y := Y_GM_clear) (As := [.int (jI (300 + (I 9)))]) (rest := []) d_GM_begin_184 GM_c193 yk_GM_clear yv_GM_clear rfl (Nat.le_of_ble_eq_true rfl) rfl rfl (Nat.le_of_ble_eq_true rfl) (w_GM_clear G _ m (300 + (I 9)) (va_up I 4 v98) A p99.1 p99.2.1 (by omega) (by omega)) (fun rvq127 Iq127 Aq127 hq127 => ?_)
                      obtain ⟨rfl, hqq127⟩ := hq127
                      have hpq127 := gPo.trans p99 hqq127 rfl rfl
                      have f1q127 : Iq127 1 = I 1 := hpq127.2.2.1 1 rfl
                      have m4q127 : Iq127 4 = v98 := hqq127.2.2.1 4 rfl
                      have m9q127 : Iq127 9 = I 9 := hqq127.2.2.1 9 rfl
                      have m13q127 : Iq127 13 = I 13 := hqq127.2.2.1 13 rfl
                      have m14q127 : Iq127 14 = I 14 := hqq127.2.2.1 14 rfl
                      have a36q127 : Aq127 36 = A 36 := hqq127.2.2.2 36 rfl
                      show jt _ 187 [(0, .ref m), (1, .long (jL v97))] [] (gmf m f0 Iq127 Aq127) _ _ _
                      refine jt_aload_n d_GM_begin_187 rfl ?_
                      refine gm_gA (k := 35) (a := m + 20) d_GM_begin_188 GM_f118 (by decide) (by decide) rfl ?_
                      refine jt_sipush d_GM_begin_191 (by omega) ?_
                      refine jt_aload_n d_GM_begin_194 rfl ?_
                      refine gm_gI (k := 9) (v := Iq127 9) d_GM_begin_195 GM_f37 (by decide) rfl ?_
                      have rb128 : 0 ≤ Iq127 9 ∧ Iq127 9 ≤ 100 := hpq127.1 9
                      refine jt_iadd d_GM_begin_198 ?_
                      refine jt_bipush d_GM_begin_199 (by omega) ?_
                      refine jt_imul d_GM_begin_201 ?_
                      refine jt_bipush d_GM_begin_202 (by omega) ?_
                      refine jt_iadd d_GM_begin_204 ?_
                      refine jt_lload_n d_GM_begin_205 rfl ?_
                      refine gm_st1 (k := 35) (n := 5200) (B := va_up Aq127 35 (ju (Aq127 35) (((300 + (Iq127 9)) * 13) + 12) v97)) d_GM_begin_206 rfl (by decide) (by decide) rfl rfl (by omega) (by omega) (by omega) rfl ?_
                      have p129 := gPo.A 35 (ju (Aq127 35) (((300 + (Iq127 9)) * 13) + 12) v97) hpq127 rfl (gju (hpq127.2.1 35) (show -9223372036854775808 ≤ v97 ∧ v97 ≤ 9223372036854775807 by omega))
                      refine jt_aload_n d_GM_begin_207 rfl ?_
                      refine jt_dup d_GM_begin_208 rfl ?_
                      refine gm_gI (k := 9) (v := Iq127 9) d_GM_begin_209 GM_f37 (by decide) rfl ?_
                      refine jt_iconst d_GM_begin_212 ?_
                      refine jt_iadd d_GM_begin_213 ?_
                      refine jt_topi (fun v130 ev130 => ?_)
                      refine gm_pI (k := 9) (v := v130) (J := va_up Iq127 9 v130) d_GM_begin_214 (GM_w37 _ rfl) (by decide) rfl rfl rfl ?_
                      have p131 := gPo.I 9 v130 p129 rfl (show 0 ≤ v130 ∧ v130 ≤ 100 by omega)
                      refine jt_iconst d_GM_begin_217 ?_
                      exact gm_ret d_GM_begin_218 rfl (jnz (by omega)) (⟨1, rfl, by omega, p131, fun z => ⟨(show I 4 < Iq127 4 by omega), fun _ => ⟨show Iq127 13 = I 13 by omega, a36q127, show v130 = I 9 + 1 by omega, show Iq127 14 = I 14 by omega⟩, fun z2 => absurd z2 (by omega)⟩⟩)
                    · skip
                      exfalso
                      omega
                · skip
                  refine jt_aload_n d_GM_begin_135 rfl ?_
                  refine gm_gA (k := 22) (a := m + 7) d_GM_begin_136 GM_f78 (by decide) (by decide) rfl ?_
                  refine jt_aload_n d_GM_begin_139 rfl ?_
                  refine gm_gI (k := 4) (v := v98) d_GM_begin_140 GM_f22 (by decide) rfl ?_
                  refine gm_ld0 (k := 22) (n := 700) (v := (A 22) v98) d_GM_begin_143 rfl (by decide) (by decide) rfl rfl (by omega) (by omega) (by omega) rfl ?_
                  refine jt_topi (fun v132 ev132 => ?_)
                  have bv132 : (-2147483648) ≤ v132 ∧ v132 ≤ 2147483647 := by rw [ev132]; exact p99.2.1 22 v98
                  refine jt_iconst d_GM_begin_144 ?_
                  refine jt_icmp_eq (t := 156) d_GM_begin_145 rfl (by unfold jRi; omega) (by unfold jRi; omega) (fun c133 => ?_) (fun c133 => ?_)
                  · skip
                    refine jt_aload_n d_GM_begin_156 rfl ?_
                    refine jt_iconst d_GM_begin_157 ?_
                    have xb134 : 0 ≤ I 13 ∧ I 13 ≤ 320 := p99.1 13
                    have xb135 : 0 ≤ I 9 ∧ I 9 ≤ 100 := p99.1 9
                    refine gct_call (Y := Y_GM_push) (As := [.int (jI 4)]) (rest := []) d_GM_begin_158 GM_c208 yk_GM_push yv_GM_push rfl (Nat.le_of_ble_eq_true rfl) rfl rfl (Nat.le_of_ble_eq_true rfl) (c_GM_push G _ m 4 (va_up I 4 v98) A (show 0 ≤ I 13 by omega) (show I 13 < 320 by omega)) (fun rvq136 Iq136 Aq136 hq136 => ?_)
                    obtain ⟨rfl, hIq136, hAq136⟩ := hq136
                    rw [hIq136, hAq136]
                    have rb137 : 0 ≤ I 9 ∧ I 9 ≤ 100 := p99.1 9
                    have p138 := gPo.I 13 ((I 13) + 1) p99 rfl (show 0 ≤ (I 13) + 1 ∧ (I 13) + 1 ≤ 320 by omega)
                    have p139 := gPo.A 36 (ju (A 36) (I 13) 4) p138 rfl (gju (p138.2.1 36) (show 0 ≤ 4 ∧ 4 ≤ 6 by omega))
                    have p140 := gPo.A 37 (ju (A 37) (I 13) (I 9)) p139 rfl (gju (p139.2.1 37) (show -2147483648 ≤ I 9 ∧ I 9 ≤ 2147483647 by omega))
                    show jt _ 161 [(0, .ref m), (1, .long (jL v97))] [] (gmf m f0 (va_up (va_up I 4 v98) 13 ((I 13) + 1)) (va_up (va_up A 36 (ju (A 36) (I 13) 4)) 37 (ju (A 37) (I 13) (I 9)))) _ _ _
                    refine jt_aload_n d_GM_begin_161 rfl ?_
                    refine gm_gA (k := 38) (a := m + 23) d_GM_begin_162 GM_f127 (by decide) (by decide) rfl ?_
                    refine jt_aload_n d_GM_begin_165 rfl ?_
                    refine gm_gI (k := 13) (v := (I 13) + 1) d_GM_begin_166 GM_f49 (by decide) rfl ?_
                    refine jt_iconst d_GM_begin_169 ?_
                    refine jt_isub d_GM_begin_170 ?_
                    refine jt_lload_n d_GM_begin_171 rfl ?_
                    refine gm_st1 (k := 38) (n := 320) (B := va_up (va_up (va_up A 36 (ju (A 36) (I 13) 4)) 37 (ju (A 37) (I 13) (I 9))) 38 (ju (A 38) (((I 13) + 1) - 1) v97)) d_GM_begin_172 rfl (by decide) (by decide) rfl rfl (by omega) (by omega) (by omega) rfl ?_
                    have p141 := gPo.A 38 (ju (A 38) (((I 13) + 1) - 1) v97) p140 rfl (gju (p140.2.1 38) (show -65536000 ≤ v97 ∧ v97 ≤ 65536000 by omega))
                    refine jt_iconst d_GM_begin_173 ?_
                    exact gm_ret d_GM_begin_174 rfl (jnz (by omega)) (⟨0, rfl, by omega, p141, fun z => ⟨(show I 4 < v98 by omega), fun z2 => absurd z2 (by omega), fun _ => ⟨show I 9 = I 9 by omega, show (I 13) + 1 = I 13 + 1 by omega, 4, rfl, show ((4 : Int) = 0 ∨ (4 : Int) = 5) ∧ I 14 = I 14 + 1 ∨ ((4 : Int) = 3 ∨ (4 : Int) = 4) ∧ I 14 = I 14 by omega⟩⟩⟩)
                  · skip
                    refine jt_aload_n d_GM_begin_148 rfl ?_
                    refine jt_iconst d_GM_begin_149 ?_
                    refine gct_call (Y := Y_GM_word) (As := [.int (jI 3)]) (rest := []) d_GM_begin_150 GM_c201 yk_GM_word yv_GM_word rfl (Nat.le_of_ble_eq_true rfl) rfl rfl (Nat.le_of_ble_eq_true rfl) (c_GM_word G _ m 3 (va_up I 4 v98) A (gP_of p99.1 (gT_of p99 hT rfl rfl rfl)) (by unfold jRi; omega)) (fun rvq142 Iq142 Aq142 hq142 => ?_)
                    obtain ⟨haq142, hbq142, hIq142, hAq142⟩ := hq142
                    rw [hIq142, hAq142]
                    by_cases gq142 : v98 < I 1 ∧ A 22 v98 = 4 ∧ A 23 v98 = 3
                    · skip
                      obtain rfl := haq142 gq142
                      have tq142 : I 1 ≤ 300 := (gT_of p99 hT rfl rfl rfl).2.1
                      clear haq142 hbq142 hIq142 hAq142
                      show jt _ 153 [(0, .ref m), (1, .long (jL v97))] [.int (jI 1)] (gmf m f0 (va_up I 4 v98) A) _ _ _
                      refine jt_if_eq (t := 175) d_GM_begin_153 rfl (by unfold jRi; omega) (fun c143 => ?_) (fun c143 => ?_)
                      · skip
                        exfalso
                        omega
                      · skip
                        refine jt_aload_n d_GM_begin_156 rfl ?_
                        refine jt_iconst d_GM_begin_157 ?_
                        have xb144 : 0 ≤ I 13 ∧ I 13 ≤ 320 := p99.1 13
                        have xb145 : 0 ≤ I 9 ∧ I 9 ≤ 100 := p99.1 9
                        refine gct_call (Y := Y_GM_push) (As := [.int (jI 4)]) (rest := []) d_GM_begin_158 GM_c208 yk_GM_push yv_GM_push rfl (Nat.le_of_ble_eq_true rfl) rfl rfl (Nat.le_of_ble_eq_true rfl) (c_GM_push G _ m 4 (va_up I 4 v98) A (show 0 ≤ I 13 by omega) (show I 13 < 320 by omega)) (fun rvq146 Iq146 Aq146 hq146 => ?_)
                        obtain ⟨rfl, hIq146, hAq146⟩ := hq146
                        rw [hIq146, hAq146]
                        have rb147 : 0 ≤ I 9 ∧ I 9 ≤ 100 := p99.1 9
                        have p148 := gPo.I 13 ((I 13) + 1) p99 rfl (show 0 ≤ (I 13) + 1 ∧ (I 13) + 1 ≤ 320 by omega)
                        have p149 := gPo.A 36 (ju (A 36) (I 13) 4) p148 rfl (gju (p148.2.1 36) (show 0 ≤ 4 ∧ 4 ≤ 6 by omega))
                        have p150 := gPo.A 37 (ju (A 37) (I 13) (I 9)) p149 rfl (gju (p149.2.1 37) (show -2147483648 ≤ I 9 ∧ I 9 ≤ 2147483647 by omega))
                        show jt _ 161 [(0, .ref m), (1, .long (jL v97))] [] (gmf m f0 (va_up (va_up I 4 v98) 13 ((I 13) + 1)) (va_up (va_up A 36 (ju (A 36) (I 13) 4)) 37 (ju (A 37) (I 13) (I 9)))) _ _ _
                        refine jt_aload_n d_GM_begin_161 rfl ?_
                        refine gm_gA (k := 38) (a := m + 23) d_GM_begin_162 GM_f127 (by decide) (by decide) rfl ?_
                        refine jt_aload_n d_GM_begin_165 rfl ?_
                        refine gm_gI (k := 13) (v := (I 13) + 1) d_GM_begin_166 GM_f49 (by decide) rfl ?_
                        refine jt_iconst d_GM_begin_169 ?_
                        refine jt_isub d_GM_begin_170 ?_
                        refine jt_lload_n d_GM_begin_171 rfl ?_
                        refine gm_st1 (k := 38) (n := 320) (B := va_up (va_up (va_up A 36 (ju (A 36) (I 13) 4)) 37 (ju (A 37) (I 13) (I 9))) 38 (ju (A 38) (((I 13) + 1) - 1) v97)) d_GM_begin_172 rfl (by decide) (by decide) rfl rfl (by omega) (by omega) (by omega) rfl ?_
                        have p151 := gPo.A 38 (ju (A 38) (((I 13) + 1) - 1) v97) p150 rfl (gju (p150.2.1 38) (show -65536000 ≤ v97 ∧ v97 ≤ 65536000 by omega))
                        refine jt_iconst d_GM_begin_173 ?_
                        exact gm_ret d_GM_begin_174 rfl (jnz (by omega)) (⟨0, rfl, by omega, p151, fun z => ⟨(show I 4 < v98 by omega), fun z2 => absurd z2 (by omega), fun _ => ⟨show I 9 = I 9 by omega, show (I 13) + 1 = I 13 + 1 by omega, 4, rfl, show ((4 : Int) = 0 ∨ (4 : Int) = 5) ∧ I 14 = I 14 + 1 ∨ ((4 : Int) = 3 ∨ (4 : Int) = 4) ∧ I 14 = I 14 by omega⟩⟩⟩)
                    · skip
                      obtain rfl := hbq142 gq142
                      clear haq142 hbq142 hIq142 hAq142
                      clear gq142
                      show jt _ 153 [(0, .ref m), (1, .long (jL v97))] [.int (jI 0)] (gmf m f0 (va_up I 4 v98) A) _ _ _
                      refine jt_if_eq (t := 175) d_GM_begin_153 rfl (by unfold jRi; omega) (fun c152 => ?_) (fun c152 => ?_)
                      · skip
                        refine jt_aload_n d_GM_begin_175 rfl ?_
                        refine jt_sipush d_GM_begin_176 (by omega) ?_
                        refine jt_aload_n d_GM_begin_179 rfl ?_
                        refine gm_gI (k := 9) (v := I 9) d_GM_begin_180 GM_f37 (by decide) rfl ?_
                        have rb153 : 0 ≤ I 9 ∧ I 9 ≤ 100 := p99.1 9
                        refine jt_iadd d_GM_begin_183 ?_
                        refine gct_call (Y := Y_GM_clear) (As := [.int (jI (300 + (I 9)))]) (rest := []) d_GM_begin_184 GM_c193 yk_GM_clear yv_GM_clear rfl (Nat.le_of_ble_eq_true rfl) rfl rfl (Nat.le_of_ble_eq_true rfl) (w_GM_clear G _ m (300 + (I 9)) (va_up I 4 v98) A p99.1 p99.2.1 (by omega) (by omega)) (fun rvq154 Iq154 Aq154 hq154 => ?_)
                        obtain ⟨rfl, hqq154⟩ := hq154
                        have hpq154 := gPo.trans p99 hqq154 rfl rfl
                        have f1q154 : Iq154 1 = I 1 := hpq154.2.2.1 1 rfl
                        have m4q154 : Iq154 4 = v98 := hqq154.2.2.1 4 rfl
                        have m9q154 : Iq154 9 = I 9 := hqq154.2.2.1 9 rfl
                        have m13q154 : Iq154 13 = I 13 := hqq154.2.2.1 13 rfl
                        have m14q154 : Iq154 14 = I 14 := hqq154.2.2.1 14 rfl
                        have a36q154 : Aq154 36 = A 36 := hqq154.2.2.2 36 rfl
                        show jt _ 187 [(0, .ref m), (1, .long (jL v97))] [] (gmf m f0 Iq154 Aq154) _ _ _
                        refine jt_aload_n d_GM_begin_187 rfl ?_
                        refine gm_gA (k := 35) (a := m + 20) d_GM_begin_188 GM_f118 (by decide) (by decide) rfl ?_
                        refine jt_sipush d_GM_begin_191 (by omega) ?_
                        refine jt_aload_n d_GM_begin_194 rfl ?_
                        refine gm_gI (k := 9) (v := Iq154 9) d_GM_begin_195 GM_f37 (by decide) rfl ?_
                        have rb155 : 0 ≤ Iq154 9 ∧ Iq154 9 ≤ 100 := hpq154.1 9
                        refine jt_iadd d_GM_begin_198 ?_
                        refine jt_bipush d_GM_begin_199 (by omega) ?_
                        refine jt_imul d_GM_begin_201 ?_
                        refine jt_bipush d_GM_begin_202 (by omega) ?_
                        refine jt_iadd d_GM_begin_204 ?_
                        refine jt_lload_n d_GM_begin_205 rfl ?_
                        refine gm_st1 (k := 35) (n := 5200) (B := va_up Aq154 35 (ju (Aq154 35) (((300 + (Iq154 9)) * 13) + 12) v97)) d_GM_begin_206 rfl (by decide) (by decide) rfl rfl (by omega) (by omega) (by omega) rfl ?_
                        have p156 := gPo.A 35 (ju (Aq154 35) (((300 + (Iq154 9)) * 13) + 12) v97) hpq154 rfl (gju (hpq154.2.1 35) (show -9223372036854775808 ≤ v97 ∧ v97 ≤ 9223372036854775807 by omega))
                        refine jt_aload_n d_GM_begin_207 rfl ?_
                        refine jt_dup d_GM_begin_208 rfl ?_
                        refine gm_gI (k := 9) (v := Iq154 9) d_GM_begin_209 GM_f37 (by decide) rfl ?_
                        refine jt_iconst d_GM_begin_212 ?_
                        refine jt_iadd d_GM_begin_213 ?_
                        refine jt_topi (fun v157 ev157 => ?_)
                        refine gm_pI (k := 9) (v := v157) (J := va_up Iq154 9 v157) d_GM_begin_214 (GM_w37 _ rfl) (by decide) rfl rfl rfl ?_
                        have p158 := gPo.I 9 v157 p156 rfl (show 0 ≤ v157 ∧ v157 ≤ 100 by omega)
                        refine jt_iconst d_GM_begin_217 ?_
                        exact gm_ret d_GM_begin_218 rfl (jnz (by omega)) (⟨1, rfl, by omega, p158, fun z => ⟨(show I 4 < Iq154 4 by omega), fun _ => ⟨show Iq154 13 = I 13 by omega, a36q154, show v157 = I 9 + 1 by omega, show Iq154 14 = I 14 by omega⟩, fun z2 => absurd z2 (by omega)⟩⟩)
                      · skip
                        exfalso
                        omega
              · skip
                exfalso
                omega
      · skip
        exfalso
        omega
  · skip
    exfalso
    omega

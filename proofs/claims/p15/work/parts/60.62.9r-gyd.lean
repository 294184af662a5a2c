set_option maxRecDepth 100000 in
set_option maxHeartbeats 1000000 in
theorem y_GM_statement (G : jG) (d m : Nat)  (I : Nat → Int) (A : Nat → Int → Int) (hT : gT I A) (hI : gSI I) (hA : gSA A) (hw : I 4 < I 1) (z5 : I 5 = 0) (s0 : Int → Int) (V9 : Int → Int → Int) (c0 : Int) (nt0 : Int → Int) (hl : gRl s0 V9 c0 nt0 I A) (hvi : VI s0 V9) (h7 : 0 ≤ I 7 ∧ I 7 ≤ 2147483000) (h8 : 0 ≤ I 8 ∧ I 8 ≤ 2147483000) (r : SR) (hR : ST (I 1) (A 22) (A 23) V9 (I 4) r) (q9 : Int) (e9 : Int) (c2 : Int) (s2 : Int → Int) (nt2 : Int → Int) (V2 : Int → Int → Int) (hC : (∃ ce pl : Int, r = .err ce pl) ∨ CO r q9 s0 V9 c0 nt0 e9 s2 V2 c2 nt2) : gct G Y_GM_statement (d + 7) m [] I A (fun (rv : Option Value) (I2 : Nat → Int) (A2 : Nat → Int → Int) => rv = none ∧ gPo [4, 5, 6, 7, 8, 9, 10, 11, 12, 13, 14, 15] [30, 31, 32, 33, 34, 35, 36, 37, 38, 39, 40, 41, 42, 43, 44, 45] I A I2 A2 ∧ (I2 5 = 0 → I 4 < I2 4) ∧ stQ r q9 e9 s0 V9 c0 nt0 s2 V2 c2 nt2 I I2 A2 ∧ (I2 5 = 0 → I2 8 = I 8 + 1) ∧ (I2 5 ≠ 0 → I2 8 = I 8)) := by
  refine gct_of (by decide) (Nat.le_of_ble_eq_true rfl) (fun f0 sz => ?_)
  show jt _ 0 [(0, .ref m)] [] _ _ _ _
  have r4 : 0 ≤ I 4 ∧ I 4 ≤ 300 := hI 4
  have r5 : -13 ≤ I 5 ∧ I 5 ≤ 0 := hI 5
  have r13 : 0 ≤ I 13 ∧ I 13 ≤ 320 := hI 13
  have hz0 : gPo [4, 5, 6, 7, 8, 9, 10, 11, 12, 13, 14, 15] [30, 31, 32, 33, 34, 35, 36, 37, 38, 39, 40, 41, 42, 43, 44, 45] I A I A := gPo.refl hI hA
  have t0 := hT.1
  have t1 := hT.2.1
  refine jt_aload_n d_GM_statement_0 rfl ?_
  refine jt_iconst d_GM_statement_1 ?_
  refine gm_pI (k := 15) (v := 0) (J := va_up I 15 0) d_GM_statement_2 (GM_w55 _ rfl) (by decide) (jnz (by omega)) rfl rfl ?_
  have p1 := gPo.I 15 0 hz0 rfl (show 0 ≤ 0 ∧ 0 ≤ 1 by omega)
  refine jt_aload_n d_GM_statement_5 rfl ?_
  refine jt_iconst d_GM_statement_6 ?_
  refine gm_pI (k := 13) (v := 0) (J := va_up (va_up I 15 0) 13 0) d_GM_statement_7 (GM_w49 _ rfl) (by decide) rfl rfl rfl ?_
  have p2 := gPo.I 13 0 p1 rfl (show 0 ≤ 0 ∧ 0 ≤ 320 by omega)
  refine jt_aload_n d_GM_statement_10 rfl ?_
  refine jt_bipush d_GM_statement_11 (by omega) ?_
  refine gct_call (Y := Y_GM_word) (As := [.int (jI 6)]) (rest := []) d_GM_statement_13 GM_c201 yk_GM_word yv_GM_word rfl (Nat.le_of_ble_eq_true rfl) rfl rfl (Nat.le_of_ble_eq_true rfl) (c_GM_word G _ m 6 (va_up (va_up I 15 0) 13 0) A (gP_of p2.1 (gT_of p2 hT rfl rfl rfl)) (by unfold jRi; omega)) (fun rvq3 Iq3 Aq3 hq3 => ?_)
  obtain ⟨haq3, hbq3, hIq3, hAq3⟩ := hq3
  rw [hIq3, hAq3]
  by_cases gq3 : xV (I 1) (A 22) (A 23) (I 4) 6
  · skip
    obtain rfl := haq3 gq3
    clear haq3 hbq3 hIq3 hAq3
    have tq3 : I 1 ≤ 300 := (gT_of p2 hT rfl rfl rfl).2.1
    have kq3 : (I 4) < (I 1) ∧ A 22 (I 4) = 4 ∧ A 23 (I 4) = 6 := gq3
    show jt _ 16 [(0, .ref m)] [.int (jI 1)] (gmf m f0 (va_up (va_up I 15 0) 13 0) A) _ _ _
    refine jt_if_eq (t := 32) d_GM_statement_16 rfl (by unfold jRi; omega) (fun c4 => ?_) (fun c4 => ?_)
    · skip
      exfalso
      omega
    · skip
      have hnp := ST_nop hR (by have h9 := gq3; unfold xV at h9; exact h9)
      refine jt_aload_n d_GM_statement_19 rfl ?_
      refine jt_dup d_GM_statement_20 rfl ?_
      refine gm_gI (k := 4) (v := I 4) d_GM_statement_21 GM_f22 (by decide) rfl ?_
      have rb5 : 0 ≤ I 4 ∧ I 4 ≤ 300 := p2.1 4
      refine jt_iconst d_GM_statement_24 ?_
      refine jt_iadd d_GM_statement_25 ?_
      refine jt_topi (fun v6 ev6 => ?_)
      refine gm_pI (k := 4) (v := v6) (J := va_up (va_up (va_up I 15 0) 13 0) 4 v6) d_GM_statement_26 (GM_w22 _ rfl) (by decide) rfl rfl rfl ?_
      have p7 := gPo.I 4 v6 p2 rfl (show 0 ≤ v6 ∧ v6 ≤ 300 by omega)
      refine jt_goto (t := 83) d_GM_statement_29 rfl ?_
      have hsq : Hd (stQ r q9 e9 s0 V9 c0 nt0 s2 V2 c2 nt2 I (va_up (va_up (va_up I 15 0) 13 0) 4 v6) A) := st_nop hnp z5 (show v6 = I 4 + 1 by omega) ⟨hl.1, hl.2.1, hl.2.2⟩
      have s8 : I 8 = I 8 := rfl
      refine jt_aload_n d_GM_statement_83 rfl ?_
      refine gm_gI (k := 5) (v := I 5) d_GM_statement_84 GM_f25 (by decide) rfl ?_
      have rb8 : -13 ≤ I 5 ∧ I 5 ≤ 0 := p7.1 5
      refine jt_if_ne (t := 100) d_GM_statement_87 rfl (by unfold jRi; omega) (fun c9 => ?_) (fun c9 => ?_)
      · skip
        exact gm_vret d_GM_statement_100 rfl (⟨rfl, p7, fun z => by have z9 : I 5 = 0 := z; show I 4 < v6; omega, hsq, (fun z => by have z9 : I 5 = 0 := z; show I 8 = I 8 + 1; omega), (fun z => by have z9 : ¬ I 5 = 0 := z; show I 8 = I 8; omega)⟩)
      · skip
        refine jt_aload_n d_GM_statement_90 rfl ?_
        refine jt_dup d_GM_statement_91 rfl ?_
        refine gm_gI (k := 8) (v := I 8) d_GM_statement_92 GM_f34 (by decide) rfl ?_
        have rb10 : -2147483648 ≤ I 8 ∧ I 8 ≤ 2147483647 := p7.1 8
        refine jt_iconst d_GM_statement_95 ?_
        refine jt_iadd d_GM_statement_96 ?_
        refine jt_topi (fun v11 ev11 => ?_)
        refine gm_pI (k := 8) (v := v11) (J := va_up (va_up (va_up (va_up I 15 0) 13 0) 4 v6) 8 v11) d_GM_statement_97 (GM_w34 _ rfl) (by decide) rfl rfl rfl ?_
        have p12 := gPo.I 8 v11 p7 rfl (show -2147483648 ≤ v11 ∧ v11 ≤ 2147483647 by omega)
        exact gm_vret d_GM_statement_100 rfl (⟨rfl, p12, fun z => by have z9 : I 5 = 0 := z; show I 4 < v6; omega, hsq, (fun z => by have z9 : I 5 = 0 := z; show v11 = I 8 + 1; omega), (fun z => by have z9 : ¬ I 5 = 0 := z; show v11 = I 8; omega)⟩)
  · skip
    obtain rfl := hbq3 gq3
    clear haq3 hbq3 hIq3 hAq3
    show jt _ 16 [(0, .ref m)] [.int (jI 0)] (gmf m f0 (va_up (va_up I 15 0) 13 0) A) _ _ _
    refine jt_if_eq (t := 32) d_GM_statement_16 rfl (by unfold jRi; omega) (fun c13 => ?_) (fun c13 => ?_)
    · skip
      refine jt_aload_n d_GM_statement_32 rfl ?_
      refine jt_bipush d_GM_statement_33 (by omega) ?_
      refine gct_call (Y := Y_GM_word) (As := [.int (jI 12)]) (rest := []) d_GM_statement_35 GM_c201 yk_GM_word yv_GM_word rfl (Nat.le_of_ble_eq_true rfl) rfl rfl (Nat.le_of_ble_eq_true rfl) (c_GM_word G _ m 12 (va_up (va_up I 15 0) 13 0) A (gP_of p2.1 (gT_of p2 hT rfl rfl rfl)) (by unfold jRi; omega)) (fun rvq14 Iq14 Aq14 hq14 => ?_)
      obtain ⟨haq14, hbq14, hIq14, hAq14⟩ := hq14
      rw [hIq14, hAq14]
      by_cases gq14 : xV (I 1) (A 22) (A 23) (I 4) 12
      · skip
        obtain rfl := haq14 gq14
        clear haq14 hbq14 hIq14 hAq14
        have tq14 : I 1 ≤ 300 := (gT_of p2 hT rfl rfl rfl).2.1
        have kq14 : (I 4) < (I 1) ∧ A 22 (I 4) = 4 ∧ A 23 (I 4) = 12 := gq14
        show jt _ 38 [(0, .ref m)] [.int (jI 1)] (gmf m f0 (va_up (va_up I 15 0) 13 0) A) _ _ _
        refine jt_if_eq (t := 48) d_GM_statement_38 rfl (by unfold jRi; omega) (fun c15 => ?_) (fun c15 => ?_)
        · skip
          exfalso
          omega
        · skip
          obtain ⟨rs, hEX, hs1, hs2⟩ := ST_shw hR (by have h9 := gq14; unfold xV at h9; exact h9)
          refine jt_aload_n d_GM_statement_41 rfl ?_
          refine gct_call (Y := Y_GM_showIt) (As := []) (rest := []) d_GM_statement_42 GM_c320 yk_GM_showIt yv_GM_showIt rfl (Nat.le_of_ble_eq_true rfl) rfl rfl (Nat.le_of_ble_eq_true rfl) (y_GM_showIt G _ m (va_up (va_up I 15 0) 13 0) A (gT_of p2 hT rfl rfl rfl) p2.1 p2.2.1 (show I 4 < I 1 by omega) z5 rfl rfl (show 0 ≤ I 7 ∧ I 7 ≤ 2147483000 by omega) V9 (by show gVr V9 A; exact hl.1.2) rs hEX) (fun rvq16 Iq16 Aq16 hq16 => ?_)
          obtain ⟨rfl, hqq16, hxq16⟩ := hq16
          have hpq16 := gPo.trans p2 hqq16 rfl rfl
          have f1q16 : Iq16 1 = I 1 := hpq16.2.2.1 1 rfl
          have s4q16 : (va_up (va_up I 15 0) 13 0) 4 = I 4 := rfl
          have s5q16 : (va_up (va_up I 15 0) 13 0) 5 = I 5 := rfl
          have s8q16 : (va_up (va_up I 15 0) 13 0) 8 = I 8 := rfl
          have m8q16 : Iq16 8 = I 8 := hqq16.2.2.1 8 rfl
          have kwq16 := hxq16.1
          have kqq16 : Hd _ := hxq16.2
          clear hxq16
          show jt _ 45 [(0, .ref m)] [] (gmf m f0 Iq16 Aq16) _ _ _
          refine jt_goto (t := 83) d_GM_statement_45 rfl ?_
          have hsq : Hd (stQ r q9 e9 s0 V9 c0 nt0 s2 V2 c2 nt2 I Iq16 Aq16) := st_shw (n := I 1) (X := A 22) (Y := A 23) (A := A) ⟨hqq16.2.2.2 30 rfl, hqq16.2.2.2 31 rfl, hqq16.2.2.2 45 rfl⟩ hl hs1 hs2 (by have h9 := kqq16; exact h9)
          have s8 : Iq16 8 = I 8 := hqq16.2.2.1 8 rfl
          refine jt_aload_n d_GM_statement_83 rfl ?_
          refine gm_gI (k := 5) (v := Iq16 5) d_GM_statement_84 GM_f25 (by decide) rfl ?_
          have rb17 : -13 ≤ Iq16 5 ∧ Iq16 5 ≤ 0 := hpq16.1 5
          refine jt_if_ne (t := 100) d_GM_statement_87 rfl (by unfold jRi; omega) (fun c18 => ?_) (fun c18 => ?_)
          · skip
            exact gm_vret d_GM_statement_100 rfl (⟨rfl, hpq16, fun z => by have z9 : Iq16 5 = 0 := z; show I 4 < Iq16 4; omega, hsq, (fun z => by have z9 : Iq16 5 = 0 := z; show Iq16 8 = I 8 + 1; omega), (fun z => by have z9 : ¬ Iq16 5 = 0 := z; show Iq16 8 = I 8; omega)⟩)
          · skip
            refine jt_aload_n d_GM_statement_90 rfl ?_
            refine jt_dup d_GM_statement_91 rfl ?_
            refine gm_gI (k := 8) (v := Iq16 8) d_GM_statement_92 GM_f34 (by decide) rfl ?_
            have rb19 : -2147483648 ≤ Iq16 8 ∧ Iq16 8 ≤ 2147483647 := hpq16.1 8
            refine jt_iconst d_GM_statement_95 ?_
            refine jt_iadd d_GM_statement_96 ?_
            refine jt_topi (fun v20 ev20 => ?_)
            refine gm_pI (k := 8) (v := v20) (J := va_up Iq16 8 v20) d_GM_statement_97 (GM_w34 _ rfl) (by decide) rfl rfl rfl ?_
            have p21 := gPo.I 8 v20 hpq16 rfl (show -2147483648 ≤ v20 ∧ v20 ≤ 2147483647 by omega)
            exact gm_vret d_GM_statement_100 rfl (⟨rfl, p21, fun z => by have z9 : Iq16 5 = 0 := z; show I 4 < Iq16 4; omega, hsq, (fun z => by have z9 : Iq16 5 = 0 := z; show v20 = I 8 + 1; omega), (fun z => by have z9 : ¬ Iq16 5 = 0 := z; show v20 = I 8; omega)⟩)
      · skip
        obtain rfl := hbq14 gq14
        clear haq14 hbq14 hIq14 hAq14
        show jt _ 38 [(0, .ref m)] [.int (jI 0)] (gmf m f0 (va_up (va_up I 15 0) 13 0) A) _ _ _
        refine jt_if_eq (t := 48) d_GM_statement_38 rfl (by unfold jRi; omega) (fun c22 => ?_) (fun c22 => ?_)
        · skip
          refine jt_aload_n d_GM_statement_48 rfl ?_
          refine jt_bipush d_GM_statement_49 (by omega) ?_
          refine gct_call (Y := Y_GM_word) (As := [.int (jI 10)]) (rest := []) d_GM_statement_51 GM_c201 yk_GM_word yv_GM_word rfl (Nat.le_of_ble_eq_true rfl) rfl rfl (Nat.le_of_ble_eq_true rfl) (c_GM_word G _ m 10 (va_up (va_up I 15 0) 13 0) A (gP_of p2.1 (gT_of p2 hT rfl rfl rfl)) (by unfold jRi; omega)) (fun rvq23 Iq23 Aq23 hq23 => ?_)
          obtain ⟨haq23, hbq23, hIq23, hAq23⟩ := hq23
          rw [hIq23, hAq23]
          by_cases gq23 : xV (I 1) (A 22) (A 23) (I 4) 10
          · skip
            obtain rfl := haq23 gq23
            clear haq23 hbq23 hIq23 hAq23
            have tq23 : I 1 ≤ 300 := (gT_of p2 hT rfl rfl rfl).2.1
            have kq23 : (I 4) < (I 1) ∧ A 22 (I 4) = 4 ∧ A 23 (I 4) = 10 := gq23
            show jt _ 54 [(0, .ref m)] [.int (jI 1)] (gmf m f0 (va_up (va_up I 15 0) 13 0) A) _ _ _
            refine jt_if_ne (t := 66) d_GM_statement_54 rfl (by unfold jRi; omega) (fun c24 => ?_) (fun c24 => ?_)
            · skip
              refine jt_aload_n d_GM_statement_66 rfl ?_
              refine jt_aload_n d_GM_statement_67 rfl ?_
              refine jt_bipush d_GM_statement_68 (by omega) ?_
              refine gct_call (Y := Y_GM_word) (As := [.int (jI 10)]) (rest := [.ref m]) d_GM_statement_70 GM_c201 yk_GM_word yv_GM_word rfl (Nat.le_of_ble_eq_true rfl) rfl rfl (Nat.le_of_ble_eq_true rfl) (c_GM_word G _ m 10 (va_up (va_up I 15 0) 13 0) A (gP_of p2.1 (gT_of p2 hT rfl rfl rfl)) (by unfold jRi; omega)) (fun rvq25 Iq25 Aq25 hq25 => ?_)
              obtain ⟨haq25, hbq25, hIq25, hAq25⟩ := hq25
              rw [hIq25, hAq25]
              by_cases gq25 : xV (I 1) (A 22) (A 23) (I 4) 10
              · skip
                obtain rfl := haq25 gq25
                clear haq25 hbq25 hIq25 hAq25
                have tq25 : I 1 ≤ 300 := (gT_of p2 hT rfl rfl rfl).2.1
                have kq25 : (I 4) < (I 1) ∧ A 22 (I 4) = 4 ∧ A 23 (I 4) = 10 := gq25
                show jt _ 73 [(0, .ref m)] [.int (jI 1), .ref m] (gmf m f0 (va_up (va_up I 15 0) 13 0) A) _ _ _
                obtain ⟨rp, hPH, hs1, hs2⟩ := ST_path (v := 10) hR (by decide) (by have h9 := gq25; unfold xV at h9; exact h9)
                obtain ⟨e8, hTN, he8⟩ := co_path hs2 hC
                refine gct_call (Y := Y_GM_path) (As := [.int (jI 1)]) (rest := []) d_GM_statement_73 GM_c323 yk_GM_path yv_GM_path rfl (Nat.le_of_ble_eq_true rfl) rfl rfl (Nat.le_of_ble_eq_true rfl) (y_GM_path G _ m 1 (va_up (va_up I 15 0) 13 0) A (gT_of p2 hT rfl rfl rfl) p2.1 p2.2.1 (by omega) (show I 4 < I 1 by omega) z5 rfl rfl V9 (by show gVr V9 A; exact hl.1.2) rp hPH e8 hTN) (fun rvq26 Iq26 Aq26 hq26 => ?_)
                obtain ⟨rfl, hqq26, hxq26⟩ := hq26
                have hpq26 := gPo.trans p2 hqq26 rfl rfl
                have f1q26 : Iq26 1 = I 1 := hpq26.2.2.1 1 rfl
                have s4q26 : (va_up (va_up I 15 0) 13 0) 4 = I 4 := rfl
                have s5q26 : (va_up (va_up I 15 0) 13 0) 5 = I 5 := rfl
                have s8q26 : (va_up (va_up I 15 0) 13 0) 8 = I 8 := rfl
                have m8q26 : Iq26 8 = I 8 := hqq26.2.2.1 8 rfl
                have kwq26 := hxq26.1
                have kqq26 : Hd _ := hxq26.2
                clear hxq26
                show jt _ 76 [(0, .ref m)] [] (gmf m f0 Iq26 Aq26) _ _ _
                refine jt_goto (t := 83) d_GM_statement_76 rfl ?_
                have hsq : Hd (stQ r q9 e9 s0 V9 c0 nt0 s2 V2 c2 nt2 I Iq26 Aq26) := st_path (v := 10) (A := A) ⟨fun u u0 u1 => by rw [hqq26.2.2.2 30 rfl]; exact hl.1.1 u u0 u1, by unfold gVr; rw [hqq26.2.2.2 30 rfl, hqq26.2.2.2 31 rfl]; exact hl.1.2⟩ (by rw [hqq26.2.2.1 7 rfl]; exact hl.2.1) (fun k k0 k1 => by rw [hqq26.2.2.2 32 rfl]; exact hl.2.2.1 k k0 k1) hl.2.2.2 hs1 hs2 e8 he8 (by have h9 := kqq26; exact h9)
                have s8 : Iq26 8 = I 8 := hqq26.2.2.1 8 rfl
                refine jt_aload_n d_GM_statement_83 rfl ?_
                refine gm_gI (k := 5) (v := Iq26 5) d_GM_statement_84 GM_f25 (by decide) rfl ?_
                have rb27 : -13 ≤ Iq26 5 ∧ Iq26 5 ≤ 0 := hpq26.1 5
                refine jt_if_ne (t := 100) d_GM_statement_87 rfl (by unfold jRi; omega) (fun c28 => ?_) (fun c28 => ?_)
                · skip
                  exact gm_vret d_GM_statement_100 rfl (⟨rfl, hpq26, fun z => by have z9 : Iq26 5 = 0 := z; show I 4 < Iq26 4; omega, hsq, (fun z => by have z9 : Iq26 5 = 0 := z; show Iq26 8 = I 8 + 1; omega), (fun z => by have z9 : ¬ Iq26 5 = 0 := z; show Iq26 8 = I 8; omega)⟩)
                · skip
                  refine jt_aload_n d_GM_statement_90 rfl ?_
                  refine jt_dup d_GM_statement_91 rfl ?_
                  refine gm_gI (k := 8) (v := Iq26 8) d_GM_statement_92 GM_f34 (by decide) rfl ?_
                  have rb29 : -2147483648 ≤ Iq26 8 ∧ Iq26 8 ≤ 2147483647 := hpq26.1 8
                  refine jt_iconst d_GM_statement_95 ?_
                  refine jt_iadd d_GM_statement_96 ?_
                  refine jt_topi (fun v30 ev30 => ?_)
                  refine gm_pI (k := 8) (v := v30) (J := va_up Iq26 8 v30) d_GM_statement_97 (GM_w34 _ rfl) (by decide) rfl rfl rfl ?_
                  have p31 := gPo.I 8 v30 hpq26 rfl (show -2147483648 ≤ v30 ∧ v30 ≤ 2147483647 by omega)
                  exact gm_vret d_GM_statement_100 rfl (⟨rfl, p31, fun z => by have z9 : Iq26 5 = 0 := z; show I 4 < Iq26 4; omega, hsq, (fun z => by have z9 : Iq26 5 = 0 := z; show v30 = I 8 + 1; omega), (fun z => by have z9 : ¬ Iq26 5 = 0 := z; show v30 = I 8; omega)⟩)
              · skip
                obtain rfl := hbq25 gq25
                clear haq25 hbq25 hIq25 hAq25
                show jt _ 73 [(0, .ref m)] [.int (jI 0), .ref m] (gmf m f0 (va_up (va_up I 15 0) 13 0) A) _ _ _
                exact absurd gq23 gq25
            · skip
              exfalso
              omega
          · skip
            obtain rfl := hbq23 gq23
            clear haq23 hbq23 hIq23 hAq23
            show jt _ 54 [(0, .ref m)] [.int (jI 0)] (gmf m f0 (va_up (va_up I 15 0) 13 0) A) _ _ _
            refine jt_if_ne (t := 66) d_GM_statement_54 rfl (by unfold jRi; omega) (fun c32 => ?_) (fun c32 => ?_)
            · skip
              exfalso
              omega
            · skip
              refine jt_aload_n d_GM_statement_57 rfl ?_
              refine jt_bipush d_GM_statement_58 (by omega) ?_
              refine gct_call (Y := Y_GM_word) (As := [.int (jI 11)]) (rest := []) d_GM_statement_60 GM_c201 yk_GM_word yv_GM_word rfl (Nat.le_of_ble_eq_true rfl) rfl rfl (Nat.le_of_ble_eq_true rfl) (c_GM_word G _ m 11 (va_up (va_up I 15 0) 13 0) A (gP_of p2.1 (gT_of p2 hT rfl rfl rfl)) (by unfold jRi; omega)) (fun rvq33 Iq33 Aq33 hq33 => ?_)
              obtain ⟨haq33, hbq33, hIq33, hAq33⟩ := hq33
              rw [hIq33, hAq33]
              by_cases gq33 : xV (I 1) (A 22) (A 23) (I 4) 11
              · skip
                obtain rfl := haq33 gq33
                clear haq33 hbq33 hIq33 hAq33
                have tq33 : I 1 ≤ 300 := (gT_of p2 hT rfl rfl rfl).2.1
                have kq33 : (I 4) < (I 1) ∧ A 22 (I 4) = 4 ∧ A 23 (I 4) = 11 := gq33
                show jt _ 63 [(0, .ref m)] [.int (jI 1)] (gmf m f0 (va_up (va_up I 15 0) 13 0) A) _ _ _
                refine jt_if_eq (t := 79) d_GM_statement_63 rfl (by unfold jRi; omega) (fun c34 => ?_) (fun c34 => ?_)
                · skip
                  exfalso
                  omega
                · skip
                  refine jt_aload_n d_GM_statement_66 rfl ?_
                  refine jt_aload_n d_GM_statement_67 rfl ?_
                  refine jt_bipush d_GM_statement_68 (by omega) ?_
                  refine gct_call (Y := Y_GM_word) (As := [.int (jI 10)]) (rest := [.ref m]) d_GM_statement_70 GM_c201 yk_GM_word yv_GM_word rfl (Nat.le_of_ble_eq_true rfl) rfl rfl (Nat.le_of_ble_eq_true rfl) (c_GM_word G _ m 10 (va_up (va_up I 15 0) 13 0) A (gP_of p2.1 (gT_of p2 hT rfl rfl rfl)) (by unfold jRi; omega)) (fun rvq35 Iq35 Aq35 hq35 => ?_)
                  obtain ⟨haq35, hbq35, hIq35, hAq35⟩ := hq35
                  rw [hIq35, hAq35]
                  by_cases gq35 : xV (I 1) (A 22) (A 23) (I 4) 10
                  · skip
                    obtain rfl := haq35 gq35
                    clear haq35 hbq35 hIq35 hAq35
                    have tq35 : I 1 ≤ 300 := (gT_of p2 hT rfl rfl rfl).2.1
                    have kq35 : (I 4) < (I 1) ∧ A 22 (I 4) = 4 ∧ A 23 (I 4) = 10 := gq35
                    show jt _ 73 [(0, .ref m)] [.int (jI 1), .ref m] (gmf m f0 (va_up (va_up I 15 0) 13 0) A) _ _ _
                    exact absurd gq35 gq23
                  · skip
                    obtain rfl := hbq35 gq35
                    clear haq35 hbq35 hIq35 hAq35
                    show jt _ 73 [(0, .ref m)] [.int (jI 0), .ref m] (gmf m f0 (va_up (va_up I 15 0) 13 0) A) _ _ _
                    obtain ⟨rp, hPH, hs1, hs2⟩ := ST_path (v := 11) hR (by decide) (by have h9 := gq33; unfold xV at h9; exact h9)
                    obtain ⟨e8, hTN, he8⟩ := co_path hs2 hC
                    refine gct_call (Y := Y_GM_path) (As := [.int (jI 0)]) (rest := []) d_GM_statement_73 GM_c323 yk_GM_path yv_GM_path rfl (Nat.le_of_ble_eq_true rfl) rfl rfl (Nat.le_of_ble_eq_true rfl) (y_GM_path G _ m 0 (va_up (va_up I 15 0) 13 0) A (gT_of p2 hT rfl rfl rfl) p2.1 p2.2.1 (by omega) (show I 4 < I 1 by omega) z5 rfl rfl V9 (by show gVr V9 A; exact hl.1.2) rp hPH e8 hTN) (fun rvq36 Iq36 Aq36 hq36 => ?_)
                    obtain ⟨rfl, hqq36, hxq36⟩ := hq36
                    have hpq36 := gPo.trans p2 hqq36 rfl rfl
                    have f1q36 : Iq36 1 = I 1 := hpq36.2.2.1 1 rfl
                    have s4q36 : (va_up (va_up I 15 0) 13 0) 4 = I 4 := rfl
                    have s5q36 : (va_up (va_up I 15 0) 13 0) 5 = I 5 := rfl
                    have s8q36 : (va_up (va_up I 15 0) 13 0) 8 = I 8 := rfl
                    have m8q36 : Iq36 8 = I 8 := hqq36.2.2.1 8 rfl
                    have kwq36 := hxq36.1
                    have kqq36 : Hd _ := hxq36.2
                    clear hxq36
                    show jt _ 76 [(0, .ref m)] [] (gmf m f0 Iq36 Aq36) _ _ _
                    refine jt_goto (t := 83) d_GM_statement_76 rfl ?_
                    have hsq : Hd (stQ r q9 e9 s0 V9 c0 nt0 s2 V2 c2 nt2 I Iq36 Aq36) := st_path (v := 11) (A := A) ⟨fun u u0 u1 => by rw [hqq36.2.2.2 30 rfl]; exact hl.1.1 u u0 u1, by unfold gVr; rw [hqq36.2.2.2 30 rfl, hqq36.2.2.2 31 rfl]; exact hl.1.2⟩ (by rw [hqq36.2.2.1 7 rfl]; exact hl.2.1) (fun k k0 k1 => by rw [hqq36.2.2.2 32 rfl]; exact hl.2.2.1 k k0 k1) hl.2.2.2 hs1 hs2 e8 he8 (by have h9 := kqq36; exact h9)
                    have s8 : Iq36 8 = I 8 := hqq36.2.2.1 8 rfl
                    refine jt_aload_n d_GM_statement_83 rfl ?_
                    refine gm_gI (k := 5) (v := Iq36 5) d_GM_statement_84 GM_f25 (by decide) rfl ?_
                    have rb37 : -13 ≤ Iq36 5 ∧ Iq36 5 ≤ 0 := hpq36.1 5
                    refine jt_if_ne (t := 100) d_GM_statement_87 rfl (by unfold jRi; omega) (fun c38 => ?_) (fun c38 => ?_)
                    · skip
                      exact gm_vret d_GM_statement_100 rfl (⟨rfl, hpq36, fun z => by have z9 : Iq36 5 = 0 := z; show I 4 < Iq36 4; omega, hsq, (fun z => by have z9 : Iq36 5 = 0 := z; show Iq36 8 = I 8 + 1; omega), (fun z => by have z9 : ¬ Iq36 5 = 0 := z; show Iq36 8 = I 8; omega)⟩)
                    · skip
                      refine jt_aload_n d_GM_statement_90 rfl ?_
                      refine jt_dup d_GM_statement_91 rfl ?_
                      refine gm_gI (k := 8) (v := Iq36 8) d_GM_statement_92 GM_f34 (by decide) rfl ?_
                      have rb39 : -2147483648 ≤ Iq36 8 ∧ Iq36 8 ≤ 2147483647 := hpq36.1 8
                      refine jt_iconst d_GM_statement_95 ?_
                      refine jt_iadd d_GM_statement_96 ?_
                      refine jt_topi (fun v40 ev40 => ?_)
                      refine gm_pI (k := 8) (v := v40) (J := va_up Iq36 8 v40) d_GM_statement_97 (GM_w34 _ rfl) (by decide) rfl rfl rfl ?_
                      have p41 := gPo.I 8 v40 hpq36 rfl (show -2147483648 ≤ v40 ∧ v40 ≤ 2147483647 by omega)
                      exact gm_vret d_GM_statement_100 rfl (⟨rfl, p41, fun z => by have z9 : Iq36 5 = 0 := z; show I 4 < Iq36 4; omega, hsq, (fun z => by have z9 : Iq36 5 = 0 := z; show v40 = I 8 + 1; omega), (fun z => by have z9 : ¬ Iq36 5 = 0 := z; show v40 = I 8; omega)⟩)
              · skip
                obtain rfl := hbq33 gq33
                clear haq33 hbq33 hIq33 hAq33
                show jt _ 63 [(0, .ref m)] [.int (jI 0)] (gmf m f0 (va_up (va_up I 15 0) 13 0) A) _ _ _
                refine jt_if_eq (t := 79) d_GM_statement_63 rfl (by unfold jRi; omega) (fun c42 => ?_) (fun c42 => ?_)
                · skip
                  obtain ⟨rq, hEQ, hs1, hs2⟩ := ST_eqs hR (by have h9 := gq3; unfold xV at h9; exact h9) (by have h9 := gq14; unfold xV at h9; exact h9) (by have h9 := gq23; unfold xV at h9; exact h9) (by have h9 := gq33; unfold xV at h9; exact h9)
                  obtain ⟨e8, s8, V8, hEA, he8⟩ := co_eqs hl.1.1 hs2 hC
                  refine jt_aload_n d_GM_statement_79 rfl ?_
                  refine gct_call (Y := Y_GM_equations) (As := []) (rest := []) d_GM_statement_80 GM_c326 yk_GM_equations yv_GM_equations rfl (Nat.le_of_ble_eq_true rfl) rfl rfl (Nat.le_of_ble_eq_true rfl) (y_GM_equations G _ m (va_up (va_up I 15 0) 13 0) A (gT_of p2 hT rfl rfl rfl) p2.1 p2.2.1 z5 rfl rfl V9 (by show gVr V9 A; exact hl.1.2) (by show VI (A 30) V9; exact VI_s hl.1.1 hvi) rq hEQ e8 s8 V8 hEA) (fun rvq43 Iq43 Aq43 hq43 => ?_)
                  obtain ⟨rfl, hqq43, hxq43⟩ := hq43
                  have hpq43 := gPo.trans p2 hqq43 rfl rfl
                  have f1q43 : Iq43 1 = I 1 := hpq43.2.2.1 1 rfl
                  have s4q43 : (va_up (va_up I 15 0) 13 0) 4 = I 4 := rfl
                  have s5q43 : (va_up (va_up I 15 0) 13 0) 5 = I 5 := rfl
                  have s8q43 : (va_up (va_up I 15 0) 13 0) 8 = I 8 := rfl
                  have m8q43 : Iq43 8 = I 8 := hqq43.2.2.1 8 rfl
                  have kwq43 := hxq43.1
                  have kqq43 : Hd _ := hxq43.2
                  clear hxq43
                  show jt _ 83 [(0, .ref m)] [] (gmf m f0 Iq43 Aq43) _ _ _
                  have hsq : Hd (stQ r q9 e9 s0 V9 c0 nt0 s2 V2 c2 nt2 I Iq43 Aq43) := st_eqs hl.1 ⟨by rw [hqq43.2.2.1 7 rfl]; exact hl.2.1, fun k k0 k1 => by rw [hqq43.2.2.2 32 rfl]; exact hl.2.2.1 k k0 k1, fun k k0 k1 => by rw [hqq43.2.2.2 45 rfl]; exact hl.2.2.2 k k0 k1⟩ hs1 hs2 he8 (by have h9 := kqq43; exact h9)
                  have s8 : Iq43 8 = I 8 := hqq43.2.2.1 8 rfl
                  refine jt_aload_n d_GM_statement_83 rfl ?_
                  refine gm_gI (k := 5) (v := Iq43 5) d_GM_statement_84 GM_f25 (by decide) rfl ?_
                  have rb44 : -13 ≤ Iq43 5 ∧ Iq43 5 ≤ 0 := hpq43.1 5
                  refine jt_if_ne (t := 100) d_GM_statement_87 rfl (by unfold jRi; omega) (fun c45 => ?_) (fun c45 => ?_)
                  · skip
                    exact gm_vret d_GM_statement_100 rfl (⟨rfl, hpq43, fun z => by have z9 : Iq43 5 = 0 := z; show I 4 < Iq43 4; omega, hsq, (fun z => by have z9 : Iq43 5 = 0 := z; show Iq43 8 = I 8 + 1; omega), (fun z => by have z9 : ¬ Iq43 5 = 0 := z; show Iq43 8 = I 8; omega)⟩)
                  · skip
                    refine jt_aload_n d_GM_statement_90 rfl ?_
                    refine jt_dup d_GM_statement_91 rfl ?_
                    refine gm_gI (k := 8) (v := Iq43 8) d_GM_statement_92 GM_f34 (by decide) rfl ?_
                    have rb46 : -2147483648 ≤ Iq43 8 ∧ Iq43 8 ≤ 2147483647 := hpq43.1 8
                    refine jt_iconst d_GM_statement_95 ?_
                    refine jt_iadd d_GM_statement_96 ?_
                    refine jt_topi (fun v47 ev47 => ?_)
                    refine gm_pI (k := 8) (v := v47) (J := va_up Iq43 8 v47) d_GM_statement_97 (GM_w34 _ rfl) (by decide) rfl rfl rfl ?_
                    have p48 := gPo.I 8 v47 hpq43 rfl (show -2147483648 ≤ v47 ∧ v47 ≤ 2147483647 by omega)
                    exact gm_vret d_GM_statement_100 rfl (⟨rfl, p48, fun z => by have z9 : Iq43 5 = 0 := z; show I 4 < Iq43 4; omega, hsq, (fun z => by have z9 : Iq43 5 = 0 := z; show v47 = I 8 + 1; omega), (fun z => by have z9 : ¬ Iq43 5 = 0 := z; show v47 = I 8; omega)⟩)
                · skip
                  exfalso
                  omega
        · skip
          exfalso
          omega
    · skip
      exfalso
      omega

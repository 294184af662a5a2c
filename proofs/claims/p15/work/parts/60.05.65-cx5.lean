set_option maxRecDepth 100000 in
set_option maxHeartbeats 4000000 in
theorem v_EX_replaceCall_x (G : jG) (d b : Nat)  (I : Nat → Nat → Int) (A : Nat → Int → Int) (hI : cSI I) (hA : cSA A) (hK : cTok A) (X9 : Int → Int) (hX : A 40 = X9) (Y9 : Int → Int) (hY : A 41 = Y9) (D9 : Int → Int) (hD : A 42 = D9) (N9 : Int) (hN : I 39 3 = N9) (ha : I 5 5 < N9) (hc : X9 (I 5 5) = 3) (hr : I 5 6 ≤ 100) (hD9 : ∀ j, 0 ≤ j → j < N9 → 0 ≤ D9 j ∧ D9 j ≤ 6) (hM : cMac I A) : cct G Y_EX_replaceCall (d + 3) b [.ref (b + 5), .ref (b + 39)] I A (fun (rv : Option Value) (I2 : Nat → Nat → Int) (A2 : Nat → Int → Int) => ∃ y : Int, rv = some (.int (jI y)) ∧ (-13 ≤ y ∧ y ≤ 0) ∧ cPx [86, 131, 627] [9, 10, 11, 12, 13, 40, 41, 42] I A I2 A2 ∧ cTok A2 ∧ (y = 0 → I2 5 6 ≤ 100) ∧ xRC N9 X9 Y9 D9 (A (15 + 4 * (Y9 (I 5 5)).toNat)) (A (16 + 4 * (Y9 (I 5 5)).toNat)) (I (14 + 4 * (Y9 (I 5 5)).toNat) 3) (A 7 (Y9 (I 5 5))) (I 5 5) (I 5 6) y (I2 5 6) (I2 39 3) (A2 40) (A2 41) (A2 42)) := by
  refine cct_of (by decide) (Nat.le_of_ble_eq_true rfl) (fun f0 sz => ?_)
  show jt _ 0 [(0, .ref (b + 5)), (1, .ref (b + 39))] [] _ _ _ _
  have r55 : 0 ≤ I 5 5 ∧ I 5 5 ≤ 300 := hI 5 5
  have r39 : 0 ≤ I 39 3 ∧ I 39 3 ≤ 300 := hI 39 3
  have r56 : 0 ≤ I 5 6 ∧ I 5 6 ≤ 101 := hI 5 6
  have hz0 : cPx [86, 131, 627] [9, 10, 11, 12, 13, 40, 41, 42] I A I A := cPx.refl hI hA
  have tk : gtok (A 40 (I 5 5)) (A 41 (I 5 5)) := hK 39 rfl (I 5 5)
  unfold gtok at tk
  rw [hX, hY] at tk
  refine jt_aload_n d_EX_replaceCall_0 rfl ?_
  refine cm_get (k := 39) (v := .ref (b + 41)) d_EX_replaceCall_1 EX_f55 (by decide) (cc_1 rfl) rfl ?_
  refine jt_aload_n d_EX_replaceCall_4 rfl ?_
  refine cm_get (k := 5) (v := .int (jI (I 5 5))) d_EX_replaceCall_5 EX_f42 (by decide) cc_2 rfl ?_
  have rb1 : 0 ≤ I 5 5 ∧ I 5 5 ≤ 300 := hz0.1 5 5
  refine cm_ld0 (k := 41) (n := 300) (v := (A 41) (I 5 5)) d_EX_replaceCall_8 (by decide) rfl rfl (by omega) (by omega) (by omega) rfl ?_
  refine jt_topi (fun v2 ev2 => ?_)
  have bv2 : -2147483648 ≤ v2 ∧ v2 ≤ 2147483647 := by rw [ev2]; exact hz0.2.1 41 (I 5 5)
  rw [hY] at ev2
  refine jt_istore_n (L' := [(0, .ref (b + 5)), (1, .ref (b + 39)), (2, .int (jI v2))]) d_EX_replaceCall_9 (Nat.le_of_ble_eq_true rfl) rfl ?_
  refine jt_aload_n d_EX_replaceCall_10 rfl ?_
  refine cm_get (k := 5) (v := .ref (b + 7)) d_EX_replaceCall_11 EX_f17 (by decide) cc_2 rfl ?_
  refine jt_iload_n d_EX_replaceCall_14 rfl ?_
  refine cm_ld0 (k := 7) (n := 6) (v := (A 7) v2) d_EX_replaceCall_15 (by decide) rfl rfl (by omega) (by omega) (by omega) rfl ?_
  refine jt_topi (fun v3 ev3 => ?_)
  have bv3 : -1 ≤ v3 ∧ v3 ≤ 3 := by rw [ev3]; exact hz0.2.1 7 v2
  refine jt_iconst d_EX_replaceCall_16 ?_
  refine jt_icmp_ne (t := 23) d_EX_replaceCall_17 rfl (by unfold jRi; omega) (by unfold jRi; omega) (fun c4 => ?_) (fun c4 => ?_)
  · skip
    refine jt_aload_n d_EX_replaceCall_23 rfl ?_
    refine cm_get (k := 39) (v := .ref (b + 42)) d_EX_replaceCall_24 EX_f58 (by decide) (cc_1 rfl) rfl ?_
    refine jt_aload_n d_EX_replaceCall_27 rfl ?_
    refine cm_get (k := 5) (v := .int (jI (I 5 5))) d_EX_replaceCall_28 EX_f42 (by decide) cc_2 rfl ?_
    refine cm_ld0 (k := 42) (n := 300) (v := (A 42) (I 5 5)) d_EX_replaceCall_31 (by decide) rfl rfl (by omega) (by omega) (by omega) rfl ?_
    refine jt_topi (fun v5 ev5 => ?_)
    have bv5 : -2147483648 ≤ v5 ∧ v5 ≤ 2147483647 := by rw [ev5]; exact hz0.2.1 42 (I 5 5)
    rw [hD] at ev5
    refine jt_bipush d_EX_replaceCall_32 (by omega) ?_
    refine jt_icmp_lt (t := 40) d_EX_replaceCall_34 rfl (by unfold jRi; omega) (by unfold jRi; omega) (fun c6 => ?_) (fun c6 => ?_)
    · skip
      refine jt_aload_n d_EX_replaceCall_40 rfl ?_
      refine cm_get (k := 5) (v := .ref (b + 7)) d_EX_replaceCall_41 EX_f17 (by decide) cc_2 rfl ?_
      refine jt_iload_n d_EX_replaceCall_44 rfl ?_
      refine cm_ld0 (k := 7) (n := 6) (v := (A 7) v2) d_EX_replaceCall_45 (by decide) rfl rfl (by omega) (by omega) (by omega) rfl ?_
      refine jt_topi (fun v7 ev7 => ?_)
      have bv7 : -1 ≤ v7 ∧ v7 ≤ 3 := by rw [ev7]; exact hz0.2.1 7 v2
      refine jt_if_ne (t := 58) d_EX_replaceCall_46 rfl (by unfold jRi; omega) (fun c8 => ?_) (fun c8 => ?_)
      · skip
        refine jt_aload_n d_EX_replaceCall_58 rfl ?_
        refine jt_aload_n d_EX_replaceCall_59 rfl ?_
        refine jt_aload_n d_EX_replaceCall_60 rfl ?_
        refine cm_get (k := 5) (v := .ref (b + 7)) d_EX_replaceCall_61 EX_f17 (by decide) cc_2 rfl ?_
        refine jt_iload_n d_EX_replaceCall_64 rfl ?_
        refine cm_ld0 (k := 7) (n := 6) (v := (A 7) v2) d_EX_replaceCall_65 (by decide) rfl rfl (by omega) (by omega) (by omega) rfl ?_
        refine jt_topi (fun v9 ev9 => ?_)
        have bv9 : -1 ≤ v9 ∧ v9 ≤ 3 := by rw [ev9]; exact hz0.2.1 7 v2
        refine cct_callV (Y := Y_EX_findArguments) (ci := 1) (k := 5) (As := [.ref (b + 39), .int (jI v9)]) (rest := []) d_EX_replaceCall_66 EX_c61 yk_EX_findArguments yv_EX_findArguments rfl (Nat.le_of_ble_eq_true rfl) (by decide) cc_2 rfl rfl (Nat.le_of_ble_eq_true rfl) (v_EX_findArguments_x G _ b v9 I A hz0.1 hz0.2.1 X9 hX Y9 hY N9 hN (by omega)) (fun rvq10 Iq10 Aq10 hq10 => ?_)
        obtain ⟨yq10, rfl, ryq10, hqq10, hxq10⟩ := hq10
        have hpq10 := cPx.trans hz0 hqq10 rfl rfl
        have cXq10 : Aq10 40 = X9 := (hqq10.2.2.2 40 rfl (by decide)).trans hX
        have cYq10 : Aq10 41 = Y9 := (hqq10.2.2.2 41 rfl (by decide)).trans hY
        have cDq10 : Aq10 42 = D9 := (hqq10.2.2.2 42 rfl (by decide)).trans hD
        have cNq10 : Iq10 39 3 = N9 := (hqq10.2.2.1 39 3 rfl).trans hN
        have m5_5q10 : Iq10 5 5 = I 5 5 := hqq10.2.2.1 5 5 rfl
        have m5_6q10 : Iq10 5 6 = I 5 6 := hqq10.2.2.1 5 6 rfl
        have m39_3q10 : Iq10 39 3 = I 39 3 := hqq10.2.2.1 39 3 rfl
        show jt _ 69 [(0, .ref (b + 5)), (1, .ref (b + 39)), (2, .int (jI v2))] [.int (jI yq10)] (cmf b f0 Iq10 Aq10) _ _ _
        refine jt_istore_n (L' := [(0, .ref (b + 5)), (1, .ref (b + 39)), (2, .int (jI v2)), (3, .int (jI yq10))]) d_EX_replaceCall_69 (Nat.le_of_ble_eq_true rfl) rfl ?_
        refine jt_iload_n d_EX_replaceCall_70 rfl ?_
        refine jt_bipush d_EX_replaceCall_71 (by omega) ?_
        refine jt_icmp_ne (t := 79) d_EX_replaceCall_73 rfl (by unfold jRi; omega) (by unfold jRi; omega) (fun c11 => ?_) (fun c11 => ?_)
        · skip
          have gok : xAok N9 X9 Y9 (I 5 5) v9 := by
            by_cases c9 : xAok N9 X9 Y9 (I 5 5) v9
            · exact c9
            · have := hxq10.2 c9; omega
          have hpp2 : v9 = A 7 v2 := by omega
          have hxx := hxq10.1 gok
          rw [hpp2] at hxx gok
          have hs : A 7 v2 ≠ 0 → xAok N9 X9 Y9 (I 5 5) (A 7 v2) := fun _ => gok
          have hSE : ∀ j, 0 ≤ j → j < A 7 v2 → Aq10 12 j = xAq N9 X9 Y9 (I 5 5) j.toNat ∧ Aq10 13 j = xAe N9 X9 Y9 (xAq N9 X9 Y9 (I 5 5) j.toNat) := hxx.2
          have hq9 : yq10 = (if A 7 v2 = 0 then I 5 5 + 1 else xAq N9 X9 Y9 (I 5 5) (A 7 v2).toNat) := by rw [if_neg (by omega)]; have := hxx.1; omega
          have hqle := xAq_le N9 X9 Y9 (I 5 5) (A 7 v2) gok (A 7 v2).toNat (by omega)
          have hqx := hxx.1
          refine jt_aload_n d_EX_replaceCall_79 rfl ?_
          refine jt_dup d_EX_replaceCall_80 rfl ?_
          refine cm_get (k := 5) (v := .int (jI (Iq10 5 6))) d_EX_replaceCall_81 EX_f45 (by decide) cc_2 rfl ?_
          have rb12 : 0 ≤ Iq10 5 6 ∧ Iq10 5 6 ≤ 101 := hpq10.1 5 6
          refine jt_iconst d_EX_replaceCall_84 ?_
          refine jt_iadd d_EX_replaceCall_85 ?_
          refine jt_topi (fun v13 ev13 => ?_)
          refine cm_put (k := 5) (j := 6) (v := v13) d_EX_replaceCall_86 (EX_w45 _ rfl) (by decide) cc_2 rfl rfl (Nat.le_of_ble_eq_true rfl) rfl ?_
          have p14 := cPx.I 5 6 v13 hpq10 rfl (show 0 ≤ v13 ∧ v13 ≤ 101 by omega)
          refine jt_aload_n d_EX_replaceCall_89 rfl ?_
          refine jt_aload_n d_EX_replaceCall_90 rfl ?_
          refine jt_aload_n d_EX_replaceCall_91 rfl ?_
          refine cm_get (k := 5) (v := .ref (b + 6)) d_EX_replaceCall_92 EX_f13 (by decide) cc_2 rfl ?_
          refine jt_iload_n d_EX_replaceCall_95 rfl ?_
          have h6 : v2 = 0 ∨ v2 = 1 ∨ v2 = 2 ∨ v2 = 3 ∨ v2 = 4 ∨ v2 = 5 := by omega
          rcases h6 with h6 | h6 | h6 | h6 | h6 | h6
          · skip
            subst h6
            refine cm_ldT (z := 0) d_EX_replaceCall_96 (by omega) (by omega) ?_
            show jt _ 97 [(0, .ref (b + 5)), (1, .ref (b + 39)), (2, .int (jI 0)), (3, .int (jI yq10))] [.ref (b + 14), .ref (b + 39), .ref (b + 5)] (cmf b f0 (cu Iq10 5 6 v13) Aq10) _ _ _
            refine jt_iload_n d_EX_replaceCall_97 rfl ?_
            have hm : ∀ j, 0 ≤ j → j < I 14 3 → A 15 j = 2 → 0 ≤ A 16 j ∧ A 16 j < A 7 0 := fun j a c e => ⟨by have t : gtok (A 15 j) (A 16 j) := hK 14 rfl j; unfold gtok at t; omega, hM 0 (by omega) (by omega) (by omega) j a c e⟩
            have hb9 : ∀ j, 0 ≤ j → j < I 14 3 → A 15 j = 2 → 0 ≤ Aq10 12 (A 16 j) ∧ Aq10 12 (A 16 j) ≤ Aq10 13 (A 16 j) ∧ Aq10 13 (A 16 j) ≤ N9 := xHb (by omega) hs hSE hm
            have fK : Aq10 15 = A 15 := hqq10.2.2.2 15 rfl trivial
            have fV : Aq10 16 = A 16 := hqq10.2.2.2 16 rfl trivial
            have f55 : Iq10 5 5 = I 5 5 := hqq10.2.2.1 5 5 rfl
            have fL : Iq10 14 3 = I 14 3 := hqq10.2.2.1 14 3 rfl
            have hb8 : ∀ j, 0 ≤ j → j < Iq10 14 3 → Aq10 15 j = 2 → 0 ≤ Aq10 12 (Aq10 16 j) ∧ Aq10 12 (Aq10 16 j) ≤ Aq10 13 (Aq10 16 j) ∧ Aq10 13 (Aq10 16 j) ≤ N9 := by rw [fK, fV, fL]; exact hb9
            refine cct_callV (Y := Y_EX_lengthAfter) (ci := 1) (k := 5) (As := [.ref (b + 39), .ref (b + 14), .int (jI yq10)]) (rest := []) d_EX_replaceCall_98 EX_c65 yk_EX_lengthAfter yv_EX_lengthAfter rfl (Nat.le_of_ble_eq_true rfl) (by decide) cc_2 rfl rfl (Nat.le_of_ble_eq_true rfl) (v_EX_lengthAfter_14_x G _ b yq10 (cu Iq10 5 6 v13) Aq10 p14.1 p14.2.1 (cTok_of (cPx.po hqq10) hK rfl) X9 cXq10 Y9 cYq10 D9 cDq10 N9 cNq10 (by omega) hb8) (fun rvq15 Iq15 Aq15 hq15 => ?_)
            obtain ⟨yq15, rfl, ryq15, hIq15, hAq15, hxq15⟩ := hq15
            rw [hIq15, hAq15]
            have hl9 : yq15 = I 5 5 + N9 - yq10 + ((xbd (A 15) (A 16) (Aq10 12) (Aq10 13) X9 Y9 D9 (D9 (I 5 5) + 1) (I 14 3).toNat).length : Int) := by have h9 : yq15 = Iq10 5 5 + N9 - yq10 + ((xbd (Aq10 15) (Aq10 16) (Aq10 12) (Aq10 13) X9 Y9 D9 (D9 (Iq10 5 5) + 1) (Iq10 14 3).toNat).length : Int) := hxq15; rw [fK, fV, f55, fL] at h9; exact h9
            have hP9 := xP_len (n := N9) (X := X9) (Y := Y9) (D := D9) (K := A 15) (V := A 16) (S := Aq10 12) (E := Aq10 13) (len := I 14 3) (by omega) hq9 (by omega)
            show jt _ 101 [(0, .ref (b + 5)), (1, .ref (b + 39)), (2, .int (jI 0)), (3, .int (jI yq10))] [.int (jI yq15)] (cmf b f0 (cu Iq10 5 6 v13) Aq10) _ _ _
            refine jt_sipush d_EX_replaceCall_101 (by omega) ?_
            refine jt_icmp_gt (t := 116) d_EX_replaceCall_104 rfl (by unfold jRi; omega) (by unfold jRi; omega) (fun c16 => ?_) (fun c16 => ?_)
            · skip
              refine jt_bipush d_EX_replaceCall_116 (by omega) ?_
              exact cm_ret d_EX_replaceCall_118 rfl rfl (⟨-7, rfl, by omega, p14, (cTok_of (cPx.po hqq10) hK rfl), show -7 = 0 → v13 ≤ 100 by omega, by
        rw [← ev2]
        exact xRC_7 (K := A 15) (V := A 16) (len := I 14 3) (S := Aq10 12) (E := Aq10 13) (par := A 7 0) (by omega) (by omega) hs (show v13 = I 5 6 + 1 by omega) hSE (by omega)⟩)
            · skip
              refine jt_aload_n d_EX_replaceCall_107 rfl ?_
              refine cm_get (k := 5) (v := .int (jI v13)) d_EX_replaceCall_108 EX_f45 (by decide) cc_2 rfl ?_
              refine jt_bipush d_EX_replaceCall_111 (by omega) ?_
              refine jt_icmp_le (t := 119) d_EX_replaceCall_113 rfl (by unfold jRi; omega) (by unfold jRi; omega) (fun c17 => ?_) (fun c17 => ?_)
              · skip
                refine jt_aload_n d_EX_replaceCall_119 rfl ?_
                refine jt_aload_n d_EX_replaceCall_120 rfl ?_
                refine jt_aload_n d_EX_replaceCall_121 rfl ?_
                refine cm_get (k := 5) (v := .ref (b + 6)) d_EX_replaceCall_122 EX_f13 (by decide) cc_2 rfl ?_
                refine jt_iload_n d_EX_replaceCall_125 rfl ?_
                refine cm_ldT (z := 0) d_EX_replaceCall_126 (by omega) (by omega) ?_
                show jt _ 127 [(0, .ref (b + 5)), (1, .ref (b + 39)), (2, .int (jI 0)), (3, .int (jI yq10))] [.ref (b + 14), .ref (b + 39), .ref (b + 5)] (cmf b f0 (cu Iq10 5 6 v13) Aq10) _ _ _
                refine jt_iload_n d_EX_replaceCall_127 rfl ?_
                have hln9 : Iq10 5 5 + N9 - yq10 + ((xbd (Aq10 15) (Aq10 16) (Aq10 12) (Aq10 13) X9 Y9 D9 (D9 (Iq10 5 5) + 1) (Iq10 14 3).toNat).length : Int) ≤ 300 := by rw [fK, fV, f55, fL]; omega
                have hdd9 : 0 ≤ D9 (Iq10 5 5) ∧ D9 (Iq10 5 5) ≤ 6 := by rw [f55]; exact hD9 (I 5 5) (by omega) (by omega)
                refine cct_callV (Y := Y_EX_putBody) (ci := 1) (k := 5) (As := [.ref (b + 39), .ref (b + 14), .int (jI yq10)]) (rest := []) d_EX_replaceCall_128 EX_c69 yk_EX_putBody yv_EX_putBody rfl (Nat.le_of_ble_eq_true rfl) (by decide) cc_2 rfl rfl (Nat.le_of_ble_eq_true rfl) (v_EX_putBody_14_x G _ b yq10 (cu Iq10 5 6 v13) Aq10 p14.1 p14.2.1 (cTok_of (cPx.po hqq10) hK rfl) X9 cXq10 Y9 cYq10 D9 cDq10 N9 cNq10 (show (Iq10 5 5) < yq10 ∧ yq10 ≤ N9 by omega) hb8 hln9 hdd9) (fun rvq18 Iq18 Aq18 hq18 => ?_)
                obtain ⟨rfl, hqq18, hxq18⟩ := hq18
                have hpq18 := cPx.trans p14 hqq18 rfl rfl
                have s5_5q18 : (cu Iq10 5 6 v13) 5 5 = Iq10 5 5 := rfl
                have s5_6q18 : (cu Iq10 5 6 v13) 5 6 = v13 := rfl
                have s39_3q18 : (cu Iq10 5 6 v13) 39 3 = Iq10 39 3 := rfl
                have m5_5q18 : Iq18 5 5 = Iq10 5 5 := hqq18.2.2.1 5 5 rfl
                have m5_6q18 : Iq18 5 6 = v13 := hqq18.2.2.1 5 6 rfl
                have hpp : Iq18 39 3 = ((xP N9 X9 Y9 D9 (A 15) (A 16) (Aq10 12) (Aq10 13) (I 14 3) (A 7 0) (I 5 5)).length : Int) ∧ gH (Aq18 40) (Aq18 41) (Aq18 42) (xP N9 X9 Y9 D9 (A 15) (A 16) (Aq10 12) (Aq10 13) (I 14 3) (A 7 0) (I 5 5)) := by have h9 : Iq18 39 3 = ((xs X9 Y9 D9 0 (Iq10 5 5) ++ xbd (Aq10 15) (Aq10 16) (Aq10 12) (Aq10 13) X9 Y9 D9 (D9 (Iq10 5 5) + 1) (Iq10 14 3).toNat ++ xs X9 Y9 D9 yq10 N9).length : Int) ∧ gH (Aq18 40) (Aq18 41) (Aq18 42) (xs X9 Y9 D9 0 (Iq10 5 5) ++ xbd (Aq10 15) (Aq10 16) (Aq10 12) (Aq10 13) X9 Y9 D9 (D9 (Iq10 5 5) + 1) (Iq10 14 3).toNat ++ xs X9 Y9 D9 yq10 N9) := hxq18.2; rw [fK, fV, f55, fL] at h9; rw [xP_e (by omega) hq9] at h9; exact h9
                show jt _ 131 [(0, .ref (b + 5)), (1, .ref (b + 39)), (2, .int (jI 0)), (3, .int (jI yq10))] [] (cmf b f0 Iq18 Aq18) _ _ _
                refine jt_iconst d_EX_replaceCall_131 ?_
                exact cm_ret d_EX_replaceCall_132 rfl rfl (⟨0, rfl, by omega, hpq18, hxq18.1, show 0 = 0 → Iq18 5 6 ≤ 100 by omega, by
        rw [← ev2]
        exact xRC_0 (K := A 15) (V := A 16) (len := I 14 3) (S := Aq10 12) (E := Aq10 13) (par := A 7 0) (by omega) (by omega) hs (show Iq18 5 6 = I 5 6 + 1 by omega) hSE (by omega) hpp.1 hpp.2⟩)
              · skip
                refine jt_bipush d_EX_replaceCall_116 (by omega) ?_
                exact cm_ret d_EX_replaceCall_118 rfl rfl (⟨-7, rfl, by omega, p14, (cTok_of (cPx.po hqq10) hK rfl), show -7 = 0 → v13 ≤ 100 by omega, by
        rw [← ev2]
        exact xRC_7 (K := A 15) (V := A 16) (len := I 14 3) (S := Aq10 12) (E := Aq10 13) (par := A 7 0) (by omega) (by omega) hs (show v13 = I 5 6 + 1 by omega) hSE (by omega)⟩)
          · skip
            subst h6
            refine cm_ldT (z := 1) d_EX_replaceCall_96 (by omega) (by omega) ?_
            show jt _ 97 [(0, .ref (b + 5)), (1, .ref (b + 39)), (2, .int (jI 1)), (3, .int (jI yq10))] [.ref (b + 18), .ref (b + 39), .ref (b + 5)] (cmf b f0 (cu Iq10 5 6 v13) Aq10) _ _ _
            refine jt_iload_n d_EX_replaceCall_97 rfl ?_
            have hm : ∀ j, 0 ≤ j → j < I 18 3 → A 19 j = 2 → 0 ≤ A 20 j ∧ A 20 j < A 7 1 := fun j a c e => ⟨by have t : gtok (A 19 j) (A 20 j) := hK 18 rfl j; unfold gtok at t; omega, hM 1 (by omega) (by omega) (by omega) j a c e⟩
            have hb9 : ∀ j, 0 ≤ j → j < I 18 3 → A 19 j = 2 → 0 ≤ Aq10 12 (A 20 j) ∧ Aq10 12 (A 20 j) ≤ Aq10 13 (A 20 j) ∧ Aq10 13 (A 20 j) ≤ N9 := xHb (by omega) hs hSE hm
            have fK : Aq10 19 = A 19 := hqq10.2.2.2 19 rfl trivial
            have fV : Aq10 20 = A 20 := hqq10.2.2.2 20 rfl trivial
            have f55 : Iq10 5 5 = I 5 5 := hqq10.2.2.1 5 5 rfl
            have fL : Iq10 18 3 = I 18 3 := hqq10.2.2.1 18 3 rfl
            have hb8 : ∀ j, 0 ≤ j → j < Iq10 18 3 → Aq10 19 j = 2 → 0 ≤ Aq10 12 (Aq10 20 j) ∧ Aq10 12 (Aq10 20 j) ≤ Aq10 13 (Aq10 20 j) ∧ Aq10 13 (Aq10 20 j) ≤ N9 := by rw [fK, fV, fL]; exact hb9
            refine cct_callV (Y := Y_EX_lengthAfter) (ci := 1) (k := 5) (As := [.ref (b + 39), .ref (b + 18), .int (jI yq10)]) (rest := []) d_EX_replaceCall_98 EX_c65 yk_EX_lengthAfter yv_EX_lengthAfter rfl (Nat.le_of_ble_eq_true rfl) (by decide) cc_2 rfl rfl (Nat.le_of_ble_eq_true rfl) (v_EX_lengthAfter_18_x G _ b yq10 (cu Iq10 5 6 v13) Aq10 p14.1 p14.2.1 (cTok_of (cPx.po hqq10) hK rfl) X9 cXq10 Y9 cYq10 D9 cDq10 N9 cNq10 (by omega) hb8) (fun rvq19 Iq19 Aq19 hq19 => ?_)
            obtain ⟨yq19, rfl, ryq19, hIq19, hAq19, hxq19⟩ := hq19
            rw [hIq19, hAq19]
            have hl9 : yq19 = I 5 5 + N9 - yq10 + ((xbd (A 19) (A 20) (Aq10 12) (Aq10 13) X9 Y9 D9 (D9 (I 5 5) + 1) (I 18 3).toNat).length : Int) := by have h9 : yq19 = Iq10 5 5 + N9 - yq10 + ((xbd (Aq10 19) (Aq10 20) (Aq10 12) (Aq10 13) X9 Y9 D9 (D9 (Iq10 5 5) + 1) (Iq10 18 3).toNat).length : Int) := hxq19; rw [fK, fV, f55, fL] at h9; exact h9
            have hP9 := xP_len (n := N9) (X := X9) (Y := Y9) (D := D9) (K := A 19) (V := A 20) (S := Aq10 12) (E := Aq10 13) (len := I 18 3) (by omega) hq9 (by omega)
            show jt _ 101 [(0, .ref (b + 5)), (1, .ref (b + 39)), (2, .int (jI 1)), (3, .int (jI yq10))] [.int (jI yq19)] (cmf b f0 (cu Iq10 5 6 v13) Aq10) _ _ _
            refine jt_sipush d_EX_replaceCall_101 (by omega) ?_
            refine jt_icmp_gt (t := 116) d_EX_replaceCall_104 rfl (by unfold jRi; omega) (by unfold jRi; omega) (fun c20 => ?_) (fun c20 => ?_)
            · skip
              refine jt_bipush d_EX_replaceCall_116 (by omega) ?_
              exact cm_ret d_EX_replaceCall_118 rfl rfl (⟨-7, rfl, by omega, p14, (cTok_of (cPx.po hqq10) hK rfl), show -7 = 0 → v13 ≤ 100 by omega, by
        rw [← ev2]
        exact xRC_7 (K := A 19) (V := A 20) (len := I 18 3) (S := Aq10 12) (E := Aq10 13) (par := A 7 1) (by omega) (by omega) hs (show v13 = I 5 6 + 1 by omega) hSE (by omega)⟩)
            · skip
              refine jt_aload_n d_EX_replaceCall_107 rfl ?_
              refine cm_get (k := 5) (v := .int (jI v13)) d_EX_replaceCall_108 EX_f45 (by decide) cc_2 rfl ?_
              refine jt_bipush d_EX_replaceCall_111 (by omega) ?_
              refine jt_icmp_le (t := 119) d_EX_replaceCall_113 rfl (by unfold jRi; omega) (by unfold jRi; omega) (fun c21 => ?_) (fun c21 => ?_)
              · skip
                refine jt_aload_n d_EX_replaceCall_119 rfl ?_
                refine jt_aload_n d_EX_replaceCall_120 rfl ?_
                refine jt_aload_n d_EX_replaceCall_121 rfl ?_
                refine cm_get (k := 5) (v := .ref (b + 6)) d_EX_replaceCall_122 EX_f13 (by decide) cc_2 rfl ?_
                refine jt_iload_n d_EX_replaceCall_125 rfl ?_
                refine cm_ldT (z := 1) d_EX_replaceCall_126 (by omega) (by omega) ?_
                show jt _ 127 [(0, .ref (b + 5)), (1, .ref (b + 39)), (2, .int (jI 1)), (3, .int (jI yq10))] [.ref (b + 18), .ref (b + 39), .ref (b + 5)] (cmf b f0 (cu Iq10 5 6 v13) Aq10) _ _ _
                refine jt_iload_n d_EX_replaceCall_127 rfl ?_
                have hln9 : Iq10 5 5 + N9 - yq10 + ((xbd (Aq10 19) (Aq10 20) (Aq10 12) (Aq10 13) X9 Y9 D9 (D9 (Iq10 5 5) + 1) (Iq10 18 3).toNat).length : Int) ≤ 300 := by rw [fK, fV, f55, fL]; omega
                have hdd9 : 0 ≤ D9 (Iq10 5 5) ∧ D9 (Iq10 5 5) ≤ 6 := by rw [f55]; exact hD9 (I 5 5) (by omega) (by omega)
                refine cct_callV (Y := Y_EX_putBody) (ci := 1) (k := 5) (As := [.ref (b + 39), .ref (b + 18), .int (jI yq10)]) (rest := []) d_EX_replaceCall_128 EX_c69 yk_EX_putBody yv_EX_putBody rfl (Nat.le_of_ble_eq_true rfl) (by decide) cc_2 rfl rfl (Nat.le_of_ble_eq_true rfl) (v_EX_putBody_18_x G _ b yq10 (cu Iq10 5 6 v13) Aq10 p14.1 p14.2.1 (cTok_of (cPx.po hqq10) hK rfl) X9 cXq10 Y9 cYq10 D9 cDq10 N9 cNq10 (show (Iq10 5 5) < yq10 ∧ yq10 ≤ N9 by omega) hb8 hln9 hdd9) (fun rvq22 Iq22 Aq22 hq22 => ?_)
                obtain ⟨rfl, hqq22, hxq22⟩ := hq22
                have hpq22 := cPx.trans p14 hqq22 rfl rfl
                have s5_5q22 : (cu Iq10 5 6 v13) 5 5 = Iq10 5 5 := rfl
                have s5_6q22 : (cu Iq10 5 6 v13) 5 6 = v13 := rfl
                have s39_3q22 : (cu Iq10 5 6 v13) 39 3 = Iq10 39 3 := rfl
                have m5_5q22 : Iq22 5 5 = Iq10 5 5 := hqq22.2.2.1 5 5 rfl
                have m5_6q22 : Iq22 5 6 = v13 := hqq22.2.2.1 5 6 rfl
                have hpp : Iq22 39 3 = ((xP N9 X9 Y9 D9 (A 19) (A 20) (Aq10 12) (Aq10 13) (I 18 3) (A 7 1) (I 5 5)).length : Int) ∧ gH (Aq22 40) (Aq22 41) (Aq22 42) (xP N9 X9 Y9 D9 (A 19) (A 20) (Aq10 12) (Aq10 13) (I 18 3) (A 7 1) (I 5 5)) := by have h9 : Iq22 39 3 = ((xs X9 Y9 D9 0 (Iq10 5 5) ++ xbd (Aq10 19) (Aq10 20) (Aq10 12) (Aq10 13) X9 Y9 D9 (D9 (Iq10 5 5) + 1) (Iq10 18 3).toNat ++ xs X9 Y9 D9 yq10 N9).length : Int) ∧ gH (Aq22 40) (Aq22 41) (Aq22 42) (xs X9 Y9 D9 0 (Iq10 5 5) ++ xbd (Aq10 19) (Aq10 20) (Aq10 12) (Aq10 13) X9 Y9 D9 (D9 (Iq10 5 5) + 1) (Iq10 18 3).toNat ++ xs X9 Y9 D9 yq10 N9) := hxq22.2; rw [fK, fV, f55, fL] at h9; rw [xP_e (by omega) hq9] at h9; exact h9
                show jt _ 131 [(0, .ref (b + 5)), (1, .ref (b + 39)), (2, .int (jI 1)), (3, .int (jI yq10))] [] (cmf b f0 Iq22 Aq22) _ _ _
                refine jt_iconst d_EX_replaceCall_131 ?_
                exact cm_ret d_EX_replaceCall_132 rfl rfl (⟨0, rfl, by omega, hpq22, hxq22.1, show 0 = 0 → Iq22 5 6 ≤ 100 by omega, by
        rw [← ev2]
        exact xRC_0 (K := A 19) (V := A 20) (len := I 18 3) (S := Aq10 12) (E := Aq10 13) (par := A 7 1) (by omega) (by omega) hs (show Iq22 5 6 = I 5 6 + 1 by omega) hSE (by omega) hpp.1 hpp.2⟩)
              · skip
                refine jt_bipush d_EX_replaceCall_116 (by omega) ?_
                exact cm_ret d_EX_replaceCall_118 rfl rfl (⟨-7, rfl, by omega, p14, (cTok_of (cPx.po hqq10) hK rfl), show -7 = 0 → v13 ≤ 100 by omega, by
        rw [← ev2]
        exact xRC_7 (K := A 19) (V := A 20) (len := I 18 3) (S := Aq10 12) (E := Aq10 13) (par := A 7 1) (by omega) (by omega) hs (show v13 = I 5 6 + 1 by omega) hSE (by omega)⟩)
          · skip
            subst h6
            refine cm_ldT (z := 2) d_EX_replaceCall_96 (by omega) (by omega) ?_
            show jt _ 97 [(0, .ref (b + 5)), (1, .ref (b + 39)), (2, .int (jI 2)), (3, .int (jI yq10))] [.ref (b + 22), .ref (b + 39), .ref (b + 5)] (cmf b f0 (cu Iq10 5 6 v13) Aq10) _ _ _
            refine jt_iload_n d_EX_replaceCall_97 rfl ?_
            have hm : ∀ j, 0 ≤ j → j < I 22 3 → A 23 j = 2 → 0 ≤ A 24 j ∧ A 24 j < A 7 2 := fun j a c e => ⟨by have t : gtok (A 23 j) (A 24 j) := hK 22 rfl j; unfold gtok at t; omega, hM 2 (by omega) (by omega) (by omega) j a c e⟩
            have hb9 : ∀ j, 0 ≤ j → j < I 22 3 → A 23 j = 2 → 0 ≤ Aq10 12 (A 24 j) ∧ Aq10 12 (A 24 j) ≤ Aq10 13 (A 24 j) ∧ Aq10 13 (A 24 j) ≤ N9 := xHb (by omega) hs hSE hm
            have fK : Aq10 23 = A 23 := hqq10.2.2.2 23 rfl trivial
            have fV : Aq10 24 = A 24 := hqq10.2.2.2 24 rfl trivial
            have f55 : Iq10 5 5 = I 5 5 := hqq10.2.2.1 5 5 rfl
            have fL : Iq10 22 3 = I 22 3 := hqq10.2.2.1 22 3 rfl
            have hb8 : ∀ j, 0 ≤ j → j < Iq10 22 3 → Aq10 23 j = 2 → 0 ≤ Aq10 12 (Aq10 24 j) ∧ Aq10 12 (Aq10 24 j) ≤ Aq10 13 (Aq10 24 j) ∧ Aq10 13 (Aq10 24 j) ≤ N9 := by rw [fK, fV, fL]; exact hb9
            refine cct_callV (Y := Y_EX_lengthAfter) (ci := 1) (k := 5) (As := [.ref (b + 39), .ref (b + 22), .int (jI yq10)]) (rest := []) d_EX_replaceCall_98 EX_c65 yk_EX_lengthAfter yv_EX_lengthAfter rfl (Nat.le_of_ble_eq_true rfl) (by decide) cc_2 rfl rfl (Nat.le_of_ble_eq_true rfl) (v_EX_lengthAfter_22_x G _ b yq10 (cu Iq10 5 6 v13) Aq10 p14.1 p14.2.1 (cTok_of (cPx.po hqq10) hK rfl) X9 cXq10 Y9 cYq10 D9 cDq10 N9 cNq10 (by omega) hb8) (fun rvq23 Iq23 Aq23 hq23 => ?_)
            obtain ⟨yq23, rfl, ryq23, hIq23, hAq23, hxq23⟩ := hq23
            rw [hIq23, hAq23]
            have hl9 : yq23 = I 5 5 + N9 - yq10 + ((xbd (A 23) (A 24) (Aq10 12) (Aq10 13) X9 Y9 D9 (D9 (I 5 5) + 1) (I 22 3).toNat).length : Int) := by have h9 : yq23 = Iq10 5 5 + N9 - yq10 + ((xbd (Aq10 23) (Aq10 24) (Aq10 12) (Aq10 13) X9 Y9 D9 (D9 (Iq10 5 5) + 1) (Iq10 22 3).toNat).length : Int) := hxq23; rw [fK, fV, f55, fL] at h9; exact h9
            have hP9 := xP_len (n := N9) (X := X9) (Y := Y9) (D := D9) (K := A 23) (V := A 24) (S := Aq10 12) (E := Aq10 13) (len := I 22 3) (by omega) hq9 (by omega)
            show jt _ 101 [(0, .ref (b + 5)), (1, .ref (b + 39)), (2, .int (jI 2)), (3, .int (jI yq10))] [.int (jI yq23)] (cmf b f0 (cu Iq10 5 6 v13) Aq10) _ _ _
            refine jt_sipush d_EX_replaceCall_101 (by omega) ?_
            refine jt_icmp_gt (t := 116) d_EX_replaceCall_104 rfl (by unfold jRi; omega) (by unfold jRi; omega) (fun c24 => ?_) (fun c24 => ?_)
            · skip
              refine jt_bipush d_EX_replaceCall_116 (by omega) ?_
              exact cm_ret d_EX_replaceCall_118 rfl rfl (⟨-7, rfl, by omega, p14, (cTok_of (cPx.po hqq10) hK rfl), show -7 = 0 → v13 ≤ 100 by omega, by
        rw [← ev2]
        exact xRC_7 (K := A 23) (V := A 24) (len := I 22 3) (S := Aq10 12) (E := Aq10 13) (par := A 7 2) (by omega) (by omega) hs (show v13 = I 5 6 + 1 by omega) hSE (by omega)⟩)
            · skip
              refine jt_aload_n d_EX_replaceCall_107 rfl ?_
              refine cm_get (k := 5) (v := .int (jI v13)) d_EX_replaceCall_108 EX_f45 (by decide) cc_2 rfl ?_
              refine jt_bipush d_EX_replaceCall_111 (by omega) ?_
              refine jt_icmp_le (t := 119) d_EX_replaceCall_113 rfl (by unfold jRi; omega) (by unfold jRi; omega) (fun c25 => ?_) (fun c25 => ?_)
              · skip
                refine jt_aload_n d_EX_replaceCall_119 rfl ?_
                refine jt_aload_n d_EX_replaceCall_120 rfl ?_
                refine jt_aload_n d_EX_replaceCall_121 rfl ?_
                refine cm_get (k := 5) (v := .ref (b + 6)) d_EX_replaceCall_122 EX_f13 (by decide) cc_2 rfl ?_
                refine jt_iload_n d_EX_replaceCall_125 rfl ?_
                refine cm_ldT (z := 2) d_EX_replaceCall_126 (by omega) (by omega) ?_
                show jt _ 127 [(0, .ref (b + 5)), (1, .ref (b + 39)), (2, .int (jI 2)), (3, .int (jI yq10))] [.ref (b + 22), .ref (b + 39), .ref (b + 5)] (cmf b f0 (cu Iq10 5 6 v13) Aq10) _ _ _
                refine jt_iload_n d_EX_replaceCall_127 rfl ?_
                have hln9 : Iq10 5 5 + N9 - yq10 + ((xbd (Aq10 23) (Aq10 24) (Aq10 12) (Aq10 13) X9 Y9 D9 (D9 (Iq10 5 5) + 1) (Iq10 22 3).toNat).length : Int) ≤ 300 := by rw [fK, fV, f55, fL]; omega
                have hdd9 : 0 ≤ D9 (Iq10 5 5) ∧ D9 (Iq10 5 5) ≤ 6 := by rw [f55]; exact hD9 (I 5 5) (by omega) (by omega)
                refine cct_callV (Y := Y_EX_putBody) (ci := 1) (k := 5) (As := [.ref (b + 39), .ref (b + 22), .int (jI yq10)]) (rest := []) d_EX_replaceCall_128 EX_c69 yk_EX_putBody yv_EX_putBody rfl (Nat.le_of_ble_eq_true rfl) (by decide) cc_2 rfl rfl (Nat.le_of_ble_eq_true rfl) (v_EX_putBody_22_x G _ b yq10 (cu Iq10 5 6 v13) Aq10 p14.1 p14.2.1 (cTok_of (cPx.po hqq10) hK rfl) X9 cXq10 Y9 cYq10 D9 cDq10 N9 cNq10 (show (Iq10 5 5) < yq10 ∧ yq10 ≤ N9 by omega) hb8 hln9 hdd9) (fun rvq26 Iq26 Aq26 hq26 => ?_)
                obtain ⟨rfl, hqq26, hxq26⟩ := hq26
                have hpq26 := cPx.trans p14 hqq26 rfl rfl
                have s5_5q26 : (cu Iq10 5 6 v13) 5 5 = Iq10 5 5 := rfl
                have s5_6q26 : (cu Iq10 5 6 v13) 5 6 = v13 := rfl
                have s39_3q26 : (cu Iq10 5 6 v13) 39 3 = Iq10 39 3 := rfl
                have m5_5q26 : Iq26 5 5 = Iq10 5 5 := hqq26.2.2.1 5 5 rfl
                have m5_6q26 : Iq26 5 6 = v13 := hqq26.2.2.1 5 6 rfl
                have hpp : Iq26 39 3 = ((xP N9 X9 Y9 D9 (A 23) (A 24) (Aq10 12) (Aq10 13) (I 22 3) (A 7 2) (I 5 5)).length : Int) ∧ gH (Aq26 40) (Aq26 41) (Aq26 42) (xP N9 X9 Y9 D9 (A 23) (A 24) (Aq10 12) (Aq10 13) (I 22 3) (A 7 2) (I 5 5)) := by have h9 : Iq26 39 3 = ((xs X9 Y9 D9 0 (Iq10 5 5) ++ xbd (Aq10 23) (Aq10 24) (Aq10 12) (Aq10 13) X9 Y9 D9 (D9 (Iq10 5 5) + 1) (Iq10 22 3).toNat ++ xs X9 Y9 D9 yq10 N9).length : Int) ∧ gH (Aq26 40) (Aq26 41) (Aq26 42) (xs X9 Y9 D9 0 (Iq10 5 5) ++ xbd (Aq10 23) (Aq10 24) (Aq10 12) (Aq10 13) X9 Y9 D9 (D9 (Iq10 5 5) + 1) (Iq10 22 3).toNat ++ xs X9 Y9 D9 yq10 N9) := hxq26.2; rw [fK, fV, f55, fL] at h9; rw [xP_e (by omega) hq9] at h9; exact h9
                show jt _ 131 [(0, .ref (b + 5)), (1, .ref (b + 39)), (2, .int (jI 2)), (3, .int (jI yq10))] [] (cmf b f0 Iq26 Aq26) _ _ _
                refine jt_iconst d_EX_replaceCall_131 ?_
                exact cm_ret d_EX_replaceCall_132 rfl rfl (⟨0, rfl, by omega, hpq26, hxq26.1, show 0 = 0 → Iq26 5 6 ≤ 100 by omega, by
        rw [← ev2]
        exact xRC_0 (K := A 23) (V := A 24) (len := I 22 3) (S := Aq10 12) (E := Aq10 13) (par := A 7 2) (by omega) (by omega) hs (show Iq26 5 6 = I 5 6 + 1 by omega) hSE (by omega) hpp.1 hpp.2⟩)
              · skip
                refine jt_bipush d_EX_replaceCall_116 (by omega) ?_
                exact cm_ret d_EX_replaceCall_118 rfl rfl (⟨-7, rfl, by omega, p14, (cTok_of (cPx.po hqq10) hK rfl), show -7 = 0 → v13 ≤ 100 by omega, by
        rw [← ev2]
        exact xRC_7 (K := A 23) (V := A 24) (len := I 22 3) (S := Aq10 12) (E := Aq10 13) (par := A 7 2) (by omega) (by omega) hs (show v13 = I 5 6 + 1 by omega) hSE (by omega)⟩)
          · skip
            subst h6
            refine cm_ldT (z := 3) d_EX_replaceCall_96 (by omega) (by omega) ?_
            show jt _ 97 [(0, .ref (b + 5)), (1, .ref (b + 39)), (2, .int (jI 3)), (3, .int (jI yq10))] [.ref (b + 26), .ref (b + 39), .ref (b + 5)] (cmf b f0 (cu Iq10 5 6 v13) Aq10) _ _ _
            refine jt_iload_n d_EX_replaceCall_97 rfl ?_
            have hm : ∀ j, 0 ≤ j → j < I 26 3 → A 27 j = 2 → 0 ≤ A 28 j ∧ A 28 j < A 7 3 := fun j a c e => ⟨by have t : gtok (A 27 j) (A 28 j) := hK 26 rfl j; unfold gtok at t; omega, hM 3 (by omega) (by omega) (by omega) j a c e⟩
            have hb9 : ∀ j, 0 ≤ j → j < I 26 3 → A 27 j = 2 → 0 ≤ Aq10 12 (A 28 j) ∧ Aq10 12 (A 28 j) ≤ Aq10 13 (A 28 j) ∧ Aq10 13 (A 28 j) ≤ N9 := xHb (by omega) hs hSE hm
            have fK : Aq10 27 = A 27 := hqq10.2.2.2 27 rfl trivial
            have fV : Aq10 28 = A 28 := hqq10.2.2.2 28 rfl trivial
            have f55 : Iq10 5 5 = I 5 5 := hqq10.2.2.1 5 5 rfl
            have fL : Iq10 26 3 = I 26 3 := hqq10.2.2.1 26 3 rfl
            have hb8 : ∀ j, 0 ≤ j → j < Iq10 26 3 → Aq10 27 j = 2 → 0 ≤ Aq10 12 (Aq10 28 j) ∧ Aq10 12 (Aq10 28 j) ≤ Aq10 13 (Aq10 28 j) ∧ Aq10 13 (Aq10 28 j) ≤ N9 := by rw [fK, fV, fL]; exact hb9
            refine cct_callV (Y := Y_EX_lengthAfter) (ci := 1) (k := 5) (As := [.ref (b + 39), .ref (b + 26), .int (jI yq10)]) (rest := []) d_EX_replaceCall_98 EX_c65 yk_EX_lengthAfter yv_EX_lengthAfter rfl (Nat.le_of_ble_eq_true rfl) (by decide) cc_2 rfl rfl (Nat.le_of_ble_eq_true rfl) (v_EX_lengthAfter_26_x G _ b yq10 (cu Iq10 5 6 v13) Aq10 p14.1 p14.2.1 (cTok_of (cPx.po hqq10) hK rfl) X9 cXq10 Y9 cYq10 D9 cDq10 N9 cNq10 (by omega) hb8) (fun rvq27 Iq27 Aq27 hq27 => ?_)
            obtain ⟨yq27, rfl, ryq27, hIq27, hAq27, hxq27⟩ := hq27
            rw [hIq27, hAq27]
            have hl9 : yq27 = I 5 5 + N9 - yq10 + ((xbd (A 27) (A 28) (Aq10 12) (Aq10 13) X9 Y9 D9 (D9 (I 5 5) + 1) (I 26 3).toNat).length : Int) := by have h9 : yq27 = Iq10 5 5 + N9 - yq10 + ((xbd (Aq10 27) (Aq10 28) (Aq10 12) (Aq10 13) X9 Y9 D9 (D9 (Iq10 5 5) + 1) (Iq10 26 3).toNat).length : Int) := hxq27; rw [fK, fV, f55, fL] at h9; exact h9
            have hP9 := xP_len (n := N9) (X := X9) (Y := Y9) (D := D9) (K := A 27) (V := A 28) (S := Aq10 12) (E := Aq10 13) (len := I 26 3) (by omega) hq9 (by omega)
            show jt _ 101 [(0, .ref (b + 5)), (1, .ref (b + 39)), (2, .int (jI 3)), (3, .int (jI yq10))] [.int (jI yq27)] (cmf b f0 (cu Iq10 5 6 v13) Aq10) _ _ _
            refine jt_sipush d_EX_replaceCall_101 (by omega) ?_
            refine jt_icmp_gt (t := 116) d_EX_replaceCall_104 rfl (by unfold jRi; omega) (by unfold jRi; omega) (fun c28 => ?_) (fun c28 => ?_)
            · skip
              refine jt_bipush d_EX_replaceCall_116 (by omega) ?_
              exact cm_ret d_EX_replaceCall_118 rfl rfl (⟨-7, rfl, by omega, p14, (cTok_of (cPx.po hqq10) hK rfl), show -7 = 0 → v13 ≤ 100 by omega, by
        rw [← ev2]
        exact xRC_7 (K := A 27) (V := A 28) (len := I 26 3) (S := Aq10 12) (E := Aq10 13) (par := A 7 3) (by omega) (by omega) hs (show v13 = I 5 6 + 1 by omega) hSE (by omega)⟩)
            · skip
              refine jt_aload_n d_EX_replaceCall_107 rfl ?_
              refine cm_get (k := 5) (v := .int (jI v13)) d_EX_replaceCall_108 EX_f45 (by decide) cc_2 rfl ?_
              refine jt_bipush d_EX_replaceCall_111 (by omega) ?_
              refine jt_icmp_le (t := 119) d_EX_replaceCall_113 rfl (by unfold jRi; omega) (by unfold jRi; omega) (fun c29 => ?_) (fun c29 => ?_)
              · skip
                refine jt_aload_n d_EX_replaceCall_119 rfl ?_
                refine jt_aload_n d_EX_replaceCall_120 rfl ?_
                refine jt_aload_n d_EX_replaceCall_121 rfl ?_
                refine cm_get (k := 5) (v := .ref (b + 6)) d_EX_replaceCall_122 EX_f13 (by decide) cc_2 rfl ?_
                refine jt_iload_n d_EX_replaceCall_125 rfl ?_
                refine cm_ldT (z := 3) d_EX_replaceCall_126 (by omega) (by omega) ?_
                show jt _ 127 [(0, .ref (b + 5)), (1, .ref (b + 39)), (2, .int (jI 3)), (3, .int (jI yq10))] [.ref (b + 26), .ref (b + 39), .ref (b + 5)] (cmf b f0 (cu Iq10 5 6 v13) Aq10) _ _ _
                refine jt_iload_n d_EX_replaceCall_127 rfl ?_
                have hln9 : Iq10 5 5 + N9 - yq10 + ((xbd (Aq10 27) (Aq10 28) (Aq10 12) (Aq10 13) X9 Y9 D9 (D9 (Iq10 5 5) + 1) (Iq10 26 3).toNat).length : Int) ≤ 300 := by rw [fK, fV, f55, fL]; omega
                have hdd9 : 0 ≤ D9 (Iq10 5 5) ∧ D9 (Iq10 5 5) ≤ 6 := by rw [f55]; exact hD9 (I 5 5) (by omega) (by omega)
                refine cct_callV (Y := Y_EX_putBody) (ci := 1) (k := 5) (As := [.ref (b + 39), .ref (b + 26), .int (jI yq10)]) (rest := []) d_EX_replaceCall_128 EX_c69 yk_EX_putBody yv_EX_putBody rfl (Nat.le_of_ble_eq_true rfl) (by decide) cc_2 rfl rfl (Nat.le_of_ble_eq_true rfl) (v_EX_putBody_26_x G _ b yq10 (cu Iq10 5 6 v13) Aq10 p14.1 p14.2.1 (cTok_of (cPx.po hqq10) hK rfl) X9 cXq10 Y9 cYq10 D9 cDq10 N9 cNq10 (show (Iq10 5 5) < yq10 ∧ yq10 ≤ N9 by omega) hb8 hln9 hdd9) (fun rvq30 Iq30 Aq30 hq30 => ?_)
                obtain ⟨rfl, hqq30, hxq30⟩ := hq30
                have hpq30 := cPx.trans p14 hqq30 rfl rfl
                have s5_5q30 : (cu Iq10 5 6 v13) 5 5 = Iq10 5 5 := rfl
                have s5_6q30 : (cu Iq10 5 6 v13) 5 6 = v13 := rfl
                have s39_3q30 : (cu Iq10 5 6 v13) 39 3 = Iq10 39 3 := rfl
                have m5_5q30 : Iq30 5 5 = Iq10 5 5 := hqq30.2.2.1 5 5 rfl
                have m5_6q30 : Iq30 5 6 = v13 := hqq30.2.2.1 5 6 rfl
                have hpp : Iq30 39 3 = ((xP N9 X9 Y9 D9 (A 27) (A 28) (Aq10 12) (Aq10 13) (I 26 3) (A 7 3) (I 5 5)).length : Int) ∧ gH (Aq30 40) (Aq30 41) (Aq30 42) (xP N9 X9 Y9 D9 (A 27) (A 28) (Aq10 12) (Aq10 13) (I 26 3) (A 7 3) (I 5 5)) := by have h9 : Iq30 39 3 = ((xs X9 Y9 D9 0 (Iq10 5 5) ++ xbd (Aq10 27) (Aq10 28) (Aq10 12) (Aq10 13) X9 Y9 D9 (D9 (Iq10 5 5) + 1) (Iq10 26 3).toNat ++ xs X9 Y9 D9 yq10 N9).length : Int) ∧ gH (Aq30 40) (Aq30 41) (Aq30 42) (xs X9 Y9 D9 0 (Iq10 5 5) ++ xbd (Aq10 27) (Aq10 28) (Aq10 12) (Aq10 13) X9 Y9 D9 (D9 (Iq10 5 5) + 1) (Iq10 26 3).toNat ++ xs X9 Y9 D9 yq10 N9) := hxq30.2; rw [fK, fV, f55, fL] at h9; rw [xP_e (by omega) hq9] at h9; exact h9
                show jt _ 131 [(0, .ref (b + 5)), (1, .ref (b + 39)), (2, .int (jI 3)), (3, .int (jI yq10))] [] (cmf b f0 Iq30 Aq30) _ _ _
                refine jt_iconst d_EX_replaceCall_131 ?_
                exact cm_ret d_EX_replaceCall_132 rfl rfl (⟨0, rfl, by omega, hpq30, hxq30.1, show 0 = 0 → Iq30 5 6 ≤ 100 by omega, by
        rw [← ev2]
        exact xRC_0 (K := A 27) (V := A 28) (len := I 26 3) (S := Aq10 12) (E := Aq10 13) (par := A 7 3) (by omega) (by omega) hs (show Iq30 5 6 = I 5 6 + 1 by omega) hSE (by omega) hpp.1 hpp.2⟩)
              · skip
                refine jt_bipush d_EX_replaceCall_116 (by omega) ?_
                exact cm_ret d_EX_replaceCall_118 rfl rfl (⟨-7, rfl, by omega, p14, (cTok_of (cPx.po hqq10) hK rfl), show -7 = 0 → v13 ≤ 100 by omega, by
        rw [← ev2]
        exact xRC_7 (K := A 27) (V := A 28) (len := I 26 3) (S := Aq10 12) (E := Aq10 13) (par := A 7 3) (by omega) (by omega) hs (show v13 = I 5 6 + 1 by omega) hSE (by omega)⟩)
          · skip
            subst h6
            refine cm_ldT (z := 4) d_EX_replaceCall_96 (by omega) (by omega) ?_
            show jt _ 97 [(0, .ref (b + 5)), (1, .ref (b + 39)), (2, .int (jI 4)), (3, .int (jI yq10))] [.ref (b + 30), .ref (b + 39), .ref (b + 5)] (cmf b f0 (cu Iq10 5 6 v13) Aq10) _ _ _
            refine jt_iload_n d_EX_replaceCall_97 rfl ?_
            have hm : ∀ j, 0 ≤ j → j < I 30 3 → A 31 j = 2 → 0 ≤ A 32 j ∧ A 32 j < A 7 4 := fun j a c e => ⟨by have t : gtok (A 31 j) (A 32 j) := hK 30 rfl j; unfold gtok at t; omega, hM 4 (by omega) (by omega) (by omega) j a c e⟩
            have hb9 : ∀ j, 0 ≤ j → j < I 30 3 → A 31 j = 2 → 0 ≤ Aq10 12 (A 32 j) ∧ Aq10 12 (A 32 j) ≤ Aq10 13 (A 32 j) ∧ Aq10 13 (A 32 j) ≤ N9 := xHb (by omega) hs hSE hm
            have fK : Aq10 31 = A 31 := hqq10.2.2.2 31 rfl trivial
            have fV : Aq10 32 = A 32 := hqq10.2.2.2 32 rfl trivial
            have f55 : Iq10 5 5 = I 5 5 := hqq10.2.2.1 5 5 rfl
            have fL : Iq10 30 3 = I 30 3 := hqq10.2.2.1 30 3 rfl
            have hb8 : ∀ j, 0 ≤ j → j < Iq10 30 3 → Aq10 31 j = 2 → 0 ≤ Aq10 12 (Aq10 32 j) ∧ Aq10 12 (Aq10 32 j) ≤ Aq10 13 (Aq10 32 j) ∧ Aq10 13 (Aq10 32 j) ≤ N9 := by rw [fK, fV, fL]; exact hb9
            refine cct_callV (Y := Y_EX_lengthAfter) (ci := 1) (k := 5) (As := [.ref (b + 39), .ref (b + 30), .int (jI yq10)]) (rest := []) d_EX_replaceCall_98 EX_c65 yk_EX_lengthAfter yv_EX_lengthAfter rfl (Nat.le_of_ble_eq_true rfl) (by decide) cc_2 rfl rfl (Nat.le_of_ble_eq_true rfl) (v_EX_lengthAfter_30_x G _ b yq10 (cu Iq10 5 6 v13) Aq10 p14.1 p14.2.1 (cTok_of (cPx.po hqq10) hK rfl) X9 cXq10 Y9 cYq10 D9 cDq10 N9 cNq10 (by omega) hb8) (fun rvq31 Iq31 Aq31 hq31 => ?_)
            obtain ⟨yq31, rfl, ryq31, hIq31, hAq31, hxq31⟩ := hq31
            rw [hIq31, hAq31]
            have hl9 : yq31 = I 5 5 + N9 - yq10 + ((xbd (A 31) (A 32) (Aq10 12) (Aq10 13) X9 Y9 D9 (D9 (I 5 5) + 1) (I 30 3).toNat).length : Int) := by have h9 : yq31 = Iq10 5 5 + N9 - yq10 + ((xbd (Aq10 31) (Aq10 32) (Aq10 12) (Aq10 13) X9 Y9 D9 (D9 (Iq10 5 5) + 1) (Iq10 30 3).toNat).length : Int) := hxq31; rw [fK, fV, f55, fL] at h9; exact h9
            have hP9 := xP_len (n := N9) (X := X9) (Y := Y9) (D := D9) (K := A 31) (V := A 32) (S := Aq10 12) (E := Aq10 13) (len := I 30 3) (by omega) hq9 (by omega)
            show jt _ 101 [(0, .ref (b + 5)), (1, .ref (b + 39)), (2, .int (jI 4)), (3, .int (jI yq10))] [.int (jI yq31)] (cmf b f0 (cu Iq10 5 6 v13) Aq10) _ _ _
            refine jt_sipush d_EX_replaceCall_101 (by omega) ?_
            refine jt_icmp_gt (t := 116) d_EX_replaceCall_104 rfl (by unfold jRi; omega) (by unfold jRi; omega) (fun c32 => ?_) (fun c32 => ?_)
            · skip
              refine jt_bipush d_EX_replaceCall_116 (by omega) ?_
              exact cm_ret d_EX_replaceCall_118 rfl rfl (⟨-7, rfl, by omega, p14, (cTok_of (cPx.po hqq10) hK rfl), show -7 = 0 → v13 ≤ 100 by omega, by
        rw [← ev2]
        exact xRC_7 (K := A 31) (V := A 32) (len := I 30 3) (S := Aq10 12) (E := Aq10 13) (par := A 7 4) (by omega) (by omega) hs (show v13 = I 5 6 + 1 by omega) hSE (by omega)⟩)
            · skip
              refine jt_aload_n d_EX_replaceCall_107 rfl ?_
              refine cm_get (k := 5) (v := .int (jI v13)) d_EX_replaceCall_108 EX_f45 (by decide) cc_2 rfl ?_
              refine jt_bipush d_EX_replaceCall_111 (by omega) ?_
              refine jt_icmp_le (t := 119) d_EX_replaceCall_113 rfl (by unfold jRi; omega) (by unfold jRi; omega) (fun c33 => ?_) (fun c33 => ?_)
              · skip
                refine jt_aload_n d_EX_replaceCall_119 rfl ?_
                refine jt_aload_n d_EX_replaceCall_120 rfl ?_
                refine jt_aload_n d_EX_replaceCall_121 rfl ?_
                refine cm_get (k := 5) (v := .ref (b + 6)) d_EX_replaceCall_122 EX_f13 (by decide) cc_2 rfl ?_
                refine jt_iload_n d_EX_replaceCall_125 rfl ?_
                refine cm_ldT (z := 4) d_EX_replaceCall_126 (by omega) (by omega) ?_
                show jt _ 127 [(0, .ref (b + 5)), (1, .ref (b + 39)), (2, .int (jI 4)), (3, .int (jI yq10))] [.ref (b + 30), .ref (b + 39), .ref (b + 5)] (cmf b f0 (cu Iq10 5 6 v13) Aq10) _ _ _
                refine jt_iload_n d_EX_replaceCall_127 rfl ?_
                have hln9 : Iq10 5 5 + N9 - yq10 + ((xbd (Aq10 31) (Aq10 32) (Aq10 12) (Aq10 13) X9 Y9 D9 (D9 (Iq10 5 5) + 1) (Iq10 30 3).toNat).length : Int) ≤ 300 := by rw [fK, fV, f55, fL]; omega
                have hdd9 : 0 ≤ D9 (Iq10 5 5) ∧ D9 (Iq10 5 5) ≤ 6 := by rw [f55]; exact hD9 (I 5 5) (by omega) (by omega)
                refine cct_callV (Y := Y_EX_putBody) (ci := 1) (k := 5) (As := [.ref (b + 39), .ref (b + 30), .int (jI yq10)]) (rest := []) d_EX_replaceCall_128 EX_c69 yk_EX_putBody yv_EX_putBody rfl (Nat.le_of_ble_eq_true rfl) (by decide) cc_2 rfl rfl (Nat.le_of_ble_eq_true rfl) (v_EX_putBody_30_x G _ b yq10 (cu Iq10 5 6 v13) Aq10 p14.1 p14.2.1 (cTok_of (cPx.po hqq10) hK rfl) X9 cXq10 Y9 cYq10 D9 cDq10 N9 cNq10 (show (Iq10 5 5) < yq10 ∧ yq10 ≤ N9 by omega) hb8 hln9 hdd9) (fun rvq34 Iq34 Aq34 hq34 => ?_)
                obtain ⟨rfl, hqq34, hxq34⟩ := hq34
                have hpq34 := cPx.trans p14 hqq34 rfl rfl
                have s5_5q34 : (cu Iq10 5 6 v13) 5 5 = Iq10 5 5 := rfl
                have s5_6q34 : (cu Iq10 5 6 v13) 5 6 = v13 := rfl
                have s39_3q34 : (cu Iq10 5 6 v13) 39 3 = Iq10 39 3 := rfl
                have m5_5q34 : Iq34 5 5 = Iq10 5 5 := hqq34.2.2.1 5 5 rfl
                have m5_6q34 : Iq34 5 6 = v13 := hqq34.2.2.1 5 6 rfl
                have hpp : Iq34 39 3 = ((xP N9 X9 Y9 D9 (A 31) (A 32) (Aq10 12) (Aq10 13) (I 30 3) (A 7 4) (I 5 5)).length : Int) ∧ gH (Aq34 40) (Aq34 41) (Aq34 42) (xP N9 X9 Y9 D9 (A 31) (A 32) (Aq10 12) (Aq10 13) (I 30 3) (A 7 4) (I 5 5)) := by have h9 : Iq34 39 3 = ((xs X9 Y9 D9 0 (Iq10 5 5) ++ xbd (Aq10 31) (Aq10 32) (Aq10 12) (Aq10 13) X9 Y9 D9 (D9 (Iq10 5 5) + 1) (Iq10 30 3).toNat ++ xs X9 Y9 D9 yq10 N9).length : Int) ∧ gH (Aq34 40) (Aq34 41) (Aq34 42) (xs X9 Y9 D9 0 (Iq10 5 5) ++ xbd (Aq10 31) (Aq10 32) (Aq10 12) (Aq10 13) X9 Y9 D9 (D9 (Iq10 5 5) + 1) (Iq10 30 3).toNat ++ xs X9 Y9 D9 yq10 N9) := hxq34.2; rw [fK, fV, f55, fL] at h9; rw [xP_e (by omega) hq9] at h9; exact h9
                show jt _ 131 [(0, .ref (b + 5)), (1, .ref (b + 39)), (2, .int (jI 4)), (3, .int (jI yq10))] [] (cmf b f0 Iq34 Aq34) _ _ _
                refine jt_iconst d_EX_replaceCall_131 ?_
                exact cm_ret d_EX_replaceCall_132 rfl rfl (⟨0, rfl, by omega, hpq34, hxq34.1, show 0 = 0 → Iq34 5 6 ≤ 100 by omega, by
        rw [← ev2]
        exact xRC_0 (K := A 31) (V := A 32) (len := I 30 3) (S := Aq10 12) (E := Aq10 13) (par := A 7 4) (by omega) (by omega) hs (show Iq34 5 6 = I 5 6 + 1 by omega) hSE (by omega) hpp.1 hpp.2⟩)
              · skip
                refine jt_bipush d_EX_replaceCall_116 (by omega) ?_
                exact cm_ret d_EX_replaceCall_118 rfl rfl (⟨-7, rfl, by omega, p14, (cTok_of (cPx.po hqq10) hK rfl), show -7 = 0 → v13 ≤ 100 by omega, by
        rw [← ev2]
        exact xRC_7 (K := A 31) (V := A 32) (len := I 30 3) (S := Aq10 12) (E := Aq10 13) (par := A 7 4) (by omega) (by omega) hs (show v13 = I 5 6 + 1 by omega) hSE (by omega)⟩)
          · skip
            subst h6
            refine cm_ldT (z := 5) d_EX_replaceCall_96 (by omega) (by omega) ?_
            show jt _ 97 [(0, .ref (b + 5)), (1, .ref (b + 39)), (2, .int (jI 5)), (3, .int (jI yq10))] [.ref (b + 34), .ref (b + 39), .ref (b + 5)] (cmf b f0 (cu Iq10 5 6 v13) Aq10) _ _ _
            refine jt_iload_n d_EX_replaceCall_97 rfl ?_
            have hm : ∀ j, 0 ≤ j → j < I 34 3 → A 35 j = 2 → 0 ≤ A 36 j ∧ A 36 j < A 7 5 := fun j a c e => ⟨by have t : gtok (A 35 j) (A 36 j) := hK 34 rfl j; unfold gtok at t; omega, hM 5 (by omega) (by omega) (by omega) j a c e⟩
            have hb9 : ∀ j, 0 ≤ j → j < I 34 3 → A 35 j = 2 → 0 ≤ Aq10 12 (A 36 j) ∧ Aq10 12 (A 36 j) ≤ Aq10 13 (A 36 j) ∧ Aq10 13 (A 36 j) ≤ N9 := xHb (by omega) hs hSE hm
            have fK : Aq10 35 = A 35 := hqq10.2.2.2 35 rfl trivial
            have fV : Aq10 36 = A 36 := hqq10.2.2.2 36 rfl trivial
            have f55 : Iq10 5 5 = I 5 5 := hqq10.2.2.1 5 5 rfl
            have fL : Iq10 34 3 = I 34 3 := hqq10.2.2.1 34 3 rfl
            have hb8 : ∀ j, 0 ≤ j → j < Iq10 34 3 → Aq10 35 j = 2 → 0 ≤ Aq10 12 (Aq10 36 j) ∧ Aq10 12 (Aq10 36 j) ≤ Aq10 13 (Aq10 36 j) ∧ Aq10 13 (Aq10 36 j) ≤ N9 := by rw [fK, fV, fL]; exact hb9
            refine cct_callV (Y := Y_EX_lengthAfter) (ci := 1) (k := 5) (As := [.ref (b + 39), .ref (b + 34), .int (jI yq10)]) (rest := []) d_EX_replaceCall_98 EX_c65 yk_EX_lengthAfter yv_EX_lengthAfter rfl (Nat.le_of_ble_eq_true rfl) (by decide) cc_2 rfl rfl (Nat.le_of_ble_eq_true rfl) (v_EX_lengthAfter_34_x G _ b yq10 (cu Iq10 5 6 v13) Aq10 p14.1 p14.2.1 (cTok_of (cPx.po hqq10) hK rfl) X9 cXq10 Y9 cYq10 D9 cDq10 N9 cNq10 (by omega) hb8) (fun rvq35 Iq35 Aq35 hq35 => ?_)
            obtain ⟨yq35, rfl, ryq35, hIq35, hAq35, hxq35⟩ := hq35
            rw [hIq35, hAq35]
            have hl9 : yq35 = I 5 5 + N9 - yq10 + ((xbd (A 35) (A 36) (Aq10 12) (Aq10 13) X9 Y9 D9 (D9 (I 5 5) + 1) (I 34 3).toNat).length : Int) := by have h9 : yq35 = Iq10 5 5 + N9 - yq10 + ((xbd (Aq10 35) (Aq10 36) (Aq10 12) (Aq10 13) X9 Y9 D9 (D9 (Iq10 5 5) + 1) (Iq10 34 3).toNat).length : Int) := hxq35; rw [fK, fV, f55, fL] at h9; exact h9
            have hP9 := xP_len (n := N9) (X := X9) (Y := Y9) (D := D9) (K := A 35) (V := A 36) (S := Aq10 12) (E := Aq10 13) (len := I 34 3) (by omega) hq9 (by omega)
            show jt _ 101 [(0, .ref (b + 5)), (1, .ref (b + 39)), (2, .int (jI 5)), (3, .int (jI yq10))] [.int (jI yq35)] (cmf b f0 (cu Iq10 5 6 v13) Aq10) _ _ _
            refine jt_sipush d_EX_replaceCall_101 (by omega) ?_
            refine jt_icmp_gt (t := 116) d_EX_replaceCall_104 rfl (by unfold jRi; omega) (by unfold jRi; omega) (fun c36 => ?_) (fun c36 => ?_)
            · skip
              refine jt_bipush d_EX_replaceCall_116 (by omega) ?_
              exact cm_ret d_EX_replaceCall_118 rfl rfl (⟨-7, rfl, by omega, p14, (cTok_of (cPx.po hqq10) hK rfl), show -7 = 0 → v13 ≤ 100 by omega, by
        rw [← ev2]
        exact xRC_7 (K := A 35) (V := A 36) (len := I 34 3) (S := Aq10 12) (E := Aq10 13) (par := A 7 5) (by omega) (by omega) hs (show v13 = I 5 6 + 1 by omega) hSE (by omega)⟩)
            · skip
              refine jt_aload_n d_EX_replaceCall_107 rfl ?_
              refine cm_get (k := 5) (v := .int (jI v13)) d_EX_replaceCall_108 EX_f45 (by decide) cc_2 rfl ?_
              refine jt_bipush d_EX_replaceCall_111 (by omega) ?_
              refine jt_icmp_le (t := 119) d_EX_replaceCall_113 rfl (by unfold jRi; omega) (by unfold jRi; omega) (fun c37 => ?_) (fun c37 => ?_)
              · skip
                refine jt_aload_n d_EX_replaceCall_119 rfl ?_
                refine jt_aload_n d_EX_replaceCall_120 rfl ?_
                refine jt_aload_n d_EX_replaceCall_121 rfl ?_
                refine cm_get (k := 5) (v := .ref (b + 6)) d_EX_replaceCall_122 EX_f13 (by decide) cc_2 rfl ?_
                refine jt_iload_n d_EX_replaceCall_125 rfl ?_
                refine cm_ldT (z := 5) d_EX_replaceCall_126 (by omega) (by omega) ?_
                show jt _ 127 [(0, .ref (b + 5)), (1, .ref (b + 39)), (2, .int (jI 5)), (3, .int (jI yq10))] [.ref (b + 34), .ref (b + 39), .ref (b + 5)] (cmf b f0 (cu Iq10 5 6 v13) Aq10) _ _ _
                refine jt_iload_n d_EX_replaceCall_127 rfl ?_
                have hln9 : Iq10 5 5 + N9 - yq10 + ((xbd (Aq10 35) (Aq10 36) (Aq10 12) (Aq10 13) X9 Y9 D9 (D9 (Iq10 5 5) + 1) (Iq10 34 3).toNat).length : Int) ≤ 300 := by rw [fK, fV, f55, fL]; omega
                have hdd9 : 0 ≤ D9 (Iq10 5 5) ∧ D9 (Iq10 5 5) ≤ 6 := by rw [f55]; exact hD9 (I 5 5) (by omega) (by omega)
                refine cct_callV (Y := Y_EX_putBody) (ci := 1) (k := 5) (As := [.ref (b + 39), .ref (b + 34), .int (jI yq10)]) (rest := []) d_EX_replaceCall_128 EX_c69 yk_EX_putBody yv_EX_putBody rfl (Nat.le_of_ble_eq_true rfl) (by decide) cc_2 rfl rfl (Nat.le_of_ble_eq_true rfl) (v_EX_putBody_34_x G _ b yq10 (cu Iq10 5 6 v13) Aq10 p14.1 p14.2.1 (cTok_of (cPx.po hqq10) hK rfl) X9 cXq10 Y9 cYq10 D9 cDq10 N9 cNq10 (show (Iq10 5 5) < yq10 ∧ yq10 ≤ N9 by omega) hb8 hln9 hdd9) (fun rvq38 Iq38 Aq38 hq38 => ?_)
                obtain ⟨rfl, hqq38, hxq38⟩ := hq38
                have hpq38 := cPx.trans p14 hqq38 rfl rfl
                have s5_5q38 : (cu Iq10 5 6 v13) 5 5 = Iq10 5 5 := rfl
                have s5_6q38 : (cu Iq10 5 6 v13) 5 6 = v13 := rfl
                have s39_3q38 : (cu Iq10 5 6 v13) 39 3 = Iq10 39 3 := rfl
                have m5_5q38 : Iq38 5 5 = Iq10 5 5 := hqq38.2.2.1 5 5 rfl
                have m5_6q38 : Iq38 5 6 = v13 := hqq38.2.2.1 5 6 rfl
                have hpp : Iq38 39 3 = ((xP N9 X9 Y9 D9 (A 35) (A 36) (Aq10 12) (Aq10 13) (I 34 3) (A 7 5) (I 5 5)).length : Int) ∧ gH (Aq38 40) (Aq38 41) (Aq38 42) (xP N9 X9 Y9 D9 (A 35) (A 36) (Aq10 12) (Aq10 13) (I 34 3) (A 7 5) (I 5 5)) := by have h9 : Iq38 39 3 = ((xs X9 Y9 D9 0 (Iq10 5 5) ++ xbd (Aq10 35) (Aq10 36) (Aq10 12) (Aq10 13) X9 Y9 D9 (D9 (Iq10 5 5) + 1) (Iq10 34 3).toNat ++ xs X9 Y9 D9 yq10 N9).length : Int) ∧ gH (Aq38 40) (Aq38 41) (Aq38 42) (xs X9 Y9 D9 0 (Iq10 5 5) ++ xbd (Aq10 35) (Aq10 36) (Aq10 12) (Aq10 13) X9 Y9 D9 (D9 (Iq10 5 5) + 1) (Iq10 34 3).toNat ++ xs X9 Y9 D9 yq10 N9) := hxq38.2; rw [fK, fV, f55, fL] at h9; rw [xP_e (by omega) hq9] at h9; exact h9
                show jt _ 131 [(0, .ref (b + 5)), (1, .ref (b + 39)), (2, .int (jI 5)), (3, .int (jI yq10))] [] (cmf b f0 Iq38 Aq38) _ _ _
                refine jt_iconst d_EX_replaceCall_131 ?_
                exact cm_ret d_EX_replaceCall_132 rfl rfl (⟨0, rfl, by omega, hpq38, hxq38.1, show 0 = 0 → Iq38 5 6 ≤ 100 by omega, by
        rw [← ev2]
        exact xRC_0 (K := A 35) (V := A 36) (len := I 34 3) (S := Aq10 12) (E := Aq10 13) (par := A 7 5) (by omega) (by omega) hs (show Iq38 5 6 = I 5 6 + 1 by omega) hSE (by omega) hpp.1 hpp.2⟩)
              · skip
                refine jt_bipush d_EX_replaceCall_116 (by omega) ?_
                exact cm_ret d_EX_replaceCall_118 rfl rfl (⟨-7, rfl, by omega, p14, (cTok_of (cPx.po hqq10) hK rfl), show -7 = 0 → v13 ≤ 100 by omega, by
        rw [← ev2]
        exact xRC_7 (K := A 35) (V := A 36) (len := I 34 3) (S := Aq10 12) (E := Aq10 13) (par := A 7 5) (by omega) (by omega) hs (show v13 = I 5 6 + 1 by omega) hSE (by omega)⟩)
        · skip
          refine jt_bipush d_EX_replaceCall_76 (by omega) ?_
          exact cm_ret d_EX_replaceCall_78 rfl rfl (⟨-6, rfl, by omega, hpq10, (cTok_of (cPx.po hqq10) hK rfl), show -6 = 0 → Iq10 5 6 ≤ 100 by omega, by
        rw [← ev2]
        exact xRC_6 (by omega) (by omega) (by omega) (fun z9 => by rw [← ev9] at z9; have z8 := (hxq10.1 z9).1; have z7 := xAq_le N9 X9 Y9 (I 5 5) v9 z9 v9.toNat (by omega); omega) (hqq10.2.2.1 5 6 rfl)⟩)
      · skip
        refine jt_aload_n d_EX_replaceCall_49 rfl ?_
        refine cm_get (k := 5) (v := .int (jI (I 5 5))) d_EX_replaceCall_50 EX_f42 (by decide) cc_2 rfl ?_
        refine jt_iconst d_EX_replaceCall_53 ?_
        refine jt_iadd d_EX_replaceCall_54 ?_
        refine jt_goto (t := 69) d_EX_replaceCall_55 rfl ?_
        refine jt_topi (fun v39 ev39 => ?_)
        refine jt_istore_n (L' := [(0, .ref (b + 5)), (1, .ref (b + 39)), (2, .int (jI v2)), (3, .int (jI v39))]) d_EX_replaceCall_69 (Nat.le_of_ble_eq_true rfl) rfl ?_
        refine jt_iload_n d_EX_replaceCall_70 rfl ?_
        refine jt_bipush d_EX_replaceCall_71 (by omega) ?_
        refine jt_icmp_ne (t := 79) d_EX_replaceCall_73 rfl (by unfold jRi; omega) (by unfold jRi; omega) (fun c40 => ?_) (fun c40 => ?_)
        · skip
          have hs : A 7 v2 ≠ 0 → xAok N9 X9 Y9 (I 5 5) (A 7 v2) := fun z => absurd (by omega) z
          have hSE : ∀ j, 0 ≤ j → j < A 7 v2 → A 12 j = xAq N9 X9 Y9 (I 5 5) j.toNat ∧ A 13 j = xAe N9 X9 Y9 (xAq N9 X9 Y9 (I 5 5) j.toNat) := fun j a c => by omega
          have hq9 : v39 = (if A 7 v2 = 0 then I 5 5 + 1 else xAq N9 X9 Y9 (I 5 5) (A 7 v2).toNat) := by rw [if_pos (by omega)]; omega
          refine jt_aload_n d_EX_replaceCall_79 rfl ?_
          refine jt_dup d_EX_replaceCall_80 rfl ?_
          refine cm_get (k := 5) (v := .int (jI (I 5 6))) d_EX_replaceCall_81 EX_f45 (by decide) cc_2 rfl ?_
          have rb41 : 0 ≤ I 5 6 ∧ I 5 6 ≤ 101 := hz0.1 5 6
          refine jt_iconst d_EX_replaceCall_84 ?_
          refine jt_iadd d_EX_replaceCall_85 ?_
          refine jt_topi (fun v42 ev42 => ?_)
          refine cm_put (k := 5) (j := 6) (v := v42) d_EX_replaceCall_86 (EX_w45 _ rfl) (by decide) cc_2 rfl rfl (Nat.le_of_ble_eq_true rfl) rfl ?_
          have p43 := cPx.I 5 6 v42 hz0 rfl (show 0 ≤ v42 ∧ v42 ≤ 101 by omega)
          refine jt_aload_n d_EX_replaceCall_89 rfl ?_
          refine jt_aload_n d_EX_replaceCall_90 rfl ?_
          refine jt_aload_n d_EX_replaceCall_91 rfl ?_
          refine cm_get (k := 5) (v := .ref (b + 6)) d_EX_replaceCall_92 EX_f13 (by decide) cc_2 rfl ?_
          refine jt_iload_n d_EX_replaceCall_95 rfl ?_
          have h6 : v2 = 0 ∨ v2 = 1 ∨ v2 = 2 ∨ v2 = 3 ∨ v2 = 4 ∨ v2 = 5 := by omega
          rcases h6 with h6 | h6 | h6 | h6 | h6 | h6
          · skip
            subst h6
            refine cm_ldT (z := 0) d_EX_replaceCall_96 (by omega) (by omega) ?_
            show jt _ 97 [(0, .ref (b + 5)), (1, .ref (b + 39)), (2, .int (jI 0)), (3, .int (jI v39))] [.ref (b + 14), .ref (b + 39), .ref (b + 5)] (cmf b f0 (cu I 5 6 v42) A) _ _ _
            refine jt_iload_n d_EX_replaceCall_97 rfl ?_
            have hm : ∀ j, 0 ≤ j → j < I 14 3 → A 15 j = 2 → 0 ≤ A 16 j ∧ A 16 j < A 7 0 := fun j a c e => ⟨by have t : gtok (A 15 j) (A 16 j) := hK 14 rfl j; unfold gtok at t; omega, hM 0 (by omega) (by omega) (by omega) j a c e⟩
            have hb9 : ∀ j, 0 ≤ j → j < I 14 3 → A 15 j = 2 → 0 ≤ A 12 (A 16 j) ∧ A 12 (A 16 j) ≤ A 13 (A 16 j) ∧ A 13 (A 16 j) ≤ N9 := xHb (by omega) hs hSE hm
            refine cct_callV (Y := Y_EX_lengthAfter) (ci := 1) (k := 5) (As := [.ref (b + 39), .ref (b + 14), .int (jI v39)]) (rest := []) d_EX_replaceCall_98 EX_c65 yk_EX_lengthAfter yv_EX_lengthAfter rfl (Nat.le_of_ble_eq_true rfl) (by decide) cc_2 rfl rfl (Nat.le_of_ble_eq_true rfl) (v_EX_lengthAfter_14_x G _ b v39 (cu I 5 6 v42) A p43.1 p43.2.1 hK X9 hX Y9 hY D9 hD N9 hN (by omega) hb9) (fun rvq44 Iq44 Aq44 hq44 => ?_)
            obtain ⟨yq44, rfl, ryq44, hIq44, hAq44, hxq44⟩ := hq44
            rw [hIq44, hAq44]
            have hl9 : yq44 = I 5 5 + N9 - v39 + ((xbd (A 15) (A 16) (A 12) (A 13) X9 Y9 D9 (D9 (I 5 5) + 1) (I 14 3).toNat).length : Int) := hxq44
            have hP9 := xP_len (n := N9) (X := X9) (Y := Y9) (D := D9) (K := A 15) (V := A 16) (S := A 12) (E := A 13) (len := I 14 3) (by omega) hq9 (by omega)
            show jt _ 101 [(0, .ref (b + 5)), (1, .ref (b + 39)), (2, .int (jI 0)), (3, .int (jI v39))] [.int (jI yq44)] (cmf b f0 (cu I 5 6 v42) A) _ _ _
            refine jt_sipush d_EX_replaceCall_101 (by omega) ?_
            refine jt_icmp_gt (t := 116) d_EX_replaceCall_104 rfl (by unfold jRi; omega) (by unfold jRi; omega) (fun c45 => ?_) (fun c45 => ?_)
            · skip
              refine jt_bipush d_EX_replaceCall_116 (by omega) ?_
              exact cm_ret d_EX_replaceCall_118 rfl rfl (⟨-7, rfl, by omega, p43, hK, show -7 = 0 → v42 ≤ 100 by omega, by
        rw [← ev2]
        exact xRC_7 (K := A 15) (V := A 16) (len := I 14 3) (S := A 12) (E := A 13) (par := A 7 0) (by omega) (by omega) hs (show v42 = I 5 6 + 1 by omega) hSE (by omega)⟩)
            · skip
              refine jt_aload_n d_EX_replaceCall_107 rfl ?_
              refine cm_get (k := 5) (v := .int (jI v42)) d_EX_replaceCall_108 EX_f45 (by decide) cc_2 rfl ?_
              refine jt_bipush d_EX_replaceCall_111 (by omega) ?_
              refine jt_icmp_le (t := 119) d_EX_replaceCall_113 rfl (by unfold jRi; omega) (by unfold jRi; omega) (fun c46 => ?_) (fun c46 => ?_)
              · skip
                refine jt_aload_n d_EX_replaceCall_119 rfl ?_
                refine jt_aload_n d_EX_replaceCall_120 rfl ?_
                refine jt_aload_n d_EX_replaceCall_121 rfl ?_
                refine cm_get (k := 5) (v := .ref (b + 6)) d_EX_replaceCall_122 EX_f13 (by decide) cc_2 rfl ?_
                refine jt_iload_n d_EX_replaceCall_125 rfl ?_
                refine cm_ldT (z := 0) d_EX_replaceCall_126 (by omega) (by omega) ?_
                show jt _ 127 [(0, .ref (b + 5)), (1, .ref (b + 39)), (2, .int (jI 0)), (3, .int (jI v39))] [.ref (b + 14), .ref (b + 39), .ref (b + 5)] (cmf b f0 (cu I 5 6 v42) A) _ _ _
                refine jt_iload_n d_EX_replaceCall_127 rfl ?_
                have hln9 : I 5 5 + N9 - v39 + ((xbd (A 15) (A 16) (A 12) (A 13) X9 Y9 D9 (D9 (I 5 5) + 1) (I 14 3).toNat).length : Int) ≤ 300 := by omega
                have hdd9 : 0 ≤ D9 (I 5 5) ∧ D9 (I 5 5) ≤ 6 := hD9 (I 5 5) (by omega) (by omega)
                refine cct_callV (Y := Y_EX_putBody) (ci := 1) (k := 5) (As := [.ref (b + 39), .ref (b + 14), .int (jI v39)]) (rest := []) d_EX_replaceCall_128 EX_c69 yk_EX_putBody yv_EX_putBody rfl (Nat.le_of_ble_eq_true rfl) (by decide) cc_2 rfl rfl (Nat.le_of_ble_eq_true rfl) (v_EX_putBody_14_x G _ b v39 (cu I 5 6 v42) A p43.1 p43.2.1 hK X9 hX Y9 hY D9 hD N9 hN (show (I 5 5) < v39 ∧ v39 ≤ N9 by omega) hb9 hln9 hdd9) (fun rvq47 Iq47 Aq47 hq47 => ?_)
                obtain ⟨rfl, hqq47, hxq47⟩ := hq47
                have hpq47 := cPx.trans p43 hqq47 rfl rfl
                have s5_5q47 : (cu I 5 6 v42) 5 5 = I 5 5 := rfl
                have s5_6q47 : (cu I 5 6 v42) 5 6 = v42 := rfl
                have s39_3q47 : (cu I 5 6 v42) 39 3 = I 39 3 := rfl
                have m5_5q47 : Iq47 5 5 = I 5 5 := hqq47.2.2.1 5 5 rfl
                have m5_6q47 : Iq47 5 6 = v42 := hqq47.2.2.1 5 6 rfl
                have hpp : Iq47 39 3 = ((xP N9 X9 Y9 D9 (A 15) (A 16) (A 12) (A 13) (I 14 3) (A 7 0) (I 5 5)).length : Int) ∧ gH (Aq47 40) (Aq47 41) (Aq47 42) (xP N9 X9 Y9 D9 (A 15) (A 16) (A 12) (A 13) (I 14 3) (A 7 0) (I 5 5)) := by have h9 : Iq47 39 3 = ((xs X9 Y9 D9 0 (I 5 5) ++ xbd (A 15) (A 16) (A 12) (A 13) X9 Y9 D9 (D9 (I 5 5) + 1) (I 14 3).toNat ++ xs X9 Y9 D9 v39 N9).length : Int) ∧ gH (Aq47 40) (Aq47 41) (Aq47 42) (xs X9 Y9 D9 0 (I 5 5) ++ xbd (A 15) (A 16) (A 12) (A 13) X9 Y9 D9 (D9 (I 5 5) + 1) (I 14 3).toNat ++ xs X9 Y9 D9 v39 N9) := hxq47.2; rw [xP_e (by omega) hq9] at h9; exact h9
                show jt _ 131 [(0, .ref (b + 5)), (1, .ref (b + 39)), (2, .int (jI 0)), (3, .int (jI v39))] [] (cmf b f0 Iq47 Aq47) _ _ _
                refine jt_iconst d_EX_replaceCall_131 ?_
                exact cm_ret d_EX_replaceCall_132 rfl rfl (⟨0, rfl, by omega, hpq47, hxq47.1, show 0 = 0 → Iq47 5 6 ≤ 100 by omega, by
        rw [← ev2]
        exact xRC_0 (K := A 15) (V := A 16) (len := I 14 3) (S := A 12) (E := A 13) (par := A 7 0) (by omega) (by omega) hs (show Iq47 5 6 = I 5 6 + 1 by omega) hSE (by omega) hpp.1 hpp.2⟩)
              · skip
                refine jt_bipush d_EX_replaceCall_116 (by omega) ?_
                exact cm_ret d_EX_replaceCall_118 rfl rfl (⟨-7, rfl, by omega, p43, hK, show -7 = 0 → v42 ≤ 100 by omega, by
        rw [← ev2]
        exact xRC_7 (K := A 15) (V := A 16) (len := I 14 3) (S := A 12) (E := A 13) (par := A 7 0) (by omega) (by omega) hs (show v42 = I 5 6 + 1 by omega) hSE (by omega)⟩)
          · skip
            subst h6
            refine cm_ldT (z := 1) d_EX_replaceCall_96 (by omega) (by omega) ?_
            show jt _ 97 [(0, .ref (b + 5)), (1, .ref (b + 39)), (2, .int (jI 1)), (3, .int (jI v39))] [.ref (b + 18), .ref (b + 39), .ref (b + 5)] (cmf b f0 (cu I 5 6 v42) A) _ _ _
            refine jt_iload_n d_EX_replaceCall_97 rfl ?_
            have hm : ∀ j, 0 ≤ j → j < I 18 3 → A 19 j = 2 → 0 ≤ A 20 j ∧ A 20 j < A 7 1 := fun j a c e => ⟨by have t : gtok (A 19 j) (A 20 j) := hK 18 rfl j; unfold gtok at t; omega, hM 1 (by omega) (by omega) (by omega) j a c e⟩
            have hb9 : ∀ j, 0 ≤ j → j < I 18 3 → A 19 j = 2 → 0 ≤ A 12 (A 20 j) ∧ A 12 (A 20 j) ≤ A 13 (A 20 j) ∧ A 13 (A 20 j) ≤ N9 := xHb (by omega) hs hSE hm
            refine cct_callV (Y := Y_EX_lengthAfter) (ci := 1) (k := 5) (As := [.ref (b + 39), .ref (b + 18), .int (jI v39)]) (rest := []) d_EX_replaceCall_98 EX_c65 yk_EX_lengthAfter yv_EX_lengthAfter rfl (Nat.le_of_ble_eq_true rfl) (by decide) cc_2 rfl rfl (Nat.le_of_ble_eq_true rfl) (v_EX_lengthAfter_18_x G _ b v39 (cu I 5 6 v42) A p43.1 p43.2.1 hK X9 hX Y9 hY D9 hD N9 hN (by omega) hb9) (fun rvq48 Iq48 Aq48 hq48 => ?_)
            obtain ⟨yq48, rfl, ryq48, hIq48, hAq48, hxq48⟩ := hq48
            rw [hIq48, hAq48]
            have hl9 : yq48 = I 5 5 + N9 - v39 + ((xbd (A 19) (A 20) (A 12) (A 13) X9 Y9 D9 (D9 (I 5 5) + 1) (I 18 3).toNat).length : Int) := hxq48
            have hP9 := xP_len (n := N9) (X := X9) (Y := Y9) (D := D9) (K := A 19) (V := A 20) (S := A 12) (E := A 13) (len := I 18 3) (by omega) hq9 (by omega)
            show jt _ 101 [(0, .ref (b + 5)), (1, .ref (b + 39)), (2, .int (jI 1)), (3, .int (jI v39))] [.int (jI yq48)] (cmf b f0 (cu I 5 6 v42) A) _ _ _
            refine jt_sipush d_EX_replaceCall_101 (by omega) ?_
            refine jt_icmp_gt (t := 116) d_EX_replaceCall_104 rfl (by unfold jRi; omega) (by unfold jRi; omega) (fun c49 => ?_) (fun c49 => ?_)
            · skip
              refine jt_bipush d_EX_replaceCall_116 (by omega) ?_
              exact cm_ret d_EX_replaceCall_118 rfl rfl (⟨-7, rfl, by omega, p43, hK, show -7 = 0 → v42 ≤ 100 by omega, by
        rw [← ev2]
        exact xRC_7 (K := A 19) (V := A 20) (len := I 18 3) (S := A 12) (E := A 13) (par := A 7 1) (by omega) (by omega) hs (show v42 = I 5 6 + 1 by omega) hSE (by omega)⟩)
            · skip
              refine jt_aload_n d_EX_replaceCall_107 rfl ?_
              refine cm_get (k := 5) (v := .int (jI v42)) d_EX_replaceCall_108 EX_f45 (by decide) cc_2 rfl ?_
              refine jt_bipush d_EX_replaceCall_111 (by omega) ?_
              refine jt_icmp_le (t := 119) d_EX_replaceCall_113 rfl (by unfold jRi; omega) (by unfold jRi; omega) (fun c50 => ?_) (fun c50 => ?_)
              · skip
                refine jt_aload_n d_EX_replaceCall_119 rfl ?_
                refine jt_aload_n d_EX_replaceCall_120 rfl ?_
                refine jt_aload_n d_EX_replaceCall_121 rfl ?_
                refine cm_get (k := 5) (v := .ref (b + 6)) d_EX_replaceCall_122 EX_f13 (by decide) cc_2 rfl ?_
                refine jt_iload_n d_EX_replaceCall_125 rfl ?_
                refine cm_ldT (z := 1) d_EX_replaceCall_126 (by omega) (by omega) ?_
                show jt _ 127 [(0, .ref (b + 5)), (1, .ref (b + 39)), (2, .int (jI 1)), (3, .int (jI v39))] [.ref (b + 18), .ref (b + 39), .ref (b + 5)] (cmf b f0 (cu I 5 6 v42) A) _ _ _
                refine jt_iload_n d_EX_replaceCall_127 rfl ?_
                have hln9 : I 5 5 + N9 - v39 + ((xbd (A 19) (A 20) (A 12) (A 13) X9 Y9 D9 (D9 (I 5 5) + 1) (I 18 3).toNat).length : Int) ≤ 300 := by omega
                have hdd9 : 0 ≤ D9 (I 5 5) ∧ D9 (I 5 5) ≤ 6 := hD9 (I 5 5) (by omega) (by omega)
                refine cct_callV (Y := Y_EX_putBody) (ci := 1) (k := 5) (As := [.ref (b + 39), .ref (b + 18), .int (jI v39)]) (rest := []) d_EX_replaceCall_128 EX_c69 yk_EX_putBody yv_EX_putBody rfl (Nat.le_of_ble_eq_true rfl) (by decide) cc_2 rfl rfl (Nat.le_of_ble_eq_true rfl) (v_EX_putBody_18_x G _ b v39 (cu I 5 6 v42) A p43.1 p43.2.1 hK X9 hX Y9 hY D9 hD N9 hN (show (I 5 5) < v39 ∧ v39 ≤ N9 by omega) hb9 hln9 hdd9) (fun rvq51 Iq51 Aq51 hq51 => ?_)
                obtain ⟨rfl, hqq51, hxq51⟩ := hq51
                have hpq51 := cPx.trans p43 hqq51 rfl rfl
                have s5_5q51 : (cu I 5 6 v42) 5 5 = I 5 5 := rfl
                have s5_6q51 : (cu I 5 6 v42) 5 6 = v42 := rfl
                have s39_3q51 : (cu I 5 6 v42) 39 3 = I 39 3 := rfl
                have m5_5q51 : Iq51 5 5 = I 5 5 := hqq51.2.2.1 5 5 rfl
                have m5_6q51 : Iq51 5 6 = v42 := hqq51.2.2.1 5 6 rfl
                have hpp : Iq51 39 3 = ((xP N9 X9 Y9 D9 (A 19) (A 20) (A 12) (A 13) (I 18 3) (A 7 1) (I 5 5)).length : Int) ∧ gH (Aq51 40) (Aq51 41) (Aq51 42) (xP N9 X9 Y9 D9 (A 19) (A 20) (A 12) (A 13) (I 18 3) (A 7 1) (I 5 5)) := by have h9 : Iq51 39 3 = ((xs X9 Y9 D9 0 (I 5 5) ++ xbd (A 19) (A 20) (A 12) (A 13) X9 Y9 D9 (D9 (I 5 5) + 1) (I 18 3).toNat ++ xs X9 Y9 D9 v39 N9).length : Int) ∧ gH (Aq51 40) (Aq51 41) (Aq51 42) (xs X9 Y9 D9 0 (I 5 5) ++ xbd (A 19) (A 20) (A 12) (A 13) X9 Y9 D9 (D9 (I 5 5) + 1) (I 18 3).toNat ++ xs X9 Y9 D9 v39 N9) := hxq51.2; rw [xP_e (by omega) hq9] at h9; exact h9
                show jt _ 131 [(0, .ref (b + 5)), (1, .ref (b + 39)), (2, .int (jI 1)), (3, .int (jI v39))] [] (cmf b f0 Iq51 Aq51) _ _ _
                refine jt_iconst d_EX_replaceCall_131 ?_
                exact cm_ret d_EX_replaceCall_132 rfl rfl (⟨0, rfl, by omega, hpq51, hxq51.1, show 0 = 0 → Iq51 5 6 ≤ 100 by omega, by
        rw [← ev2]
        exact xRC_0 (K := A 19) (V := A 20) (len := I 18 3) (S := A 12) (E := A 13) (par := A 7 1) (by omega) (by omega) hs (show Iq51 5 6 = I 5 6 + 1 by omega) hSE (by omega) hpp.1 hpp.2⟩)
              · skip
                refine jt_bipush d_EX_replaceCall_116 (by omega) ?_
                exact cm_ret d_EX_replaceCall_118 rfl rfl (⟨-7, rfl, by omega, p43, hK, show -7 = 0 → v42 ≤ 100 by omega, by
        rw [← ev2]
        exact xRC_7 (K := A 19) (V := A 20) (len := I 18 3) (S := A 12) (E := A 13) (par := A 7 1) (by omega) (by omega) hs (show v42 = I 5 6 + 1 by omega) hSE (by omega)⟩)
          · skip
            subst h6
            refine cm_ldT (z := 2) d_EX_replaceCall_96 (by omega) (by omega) ?_
            show jt _ 97 [(0, .ref (b + 5)), (1, .ref (b + 39)), (2, .int (jI 2)), (3, .int (jI v39))] [.ref (b + 22), .ref (b + 39), .ref (b + 5)] (cmf b f0 (cu I 5 6 v42) A) _ _ _
            refine jt_iload_n d_EX_replaceCall_97 rfl ?_
            have hm : ∀ j, 0 ≤ j → j < I 22 3 → A 23 j = 2 → 0 ≤ A 24 j ∧ A 24 j < A 7 2 := fun j a c e => ⟨by have t : gtok (A 23 j) (A 24 j) := hK 22 rfl j; unfold gtok at t; omega, hM 2 (by omega) (by omega) (by omega) j a c e⟩
            have hb9 : ∀ j, 0 ≤ j → j < I 22 3 → A 23 j = 2 → 0 ≤ A 12 (A 24 j) ∧ A 12 (A 24 j) ≤ A 13 (A 24 j) ∧ A 13 (A 24 j) ≤ N9 := xHb (by omega) hs hSE hm
            refine cct_callV (Y := Y_EX_lengthAfter) (ci := 1) (k := 5) (As := [.ref (b + 39), .ref (b + 22), .int (jI v39)]) (rest := []) d_EX_replaceCall_98 EX_c65 yk_EX_lengthAfter yv_EX_lengthAfter rfl (Nat.le_of_ble_eq_true rfl) (by decide) cc_2 rfl rfl (Nat.le_of_ble_eq_true rfl) (v_EX_lengthAfter_22_x G _ b v39 (cu I 5 6 v42) A p43.1 p43.2.1 hK X9 hX Y9 hY D9 hD N9 hN (by omega) hb9) (fun rvq52 Iq52 Aq52 hq52 => ?_)
            obtain ⟨yq52, rfl, ryq52, hIq52, hAq52, hxq52⟩ := hq52
            rw [hIq52, hAq52]
            have hl9 : yq52 = I 5 5 + N9 - v39 + ((xbd (A 23) (A 24) (A 12) (A 13) X9 Y9 D9 (D9 (I 5 5) + 1) (I 22 3).toNat).length : Int) := hxq52
            have hP9 := xP_len (n := N9) (X := X9) (Y := Y9) (D := D9) (K := A 23) (V := A 24) (S := A 12) (E := A 13) (len := I 22 3) (by omega) hq9 (by omega)
            show jt _ 101 [(0, .ref (b + 5)), (1, .ref (b + 39)), (2, .int (jI 2)), (3, .int (jI v39))] [.int (jI yq52)] (cmf b f0 (cu I 5 6 v42) A) _ _ _
            refine jt_sipush d_EX_replaceCall_101 (by omega) ?_
            refine jt_icmp_gt (t := 116) d_EX_replaceCall_104 rfl (by unfold jRi; omega) (by unfold jRi; omega) (fun c53 => ?_) (fun c53 => ?_)
            · skip
              refine jt_bipush d_EX_replaceCall_116 (by omega) ?_
              exact cm_ret d_EX_replaceCall_118 rfl rfl (⟨-7, rfl, by omega, p43, hK, show -7 = 0 → v42 ≤ 100 by omega, by
        rw [← ev2]
        exact xRC_7 (K := A 23) (V := A 24) (len := I 22 3) (S := A 12) (E := A 13) (par := A 7 2) (by omega) (by omega) hs (show v42 = I 5 6 + 1 by omega) hSE (by omega)⟩)
            · skip
              refine jt_aload_n d_EX_replaceCall_107 rfl ?_
              refine cm_get (k := 5) (v := .int (jI v42)) d_EX_replaceCall_108 EX_f45 (by decide) cc_2 rfl ?_
              refine jt_bipush d_EX_replaceCall_111 (by omega) ?_
              refine jt_icmp_le (t := 119) d_EX_replaceCall_113 rfl (by unfold jRi; omega) (by unfold jRi; omega) (fun c54 => ?_) (fun c54 => ?_)
              · skip
                refine jt_aload_n d_EX_replaceCall_119 rfl ?_
                refine jt_aload_n d_EX_replaceCall_120 rfl ?_
                refine jt_aload_n d_EX_replaceCall_121 rfl ?_
                refine cm_get (k := 5) (v := .ref (b + 6)) d_EX_replaceCall_122 EX_f13 (by decide) cc_2 rfl ?_
                refine jt_iload_n d_EX_replaceCall_125 rfl ?_
                refine cm_ldT (z := 2) d_EX_replaceCall_126 (by omega) (by omega) ?_
                show jt _ 127 [(0, .ref (b + 5)), (1, .ref (b + 39)), (2, .int (jI 2)), (3, .int (jI v39))] [.ref (b + 22), .ref (b + 39), .ref (b + 5)] (cmf b f0 (cu I 5 6 v42) A) _ _ _
                refine jt_iload_n d_EX_replaceCall_127 rfl ?_
                have hln9 : I 5 5 + N9 - v39 + ((xbd (A 23) (A 24) (A 12) (A 13) X9 Y9 D9 (D9 (I 5 5) + 1) (I 22 3).toNat).length : Int) ≤ 300 := by omega
                have hdd9 : 0 ≤ D9 (I 5 5) ∧ D9 (I 5 5) ≤ 6 := hD9 (I 5 5) (by omega) (by omega)
                refine cct_callV (Y := Y_EX_putBody) (ci := 1) (k := 5) (As := [.ref (b + 39), .ref (b + 22), .int (jI v39)]) (rest := []) d_EX_replaceCall_128 EX_c69 yk_EX_putBody yv_EX_putBody rfl (Nat.le_of_ble_eq_true rfl) (by decide) cc_2 rfl rfl (Nat.le_of_ble_eq_true rfl) (v_EX_putBody_22_x G _ b v39 (cu I 5 6 v42) A p43.1 p43.2.1 hK X9 hX Y9 hY D9 hD N9 hN (show (I 5 5) < v39 ∧ v39 ≤ N9 by omega) hb9 hln9 hdd9) (fun rvq55 Iq55 Aq55 hq55 => ?_)
                obtain ⟨rfl, hqq55, hxq55⟩ := hq55
                have hpq55 := cPx.trans p43 hqq55 rfl rfl
                have s5_5q55 : (cu I 5 6 v42) 5 5 = I 5 5 := rfl
                have s5_6q55 : (cu I 5 6 v42) 5 6 = v42 := rfl
                have s39_3q55 : (cu I 5 6 v42) 39 3 = I 39 3 := rfl
                have m5_5q55 : Iq55 5 5 = I 5 5 := hqq55.2.2.1 5 5 rfl
                have m5_6q55 : Iq55 5 6 = v42 := hqq55.2.2.1 5 6 rfl
                have hpp : Iq55 39 3 = ((xP N9 X9 Y9 D9 (A 23) (A 24) (A 12) (A 13) (I 22 3) (A 7 2) (I 5 5)).length : Int) ∧ gH (Aq55 40) (Aq55 41) (Aq55 42) (xP N9 X9 Y9 D9 (A 23) (A 24) (A 12) (A 13) (I 22 3) (A 7 2) (I 5 5)) := by have h9 : Iq55 39 3 = ((xs X9 Y9 D9 0 (I 5 5) ++ xbd (A 23) (A 24) (A 12) (A 13) X9 Y9 D9 (D9 (I 5 5) + 1) (I 22 3).toNat ++ xs X9 Y9 D9 v39 N9).length : Int) ∧ gH (Aq55 40) (Aq55 41) (Aq55 42) (xs X9 Y9 D9 0 (I 5 5) ++ xbd (A 23) (A 24) (A 12) (A 13) X9 Y9 D9 (D9 (I 5 5) + 1) (I 22 3).toNat ++ xs X9 Y9 D9 v39 N9) := hxq55.2; rw [xP_e (by omega) hq9] at h9; exact h9
                show jt _ 131 [(0, .ref (b + 5)), (1, .ref (b + 39)), (2, .int (jI 2)), (3, .int (jI v39))] [] (cmf b f0 Iq55 Aq55) _ _ _
                refine jt_iconst d_EX_replaceCall_131 ?_
                exact cm_ret d_EX_replaceCall_132 rfl rfl (⟨0, rfl, by omega, hpq55, hxq55.1, show 0 = 0 → Iq55 5 6 ≤ 100 by omega, by
        rw [← ev2]
        exact xRC_0 (K := A 23) (V := A 24) (len := I 22 3) (S := A 12) (E := A 13) (par := A 7 2) (by omega) (by omega) hs (show Iq55 5 6 = I 5 6 + 1 by omega) hSE (by omega) hpp.1 hpp.2⟩)
              · skip
                refine jt_bipush d_EX_replaceCall_116 (by omega) ?_
                exact cm_ret d_EX_replaceCall_118 rfl rfl (⟨-7, rfl, by omega, p43, hK, show -7 = 0 → v42 ≤ 100 by omega, by
        rw [← ev2]
        exact xRC_7 (K := A 23) (V := A 24) (len := I 22 3) (S := A 12) (E := A 13) (par := A 7 2) (by omega) (by omega) hs (show v42 = I 5 6 + 1 by omega) hSE (by omega)⟩)
          · skip
            subst h6
            refine cm_ldT (z := 3) d_EX_replaceCall_96 (by omega) (by omega) ?_
            show jt _ 97 [(0, .ref (b + 5)), (1, .ref (b + 39)), (2, .int (jI 3)), (3, .int (jI v39))] [.ref (b + 26), .ref (b + 39), .ref (b + 5)] (cmf b f0 (cu I 5 6 v42) A) _ _ _
            refine jt_iload_n d_EX_replaceCall_97 rfl ?_
            have hm : ∀ j, 0 ≤ j → j < I 26 3 → A 27 j = 2 → 0 ≤ A 28 j ∧ A 28 j < A 7 3 := fun j a c e => ⟨by have t : gtok (A 27 j) (A 28 j) := hK 26 rfl j; unfold gtok at t; omega, hM 3 (by omega) (by omega) (by omega) j a c e⟩
            have hb9 : ∀ j, 0 ≤ j → j < I 26 3 → A 27 j = 2 → 0 ≤ A 12 (A 28 j) ∧ A 12 (A 28 j) ≤ A 13 (A 28 j) ∧ A 13 (A 28 j) ≤ N9 := xHb (by omega) hs hSE hm
            refine cct_callV (Y := Y_EX_lengthAfter) (ci := 1) (k := 5) (As := [.ref (b + 39), .ref (b + 26), .int (jI v39)]) (rest := []) d_EX_replaceCall_98 EX_c65 yk_EX_lengthAfter yv_EX_lengthAfter rfl (Nat.le_of_ble_eq_true rfl) (by decide) cc_2 rfl rfl (Nat.le_of_ble_eq_true rfl) (v_EX_lengthAfter_26_x G _ b v39 (cu I 5 6 v42) A p43.1 p43.2.1 hK X9 hX Y9 hY D9 hD N9 hN (by omega) hb9) (fun rvq56 Iq56 Aq56 hq56 => ?_)
            obtain ⟨yq56, rfl, ryq56, hIq56, hAq56, hxq56⟩ := hq56
            rw [hIq56, hAq56]
            have hl9 : yq56 = I 5 5 + N9 - v39 + ((xbd (A 27) (A 28) (A 12) (A 13) X9 Y9 D9 (D9 (I 5 5) + 1) (I 26 3).toNat).length : Int) := hxq56
            have hP9 := xP_len (n := N9) (X := X9) (Y := Y9) (D := D9) (K := A 27) (V := A 28) (S := A 12) (E := A 13) (len := I 26 3) (by omega) hq9 (by omega)
            show jt _ 101 [(0, .ref (b + 5)), (1, .ref (b + 39)), (2, .int (jI 3)), (3, .int (jI v39))] [.int (jI yq56)] (cmf b f0 (cu I 5 6 v42) A) _ _ _
            refine jt_sipush d_EX_replaceCall_101 (by omega) ?_
            refine jt_icmp_gt (t := 116) d_EX_replaceCall_104 rfl (by unfold jRi; omega) (by unfold jRi; omega) (fun c57 => ?_) (fun c57 => ?_)
            · skip
              refine jt_bipush d_EX_replaceCall_116 (by omega) ?_
              exact cm_ret d_EX_replaceCall_118 rfl rfl (⟨-7, rfl, by omega, p43, hK, show -7 = 0 → v42 ≤ 100 by omega, by
        rw [← ev2]
        exact xRC_7 (K := A 27) (V := A 28) (len := I 26 3) (S := A 12) (E := A 13) (par := A 7 3) (by omega) (by omega) hs (show v42 = I 5 6 + 1 by omega) hSE (by omega)⟩)
            · skip
              refine jt_aload_n d_EX_replaceCall_107 rfl ?_
              refine cm_get (k := 5) (v := .int (jI v42)) d_EX_replaceCall_108 EX_f45 (by decide) cc_2 rfl ?_
              refine jt_bipush d_EX_replaceCall_111 (by omega) ?_
              refine jt_icmp_le (t := 119) d_EX_replaceCall_113 rfl (by unfold jRi; omega) (by unfold jRi; omega) (fun c58 => ?_) (fun c58 => ?_)
              · skip
                refine jt_aload_n d_EX_replaceCall_119 rfl ?_
                refine jt_aload_n d_EX_replaceCall_120 rfl ?_
                refine jt_aload_n d_EX_replaceCall_121 rfl ?_
                refine cm_get (k := 5) (v := .ref (b + 6)) d_EX_replaceCall_122 EX_f13 (by decide) cc_2 rfl ?_
                refine jt_iload_n d_EX_replaceCall_125 rfl ?_
                refine cm_ldT (z := 3) d_EX_replaceCall_126 (by omega) (by omega) ?_
                show jt _ 127 [(0, .ref (b + 5)), (1, .ref (b + 39)), (2, .int (jI 3)), (3, .int (jI v39))] [.ref (b + 26), .ref (b + 39), .ref (b + 5)] (cmf b f0 (cu I 5 6 v42) A) _ _ _
                refine jt_iload_n d_EX_replaceCall_127 rfl ?_
                have hln9 : I 5 5 + N9 - v39 + ((xbd (A 27) (A 28) (A 12) (A 13) X9 Y9 D9 (D9 (I 5 5) + 1) (I 26 3).toNat).length : Int) ≤ 300 := by omega
                have hdd9 : 0 ≤ D9 (I 5 5) ∧ D9 (I 5 5) ≤ 6 := hD9 (I 5 5) (by omega) (by omega)
                refine cct_callV (Y := Y_EX_putBody) (ci := 1) (k := 5) (As := [.ref (b + 39), .ref (b + 26), .int (jI v39)]) (rest := []) d_EX_replaceCall_128 EX_c69 yk_EX_putBody yv_EX_putBody rfl (Nat.le_of_ble_eq_true rfl) (by decide) cc_2 rfl rfl (Nat.le_of_ble_eq_true rfl) (v_EX_putBody_26_x G _ b v39 (cu I 5 6 v42) A p43.1 p43.2.1 hK X9 hX Y9 hY D9 hD N9 hN (show (I 5 5) < v39 ∧ v39 ≤ N9 by omega) hb9 hln9 hdd9) (fun rvq59 Iq59 Aq59 hq59 => ?_)
                obtain ⟨rfl, hqq59, hxq59⟩ := hq59
                have hpq59 := cPx.trans p43 hqq59 rfl rfl
                have s5_5q59 : (cu I 5 6 v42) 5 5 = I 5 5 := rfl
                have s5_6q59 : (cu I 5 6 v42) 5 6 = v42 := rfl
                have s39_3q59 : (cu I 5 6 v42) 39 3 = I 39 3 := rfl
                have m5_5q59 : Iq59 5 5 = I 5 5 := hqq59.2.2.1 5 5 rfl
                have m5_6q59 : Iq59 5 6 = v42 := hqq59.2.2.1 5 6 rfl
                have hpp : Iq59 39 3 = ((xP N9 X9 Y9 D9 (A 27) (A 28) (A 12) (A 13) (I 26 3) (A 7 3) (I 5 5)).length : Int) ∧ gH (Aq59 40) (Aq59 41) (Aq59 42) (xP N9 X9 Y9 D9 (A 27) (A 28) (A 12) (A 13) (I 26 3) (A 7 3) (I 5 5)) := by have h9 : Iq59 39 3 = ((xs X9 Y9 D9 0 (I 5 5) ++ xbd (A 27) (A 28) (A 12) (A 13) X9 Y9 D9 (D9 (I 5 5) + 1) (I 26 3).toNat ++ xs X9 Y9 D9 v39 N9).length : Int) ∧ gH (Aq59 40) (Aq59 41) (Aq59 42) (xs X9 Y9 D9 0 (I 5 5) ++ xbd (A 27) (A 28) (A 12) (A 13) X9 Y9 D9 (D9 (I 5 5) + 1) (I 26 3).toNat ++ xs X9 Y9 D9 v39 N9) := hxq59.2; rw [xP_e (by omega) hq9] at h9; exact h9
                show jt _ 131 [(0, .ref (b + 5)), (1, .ref (b + 39)), (2, .int (jI 3)), (3, .int (jI v39))] [] (cmf b f0 Iq59 Aq59) _ _ _
                refine jt_iconst d_EX_replaceCall_131 ?_
                exact cm_ret d_EX_replaceCall_132 rfl rfl (⟨0, rfl, by omega, hpq59, hxq59.1, show 0 = 0 → Iq59 5 6 ≤ 100 by omega, by
        rw [← ev2]
        exact xRC_0 (K := A 27) (V := A 28) (len := I 26 3) (S := A 12) (E := A 13) (par := A 7 3) (by omega) (by omega) hs (show Iq59 5 6 = I 5 6 + 1 by omega) hSE (by omega) hpp.1 hpp.2⟩)
              · skip
                refine jt_bipush d_EX_replaceCall_116 (by omega) ?_
                exact cm_ret d_EX_replaceCall_118 rfl rfl (⟨-7, rfl, by omega, p43, hK, show -7 = 0 → v42 ≤ 100 by omega, by
        rw [← ev2]
        exact xRC_7 (K := A 27) (V := A 28) (len := I 26 3) (S := A 12) (E := A 13) (par := A 7 3) (by omega) (by omega) hs (show v42 = I 5 6 + 1 by omega) hSE (by omega)⟩)
          · skip
            subst h6
            refine cm_ldT (z := 4) d_EX_replaceCall_96 (by omega) (by omega) ?_
            show jt _ 97 [(0, .ref (b + 5)), (1, .ref (b + 39)), (2, .int (jI 4)), (3, .int (jI v39))] [.ref (b + 30), .ref (b + 39), .ref (b + 5)] (cmf b f0 (cu I 5 6 v42) A) _ _ _
            refine jt_iload_n d_EX_replaceCall_97 rfl ?_
            have hm : ∀ j, 0 ≤ j → j < I 30 3 → A 31 j = 2 → 0 ≤ A 32 j ∧ A 32 j < A 7 4 := fun j a c e => ⟨by have t : gtok (A 31 j) (A 32 j) := hK 30 rfl j; unfold gtok at t; omega, hM 4 (by omega) (by omega) (by omega) j a c e⟩
            have hb9 : ∀ j, 0 ≤ j → j < I 30 3 → A 31 j = 2 → 0 ≤ A 12 (A 32 j) ∧ A 12 (A 32 j) ≤ A 13 (A 32 j) ∧ A 13 (A 32 j) ≤ N9 := xHb (by omega) hs hSE hm
            refine cct_callV (Y := Y_EX_lengthAfter) (ci := 1) (k := 5) (As := [.ref (b + 39), .ref (b + 30), .int (jI v39)]) (rest := []) d_EX_replaceCall_98 EX_c65 yk_EX_lengthAfter yv_EX_lengthAfter rfl (Nat.le_of_ble_eq_true rfl) (by decide) cc_2 rfl rfl (Nat.le_of_ble_eq_true rfl) (v_EX_lengthAfter_30_x G _ b v39 (cu I 5 6 v42) A p43.1 p43.2.1 hK X9 hX Y9 hY D9 hD N9 hN (by omega) hb9) (fun rvq60 Iq60 Aq60 hq60 => ?_)
            obtain ⟨yq60, rfl, ryq60, hIq60, hAq60, hxq60⟩ := hq60
            rw [hIq60, hAq60]
            have hl9 : yq60 = I 5 5 + N9 - v39 + ((xbd (A 31) (A 32) (A 12) (A 13) X9 Y9 D9 (D9 (I 5 5) + 1) (I 30 3).toNat).length : Int) := hxq60
            have hP9 := xP_len (n := N9) (X := X9) (Y := Y9) (D := D9) (K := A 31) (V := A 32) (S := A 12) (E := A 13) (len := I 30 3) (by omega) hq9 (by omega)
            show jt _ 101 [(0, .ref (b + 5)), (1, .ref (b + 39)), (2, .int (jI 4)), (3, .int (jI v39))] [.int (jI yq60)] (cmf b f0 (cu I 5 6 v42) A) _ _ _
            refine jt_sipush d_EX_replaceCall_101 (by omega) ?_
            refine jt_icmp_gt (t := 116) d_EX_replaceCall_104 rfl (by unfold jRi; omega) (by unfold jRi; omega) (fun c61 => ?_) (fun c61 => ?_)
            · skip
              refine jt_bipush d_EX_replaceCall_116 (by omega) ?_
              exact cm_ret d_EX_replaceCall_118 rfl rfl (⟨-7, rfl, by omega, p43, hK, show -7 = 0 → v42 ≤ 100 by omega, by
        rw [← ev2]
        exact xRC_7 (K := A 31) (V := A 32) (len := I 30 3) (S := A 12) (E := A 13) (par := A 7 4) (by omega) (by omega) hs (show v42 = I 5 6 + 1 by omega) hSE (by omega)⟩)
            · skip
              refine jt_aload_n d_EX_replaceCall_107 rfl ?_
              refine cm_get (k := 5) (v := .int (jI v42)) d_EX_replaceCall_108 EX_f45 (by decide) cc_2 rfl ?_
              refine jt_bipush d_EX_replaceCall_111 (by omega) ?_
              refine jt_icmp_le (t := 119) d_EX_replaceCall_113 rfl (by unfold jRi; omega) (by unfold jRi; omega) (fun c62 => ?_) (fun c62 => ?_)
              · skip
                refine jt_aload_n d_EX_replaceCall_119 rfl ?_
                refine jt_aload_n d_EX_replaceCall_120 rfl ?_
                refine jt_aload_n d_EX_replaceCall_121 rfl ?_
                refine cm_get (k := 5) (v := .ref (b + 6)) d_EX_replaceCall_122 EX_f13 (by decide) cc_2 rfl ?_
                refine jt_iload_n d_EX_replaceCall_125 rfl ?_
                refine cm_ldT (z := 4) d_EX_replaceCall_126 (by omega) (by omega) ?_
                show jt _ 127 [(0, .ref (b + 5)), (1, .ref (b + 39)), (2, .int (jI 4)), (3, .int (jI v39))] [.ref (b + 30), .ref (b + 39), .ref (b + 5)] (cmf b f0 (cu I 5 6 v42) A) _ _ _
                refine jt_iload_n d_EX_replaceCall_127 rfl ?_
                have hln9 : I 5 5 + N9 - v39 + ((xbd (A 31) (A 32) (A 12) (A 13) X9 Y9 D9 (D9 (I 5 5) + 1) (I 30 3).toNat).length : Int) ≤ 300 := by omega
                have hdd9 : 0 ≤ D9 (I 5 5) ∧ D9 (I 5 5) ≤ 6 := hD9 (I 5 5) (by omega) (by omega)
                refine cct_callV (Y := Y_EX_putBody) (ci := 1) (k := 5) (As := [.ref (b + 39), .ref (b + 30), .int (jI v39)]) (rest := []) d_EX_replaceCall_128 EX_c69 yk_EX_putBody yv_EX_putBody rfl (Nat.le_of_ble_eq_true rfl) (by decide) cc_2 rfl rfl (Nat.le_of_ble_eq_true rfl) (v_EX_putBody_30_x G _ b v39 (cu I 5 6 v42) A p43.1 p43.2.1 hK X9 hX Y9 hY D9 hD N9 hN (show (I 5 5) < v39 ∧ v39 ≤ N9 by omega) hb9 hln9 hdd9) (fun rvq63 Iq63 Aq63 hq63 => ?_)
                obtain ⟨rfl, hqq63, hxq63⟩ := hq63
                have hpq63 := cPx.trans p43 hqq63 rfl rfl
                have s5_5q63 : (cu I 5 6 v42) 5 5 = I 5 5 := rfl
                have s5_6q63 : (cu I 5 6 v42) 5 6 = v42 := rfl
                have s39_3q63 : (cu I 5 6 v42) 39 3 = I 39 3 := rfl
                have m5_5q63 : Iq63 5 5 = I 5 5 := hqq63.2.2.1 5 5 rfl
                have m5_6q63 : Iq63 5 6 = v42 := hqq63.2.2.1 5 6 rfl
                have hpp : Iq63 39 3 = ((xP N9 X9 Y9 D9 (A 31) (A 32) (A 12) (A 13) (I 30 3) (A 7 4) (I 5 5)).length : Int) ∧ gH (Aq63 40) (Aq63 41) (Aq63 42) (xP N9 X9 Y9 D9 (A 31) (A 32) (A 12) (A 13) (I 30 3) (A 7 4) (I 5 5)) := by have h9 : Iq63 39 3 = ((xs X9 Y9 D9 0 (I 5 5) ++ xbd (A 31) (A 32) (A 12) (A 13) X9 Y9 D9 (D9 (I 5 5) + 1) (I 30 3).toNat ++ xs X9 Y9 D9 v39 N9).length : Int) ∧ gH (Aq63 40) (Aq63 41) (Aq63 42) (xs X9 Y9 D9 0 (I 5 5) ++ xbd (A 31) (A 32) (A 12) (A 13) X9 Y9 D9 (D9 (I 5 5) + 1) (I 30 3).toNat ++ xs X9 Y9 D9 v39 N9) := hxq63.2; rw [xP_e (by omega) hq9] at h9; exact h9
                show jt _ 131 [(0, .ref (b + 5)), (1, .ref (b + 39)), (2, .int (jI 4)), (3, .int (jI v39))] [] (cmf b f0 Iq63 Aq63) _ _ _
                refine jt_iconst d_EX_replaceCall_131 ?_
                exact cm_ret d_EX_replaceCall_132 rfl rfl (⟨0, rfl, by omega, hpq63, hxq63.1, show 0 = 0 → Iq63 5 6 ≤ 100 by omega, by
        rw [← ev2]
        exact xRC_0 (K := A 31) (V := A 32) (len := I 30 3) (S := A 12) (E := A 13) (par := A 7 4) (by omega) (by omega) hs (show Iq63 5 6 = I 5 6 + 1 by omega) hSE (by omega) hpp.1 hpp.2⟩)
              · skip
                refine jt_bipush d_EX_replaceCall_116 (by omega) ?_
                exact cm_ret d_EX_replaceCall_118 rfl rfl (⟨-7, rfl, by omega, p43, hK, show -7 = 0 → v42 ≤ 100 by omega, by
        rw [← ev2]
        exact xRC_7 (K := A 31) (V := A 32) (len := I 30 3) (S := A 12) (E := A 13) (par := A 7 4) (by omega) (by omega) hs (show v42 = I 5 6 + 1 by omega) hSE (by omega)⟩)
          · skip
            subst h6
            refine cm_ldT (z := 5) d_EX_replaceCall_96 (by omega) (by omega) ?_
            show jt _ 97 [(0, .ref (b + 5)), (1, .ref (b + 39)), (2, .int (jI 5)), (3, .int (jI v39))] [.ref (b + 34), .ref (b + 39), .ref (b + 5)] (cmf b f0 (cu I 5 6 v42) A) _ _ _
            refine jt_iload_n d_EX_replaceCall_97 rfl ?_
            have hm : ∀ j, 0 ≤ j → j < I 34 3 → A 35 j = 2 → 0 ≤ A 36 j ∧ A 36 j < A 7 5 := fun j a c e => ⟨by have t : gtok (A 35 j) (A 36 j) := hK 34 rfl j; unfold gtok at t; omega, hM 5 (by omega) (by omega) (by omega) j a c e⟩
            have hb9 : ∀ j, 0 ≤ j → j < I 34 3 → A 35 j = 2 → 0 ≤ A 12 (A 36 j) ∧ A 12 (A 36 j) ≤ A 13 (A 36 j) ∧ A 13 (A 36 j) ≤ N9 := xHb (by omega) hs hSE hm
            refine cct_callV (Y := Y_EX_lengthAfter) (ci := 1) (k := 5) (As := [.ref (b + 39), .ref (b + 34), .int (jI v39)]) (rest := []) d_EX_replaceCall_98 EX_c65 yk_EX_lengthAfter yv_EX_lengthAfter rfl (Nat.le_of_ble_eq_true rfl) (by decide) cc_2 rfl rfl (Nat.le_of_ble_eq_true rfl) (v_EX_lengthAfter_34_x G _ b v39 (cu I 5 6 v42) A p43.1 p43.2.1 hK X9 hX Y9 hY D9 hD N9 hN (by omega) hb9) (fun rvq64 Iq64 Aq64 hq64 => ?_)
            obtain ⟨yq64, rfl, ryq64, hIq64, hAq64, hxq64⟩ := hq64
            rw [hIq64, hAq64]
            have hl9 : yq64 = I 5 5 + N9 - v39 + ((xbd (A 35) (A 36) (A 12) (A 13) X9 Y9 D9 (D9 (I 5 5) + 1) (I 34 3).toNat).length : Int) := hxq64
            have hP9 := xP_len (n := N9) (X := X9) (Y := Y9) (D := D9) (K := A 35) (V := A 36) (S := A 12) (E := A 13) (len := I 34 3) (by omega) hq9 (by omega)
            show jt _ 101 [(0, .ref (b + 5)), (1, .ref (b + 39)), (2, .int (jI 5)), (3, .int (jI v39))] [.int (jI yq64)] (cmf b f0 (cu I 5 6 v42) A) _ _ _
            refine jt_sipush d_EX_replaceCall_101 (by omega) ?_
            refine jt_icmp_gt (t := 116) d_EX_replaceCall_104 rfl (by unfold jRi; omega) (by unfold jRi; omega) (fun c65 => ?_) (fun c65 => ?_)
            · skip
              refine jt_bipush d_EX_replaceCall_116 (by omega) ?_
              exact cm_ret d_EX_replaceCall_118 rfl rfl (⟨-7, rfl, by omega, p43, hK, show -7 = 0 → v42 ≤ 100 by omega, by
        rw [← ev2]
        exact xRC_7 (K := A 35) (V := A 36) (len := I 34 3) (S := A 12) (E := A 13) (par := A 7 5) (by omega) (by omega) hs (show v42 = I 5 6 + 1 by omega) hSE (by omega)⟩)
            · skip
              refine jt_aload_n d_EX_replaceCall_107 rfl ?_
              refine cm_get (k := 5) (v := .int (jI v42)) d_EX_replaceCall_108 EX_f45 (by decide) cc_2 rfl ?_
              refine jt_bipush d_EX_replaceCall_111 (by omega) ?_
              refine jt_icmp_le (t := 119) d_EX_replaceCall_113 rfl (by unfold jRi; omega) (by unfold jRi; omega) (fun c66 => ?_) (fun c66 => ?_)
              · skip
                refine jt_aload_n d_EX_replaceCall_119 rfl ?_
                refine jt_aload_n d_EX_replaceCall_120 rfl ?_
                refine jt_aload_n d_EX_replaceCall_121 rfl ?_
                refine cm_get (k := 5) (v := .ref (b + 6)) d_EX_replaceCall_122 EX_f13 (by decide) cc_2 rfl ?_
                refine jt_iload_n d_EX_replaceCall_125 rfl ?_
                refine cm_ldT (z := 5) d_EX_replaceCall_126 (by omega) (by omega) ?_
                show jt _ 127 [(0, .ref (b + 5)), (1, .ref (b + 39)), (2, .int (jI 5)), (3, .int (jI v39))] [.ref (b + 34), .ref (b + 39), .ref (b + 5)] (cmf b f0 (cu I 5 6 v42) A) _ _ _
                refine jt_iload_n d_EX_replaceCall_127 rfl ?_
                have hln9 : I 5 5 + N9 - v39 + ((xbd (A 35) (A 36) (A 12) (A 13) X9 Y9 D9 (D9 (I 5 5) + 1) (I 34 3).toNat).length : Int) ≤ 300 := by omega
                have hdd9 : 0 ≤ D9 (I 5 5) ∧ D9 (I 5 5) ≤ 6 := hD9 (I 5 5) (by omega) (by omega)
                refine cct_callV (Y := Y_EX_putBody) (ci := 1) (k := 5) (As := [.ref (b + 39), .ref (b + 34), .int (jI v39)]) (rest := []) d_EX_replaceCall_128 EX_c69 yk_EX_putBody yv_EX_putBody rfl (Nat.le_of_ble_eq_true rfl) (by decide) cc_2 rfl rfl (Nat.le_of_ble_eq_true rfl) (v_EX_putBody_34_x G _ b v39 (cu I 5 6 v42) A p43.1 p43.2.1 hK X9 hX Y9 hY D9 hD N9 hN (show (I 5 5) < v39 ∧ v39 ≤ N9 by omega) hb9 hln9 hdd9) (fun rvq67 Iq67 Aq67 hq67 => ?_)
                obtain ⟨rfl, hqq67, hxq67⟩ := hq67
                have hpq67 := cPx.trans p43 hqq67 rfl rfl
                have s5_5q67 : (cu I 5 6 v42) 5 5 = I 5 5 := rfl
                have s5_6q67 : (cu I 5 6 v42) 5 6 = v42 := rfl
                have s39_3q67 : (cu I 5 6 v42) 39 3 = I 39 3 := rfl
                have m5_5q67 : Iq67 5 5 = I 5 5 := hqq67.2.2.1 5 5 rfl
                have m5_6q67 : Iq67 5 6 = v42 := hqq67.2.2.1 5 6 rfl
                have hpp : Iq67 39 3 = ((xP N9 X9 Y9 D9 (A 35) (A 36) (A 12) (A 13) (I 34 3) (A 7 5) (I 5 5)).length : Int) ∧ gH (Aq67 40) (Aq67 41) (Aq67 42) (xP N9 X9 Y9 D9 (A 35) (A 36) (A 12) (A 13) (I 34 3) (A 7 5) (I 5 5)) := by have h9 : Iq67 39 3 = ((xs X9 Y9 D9 0 (I 5 5) ++ xbd (A 35) (A 36) (A 12) (A 13) X9 Y9 D9 (D9 (I 5 5) + 1) (I 34 3).toNat ++ xs X9 Y9 D9 v39 N9).length : Int) ∧ gH (Aq67 40) (Aq67 41) (Aq67 42) (xs X9 Y9 D9 0 (I 5 5) ++ xbd (A 35) (A 36) (A 12) (A 13) X9 Y9 D9 (D9 (I 5 5) + 1) (I 34 3).toNat ++ xs X9 Y9 D9 v39 N9) := hxq67.2; rw [xP_e (by omega) hq9] at h9; exact h9
                show jt _ 131 [(0, .ref (b + 5)), (1, .ref (b + 39)), (2, .int (jI 5)), (3, .int (jI v39))] [] (cmf b f0 Iq67 Aq67) _ _ _
                refine jt_iconst d_EX_replaceCall_131 ?_
                exact cm_ret d_EX_replaceCall_132 rfl rfl (⟨0, rfl, by omega, hpq67, hxq67.1, show 0 = 0 → Iq67 5 6 ≤ 100 by omega, by
        rw [← ev2]
        exact xRC_0 (K := A 35) (V := A 36) (len := I 34 3) (S := A 12) (E := A 13) (par := A 7 5) (by omega) (by omega) hs (show Iq67 5 6 = I 5 6 + 1 by omega) hSE (by omega) hpp.1 hpp.2⟩)
              · skip
                refine jt_bipush d_EX_replaceCall_116 (by omega) ?_
                exact cm_ret d_EX_replaceCall_118 rfl rfl (⟨-7, rfl, by omega, p43, hK, show -7 = 0 → v42 ≤ 100 by omega, by
        rw [← ev2]
        exact xRC_7 (K := A 35) (V := A 36) (len := I 34 3) (S := A 12) (E := A 13) (par := A 7 5) (by omega) (by omega) hs (show v42 = I 5 6 + 1 by omega) hSE (by omega)⟩)
        · skip
          refine jt_bipush d_EX_replaceCall_76 (by omega) ?_
          exact cm_ret d_EX_replaceCall_78 rfl rfl (by exfalso; omega)
    · skip
      refine jt_bipush d_EX_replaceCall_37 (by omega) ?_
      exact cm_ret d_EX_replaceCall_39 rfl rfl (⟨-5, rfl, by omega, hz0, hK, show -5 = 0 → I 5 6 ≤ 100 by omega, by
        rw [← ev2]
        exact xRC_5 (by omega) (by omega) rfl⟩)
  · skip
    refine jt_bipush d_EX_replaceCall_20 (by omega) ?_
    exact cm_ret d_EX_replaceCall_22 rfl rfl (⟨-4, rfl, by omega, hz0, hK, show -4 = 0 → I 5 6 ≤ 100 by omega, by
        rw [← ev2]
        exact xRC_4 (by omega) rfl⟩)

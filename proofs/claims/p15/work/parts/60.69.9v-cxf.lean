set_option maxRecDepth 100000 in
set_option maxHeartbeats 4000000 in
theorem v_GC_paint_x (G : jG) (d b : Nat) (c : Int) (I : Nat → Nat → Int) (A : Nat → Int → Int) (hI : cSI I) (hA : cSA A) (hc : 0 ≤ c ∧ c ≤ 1) (fs : List (Int → Int)) (hkp : cKp A fs) (hl : I 38 6 = (fs.length : Int)) (hlg : (fs.length : Int) ≤ 2 + 6 * I 38 9) (L : List Int) (hL : I 38 9 = (L.length : Int)) (hcl : cLg A L) (hfl : fs.length = 2 + nLg L) (haL : aLg L) : cct G Y_GC_paint (d + 3) b [.ref (b + 0), .int (jI c)] I A (fun (rv : Option Value) (I2 : Nat → Nat → Int) (A2 : Nat → Int → Int) => ∃ y : Int, rv = some (.int (jI y)) ∧ (-2147483648 ≤ y ∧ y ≤ 2147483647) ∧ cPx [7427] [465, 466, 467, 469, 470] I A I2 A2 ∧ (12 < I 38 9 → y = -7) ∧ (I 38 9 ≤ 12 → TN fs y) ∧ (y ≠ 0 → A2 469 = A 469) ∧ (y = 0 → ptd c (pls (pN fs) L) (A 469) (A2 469))) := by
  refine cct_of (by decide) (Nat.le_of_ble_eq_true rfl) (fun f0 sz => ?_)
  show jt _ 0 [(0, .ref (b + 0)), (1, .int (jI c))] [] _ _ _ _
  have hz0 : cPx [7427] [465, 466, 467, 469, 470] I A I A := cPx.refl hI hA
  refine jt_aload_n d_GC_paint_0 rfl ?_
  refine cm_get (k := 0) (v := .ref (b + 38)) d_GC_paint_1 GC_f28 (by decide) cc_0 rfl ?_
  refine cm_get (k := 38) (v := .int (jI (I 38 9))) d_GC_paint_4 GC_f154 (by decide) cc_3 rfl ?_
  have rb1 : 0 ≤ I 38 9 ∧ I 38 9 ≤ 2000 := hz0.1 38 9
  refine jt_bipush d_GC_paint_7 (by omega) ?_
  refine jt_icmp_le (t := 15) d_GC_paint_9 rfl (by unfold jRi; omega) (by unfold jRi; omega) (fun c2 => ?_) (fun c2 => ?_)
  · skip
    refine jt_aload_n d_GC_paint_15 rfl ?_
    refine cm_get (k := 0) (v := .ref (b + 464)) d_GC_paint_16 GC_f42 (by decide) cc_0 rfl ?_
    refine jt_aload_n d_GC_paint_19 rfl ?_
    refine cm_get (k := 0) (v := .ref (b + 38)) d_GC_paint_20 GC_f28 (by decide) cc_0 rfl ?_
    refine cm_get (k := 38) (v := .ref (b + 74)) d_GC_paint_23 GC_f114 (by decide) cc_3 rfl ?_
    refine jt_aload_n d_GC_paint_26 rfl ?_
    refine cm_get (k := 0) (v := .ref (b + 38)) d_GC_paint_27 GC_f28 (by decide) cc_0 rfl ?_
    refine cm_get (k := 38) (v := .int (jI (I 38 6))) d_GC_paint_30 GC_f147 (by decide) cc_3 rfl ?_
    have rb3 : 0 ≤ I 38 6 ∧ I 38 6 ≤ 150 := hz0.1 38 6
    refine cct_callV (Y := Y_OU_takeNumbers) (ci := 5) (k := 464) (As := [.ref (b + 74), .int (jI (I 38 6))]) (rest := []) d_GC_paint_33 GC_c157 yk_OU_takeNumbers yv_OU_takeNumbers rfl (Nat.le_of_ble_eq_true rfl) (by decide) cc_6 rfl rfl (Nat.le_of_ble_eq_true rfl) (v_OU_takeNumbers_x G _ b (I 38 6) I A hz0.1 hz0.2.1 fs hkp (by omega) (by omega)) (fun rvq4 Iq4 Aq4 hq4 => ?_)
    obtain ⟨yq4, rfl, ryq4, hqq4, hxq4⟩ := hq4
    have hpq4 := cPx.trans hz0 hqq4 rfl rfl
    have m38_9q4 : Iq4 38 9 = I 38 9 := hqq4.2.2.1 38 9 rfl
    have m38_6q4 : Iq4 38 6 = I 38 6 := hqq4.2.2.1 38 6 rfl
    show jt _ 36 [(0, .ref (b + 0)), (1, .int (jI c))] [.int (jI yq4)] (cmf b f0 Iq4 Aq4) _ _ _
    refine jt_istore_n (L' := [(0, .ref (b + 0)), (1, .int (jI c)), (2, .int (jI yq4))]) d_GC_paint_36 (Nat.le_of_ble_eq_true rfl) rfl ?_
    refine jt_iload_n d_GC_paint_37 rfl ?_
    refine jt_if_ne (t := 74) d_GC_paint_38 rfl (by unfold jRi; omega) (fun c5 => ?_) (fun c5 => ?_)
    · skip
      refine jt_iload_n d_GC_paint_74 rfl ?_
      exact cm_ret d_GC_paint_75 rfl rfl (⟨yq4, rfl, by omega, hpq4, (fun z => by exfalso; omega), fun _ => hxq4.1, fun _ => hqq4.2.2.2 469 rfl trivial, fun z => by exfalso; omega⟩)
    · skip
      have hTN : TN fs 0 := by have h9 := hxq4.1; rw [show yq4 = 0 by omega] at h9; exact h9
      have hNA : ∀ z, 0 ≤ z → z < (fs.length : Int) → Aq4 465 z = pN fs z := fun z z0 z1 => by have h9 := hxq4.2 (by omega) z z0 (by omega); obtain ⟨F9, hF9⟩ : ∃ F9, fs[z.toNat]? = some F9 := ⟨_, List.getElem?_eq_getElem (by omega)⟩; have h8 := hkp z.toNat F9 hF9 12 (by decide) (by decide); rw [pN_e hF9]; omega
      have hpk := (pke_n L 0).2.2 haL
      refine jt_aload_n d_GC_paint_41 rfl ?_
      refine cm_get (k := 0) (v := .ref (b + 464)) d_GC_paint_42 GC_f42 (by decide) cc_0 rfl ?_
      refine jt_aload_n d_GC_paint_45 rfl ?_
      refine cm_get (k := 0) (v := .ref (b + 38)) d_GC_paint_46 GC_f28 (by decide) cc_0 rfl ?_
      refine cm_get (k := 38) (v := .ref (b + 375)) d_GC_paint_49 GC_f161 (by decide) cc_3 rfl ?_
      refine jt_aload_n d_GC_paint_52 rfl ?_
      refine cm_get (k := 0) (v := .ref (b + 38)) d_GC_paint_53 GC_f28 (by decide) cc_0 rfl ?_
      refine cm_get (k := 38) (v := .int (jI (Iq4 38 9))) d_GC_paint_56 GC_f154 (by decide) cc_3 rfl ?_
      have rb6 : 0 ≤ Iq4 38 9 ∧ Iq4 38 9 ≤ 2000 := hpq4.1 38 9
      refine cct_callV (Y := Y_OU_trace) (ci := 5) (k := 464) (As := [.ref (b + 375), .int (jI (Iq4 38 9))]) (rest := []) d_GC_paint_59 GC_c165 yk_OU_trace yv_OU_trace rfl (Nat.le_of_ble_eq_true rfl) (by decide) cc_6 rfl rfl (Nat.le_of_ble_eq_true rfl) (v_OU_trace_x G _ b (Iq4 38 9) Iq4 Aq4 hpq4.1 hpq4.2.1 L (by omega) (by omega) (fun i x h h12 => by rw [hqq4.2.2.2 375 rfl trivial]; exact hcl i x h h12) (pN fs) (TN_pnr hTN) (fs.length : Int) (by omega) hNA (by omega)) (fun rvq7 Iq7 Aq7 hq7 => ?_)
      obtain ⟨rfl, hqq7, hxq7⟩ := hq7
      have hpq7 := cPx.trans hpq4 hqq7 rfl rfl
      have m38_9q7 : Iq7 38 9 = Iq4 38 9 := hqq7.2.2.1 38 9 rfl
      have m38_6q7 : Iq7 38 6 = Iq4 38 6 := hqq7.2.2.1 38 6 rfl
      show jt _ 62 [(0, .ref (b + 0)), (1, .int (jI c)), (2, .int (jI yq4))] [] (cmf b f0 Iq7 Aq7) _ _ _
      refine jt_aload_n d_GC_paint_62 rfl ?_
      refine cm_get (k := 0) (v := .ref (b + 468)) d_GC_paint_63 GC_f49 (by decide) cc_0 rfl ?_
      refine jt_aload_n d_GC_paint_66 rfl ?_
      refine cm_get (k := 0) (v := .ref (b + 464)) d_GC_paint_67 GC_f42 (by decide) cc_0 rfl ?_
      refine jt_iload_n d_GC_paint_70 rfl ?_
      refine cct_callV (Y := Y_PI_paint) (ci := 6) (k := 468) (As := [.ref (b + 464), .int (jI c)]) (rest := []) d_GC_paint_71 GC_c169 yk_PI_paint yv_PI_paint rfl (Nat.le_of_ble_eq_true rfl) (by decide) cc_7 rfl rfl (Nat.le_of_ble_eq_true rfl) (v_PI_paint_x G _ b c Iq7 Aq7 hpq7.1 hpq7.2.1 (by omega) (pls (pN fs) L) hxq7.2 hxq7.1 (pls_in (TN_pnr hTN) L (by omega))) (fun rvq8 Iq8 Aq8 hq8 => ?_)
      obtain ⟨rfl, hqq8, hxq8⟩ := hq8
      have hpq8 := cPx.trans hpq7 hqq8 rfl rfl
      have m38_9q8 : Iq8 38 9 = Iq7 38 9 := hqq8.2.2.1 38 9 rfl
      have m38_6q8 : Iq8 38 6 = Iq7 38 6 := hqq8.2.2.1 38 6 rfl
      show jt _ 74 [(0, .ref (b + 0)), (1, .int (jI c)), (2, .int (jI yq4))] [] (cmf b f0 Iq8 Aq8) _ _ _
      refine jt_iload_n d_GC_paint_74 rfl ?_
      exact cm_ret d_GC_paint_75 rfl rfl (⟨yq4, rfl, by omega, hpq8, (fun z => by exfalso; omega), fun _ => hxq4.1, (fun z => by exfalso; omega), fun _ => by have h9 := hxq8; rw [hqq7.2.2.2 469 rfl trivial, hqq4.2.2.2 469 rfl trivial] at h9; exact h9⟩)
  · skip
    refine jt_bipush d_GC_paint_12 (by omega) ?_
    exact cm_ret d_GC_paint_14 rfl rfl (⟨-7, rfl, by omega, hz0, fun _ => rfl, (fun z => by exfalso; omega), fun _ => rfl, fun z => absurd z (by decide)⟩)
set_option maxRecDepth 100000 in
set_option maxHeartbeats 4000000 in
theorem v_GC_carryOut_x (G : jG) (d b : Nat)  (I : Nat → Nat → Int) (A : Nat → Int → Int) (hI : cSI I) (hA : cSA A) (hn : I 0 7 < 2147483647) (N9 : Int) (X9 : Int → Int) (Y9 : Int → Int) (p9 : Int) (hsr : cSR N9 X9 Y9 (cV A) p9 I A) (hI9 : VI (A 44) (cV A)) : cct G Y_GC_carryOut (d + 5) b [.ref (b + 0)] I A (fun (rv : Option Value) (I2 : Nat → Nat → Int) (A2 : Nat → Int → Int) => ∃ y : Int, rv = some (.int (jI y)) ∧ (-2147483648 ≤ y ∧ y ≤ 2147483647) ∧ cPf [7, 7427] tCO I A I2 A2 ∧ I2 0 7 ≤ I 0 7 + 1 ∧ ∃ r9 : SR, ST N9 X9 Y9 (cV A) p9 r9 ∧ CO r9 (I 38 2) (A 44) (cV A) (I 0 7) (cN I A) y (A2 44) (cV A2) (I2 0 7) (cN I2 A2)) := by
  refine cct_of (by decide) (Nat.le_of_ble_eq_true rfl) (fun f0 sz => ?_)
  show jt _ 0 [(0, .ref (b + 0))] [] _ _ _ _
  have hz0 : cPf [7, 7427] tCO I A I A := cPf.refl hI hA
  refine jt_aload_n d_GC_carryOut_0 rfl ?_
  refine cm_get (k := 0) (v := .ref (b + 38)) d_GC_carryOut_1 GC_f28 (by decide) cc_0 rfl ?_
  refine cm_get (k := 38) (v := .int (jI (I 38 7))) d_GC_carryOut_4 GC_f107 (by decide) cc_3 rfl ?_
  have rb1 : 0 ≤ I 38 7 ∧ I 38 7 ≤ 1 := hz0.1 38 7
  refine jt_if_ne (t := 13) d_GC_carryOut_7 rfl (by unfold jRi; omega) (fun c2 => ?_) (fun c2 => ?_)
  · skip
    refine jt_aload_n d_GC_carryOut_13 rfl ?_
    refine cm_get (k := 0) (v := .ref (b + 38)) d_GC_carryOut_14 GC_f28 (by decide) cc_0 rfl ?_
    refine cm_get (k := 38) (v := .int (jI (I 38 4))) d_GC_carryOut_17 GC_f111 (by decide) cc_3 rfl ?_
    have rb3 : -2147483648 ≤ I 38 4 ∧ I 38 4 ≤ 2147483647 := hz0.1 38 4
    by_cases hs2 : I 38 4 = 2
    · skip
      refine jt_lookup (t := 90) (o := 70) d_GC_carryOut_20 (by decide) (by unfold jRi; omega) (by rw [hs2]; decide) rfl ?_
      obtain ⟨fs, hst, hkp, hl6, h2l, hin0⟩ := cSR_eqs hsr (by omega) (by omega)
      refine jt_aload_n d_GC_carryOut_90 rfl ?_
      refine cct_callV (Y := Y_GC_equateAll) (ci := 7) (k := 0) (As := []) (rest := []) d_GC_carryOut_91 GC_c126 yk_GC_equateAll yv_GC_equateAll rfl (Nat.le_of_ble_eq_true rfl) (by decide) cc_0 rfl rfl (Nat.le_of_ble_eq_true rfl) (v_GC_equateAll_x G _ b I A hz0.1 hz0.2.1 fs hkp hl6 h2l hin0 hI9) (fun rvq4 Iq4 Aq4 hq4 => ?_)
      obtain ⟨yq4, rfl, ryq4, hqq4, hxq4⟩ := hq4
      have hpq4 := cPf.trans hz0 hqq4 rfl (fun _ h9 => tCO_e h9)
      have m0_7q4 : Iq4 0 7 = I 0 7 := hqq4.2.2.1 0 7 rfl
      show jt _ 94 [(0, .ref (b + 0))] [.int (jI yq4)] (cmf b f0 Iq4 Aq4) _ _ _
      exact cm_ret d_GC_carryOut_94 rfl rfl (by
      obtain ⟨s9, V9, e1, e2, e3⟩ := hxq4
      exact ⟨yq4, rfl, by omega, hpq4, by have h9 := (hqq4.2.2.1 0 7 rfl); omega, co_eq hst (by omega) e1 e2 e3 (hqq4.2.2.1 0 7 rfl) (nEq_r (cN_e (hqq4.2.2.1 0 7 rfl) (hqq4.2.2.2 471 (tEA_f (by decide)) trivial) (hqq4.2.2.2 469 (tEA_f (by decide)) trivial)))⟩)
    by_cases hs10 : I 38 4 = 10
    · skip
      refine jt_lookup (t := 78) (o := 58) d_GC_carryOut_20 (by decide) (by unfold jRi; omega) (by rw [hs10]; decide) rfl ?_
      obtain ⟨L9, fs, hst, hkp, hlg9, hl6, hl9, hlg, hfl9, haL9⟩ := cSR_path hsr (by omega)
      refine jt_aload_n d_GC_carryOut_78 rfl ?_
      refine jt_iconst d_GC_carryOut_79 ?_
      refine cct_callV (Y := Y_GC_paint) (ci := 7) (k := 0) (As := [.int (jI 1)]) (rest := []) d_GC_carryOut_80 GC_c122 yk_GC_paint yv_GC_paint rfl (Nat.le_of_ble_eq_true rfl) (by decide) cc_0 rfl rfl (Nat.le_of_ble_eq_true rfl) (v_GC_paint_x G _ b 1 I A hz0.1 hz0.2.1 (by omega) fs hkp hl6 hlg L9 hl9 hlg9 hfl9 haL9) (fun rvq5 Iq5 Aq5 hq5 => ?_)
      obtain ⟨yq5, rfl, ryq5, hqq5, hxq5⟩ := hq5
      have hpq5 := cPf.transx hz0 hqq5 rfl rfl
      have m0_7q5 : Iq5 0 7 = I 0 7 := hqq5.2.2.1 0 7 rfl
      show jt _ 83 [(0, .ref (b + 0))] [.int (jI yq5)] (cmf b f0 Iq5 Aq5) _ _ _
      exact cm_ret d_GC_carryOut_83 rfl rfl (⟨yq5, rfl, by omega, hpq5, by have h9 := (hqq5.2.2.1 0 7 rfl); omega, co_pth hst (by omega) hl9 (sEq_r (hqq5.2.2.2 44 (ctP (by decide)) trivial) (cV_fr (fun k a c => hqq5.2.2.2 k (ctP (by omega)) trivial))) (hqq5.2.2.1 0 7 rfl) (nE8_c (hqq5.2.2.1 0 7 rfl) (hqq5.2.2.2 471 (ctP (by decide)) trivial)) hxq5.1 hxq5.2.1 (fun z => pEq_c (hxq5.2.2.1 z)) (fun z => ptd_c (by have h9 := hxq5.2.2.2 z; rw [show vCl (I 38 4) = 1 by unfold vCl; rw [if_pos (by omega)]]; exact h9))⟩)
    by_cases hs11 : I 38 4 = 11
    · skip
      refine jt_lookup (t := 84) (o := 64) d_GC_carryOut_20 (by decide) (by unfold jRi; omega) (by rw [hs11]; decide) rfl ?_
      obtain ⟨L9, fs, hst, hkp, hlg9, hl6, hl9, hlg, hfl9, haL9⟩ := cSR_path hsr (by omega)
      refine jt_aload_n d_GC_carryOut_84 rfl ?_
      refine jt_iconst d_GC_carryOut_85 ?_
      refine cct_callV (Y := Y_GC_paint) (ci := 7) (k := 0) (As := [.int (jI 0)]) (rest := []) d_GC_carryOut_86 GC_c122 yk_GC_paint yv_GC_paint rfl (Nat.le_of_ble_eq_true rfl) (by decide) cc_0 rfl rfl (Nat.le_of_ble_eq_true rfl) (v_GC_paint_x G _ b 0 I A hz0.1 hz0.2.1 (by omega) fs hkp hl6 hlg L9 hl9 hlg9 hfl9 haL9) (fun rvq6 Iq6 Aq6 hq6 => ?_)
      obtain ⟨yq6, rfl, ryq6, hqq6, hxq6⟩ := hq6
      have hpq6 := cPf.transx hz0 hqq6 rfl rfl
      have m0_7q6 : Iq6 0 7 = I 0 7 := hqq6.2.2.1 0 7 rfl
      show jt _ 89 [(0, .ref (b + 0))] [.int (jI yq6)] (cmf b f0 Iq6 Aq6) _ _ _
      exact cm_ret d_GC_carryOut_89 rfl rfl (⟨yq6, rfl, by omega, hpq6, by have h9 := (hqq6.2.2.1 0 7 rfl); omega, co_pth hst (by omega) hl9 (sEq_r (hqq6.2.2.2 44 (ctP (by decide)) trivial) (cV_fr (fun k a c => hqq6.2.2.2 k (ctP (by omega)) trivial))) (hqq6.2.2.1 0 7 rfl) (nE8_c (hqq6.2.2.1 0 7 rfl) (hqq6.2.2.2 471 (ctP (by decide)) trivial)) hxq6.1 hxq6.2.1 (fun z => pEq_c (hxq6.2.2.1 z)) (fun z => ptd_c (by have h9 := hxq6.2.2.2 z; rw [show vCl (I 38 4) = 0 by unfold vCl; rw [if_neg (by omega)]]; exact h9))⟩)
    by_cases hs12 : I 38 4 = 12
    · skip
      refine jt_lookup (t := 64) (o := 44) d_GC_carryOut_20 (by decide) (by unfold jRi; omega) (by rw [hs12]; decide) rfl ?_
      refine jt_aload_n d_GC_carryOut_64 rfl ?_
      refine jt_aload_n d_GC_carryOut_65 rfl ?_
      refine cm_get (k := 0) (v := .ref (b + 38)) d_GC_carryOut_66 GC_f28 (by decide) cc_0 rfl ?_
      refine cm_get (k := 38) (v := .ref (b + 74)) d_GC_carryOut_69 GC_f114 (by decide) cc_3 rfl ?_
      refine jt_iconst d_GC_carryOut_72 ?_
      refine cm_ldF (k := 74) (n := 150) (z := 0) d_GC_carryOut_73 (by decide) rfl rfl (by omega) (by omega) (by omega) ?_
      show jt _ 74 [(0, .ref (b + 0))] [.ref (b + 75), .ref (b + 0)] (cmf b f0 I A) _ _ _
      refine cct_callV (Y := Y_GC_note) (ci := 7) (k := 0) (As := [.ref (b + 75)]) (rest := []) d_GC_carryOut_74 GC_c118 yk_GC_note yv_GC_note rfl (Nat.le_of_ble_eq_true rfl) (by decide) cc_0 rfl rfl (Nat.le_of_ble_eq_true rfl) (v_GC_note_x G _ b 75 I A hz0.1 hz0.2.1 (by decide) rfl hn) (fun rvq7 Iq7 Aq7 hq7 => ?_)
      obtain ⟨yq7, rfl, ryq7, hqq7, hxq7⟩ := hq7
      have hpq7 := cPf.transx hz0 hqq7 rfl rfl
      show jt _ 77 [(0, .ref (b + 0))] [.int (jI yq7)] (cmf b f0 Iq7 Aq7) _ _ _
      exact cm_ret d_GC_carryOut_77 rfl rfl (⟨yq7, rfl, by omega, hpq7, by rcases Classical.em (fZ (A 76)) with z | z; exact (by have h9 := (hxq7.1 z).2.1; omega); exact (by have h9 := (hxq7.2 z).2.1; omega), co_shw hsr (by omega) (by omega) (sEq_r (hqq7.2.2.2 44 (ctn1 (by decide)) trivial) (cV_fr (fun k a c => hqq7.2.2.2 k (ctn1 (by omega)) trivial))) (fun z => ⟨(hxq7.1 z).1, (hxq7.1 z).2.1, cN_note (hxq7.1 z).2.1 (hxq7.1 z).2.2 (hqq7.2.2.2 469 (ctn1 (by decide)) trivial)⟩) (fun z => ⟨(hxq7.2 z).1, (hxq7.2 z).2.1, nEq_r (cN_e (hxq7.2 z).2.1 (hxq7.2 z).2.2 (hqq7.2.2.2 469 (ctn1 (by decide)) trivial))⟩)⟩)
    refine jt_lookup (t := 95) (o := 75) d_GC_carryOut_20 (by decide) (by unfold jRi; omega) (by simp [Op.lookupswitch.offset, hs2, hs10, hs11, hs12, Ne.symm hs2, Ne.symm hs10, Ne.symm hs11, Ne.symm hs12]) rfl ?_
    refine jt_iconst d_GC_carryOut_95 ?_
    exact cm_ret d_GC_carryOut_96 rfl rfl (⟨0, rfl, by omega, hz0, by omega, co_nop hsr (by omega) (by omega) (by omega) (by omega) (sEq_r rfl rfl) rfl (nEq_r rfl)⟩)
  · skip
    refine jt_bipush d_GC_carryOut_10 (by omega) ?_
    exact cm_ret d_GC_carryOut_12 rfl rfl (⟨-9, rfl, by omega, hz0, by omega, co_rng hsr (by omega) (sEq_r rfl rfl) rfl (nEq_r rfl)⟩)

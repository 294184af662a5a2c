set_option maxRecDepth 100000 in
set_option maxHeartbeats 4000000 in
theorem v_VA_equate_x (G : jG) (d b : Nat) (p : Nat) (q : Nat) (I : Nat → Nat → Int) (A : Nat → Int → Int) (hI : cSI I) (hA : cSA A) (k_p : p < 472) (k5p : ck p = 5) (k_q : q < 472) (k5q : ck q = 5) (hI9 : VI (A 44) (cV A)) (hFp : inr (A (p + 1))) (hFq : inr (A (q + 1))) (kp : 74 ≤ p) (kq : 74 ≤ q) : cct G Y_VA_equate (d + 3) b [.ref (b + 43), .ref (b + p), .ref (b + q)] I A (fun (rv : Option Value) (I2 : Nat → Nat → Int) (A2 : Nat → Int → Int) => ∃ y : Int, rv = some (.int (jI y)) ∧ (-2147483648 ≤ y ∧ y ≤ 2147483647) ∧ cPf [] tVar I A I2 A2 ∧ EQT (A 44) (cV A) (A (p + 1)) (A (q + 1)) y (A2 44) (cV A2)) := by
  refine cct_of (by decide) (Nat.le_of_ble_eq_true rfl) (fun f0 sz => ?_)
  show jt _ 0 [(0, .ref (b + 43)), (1, .ref (b + p)), (2, .ref (b + q))] [] _ _ _ _
  have fpp := form_parts p k_p k5p
  have glp := eLong k_p k5p
  have fpq := form_parts q k_q k5q
  have glq := eLong k_q k5q
  have hz0 : cPf [] tVar I A I A := cPf.refl hI hA
  refine jt_aload_n d_VA_equate_0 rfl ?_
  refine cm_get (k := 43) (v := .ref (b + 70)) d_VA_equate_1 VA_f26 (by decide) (cc_4 rfl) rfl ?_
  refine jt_aload_n d_VA_equate_4 rfl ?_
  refine jt_aload_n d_VA_equate_5 rfl ?_
  refine cm_get (k := 43) (v := .ref (b + 45)) d_VA_equate_6 VA_f21 (by decide) (cc_4 rfl) rfl ?_
  refine cct_callV (Y := Y_FO_setReplaced) (ci := 4) (k := 70) (As := [.ref (b + p), .ref (b + 45)]) (rest := []) d_VA_equate_9 VA_c43 yk_FO_setReplaced yv_FO_setReplaced rfl (Nat.le_of_ble_eq_true rfl) (by decide) (cc_5 rfl) rfl rfl (Nat.le_of_ble_eq_true rfl) (v_FO_setReplaced_x G _ b 70 p I A hz0.1 hz0.2.1 (by decide) rfl k_p k5p (cV A) (cVf_V _) (fun v a c => (hI9 v a c).1) hFp (by decide) (by omega)) (fun rvq1 Iq1 Aq1 hq1 => ?_)
  obtain ⟨yq1, rfl, ryq1, hqq1, hxq1⟩ := hq1
  have hpq1 := cPf.transx hz0 hqq1 rfl (by decide)
  show jt _ 12 [(0, .ref (b + 43)), (1, .ref (b + p)), (2, .ref (b + q))] [.int (jI yq1)] (cmf b f0 Iq1 Aq1) _ _ _
  refine jt_if_eq (t := 30) d_VA_equate_12 rfl (by unfold jRi; omega) (fun c2 => ?_) (fun c2 => ?_)
  · skip
    refine jt_bipush d_VA_equate_30 (by omega) ?_
    exact cm_ret d_VA_equate_32 rfl rfl (⟨-9, rfl, by omega, hpq1, Or.inl ⟨rfl, fun z => hxq1.2.2 (by omega) z.1⟩⟩)
  · skip
    refine jt_aload_n d_VA_equate_15 rfl ?_
    refine cm_get (k := 43) (v := .ref (b + 72)) d_VA_equate_16 VA_f30 (by decide) (cc_4 rfl) rfl ?_
    refine jt_aload_n d_VA_equate_19 rfl ?_
    refine jt_aload_n d_VA_equate_20 rfl ?_
    refine cm_get (k := 43) (v := .ref (b + 45)) d_VA_equate_21 VA_f21 (by decide) (cc_4 rfl) rfl ?_
    refine cct_callV (Y := Y_FO_setReplaced) (ci := 4) (k := 72) (As := [.ref (b + q), .ref (b + 45)]) (rest := []) d_VA_equate_24 VA_c43 yk_FO_setReplaced yv_FO_setReplaced rfl (Nat.le_of_ble_eq_true rfl) (by decide) (cc_5 rfl) rfl rfl (Nat.le_of_ble_eq_true rfl) (v_FO_setReplaced_x G _ b 72 q Iq1 Aq1 hpq1.1 hpq1.2.1 (by decide) rfl k_q k5q (cV A) (fun v a c => by rw [cV_e c, hqq1.2.2.2 _ (ctn1 (by omega)) trivial]) (fun v a c => (hI9 v a c).1) (by rw [hqq1.2.2.2 _ (ctn1 (by omega)) trivial]; exact hFq) (by decide) (by omega)) (fun rvq3 Iq3 Aq3 hq3 => ?_)
    obtain ⟨yq3, rfl, ryq3, hqq3, hxq3⟩ := hq3
    have hpq3 := cPf.transx hpq1 hqq3 rfl (by decide)
    show jt _ 27 [(0, .ref (b + 43)), (1, .ref (b + p)), (2, .ref (b + q))] [.int (jI yq3)] (cmf b f0 Iq3 Aq3) _ _ _
    refine jt_if_ne (t := 33) d_VA_equate_27 rfl (by unfold jRi; omega) (fun c4 => ?_) (fun c4 => ?_)
    · skip
      refine jt_aload_n d_VA_equate_33 rfl ?_
      refine cm_get (k := 43) (v := .ref (b + 70)) d_VA_equate_34 VA_f26 (by decide) (cc_4 rfl) rfl ?_
      refine jt_aload_n d_VA_equate_37 rfl ?_
      refine cm_get (k := 43) (v := .ref (b + 72)) d_VA_equate_38 VA_f30 (by decide) (cc_4 rfl) rfl ?_
      refine cct_callV (Y := Y_FO_subtract) (ci := 4) (k := 70) (As := [.ref (b + 72)]) (rest := []) d_VA_equate_41 VA_c47 yk_FO_subtract yv_FO_subtract rfl (Nat.le_of_ble_eq_true rfl) (by decide) (cc_5 rfl) rfl rfl (Nat.le_of_ble_eq_true rfl) (v_FO_subtract_x G _ b 70 72 Iq3 Aq3 hpq3.1 hpq3.2.1 (by decide) rfl (by decide) rfl (by decide)) (fun rvq5 Iq5 Aq5 hq5 => ?_)
      obtain ⟨rfl, hqq5, hxq5⟩ := hq5
      have hpq5 := cPf.transx hpq3 hqq5 rfl (by decide)
      have k1 : sbK (cV A) (A (p + 1)) := hxq1.2.1 (by omega)
      have eq1 : Aq1 (q + 1) = A (q + 1) := hqq1.2.2.2 _ (ctn1 (by omega)) trivial
      have k2 : sbK (cV A) (A (q + 1)) := by have h9 := hxq3.2.1 (by omega); rw [eq1] at h9; exact h9
      have v1 : ∀ z, 0 ≤ z → z < 13 → Aq3 71 z = sbT (cV A) (A (p + 1)) z / 65536 := fun z a c => by rw [hqq3.2.2.2 71 (ctn1 (by decide)) trivial]; exact hxq1.1 z a c
      have v2 : ∀ z, 0 ≤ z → z < 13 → Aq3 73 z = sbT (cV A) (A (q + 1)) z / 65536 := fun z a c => by have h9 := hxq3.1 z a c; rw [eq1] at h9; exact h9
      have hdd : ∀ z, 0 ≤ z → z < 13 → Aq5 71 z = sbT (cV A) (A (p + 1)) z / 65536 - sbT (cV A) (A (q + 1)) z / 65536 := fun z a c => by have g1 := (k1 z a c).2; have g2 := (k2 z a c).2; rw [hxq5 z a c (by unfold jRl; rw [v1 z a c, v2 z a c]; omega), v1 z a c, v2 z a c]
      have hd : dif (cV A) (A (p + 1)) (A (q + 1)) (Aq5 71) := ⟨k1, k2, hdd⟩
      have hwd : wid (Aq5 71) := fun z a c => by have g1 := (k1 z a c).2; have g2 := (k2 z a c).2; rw [hdd z a c]; omega
      have f44 : Aq5 44 = A 44 := by rw [hqq5.2.2.2 44 (ctn1 (by omega)) trivial, hqq3.2.2.2 44 (ctn1 (by omega)) trivial, hqq1.2.2.2 44 (ctn1 (by omega)) trivial]
      have fcv : ∀ u, 0 ≤ u → u < 12 → cV Aq5 u = cV A u := fun u u0 u1 => by rw [cV_e u1, cV_e u1, hqq5.2.2.2 (47 + 2 * u.toNat) (ctn1 (by omega)) trivial, hqq3.2.2.2 (47 + 2 * u.toNat) (ctn1 (by omega)) trivial, hqq1.2.2.2 (47 + 2 * u.toNat) (ctn1 (by omega)) trivial]
      clear hxq1 hxq3 hxq5 v1 v2
      show jt _ 44 [(0, .ref (b + 43)), (1, .ref (b + p)), (2, .ref (b + q))] [] (cmf b f0 Iq5 Aq5) _ _ _
      refine jt_aload_n d_VA_equate_44 rfl ?_
      refine cm_get (k := 43) (v := .ref (b + 70)) d_VA_equate_45 VA_f26 (by decide) (cc_4 rfl) rfl ?_
      refine cct_callV (Y := Y_FO_isPlain) (ci := 4) (k := 70) (As := []) (rest := []) d_VA_equate_48 VA_c50 yk_FO_isPlain yv_FO_isPlain rfl (Nat.le_of_ble_eq_true rfl) (by decide) (cc_5 rfl) rfl rfl (Nat.le_of_ble_eq_true rfl) (v_FO_isPlain_x G _ b 70 Iq5 Aq5 hpq5.1 hpq5.2.1 (by decide) rfl) (fun rvq6 Iq6 Aq6 hq6 => ?_)
      obtain ⟨yq6, rfl, ryq6, hIq6, hAq6, hxq6⟩ := hq6
      rw [hIq6, hAq6]
      by_cases gbq6 : yq6 = 1
      · skip
        obtain rfl : yq6 = 1 := by omega
        have hwq6 := hxq6.1 rfl
        show jt _ 51 [(0, .ref (b + 43)), (1, .ref (b + p)), (2, .ref (b + q))] [.int (jI 1)] (cmf b f0 Iq5 Aq5) _ _ _
        refine jt_if_eq (t := 76) d_VA_equate_51 rfl (by unfold jRi; omega) (fun c7 => ?_) (fun c7 => ?_)
        · skip
          exfalso
          omega
        · skip
          refine jt_aload_n d_VA_equate_54 rfl ?_
          refine cm_get (k := 43) (v := .ref (b + 70)) d_VA_equate_55 VA_f26 (by decide) (cc_4 rfl) rfl ?_
          refine cm_get (k := 70) (v := .ref (b + 71)) d_VA_equate_58 VA_f54 (by decide) (cc_5 rfl) rfl ?_
          refine jt_bipush d_VA_equate_61 (by omega) ?_
          refine cm_ld1 (k := 71) (n := 13) (v := (Aq5 71) 12) d_VA_equate_63 (by decide) rfl rfl (by omega) (by omega) (by omega) rfl ?_
          refine jt_topl (fun v8 ev8 => ?_)
          have bv8 : -9223372036854775808 ≤ v8 ∧ v8 ≤ 9223372036854775807 := by rw [ev8]; exact hpq5.2.1 71 12
          refine jt_lconst (z := 0) d_VA_equate_64 (by decide) ?_
          refine jt_lif_ne (t := 73) d_VA_equate_65 d_VA_equate_66 rfl (by unfold jRl; omega) (by unfold jRl; omega) (fun c9 => ?_) (fun c9 => ?_)
          · skip
            refine jt_bipush d_VA_equate_73 (by omega) ?_
            exact cm_ret d_VA_equate_75 rfl rfl (⟨-10, rfl, by omega, hpq5, Or.inr ⟨_, hd, Or.inr (Or.inl ⟨hwq6, by omega, rfl⟩)⟩⟩)
          · skip
            refine jt_iconst d_VA_equate_69 ?_
            refine jt_goto (t := 75) d_VA_equate_70 rfl ?_
            exact cm_ret d_VA_equate_75 rfl rfl (⟨0, rfl, by omega, hpq5, Or.inr ⟨_, hd, Or.inl ⟨hwq6, by omega, rfl, fun u u0 u1 => ⟨by rw [f44], by rw [fcv u u0 u1]; exact fun _ _ _ => rfl⟩⟩⟩⟩)
      · skip
        obtain rfl : yq6 = 0 := by omega
        have hwq6 := hxq6.2 rfl
        show jt _ 51 [(0, .ref (b + 43)), (1, .ref (b + p)), (2, .ref (b + q))] [.int (jI 0)] (cmf b f0 Iq5 Aq5) _ _ _
        refine jt_if_eq (t := 76) d_VA_equate_51 rfl (by unfold jRi; omega) (fun c10 => ?_) (fun c10 => ?_)
        · skip
          refine jt_aload_n d_VA_equate_76 rfl ?_
          refine cct_callV (Y := Y_VA_chooseSolved) (ci := 3) (k := 43) (As := []) (rest := []) d_VA_equate_77 VA_c58 yk_VA_chooseSolved yv_VA_chooseSolved rfl (Nat.le_of_ble_eq_true rfl) (by decide) (cc_4 rfl) rfl rfl (Nat.le_of_ble_eq_true rfl) (v_VA_chooseSolved_x G _ b Iq5 Aq5 hpq5.1 hpq5.2.1 hwd) (fun rvq11 Iq11 Aq11 hq11 => ?_)
          obtain ⟨yq11, rfl, ryq11, hIq11, hAq11, hxq11⟩ := hq11
          rw [hIq11, hAq11]
          show jt _ 80 [(0, .ref (b + 43)), (1, .ref (b + p)), (2, .ref (b + q))] [.int (jI yq11)] (cmf b f0 Iq5 Aq5) _ _ _
          refine jt_istore_n (L' := [(0, .ref (b + 43)), (1, .ref (b + p)), (2, .ref (b + q)), (3, .int (jI yq11))]) d_VA_equate_80 (Nat.le_of_ble_eq_true rfl) rfl ?_
          refine jt_iload_n d_VA_equate_81 rfl ?_
          refine jt_bipush d_VA_equate_82 (by omega) ?_
          refine jt_icmp_ne (t := 90) d_VA_equate_84 rfl (by unfold jRi; omega) (by unfold jRi; omega) (fun c12 => ?_) (fun c12 => ?_)
          · skip
            refine jt_aload_n d_VA_equate_90 rfl ?_
            refine cm_get (k := 43) (v := .ref (b + 45)) d_VA_equate_91 VA_f21 (by decide) (cc_4 rfl) rfl ?_
            refine jt_iload_n d_VA_equate_94 rfl ?_
            refine cm_ldF (k := 45) (n := 12) (z := yq11) d_VA_equate_95 (by decide) rfl rfl (by omega) (by omega) (by omega) ?_
            have hfq13 := form_at 45 (by decide) rfl (yq11 : Int).toNat (show (yq11 : Int).toNat < 12 by omega)
            obtain ⟨q13, eqq13⟩ : ∃ q9 : Nat, q9 = 45 + 1 + 2 * (yq11 : Int).toNat := ⟨_, rfl⟩
            rw [← eqq13] at hfq13 ⊢
            have fpq13 := form_parts q13 hfq13.2 hfq13.1
            have glq13 := eLong hfq13.2 hfq13.1
            refine jt_aload_n d_VA_equate_96 rfl ?_
            refine cm_get (k := 43) (v := .ref (b + 70)) d_VA_equate_97 VA_f26 (by decide) (cc_4 rfl) rfl ?_
            refine jt_iload_n d_VA_equate_100 rfl ?_
            refine cct_callV (Y := Y_FO_setSolved) (ci := 4) (k := q13) (As := [.ref (b + 70), .int (jI yq11)]) (rest := []) d_VA_equate_101 VA_c62 yk_FO_setSolved yv_FO_setSolved rfl (Nat.le_of_ble_eq_true rfl) hfq13.2 (cc_5 hfq13.1) rfl rfl (Nat.le_of_ble_eq_true rfl) (v_FO_setSolved_x G _ b q13 70 yq11 Iq5 Aq5 hpq5.1 hpq5.2.1 hfq13.2 hfq13.1 (by decide) rfl (by omega) hwd (pw_nz (hxq11.2 (by omega)).2.2.1) (by omega)) (fun rvq14 Iq14 Aq14 hq14 => ?_)
            obtain ⟨yq14, rfl, ryq14, hqq14, hxq14⟩ := hq14
            have hpq14 := cPf.transx hpq5 hqq14 rfl (tv_in (by omega) (by omega))
            have hpv := hxq11.2 (by omega)
            have e47 : q13 + 1 = 47 + 2 * (yq11).toNat := by omega
            show jt _ 104 [(0, .ref (b + 43)), (1, .ref (b + p)), (2, .ref (b + q)), (3, .int (jI yq11))] [.int (jI yq14)] (cmf b f0 Iq14 Aq14) _ _ _
            refine jt_if_eq (t := 119) d_VA_equate_104 rfl (by unfold jRi; omega) (fun c15 => ?_) (fun c15 => ?_)
            · skip
              refine jt_bipush d_VA_equate_119 (by omega) ?_
              exact cm_ret d_VA_equate_121 rfl rfl (⟨-9, rfl, by omega, hpq14, Or.inr ⟨_, hd, Or.inr (Or.inr (Or.inr ⟨yq11, hwq6, hpv, Or.inl ⟨rfl, fun ⟨S8, hS8⟩ => hxq14.2 (by omega) ⟨S8, hS8.1, hS8.2.1⟩⟩⟩))⟩⟩)
            · skip
              refine jt_aload_n d_VA_equate_107 rfl ?_
              refine jt_iload_n d_VA_equate_108 rfl ?_
              refine cct_callV (Y := Y_VA_replaceInAll) (ci := 3) (k := 43) (As := [.int (jI yq11)]) (rest := []) d_VA_equate_109 VA_c66 yk_VA_replaceInAll yv_VA_replaceInAll rfl (Nat.le_of_ble_eq_true rfl) (by decide) (cc_4 rfl) rfl rfl (Nat.le_of_ble_eq_true rfl) (v_VA_replaceInAll_x G _ b yq11 Iq14 Aq14 hpq14.1 hpq14.2.1 (by omega) (A 44) (cV A) hI9 (dif_nz hI9 hd (by omega) (by omega) (pw_nz hpv.2.2.1)) (Aq14 (47 + 2 * (yq11).toNat)) rfl (by rw [← e47]; exact (hxq14.1 (by omega)).1.1) (by rw [← e47]; exact (hxq14.1 (by omega)).2) (fun w w0 w1 => ⟨by rw [hqq14.2.2.2 44 (ctn1 (by omega)) trivial, f44], fun wv => by rw [show cV Aq14 w = cV A w from (by rw [cV_e w1, hqq14.2.2.2 (47 + 2 * w.toNat) (ctn1 (by omega)) trivial, ← cV_e (A := Aq5) w1]; exact fcv w w0 w1)]; exact fun _ _ _ => rfl⟩)) (fun rvq16 Iq16 Aq16 hq16 => ?_)
              obtain ⟨yq16, rfl, ryq16, hqq16, hxq16⟩ := hq16
              have hpq16 := cPf.trans hpq14 hqq16 rfl (fun _ h9 => h9)
              show jt _ 112 [(0, .ref (b + 43)), (1, .ref (b + p)), (2, .ref (b + q)), (3, .int (jI yq11))] [.int (jI yq16)] (cmf b f0 Iq16 Aq16) _ _ _
              refine jt_if_eq (t := 119) d_VA_equate_112 rfl (by unfold jRi; omega) (fun c17 => ?_) (fun c17 => ?_)
              · skip
                refine jt_bipush d_VA_equate_119 (by omega) ?_
                exact cm_ret d_VA_equate_121 rfl rfl (⟨-9, rfl, by omega, hpq16, Or.inr ⟨_, hd, Or.inr (Or.inr (Or.inr ⟨yq11, hwq6, hpv, Or.inl ⟨rfl, fun ⟨S8, hS8⟩ => by obtain ⟨u8, u0, u1, su8, nk⟩ := hxq16.2 (by omega); exact nk (rpK_v (SL_u hS8.1 (by rw [← e47]; exact (hxq14.1 (by omega)).1) (pw_nz hpv.2.2.1)) (hS8.2.2 u8 u0 u1 su8))⟩⟩))⟩⟩)
              · skip
                refine jt_iconst d_VA_equate_115 ?_
                refine jt_goto (t := 121) d_VA_equate_116 rfl ?_
                exact cm_ret d_VA_equate_121 rfl rfl (⟨0, rfl, by omega, hpq16, Or.inr ⟨_, hd, Or.inr (Or.inr (Or.inr ⟨yq11, hwq6, hpv, Or.inr ⟨Aq14 (47 + 2 * (yq11).toNat), ⟨by rw [← e47]; exact (hxq14.1 (by omega)).1, by rw [← e47]; exact (hxq14.1 (by omega)).2, (RI_end (hxq16.1 (by omega)) (by rw [dif_nz hI9 hd (by omega) (by omega) (pw_nz hpv.2.2.1)]; decide)).2⟩, rfl, (RI_end (hxq16.1 (by omega)) (by rw [dif_nz hI9 hd (by omega) (by omega) (pw_nz hpv.2.2.1)]; decide)).1⟩⟩))⟩⟩)
          · skip
            refine jt_bipush d_VA_equate_87 (by omega) ?_
            exact cm_ret d_VA_equate_89 rfl rfl (⟨-11, rfl, by omega, hpq5, Or.inr ⟨_, hd, Or.inr (Or.inr (Or.inl ⟨hwq6, hxq11.1 (by omega), rfl⟩))⟩⟩)
        · skip
          exfalso
          omega
    · skip
      refine jt_bipush d_VA_equate_30 (by omega) ?_
      exact cm_ret d_VA_equate_32 rfl rfl (⟨-9, rfl, by omega, hpq3, Or.inl ⟨rfl, fun z => by have h9 := hxq3.2.2 (by omega); rw [hqq1.2.2.2 _ (ctn1 (by omega)) trivial] at h9; exact h9 z.2⟩⟩)

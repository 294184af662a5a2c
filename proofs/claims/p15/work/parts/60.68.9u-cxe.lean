set_option maxRecDepth 100000 in
set_option maxHeartbeats 4000000 in
theorem v_GC_note_x (G : jG) (d b : Nat) (f : Nat) (I : Nat → Nat → Int) (A : Nat → Int → Int) (hI : cSI I) (hA : cSA A) (k_f : f < 472) (k5f : ck f = 5) (hn : I 0 7 < 2147483647) : cct G Y_GC_note (d + 1) b [.ref (b + 0), .ref (b + f)] I A (fun (rv : Option Value) (I2 : Nat → Nat → Int) (A2 : Nat → Int → Int) => ∃ y : Int, rv = some (.int (jI y)) ∧ (-13 ≤ y ∧ y ≤ 0) ∧ cPx [7] [471] I A I2 A2 ∧ (fZ (A (f + 1)) → y = 0 ∧ I2 0 7 = I 0 7 + 1 ∧ A2 471 = ju (A 471) (I 0 7 % 8) (A (f + 1) 12)) ∧ (¬ fZ (A (f + 1)) → y = -12 ∧ I2 0 7 = I 0 7 ∧ A2 471 = A 471)) := by
  refine cct_of (by decide) (Nat.le_of_ble_eq_true rfl) (fun f0 sz => ?_)
  show jt _ 0 [(0, .ref (b + 0)), (1, .ref (b + f))] [] _ _ _ _
  have fpf := form_parts f k_f k5f
  have glf := eLong k_f k5f
  have r07 : 0 ≤ I 0 7 ∧ I 0 7 ≤ 2147483647 := hI 0 7
  have hz0 : cPx [7] [471] I A I A := cPx.refl hI hA
  refine jt_aload_n d_GC_note_0 rfl ?_
  refine cct_callV (Y := Y_FO_isPlain) (ci := 4) (k := f) (As := []) (rest := []) d_GC_note_1 GC_c129 yk_FO_isPlain yv_FO_isPlain rfl (Nat.le_of_ble_eq_true rfl) k_f (cc_5 k5f) rfl rfl (Nat.le_of_ble_eq_true rfl) (v_FO_isPlain_x G _ b f I A hz0.1 hz0.2.1 k_f k5f) (fun rvq1 Iq1 Aq1 hq1 => ?_)
  obtain ⟨yq1, rfl, ryq1, hIq1, hAq1, hxq1⟩ := hq1
  rw [hIq1, hAq1]
  by_cases gbq1 : yq1 = 1
  · skip
    obtain rfl : yq1 = 1 := by omega
    have hwq1 := hxq1.1 rfl
    show jt _ 4 [(0, .ref (b + 0)), (1, .ref (b + f))] [.int (jI 1)] (cmf b f0 I A) _ _ _
    refine jt_if_ne (t := 10) d_GC_note_4 rfl (by unfold jRi; omega) (fun c2 => ?_) (fun c2 => ?_)
    · skip
      refine jt_aload_n d_GC_note_10 rfl ?_
      refine cm_get (k := 0) (v := .ref (b + 471)) d_GC_note_11 GC_f53 (by decide) cc_0 rfl ?_
      refine jt_aload_n d_GC_note_14 rfl ?_
      refine cm_get (k := 0) (v := .int (jI (I 0 7))) d_GC_note_15 GC_f134 (by decide) cc_0 rfl ?_
      have rb3 : 0 ≤ I 0 7 ∧ I 0 7 ≤ 2147483647 := hz0.1 0 7
      refine jt_bipush d_GC_note_18 (by omega) ?_
      have tn := Int.tmod_nonneg 8 (show 0 ≤ I 0 7 by omega)
      refine jt_irem d_GC_note_20 (by unfold jRi; omega) (by unfold jRi; omega) (by omega) ?_
      have td4 := gtd (I 0 7) 8 (by omega)
      refine jt_aload_n d_GC_note_21 rfl ?_
      refine cm_get (k := f) (v := .ref (b + (f + 1))) d_GC_note_22 GC_f137 k_f (cc_5 k5f) rfl ?_
      refine jt_bipush d_GC_note_25 (by omega) ?_
      refine cm_ld1 (k := f + 1) (n := 13) (v := (A ((f + 1))) 12) d_GC_note_27 fpf.2.2 fpf.1 fpf.2.1 (by omega) (by omega) (by omega) rfl ?_
      refine jt_topl (fun v5 ev5 => ?_)
      have bv5 : -9223372036854775808 ≤ v5 ∧ v5 ≤ 9223372036854775807 := by have q9 := hz0.2.1 (f + 1) 12; rw [glf.1, glf.2] at q9; rw [ev5]; exact q9
      refine cm_st1 (k := 471) (n := 8) (v := v5) d_GC_note_28 (by decide) rfl rfl (by omega) (by omega) (by omega) ?_
      have p6 := cPx.A 471 (ju (A 471) (Int.tmod (I 0 7) 8) v5) hz0 (Or.inl rfl) (gju (hz0.2.1 471) (show -9223372036854775808 ≤ v5 ∧ v5 ≤ 9223372036854775807 by omega))
      refine jt_aload_n d_GC_note_29 rfl ?_
      refine jt_dup d_GC_note_30 rfl ?_
      refine cm_get (k := 0) (v := .int (jI (I 0 7))) d_GC_note_31 GC_f134 (by decide) cc_0 rfl ?_
      refine jt_iconst d_GC_note_34 ?_
      refine jt_iadd d_GC_note_35 ?_
      refine jt_topi (fun v7 ev7 => ?_)
      refine cm_put (k := 0) (j := 7) (v := v7) d_GC_note_36 (GC_w134 _ rfl) (by decide) cc_0 rfl rfl (Nat.le_of_ble_eq_true rfl) rfl ?_
      have p8 := cPx.I 0 7 v7 p6 rfl (show 0 ≤ v7 ∧ v7 ≤ 2147483647 by omega)
      refine jt_iconst d_GC_note_39 ?_
      exact cm_ret d_GC_note_40 rfl rfl (⟨0, rfl, by omega, p8, fun _ => ⟨rfl, (show v7 = I 0 7 + 1 by omega), by show ju (A 471) (Int.tmod (I 0 7) 8) v5 = _; rw [Int.tmod_eq_emod_of_nonneg (by omega), ev5]⟩, fun z => absurd hwq1 z⟩)
    · skip
      exfalso
      omega
  · skip
    obtain rfl : yq1 = 0 := by omega
    have hwq1 := hxq1.2 rfl
    show jt _ 4 [(0, .ref (b + 0)), (1, .ref (b + f))] [.int (jI 0)] (cmf b f0 I A) _ _ _
    refine jt_if_ne (t := 10) d_GC_note_4 rfl (by unfold jRi; omega) (fun c9 => ?_) (fun c9 => ?_)
    · skip
      exfalso
      omega
    · skip
      refine jt_bipush d_GC_note_7 (by omega) ?_
      exact cm_ret d_GC_note_9 rfl rfl (⟨-12, rfl, by omega, hz0, fun z => absurd z hwq1, fun _ => ⟨rfl, rfl, rfl⟩⟩)
set_option maxRecDepth 100000 in
set_option maxHeartbeats 4000000 in
theorem l2_OU_takeNumbers_xv (G : jG) (d b : Nat) (n : Int) (I : Nat → Nat → Int) (A : Nat → Int → Int) (hI : cSI I) (hA : cSA A) (fs : List (Int → Int)) (hkp : cKp A fs) (hn : n = (fs.length : Int)) (hn7 : n ≤ 74) (f0 : jF) (sz : Nat)   : ∀ (n9 : Nat) (f : Int) (J : Nat → Nat → Int) (B : Nat → Int → Int), cPx [] [465] I A J B → (0 ≤ f ∧ f ≤ n) → (∀ e9 : Int, TN (fs.drop f.toNat) e9 → TN fs e9) → (∀ z, 0 ≤ z → z < f → B 465 z * 4096 = A (76 + 2 * z.toNat) 12) → 150 - f < (n9 : Int) → jt (jm G Y_OU_takeNumbers (gR (d + 1)) (cQ b f0 sz (fun (rv : Option Value) (I2 : Nat → Nat → Int) (A2 : Nat → Int → Int) => ∃ y : Int, rv = some (.int (jI y)) ∧ (-2147483648 ≤ y ∧ y ≤ 2147483647) ∧ cPx [] [465] I A I2 A2 ∧ TN fs y ∧ (y = 0 → ∀ z, 0 ≤ z → z < n → A2 465 z * 4096 = A (76 + 2 * z.toNat) 12)))) 2 [(0, .ref (b + 464)), (1, .ref (b + 74)), (2, .int (jI n)), (3, .int (jI f))] [] (cmf b f0 J B) sz 0 0 := by
  intro n9
  induction n9 with
  | zero =>
    intro f J B hJ fz hgo hnum hmeas
    exfalso
    omega
  | succ n9 ih =>
    intro f J B hJ fz hgo hnum hmeas
    refine jt_iload_n d_OU_takeNumbers_2 rfl ?_
    refine jt_iload_n d_OU_takeNumbers_3 rfl ?_
    refine jt_icmp_ge (t := 90) d_OU_takeNumbers_4 rfl (by unfold jRi; omega) (by unfold jRi; omega) (fun c101 => ?_) (fun c101 => ?_)
    · skip
      refine jt_iconst d_OU_takeNumbers_90 ?_
      exact cm_ret d_OU_takeNumbers_91 rfl rfl (⟨0, rfl, by omega, hJ, hgo 0 (by rw [List.drop_eq_nil_of_le (by omega)]; exact (show (0 : Int) = 0 from rfl)), fun _ z a c => hnum z a (by omega)⟩)
    · skip
      refine jt_iload_n d_OU_takeNumbers_7 rfl ?_
      refine jt_bipush d_OU_takeNumbers_8 (by omega) ?_
      refine jt_icmp_ge (t := 90) d_OU_takeNumbers_10 rfl (by unfold jRi; omega) (by unfold jRi; omega) (fun c102 => ?_) (fun c102 => ?_)
      · skip
        refine jt_iconst d_OU_takeNumbers_90 ?_
        exact cm_ret d_OU_takeNumbers_91 rfl rfl (⟨0, rfl, by omega, hJ, hgo 0 (by rw [List.drop_eq_nil_of_le (by omega)]; exact (show (0 : Int) = 0 from rfl)), fun _ z a c => hnum z a (by omega)⟩)
      · skip
        refine jt_aload_n d_OU_takeNumbers_13 rfl ?_
        refine jt_iload_n d_OU_takeNumbers_14 rfl ?_
        refine cm_ldF (k := 74) (n := 150) (z := f) d_OU_takeNumbers_15 (by decide) rfl rfl (by omega) (by omega) (by omega) ?_
        have hfq103 := form_at 74 (by decide) rfl (f : Int).toNat (show (f : Int).toNat < 150 by omega)
        obtain ⟨q103, eqq103⟩ : ∃ q9 : Nat, q9 = 74 + 1 + 2 * (f : Int).toNat := ⟨_, rfl⟩
        rw [← eqq103] at hfq103 ⊢
        have fpq103 := form_parts q103 hfq103.2 hfq103.1
        have glq103 := eLong hfq103.2 hfq103.1
        refine cm_get (k := q103) (v := .ref (b + (q103 + 1))) d_OU_takeNumbers_16 OU_f21 hfq103.2 (cc_5 hfq103.1) rfl ?_
        refine jt_bipush d_OU_takeNumbers_19 (by omega) ?_
        refine cm_ld1 (k := q103 + 1) (n := 13) (v := (B ((q103 + 1))) 12) d_OU_takeNumbers_21 fpq103.2.2 fpq103.1 fpq103.2.1 (by omega) (by omega) (by omega) rfl ?_
        refine jt_topl (fun v104 ev104 => ?_)
        have bv104 : -9223372036854775808 ≤ v104 ∧ v104 ≤ 9223372036854775807 := by have q9 := hJ.2.1 (q103 + 1) 12; rw [glq103.1, glq103.2] at q9; rw [ev104]; exact q9
        rw [show q103 + 1 = 76 + 2 * f.toNat by omega, hJ.2.2.2 _ (ctn1 (by omega)) trivial] at ev104
        obtain ⟨F9, hF9⟩ : ∃ F9, fs[f.toNat]? = some F9 := ⟨_, List.getElem?_eq_getElem (by omega)⟩
        have hvi := hkp f.toNat F9 hF9
        refine jt_lstore (L' := [(0, .ref (b + 464)), (1, .ref (b + 74)), (2, .int (jI n)), (3, .int (jI f)), (4, .long (jL v104))]) d_OU_takeNumbers_22 (Nat.le_of_ble_eq_true rfl) rfl ?_
        refine jt_aload_n d_OU_takeNumbers_24 rfl ?_
        refine jt_iload_n d_OU_takeNumbers_25 rfl ?_
        refine cm_ldF (k := 74) (n := 150) (z := f) d_OU_takeNumbers_26 (by decide) rfl rfl (by omega) (by omega) (by omega) ?_
        have hfq105 := form_at 74 (by decide) rfl (f : Int).toNat (show (f : Int).toNat < 150 by omega)
        obtain ⟨q105, eqq105⟩ : ∃ q9 : Nat, q9 = 74 + 1 + 2 * (f : Int).toNat := ⟨_, rfl⟩
        rw [← eqq105] at hfq105 ⊢
        have fpq105 := form_parts q105 hfq105.2 hfq105.1
        have glq105 := eLong hfq105.2 hfq105.1
        refine cct_callV (Y := Y_FO_isPlain) (ci := 4) (k := q105) (As := []) (rest := []) d_OU_takeNumbers_27 OU_c27 yk_FO_isPlain yv_FO_isPlain rfl (Nat.le_of_ble_eq_true rfl) hfq105.2 (cc_5 hfq105.1) rfl rfl (Nat.le_of_ble_eq_true rfl) (v_FO_isPlain_x G _ b q105 J B hJ.1 hJ.2.1 hfq105.2 hfq105.1) (fun rvq106 Iq106 Aq106 hq106 => ?_)
        obtain ⟨yq106, rfl, ryq106, hIq106, hAq106, hxq106⟩ := hq106
        rw [hIq106, hAq106]
        rw [show q105 + 1 = 76 + 2 * f.toNat by omega, hJ.2.2.2 _ (ctn1 (by omega)) trivial] at hxq106
        by_cases gbq106 : yq106 = 1
        · skip
          obtain rfl : yq106 = 1 := by omega
          have hwq106 := hxq106.1 rfl
          show jt _ 30 [(0, .ref (b + 464)), (1, .ref (b + 74)), (2, .int (jI n)), (3, .int (jI f)), (4, .long (jL v104))] [.int (jI 1)] (cmf b f0 J B) _ _ _
          refine jt_if_ne (t := 36) d_OU_takeNumbers_30 rfl (by unfold jRi; omega) (fun c107 => ?_) (fun c107 => ?_)
          · skip
            refine jt_lload d_OU_takeNumbers_36 rfl ?_
            refine jt_ldc2 (z := 4096) d_OU_takeNumbers_38 OU_k31 ?_
            refine jt_lrem d_OU_takeNumbers_41 (by unfold jRl; omega) (by unfold jRl; omega) (by omega) ?_
            have td108 := gtd v104 4096 (by omega)
            refine jt_topln (fun v109 bv109 ev109 => ?_)
            refine jt_lconst (z := 0) d_OU_takeNumbers_42 (by decide) ?_
            refine jt_lif_eq (t := 50) d_OU_takeNumbers_43 d_OU_takeNumbers_44 rfl (by unfold jRl; omega) (by unfold jRl; omega) (fun c110 => ?_) (fun c110 => ?_)
            · skip
              refine jt_lload d_OU_takeNumbers_50 rfl ?_
              refine jt_ldc2 (z := -2097152) d_OU_takeNumbers_52 OU_k33 ?_
              refine jt_lif_lt (t := 68) d_OU_takeNumbers_55 d_OU_takeNumbers_56 rfl (by unfold jRl; omega) (by unfold jRl; omega) (fun c111 => ?_) (fun c111 => ?_)
              · skip
                refine jt_bipush d_OU_takeNumbers_68 (by omega) ?_
                exact cm_ret d_OU_takeNumbers_70 rfl rfl (⟨-9, rfl, by omega, hJ, hgo _ (TN_mk (by omega) hF9 (t1_v hvi ⟨fun z => absurd hwq106 z, fun _ z => by exfalso; omega, fun _ _ _ => rfl, fun _ _ a c => by exfalso; omega⟩) (Or.inl ⟨by decide, rfl⟩)), fun z => absurd z (by decide)⟩)
              · skip
                refine jt_lload d_OU_takeNumbers_59 rfl ?_
                refine jt_ldc2 (z := 6291456) d_OU_takeNumbers_61 OU_k35 ?_
                refine jt_lif_le (t := 71) d_OU_takeNumbers_64 d_OU_takeNumbers_65 rfl (by unfold jRl; omega) (by unfold jRl; omega) (fun c112 => ?_) (fun c112 => ?_)
                · skip
                  refine jt_aload_n d_OU_takeNumbers_71 rfl ?_
                  refine cm_get (k := 464) (v := .ref (b + 465)) d_OU_takeNumbers_72 OU_f11 (by decide) cc_6 rfl ?_
                  refine jt_iload_n d_OU_takeNumbers_75 rfl ?_
                  refine jt_lload d_OU_takeNumbers_76 rfl ?_
                  refine jt_ldc2 (z := 4096) d_OU_takeNumbers_78 OU_k31 ?_
                  refine jt_ldiv d_OU_takeNumbers_81 (by unfold jRl; omega) (by unfold jRl; omega) (by omega) ?_
                  have td113 := gtd v104 4096 (by omega)
                  refine jt_topln (fun v114 bv114 ev114 => ?_)
                  refine jt_l2i d_OU_takeNumbers_82 ?_
                  refine jt_topin (fun v115 bv115 kv115 => ?_)
                  have ev115 := kv115 (by omega) (by omega)
                  clear kv115
                  refine cm_st0 (k := 465) (n := 74) (v := v115) d_OU_takeNumbers_83 (by decide) rfl rfl (by omega) (by omega) (by omega) ?_
                  have p116 := cPx.A 465 (ju (B 465) f v115) hJ (Or.inl rfl) (gju (hJ.2.1 465) (show -2147483648 ≤ v115 ∧ v115 ≤ 2147483647 by omega))
                  refine jt_iinc (L' := [(0, .ref (b + 464)), (1, .ref (b + 74)), (2, .int (jI n)), (3, .int (jI (f + 1))), (4, .long (jL v104))]) d_OU_takeNumbers_84 rfl (Nat.le_of_ble_eq_true rfl) rfl ?_
                  refine jt_goto (t := 2) d_OU_takeNumbers_87 rfl ?_
                  refine jt_sub (L' := [(0, .ref (b + 464)), (1, .ref (b + 74)), (2, .int (jI n)), (3, .int (jI (f + 1)))]) (fun _ h => List.mem_append_left [(4, Value.long (jL v104))] h) ?_
                  exact ih (f + 1) J (va_up B 465 (ju (B 465) f v115)) p116 (by omega) (fun e9 h9 => hgo e9 (TN_mk (by omega) hF9 (t1_v hvi ⟨fun z => absurd hwq106 z, fun _ z => by exfalso; omega, fun _ _ z => by exfalso; omega, fun _ _ _ _ => rfl⟩) (Or.inr ⟨rfl, h9⟩))) (fun z a c => by show ju (B 465) f v115 z * 4096 = _; rcases Classical.em (z = f) with e9 | e9; exact (by rw [e9, ju_self]; omega); exact (by rw [ju_ne _ _ e9]; exact hnum z a (by omega))) (by omega)
                · skip
                  refine jt_bipush d_OU_takeNumbers_68 (by omega) ?_
                  exact cm_ret d_OU_takeNumbers_70 rfl rfl (⟨-9, rfl, by omega, hJ, hgo _ (TN_mk (by omega) hF9 (t1_v hvi ⟨fun z => absurd hwq106 z, fun _ z => by exfalso; omega, fun _ _ _ => rfl, fun _ _ a c => by exfalso; omega⟩) (Or.inl ⟨by decide, rfl⟩)), fun z => absurd z (by decide)⟩)
            · skip
              refine jt_bipush d_OU_takeNumbers_47 (by omega) ?_
              exact cm_ret d_OU_takeNumbers_49 rfl rfl (⟨-13, rfl, by omega, hJ, hgo _ (TN_mk (by omega) hF9 (t1_v hvi ⟨fun z => absurd hwq106 z, fun _ _ => rfl, fun _ z => by exfalso; omega, fun _ z => by exfalso; omega⟩) (Or.inl ⟨by decide, rfl⟩)), fun z => absurd z (by decide)⟩)
          · skip
            exfalso
            omega
        · skip
          obtain rfl : yq106 = 0 := by omega
          have hwq106 := hxq106.2 rfl
          show jt _ 30 [(0, .ref (b + 464)), (1, .ref (b + 74)), (2, .int (jI n)), (3, .int (jI f)), (4, .long (jL v104))] [.int (jI 0)] (cmf b f0 J B) _ _ _
          refine jt_if_ne (t := 36) d_OU_takeNumbers_30 rfl (by unfold jRi; omega) (fun c117 => ?_) (fun c117 => ?_)
          · skip
            exfalso
            omega
          · skip
            refine jt_bipush d_OU_takeNumbers_33 (by omega) ?_
            exact cm_ret d_OU_takeNumbers_35 rfl rfl (⟨-12, rfl, by omega, hJ, hgo _ (TN_mk (by omega) hF9 (t1_v hvi ⟨fun _ => rfl, fun z => absurd z hwq106, fun z => absurd z hwq106, fun z => absurd z hwq106⟩) (Or.inl ⟨by decide, rfl⟩)), fun z => absurd z (by decide)⟩)
set_option maxRecDepth 100000 in
set_option maxHeartbeats 4000000 in
theorem v_OU_takeNumbers_x (G : jG) (d b : Nat) (n : Int) (I : Nat → Nat → Int) (A : Nat → Int → Int) (hI : cSI I) (hA : cSA A) (fs : List (Int → Int)) (hkp : cKp A fs) (hn : n = (fs.length : Int)) (hn7 : n ≤ 74) : cct G Y_OU_takeNumbers (d + 1) b [.ref (b + 464), .ref (b + 74), .int (jI n)] I A (fun (rv : Option Value) (I2 : Nat → Nat → Int) (A2 : Nat → Int → Int) => ∃ y : Int, rv = some (.int (jI y)) ∧ (-2147483648 ≤ y ∧ y ≤ 2147483647) ∧ cPx [] [465] I A I2 A2 ∧ TN fs y ∧ (y = 0 → ∀ z, 0 ≤ z → z < n → A2 465 z * 4096 = A (76 + 2 * z.toNat) 12)) := by
  refine cct_of (by decide) (Nat.le_of_ble_eq_true rfl) (fun f0 sz => ?_)
  show jt _ 0 [(0, .ref (b + 464)), (1, .ref (b + 74)), (2, .int (jI n))] [] _ _ _ _
  have hz0 : cPx [] [465] I A I A := cPx.refl hI hA
  refine jt_iconst d_OU_takeNumbers_0 ?_
  refine jt_istore_n (L' := [(0, .ref (b + 464)), (1, .ref (b + 74)), (2, .int (jI n)), (3, .int (jI 0))]) d_OU_takeNumbers_1 (Nat.le_of_ble_eq_true rfl) rfl ?_
  exact l2_OU_takeNumbers_xv G d b n I A hI hA fs hkp hn hn7 f0 sz  151 0 I A hz0 (by omega) (fun _ h9 => h9) (fun z a c => by exfalso; omega) (by omega)
